/-! ===== is ===== -/
variable {G : JG}
set_option maxRecDepth 100000 in
set_option maxHeartbeats 4000000 in
theorem l_k_fit {c : JM} {b : Nat} (hb : jarAt b) {f : Nat → Int32} {n : Nat} (hn : (c.1 b 5).toInt = (n : Int)) (hn6 : n ≤ 6) (hf : ∀ j : Nat, j < 4 * n → c.1 (b + 2) j = f (16 + j)) (hr : ∀ j : Nat, j < n → (0 ≤ (f (16 + 4 * j)).toInt ∧ (f (16 + 4 * j)).toInt ≤ 5) ∧ (0 ≤ (f (16 + 4 * j + 1)).toInt ∧ (f (16 + 4 * j + 1)).toInt ≤ 99)) {kv : Int32} {k : Int} (hk : kv.toInt = k)  : ∀ d : Nat, ∀ (i : Nat) (iv : Int32), i + d = n → iv.toInt = (i : Int) → fitP f k i → J G shC mX0_notesFit 2 [some (.ref b), some (.int kv), some (.int iv), none, none, none, none] [] c (j_b (fitP f k n) c c) := by
  intro d
  induction d with
  | zero =>
    intro i iv hd hi hp
    have hri := hr i
    refine J_iload_n (pc := 2) dX0_notesFit_2 rfl ?_
    refine J_aload_n (pc := 3) dX0_notesFit_3 rfl ?_
    refine J_getI (pc := 4) fF_X0_47 hb.1 rfl dX0_notesFit_4 ?_
    refine J_icmp_geW (pc := 7) (i : Int) (n : Int) hi hn 98 dX0_notesFit_7 (by decide) (fun h7 => ?_) (fun h7 => ?_)
    · refine J_iconst (pc := 98) (v := 1) dX0_notesFit_98 (by decide) ?_
      refine J_zret (pc := 99) dX0_notesFit_99 rfl (by decide) ?_
      exact Or.inl ⟨by rw [show n = i by omega]; exact hp, rfl, rfl⟩
    · exfalso; omega
  | succ d ih =>
    intro i iv hd hi hp
    have hri := hr i
    refine J_iload_n (pc := 2) dX0_notesFit_2 rfl ?_
    refine J_aload_n (pc := 3) dX0_notesFit_3 rfl ?_
    refine J_getI (pc := 4) fF_X0_47 hb.1 rfl dX0_notesFit_4 ?_
    refine J_icmp_geW (pc := 7) (i : Int) (n : Int) hi hn 98 dX0_notesFit_7 (by decide) (fun h7 => ?_) (fun h7 => ?_)
    · exfalso; omega
    · refine J_iload_n (pc := 10) dX0_notesFit_10 rfl ?_
      refine J_iconst (pc := 11) (v := 4) dX0_notesFit_11 (by decide) ?_
      refine J_imulW (pc := 12) (i : Int) 4 hi rfl dX0_notesFit_12 (by omega) (fun z12 e12 => ?_)
      refine J_istore_n (pc := 13) (lv' := [some (.ref b), some (.int kv), some (.int iv), some (.int z12), none, none, none]) dX0_notesFit_13 (Nat.le_of_ble_eq_true rfl) rfl rfl ?_
      refine J_aload_n (pc := 14) dX0_notesFit_14 rfl ?_
      refine J_getR (pc := 15) (b + 2) fF_X0_19 hb.1 rfl dX0_notesFit_15 ?_
      refine J_iload_n (pc := 18) dX0_notesFit_18 rfl ?_
      refine J_callSe (pc := 19) fC_X0_91 dX0_notesFit_19 (c_X3_at hb.2.2.1 (i * 4) (by omega) (by omega) (by omega)) rfl ⟨Nat.le_of_ble_eq_true rfl, Nat.le_of_ble_eq_true rfl⟩ rfl (Nat.le_of_ble_eq_true rfl) ?_
      refine J_istore (pc := 22) (lv' := [some (.ref b), some (.int kv), some (.int iv), some (.int z12), some (.int (c.1 (b + 2) (i * 4))), none, none]) dX0_notesFit_22 (Nat.le_of_ble_eq_true rfl) rfl rfl ?_
      refine J_aload_n (pc := 24) dX0_notesFit_24 rfl ?_
      refine J_getR (pc := 25) (b + 2) fF_X0_19 hb.1 rfl dX0_notesFit_25 ?_
      refine J_iload_n (pc := 28) dX0_notesFit_28 rfl ?_
      refine J_iconst (pc := 29) (v := 1) dX0_notesFit_29 (by decide) ?_
      refine J_iaddW (pc := 30) ((i : Int) * 4) 1 e12 rfl dX0_notesFit_30 (by omega) (fun z30 e30 => ?_)
      refine J_callSe (pc := 31) fC_X0_91 dX0_notesFit_31 (c_X3_at hb.2.2.1 (i * 4 + 1) (by omega) (by omega) (by omega)) rfl ⟨Nat.le_of_ble_eq_true rfl, Nat.le_of_ble_eq_true rfl⟩ rfl (Nat.le_of_ble_eq_true rfl) ?_
      refine J_istore (pc := 34) (lv' := [some (.ref b), some (.int kv), some (.int iv), some (.int z12), some (.int (c.1 (b + 2) (i * 4))), some (.int (c.1 (b + 2) (i * 4 + 1))), none]) dX0_notesFit_34 (Nat.le_of_ble_eq_true rfl) rfl rfl ?_
      refine J_iload_n (pc := 36) dX0_notesFit_36 rfl ?_
      refine J_iload (pc := 37) dX0_notesFit_37 rfl ?_
      refine J_iload (pc := 39) dX0_notesFit_39 rfl ?_
      refine J_callSz (pc := 41) fC_X0_69 dX0_notesFit_41 (c_X3_angerMove k ((f (16 + 4 * i)).toInt) ((f (16 + 4 * i + 1)).toInt) hk (show (c.1 (b + 2) (i * 4)).toInt = (f (16 + 4 * i)).toInt by rw [hf _ (by omega), show 16 + (i * 4) = 16 + 4 * i by omega]) (show (c.1 (b + 2) (i * 4 + 1)).toInt = (f (16 + 4 * i + 1)).toInt by rw [hf _ (by omega), show 16 + (i * 4 + 1) = 16 + 4 * i + 1 by omega]) (by omega)) rfl ⟨Nat.le_of_ble_eq_true rfl, Nat.le_of_ble_eq_true rfl⟩ rfl (Nat.le_of_ble_eq_true rfl) (fun z41 e41 => ?_)
      refine J_aload_n (pc := 44) dX0_notesFit_44 rfl ?_
      refine J_getR (pc := 45) (b + 2) fF_X0_19 hb.1 rfl dX0_notesFit_45 ?_
      refine J_iload_n (pc := 48) dX0_notesFit_48 rfl ?_
      refine J_iconst (pc := 49) (v := 2) dX0_notesFit_49 (by decide) ?_
      refine J_iaddW (pc := 50) ((i : Int) * 4) 2 e12 rfl dX0_notesFit_50 (by omega) (fun z50 e50 => ?_)
      refine J_callSe (pc := 51) fC_X0_91 dX0_notesFit_51 (c_X3_at hb.2.2.1 (i * 4 + 2) (by omega) (by omega) (by omega)) rfl ⟨Nat.le_of_ble_eq_true rfl, Nat.le_of_ble_eq_true rfl⟩ rfl (Nat.le_of_ble_eq_true rfl) ?_
      refine J_icmp_neW (pc := 54) (aZ k ((f (16 + 4 * i)).toInt) ((f (16 + 4 * i + 1)).toInt)) ((f (16 + 4 * i + 2)).toInt) e41 (show (c.1 (b + 2) (i * 4 + 2)).toInt = (f (16 + 4 * i + 2)).toInt by rw [hf _ (by omega), show 16 + (i * 4 + 2) = 16 + 4 * i + 2 by omega]) 82 dX0_notesFit_54 (by decide) (fun h54 => ?_) (fun h54 => ?_)
      · refine J_iconst (pc := 82) (v := 0) dX0_notesFit_82 (by decide) ?_
        refine J_istore (pc := 83) (lv' := [some (.ref b), some (.int kv), some (.int iv), some (.int z12), some (.int (c.1 (b + 2) (i * 4))), some (.int (c.1 (b + 2) (i * 4 + 1))), some (.int 0)]) dX0_notesFit_83 (Nat.le_of_ble_eq_true rfl) rfl rfl ?_
        refine J_iload (pc := 85) dX0_notesFit_85 rfl ?_
        refine J_if_ne_F (pc := 87) 92 dX0_notesFit_87 (by decide) (by decide) ?_
        refine J_iconst (pc := 90) (v := 0) dX0_notesFit_90 (by decide) ?_
        refine J_zret (pc := 91) dX0_notesFit_91 rfl (by decide) ?_
        exact Or.inr ⟨fun z => by
          have z := (fitP_s.mp (fitP_le (n := i + 1) (by omega) z)).2
          omega, rfl, rfl⟩
      · refine J_iload_n (pc := 57) dX0_notesFit_57 rfl ?_
        refine J_iload (pc := 58) dX0_notesFit_58 rfl ?_
        refine J_iload (pc := 60) dX0_notesFit_60 rfl ?_
        refine J_callSz (pc := 62) fC_X0_78 dX0_notesFit_62 (c_X3_prideMove k ((f (16 + 4 * i)).toInt) ((f (16 + 4 * i + 1)).toInt) hk (show (c.1 (b + 2) (i * 4)).toInt = (f (16 + 4 * i)).toInt by rw [hf _ (by omega), show 16 + (i * 4) = 16 + 4 * i by omega]) (show (c.1 (b + 2) (i * 4 + 1)).toInt = (f (16 + 4 * i + 1)).toInt by rw [hf _ (by omega), show 16 + (i * 4 + 1) = 16 + 4 * i + 1 by omega]) (by omega)) rfl ⟨Nat.le_of_ble_eq_true rfl, Nat.le_of_ble_eq_true rfl⟩ rfl (Nat.le_of_ble_eq_true rfl) (fun z62 e62 => ?_)
        refine J_aload_n (pc := 65) dX0_notesFit_65 rfl ?_
        refine J_getR (pc := 66) (b + 2) fF_X0_19 hb.1 rfl dX0_notesFit_66 ?_
        refine J_iload_n (pc := 69) dX0_notesFit_69 rfl ?_
        refine J_iconst (pc := 70) (v := 3) dX0_notesFit_70 (by decide) ?_
        refine J_iaddW (pc := 71) ((i : Int) * 4) 3 e12 rfl dX0_notesFit_71 (by omega) (fun z71 e71 => ?_)
        refine J_callSe (pc := 72) fC_X0_91 dX0_notesFit_72 (c_X3_at hb.2.2.1 (i * 4 + 3) (by omega) (by omega) (by omega)) rfl ⟨Nat.le_of_ble_eq_true rfl, Nat.le_of_ble_eq_true rfl⟩ rfl (Nat.le_of_ble_eq_true rfl) ?_
        refine J_icmp_neW (pc := 75) (pZ k ((f (16 + 4 * i)).toInt) ((f (16 + 4 * i + 1)).toInt)) ((f (16 + 4 * i + 3)).toInt) e62 (show (c.1 (b + 2) (i * 4 + 3)).toInt = (f (16 + 4 * i + 3)).toInt by rw [hf _ (by omega), show 16 + (i * 4 + 3) = 16 + 4 * i + 3 by omega]) 82 dX0_notesFit_75 (by decide) (fun h75 => ?_) (fun h75 => ?_)
        · refine J_iconst (pc := 82) (v := 0) dX0_notesFit_82 (by decide) ?_
          refine J_istore (pc := 83) (lv' := [some (.ref b), some (.int kv), some (.int iv), some (.int z12), some (.int (c.1 (b + 2) (i * 4))), some (.int (c.1 (b + 2) (i * 4 + 1))), some (.int 0)]) dX0_notesFit_83 (Nat.le_of_ble_eq_true rfl) rfl rfl ?_
          refine J_iload (pc := 85) dX0_notesFit_85 rfl ?_
          refine J_if_ne_F (pc := 87) 92 dX0_notesFit_87 (by decide) (by decide) ?_
          refine J_iconst (pc := 90) (v := 0) dX0_notesFit_90 (by decide) ?_
          refine J_zret (pc := 91) dX0_notesFit_91 rfl (by decide) ?_
          exact Or.inr ⟨fun z => by
            have z := (fitP_s.mp (fitP_le (n := i + 1) (by omega) z)).2
            omega, rfl, rfl⟩
        · refine J_iconst (pc := 78) (v := 1) dX0_notesFit_78 (by decide) ?_
          refine J_goto (pc := 79) 83 dX0_notesFit_79 (by decide) ?_
          refine J_istore (pc := 83) (lv' := [some (.ref b), some (.int kv), some (.int iv), some (.int z12), some (.int (c.1 (b + 2) (i * 4))), some (.int (c.1 (b + 2) (i * 4 + 1))), some (.int 1)]) dX0_notesFit_83 (Nat.le_of_ble_eq_true rfl) rfl rfl ?_
          refine J_iload (pc := 85) dX0_notesFit_85 rfl ?_
          refine J_if_ne_T (pc := 87) 92 dX0_notesFit_87 (by decide) (by decide) ?_
          refine J_iincW' (pc := 92) (i : Int) hi (lv' := fun iq_ => [some (.ref b), some (.int kv), some (.int iq_), some (.int z12), some (.int (c.1 (b + 2) (i * 4))), some (.int (c.1 (b + 2) (i * 4 + 1))), some (.int 1)]) dX0_notesFit_92 rfl (by omega) (by decide) (Nat.le_of_ble_eq_true rfl) rfl (fun _ => rfl) (fun z92 e92 => ?_)
          refine J_goto (pc := 95) 2 dX0_notesFit_95 (by decide) ?_
          exact J_lv' (lv' := [some (.ref b), some (.int kv), some (.int z92), none, none, none, none]) (by repeat' constructor) (ih (i + 1) z92 (by omega) (by omega) (fitP_s.mpr ⟨hp, by omega, by omega⟩))
set_option maxRecDepth 100000 in
set_option maxHeartbeats 4000000 in
theorem c_X0_notesFit {c : JM} {b : Nat} (hb : jarAt b) {f : Nat → Int32} {n : Nat} (hn : (c.1 b 5).toInt = (n : Int)) (hn6 : n ≤ 6) (hf : ∀ j : Nat, j < 4 * n → c.1 (b + 2) j = f (16 + j)) (hr : ∀ j : Nat, j < n → (0 ≤ (f (16 + 4 * j)).toInt ∧ (f (16 + 4 * j)).toInt ≤ 5) ∧ (0 ≤ (f (16 + 4 * j + 1)).toInt ∧ (f (16 + 4 * j + 1)).toInt ≤ 99)) {kv : Int32} {k : Int} (hk : kv.toInt = k)  : Con G shC mX0_notesFit [.ref b, .int kv] c (j_b (fitP f k n) c c) := by
  refine Con_of [some (.ref b), some (.int kv), none, none, none, none, none] (by decide +kernel) (Nat.le_of_ble_eq_true rfl) (fun _ h => h) ?_
  refine J_iconst (pc := 0) (v := 0) dX0_notesFit_0 (by decide) ?_
  refine J_istore_n (pc := 1) (lv' := [some (.ref b), some (.int kv), some (.int 0), none, none, none, none]) dX0_notesFit_1 (Nat.le_of_ble_eq_true rfl) rfl rfl ?_
  exact J_lv' (lv' := [some (.ref b), some (.int kv), some (.int 0), none, none, none, none]) (by repeat' constructor) (l_k_fit hb hn hn6 hf hr hk n 0 0 (by omega) rfl (fun j hj => by omega))
set_option maxRecDepth 100000 in
set_option maxHeartbeats 4000000 in
theorem l_k_is {c : JM} {f : Nat → Int32} {n : Nat} (hn : (c.1 1 5).toInt = (n : Int)) (hn6 : n ≤ 6) (hf : ∀ j : Nat, j < 4 * n → c.1 (1 + 2) j = f (16 + j)) (hr : ∀ j : Nat, j < n → (0 ≤ (f (16 + 4 * j)).toInt ∧ (f (16 + 4 * j)).toInt ≤ 5) ∧ (0 ≤ (f (16 + 4 * j + 1)).toInt ∧ (f (16 + 4 * j + 1)).toInt ≤ 99))  : ∀ d : Nat, ∀ (i : Nat) (iv b : Int32), i + d = 6 → iv.toInt = (i : Int) → J G shC mX3_is 4 [some (.ref 0), some (.int b), some (.int iv)] [] c (fun w μ' => w = some (.int (isI f n d i b)) ∧ μ' = c) := by
  intro d
  induction d with
  | zero =>
    intro i iv b hd hi
    refine J_iload_n (pc := 4) dX3_is_4 rfl ?_
    refine J_bipush (pc := 5) (v := 6) dX3_is_5 (by decide) ?_
    refine J_icmp_geW (pc := 7) (i : Int) 6 hi rfl 33 dX3_is_7 (by decide) (fun h7 => ?_) (fun h7 => ?_)
    · refine J_iload_n (pc := 33) dX3_is_33 rfl ?_
      refine J_iret (pc := 34) dX3_is_34 rfl ?_
      exact ⟨rfl, rfl⟩
    · exfalso; omega
  | succ d ih =>
    intro i iv b hd hi
    refine J_iload_n (pc := 4) dX3_is_4 rfl ?_
    refine J_bipush (pc := 5) (v := 6) dX3_is_5 (by decide) ?_
    refine J_icmp_geW (pc := 7) (i : Int) 6 hi rfl 33 dX3_is_7 (by decide) (fun h7 => ?_) (fun h7 => ?_)
    · exfalso; omega
    · refine J_aload_n (pc := 10) dX3_is_10 rfl ?_
      refine J_getR (pc := 11) 1 fF_X3_12 rfl rfl dX3_is_11 ?_
      refine J_iload_n (pc := 14) dX3_is_14 rfl ?_
      refine J_callVc (pc := 15) fC_X3_185 rfl dX3_is_15 (c_X0_notesFit jarAt_1 hn hn6 hf hr hi) rfl ⟨Nat.le_of_ble_eq_true rfl, Nat.le_of_ble_eq_true rfl⟩ rfl (Nat.le_of_ble_eq_true rfl) (fun h15 => ?_) (fun h15 => ?_)
      · refine J_if_eq_F (pc := 18) 27 dX3_is_18 (by decide) (by decide) ?_
        refine J_iload_n (pc := 21) dX3_is_21 rfl ?_
        refine J_iconst (pc := 22) (v := 1) dX3_is_22 (by decide) ?_
        refine J_iload_n (pc := 23) dX3_is_23 rfl ?_
        refine J_ishl (pc := 24) dX3_is_24 ?_
        refine J_ior (pc := 25) dX3_is_25 ?_
        refine J_istore_n (pc := 26) (lv' := [some (.ref 0), some (.int (b ||| (1 <<< (iv &&& 31)))), some (.int iv)]) dX3_is_26 (Nat.le_of_ble_eq_true rfl) rfl rfl ?_
        refine J_iincW' (pc := 27) (i : Int) hi (lv' := fun iq_ => [some (.ref 0), some (.int (b ||| (1 <<< (iv &&& 31)))), some (.int iq_)]) dX3_is_27 rfl (by omega) (by decide) (Nat.le_of_ble_eq_true rfl) rfl (fun _ => rfl) (fun z27 e27 => ?_)
        refine J_goto (pc := 30) 4 dX3_is_30 (by decide) ?_
        have hiv : iv = iZ (i : Int) := iZ_of hi
        refine J_mono (ih (i + 1) z27 (b ||| (1 <<< (iv &&& 31))) (by omega) (by omega)) (fun w μ' hh => ⟨?_, hh.2⟩)
        rw [hh.1, isI]
        rw [if_pos h15, ← hiv]
      · refine J_if_eq_T (pc := 18) 27 dX3_is_18 (by decide) (by decide) ?_
        refine J_iincW' (pc := 27) (i : Int) hi (lv' := fun iq_ => [some (.ref 0), some (.int b), some (.int iq_)]) dX3_is_27 rfl (by omega) (by decide) (Nat.le_of_ble_eq_true rfl) rfl (fun _ => rfl) (fun z27 e27 => ?_)
        refine J_goto (pc := 30) 4 dX3_is_30 (by decide) ?_
        have hiv : iv = iZ (i : Int) := iZ_of hi
        refine J_mono (ih (i + 1) z27 b (by omega) (by omega)) (fun w μ' hh => ⟨?_, hh.2⟩)
        rw [hh.1, isI]
        rw [if_neg h15]
theorem Inv_n {N : Int} {c m : JM} (h : Inv N c m) : ∃ n : Nat, (m.1 1 15).toInt = (n : Int) ∧ (c.1 1 5).toInt = (n : Int) ∧ n ≤ 6 ∧ (∀ j : Nat, j < 4 * n → c.1 (1 + 2) j = m.1 1 (16 + j)) ∧ (∀ j : Nat, j < n → (0 ≤ (m.1 1 (16 + 4 * j)).toInt ∧ (m.1 1 (16 + 4 * j)).toInt ≤ 5) ∧ (0 ≤ (m.1 1 (16 + 4 * j + 1)).toInt ∧ (m.1 1 (16 + 4 * j + 1)).toInt ≤ 99)) := by
  obtain ⟨q0, q1, q2, q3, q4, q5, q6⟩ := Inv_q h
  obtain ⟨r0, r1, r2, r3, r4, r5, r6, r15, r40, r9⟩ := Inv_r h
  refine ⟨(m.1 1 15).toInt.toNat, by omega, by omega, by omega, fun j hj => h.2.2.1.2.2.2.2.2.2.2.2.1 j (by omega), fun j hj => h.2.1.2.2.2.2.2.2.2.2.2.2.1 j (by omega)⟩
set_option maxRecDepth 100000 in
set_option maxHeartbeats 4000000 in
theorem k_is {N : Int} {c m : JM} (h : Inv N c m) (hN : 150 ≤ N ∧ N < 100000)  : Con G shC mX3_is [.ref 0] c (fun v μ' => v = some (.int (isI (m.1 1) (m.1 1 15).toInt.toNat 6 0 0)) ∧ μ' = c) := by
  refine Con_of [some (.ref 0), none, none] (by decide +kernel) (Nat.le_of_ble_eq_true rfl) (fun _ h => h) ?_
  refine J_iconst (pc := 0) (v := 0) dX3_is_0 (by decide) ?_
  refine J_istore_n (pc := 1) (lv' := [some (.ref 0), some (.int 0), none]) dX3_is_1 (Nat.le_of_ble_eq_true rfl) rfl rfl ?_
  refine J_iconst (pc := 2) (v := 0) dX3_is_2 (by decide) ?_
  refine J_istore_n (pc := 3) (lv' := [some (.ref 0), some (.int 0), some (.int 0)]) dX3_is_3 (Nat.le_of_ble_eq_true rfl) rfl rfl ?_
  obtain ⟨n, n0, n1, n2, n3, n4⟩ := Inv_n h
  rw [show (m.1 1 15).toInt.toNat = n by omega]
  exact l_k_is n1 n2 n3 n4 6 0 0 0 rfl rfl
set_option maxRecDepth 100000 in
set_option maxHeartbeats 4000000 in
theorem l_n_fit {m : JM} (hc : constM m) {n : Nat} (hn : (m.1 1 15).toInt = (n : Int)) (hn6 : n ≤ 6) (hr : ∀ j : Nat, j < n → (0 ≤ (m.1 1 (16 + 4 * j)).toInt ∧ (m.1 1 (16 + 4 * j)).toInt ≤ 5) ∧ (0 ≤ (m.1 1 (16 + 4 * j + 1)).toInt ∧ (m.1 1 (16 + 4 * j + 1)).toInt ≤ 99)) {kv bv : Int32} {k : Int} (hk : kv.toInt = k) {Q : Option Value → JM → Prop} : ∀ d : Nat, ∀ (i : Nat) (iv fv : Int32), i + d = n → iv.toInt = (i : Int) → (fv.toInt = 1 ∧ fitP (m.1 1) k i ∨ fv.toInt = 0 ∧ ¬ fitP (m.1 1) k i) → (∀ fv : Int32, (fv.toInt = 1 ∧ fitP (m.1 1) k n ∨ fv.toInt = 0 ∧ ¬ fitP (m.1 1) k n) → J G shM mX4_kindsThatFit 118 [some (.ref 0), some (.int bv), some (.int kv), some (.int fv), none, none] [] m Q) → J G shM mX4_kindsThatFit 15 [some (.ref 0), some (.int bv), some (.int kv), some (.int fv), some (.int iv), none] [] m Q := by
  intro d
  induction d with
  | zero =>
    intro i iv fv hd hi hfl hk2
    have hri := hr i
    refine J_iload (pc := 15) dX4_kindsThatFit_15 rfl ?_
    refine J_aload_n (pc := 17) dX4_kindsThatFit_17 rfl ?_
    refine J_getR (pc := 18) 1 fF_X4_7 rfl rfl dX4_kindsThatFit_18 ?_
    refine J_bipush (pc := 21) (v := 15) dX4_kindsThatFit_21 (by decide) ?_
    refine J_ialdW (pc := 23) 15 (rfl) rfl (by decide) dX4_kindsThatFit_23 ?_
    refine J_icmp_geW (pc := 24) (i : Int) (n : Int) hi hn 118 dX4_kindsThatFit_24 (by decide) (fun h24 => ?_) (fun h24 => ?_)
    · exact J_lv' (lv' := [some (.ref 0), some (.int bv), some (.int kv), some (.int fv), none, none]) (by repeat' constructor) (hk2 fv (by rw [show n = i by omega]; exact hfl))
    · exfalso; omega
  | succ d ih =>
    intro i iv fv hd hi hfl hk2
    have hri := hr i
    refine J_iload (pc := 15) dX4_kindsThatFit_15 rfl ?_
    refine J_aload_n (pc := 17) dX4_kindsThatFit_17 rfl ?_
    refine J_getR (pc := 18) 1 fF_X4_7 rfl rfl dX4_kindsThatFit_18 ?_
    refine J_bipush (pc := 21) (v := 15) dX4_kindsThatFit_21 (by decide) ?_
    refine J_ialdW (pc := 23) 15 (rfl) rfl (by decide) dX4_kindsThatFit_23 ?_
    refine J_icmp_geW (pc := 24) (i : Int) (n : Int) hi hn 118 dX4_kindsThatFit_24 (by decide) (fun h24 => ?_) (fun h24 => ?_)
    · exfalso; omega
    · refine J_bipush (pc := 27) (v := 16) dX4_kindsThatFit_27 (by decide) ?_
      refine J_iconst (pc := 29) (v := 4) dX4_kindsThatFit_29 (by decide) ?_
      refine J_iload (pc := 30) dX4_kindsThatFit_30 rfl ?_
      refine J_imulW (pc := 32) 4 (i : Int) rfl hi dX4_kindsThatFit_32 (by omega) (fun z32 e32 => ?_)
      refine J_iaddW (pc := 33) 16 (4 * (i : Int)) rfl e32 dX4_kindsThatFit_33 (by omega) (fun z33 e33 => ?_)
      refine J_istore (pc := 34) (lv' := [some (.ref 0), some (.int bv), some (.int kv), some (.int fv), some (.int iv), some (.int z33)]) dX4_kindsThatFit_34 (Nat.le_of_ble_eq_true rfl) rfl rfl ?_
      refine J_iload_n (pc := 36) dX4_kindsThatFit_36 rfl ?_
      refine J_if_eqW (pc := 37) fv.toInt rfl 110 dX4_kindsThatFit_37 (by decide) (fun h37 => ?_) (fun h37 => ?_)
      · refine J_iconst (pc := 110) (v := 0) dX4_kindsThatFit_110 (by decide) ?_
        refine J_istore_n (pc := 111) (lv' := [some (.ref 0), some (.int bv), some (.int kv), some (.int 0), some (.int iv), some (.int z33)]) dX4_kindsThatFit_111 (Nat.le_of_ble_eq_true rfl) rfl rfl ?_
        refine J_iincW' (pc := 112) (i : Int) hi (lv' := fun iq_ => [some (.ref 0), some (.int bv), some (.int kv), some (.int 0), some (.int iq_), some (.int z33)]) dX4_kindsThatFit_112 rfl (by omega) (by decide) (Nat.le_of_ble_eq_true rfl) rfl (fun _ => rfl) (fun z112 e112 => ?_)
        refine J_goto (pc := 115) 15 dX4_kindsThatFit_115 (by decide) ?_
        refine J_lv' (lv' := [some (.ref 0), some (.int bv), some (.int kv), some (.int 0), some (.int z112), none]) (by repeat' constructor) (ih (i + 1) z112 0 (by omega) (by omega) ?_ hk2)
        refine Or.inr ⟨rfl, fun z => ?_⟩
        have z1 := fitP_s.mp z
        rcases hfl with ⟨e, q⟩ | ⟨e, q⟩
        · have z2 := z1.2; omega
        · exact q z1.1
      · refine J_aload_n (pc := 40) dX4_kindsThatFit_40 rfl ?_
        refine J_iload_n (pc := 41) dX4_kindsThatFit_41 rfl ?_
        refine J_aload_n (pc := 42) dX4_kindsThatFit_42 rfl ?_
        refine J_getR (pc := 43) 1 fF_X4_7 rfl rfl dX4_kindsThatFit_43 ?_
        refine J_iload (pc := 46) dX4_kindsThatFit_46 rfl ?_
        refine J_ialdW (pc := 48) (16 + 4 * i) (by omega) rfl (by omega) dX4_kindsThatFit_48 ?_
        refine J_aload_n (pc := 49) dX4_kindsThatFit_49 rfl ?_
        refine J_getR (pc := 50) 1 fF_X4_7 rfl rfl dX4_kindsThatFit_50 ?_
        refine J_iload (pc := 53) dX4_kindsThatFit_53 rfl ?_
        refine J_iconst (pc := 55) (v := 1) dX4_kindsThatFit_55 (by decide) ?_
        refine J_iaddW (pc := 56) (16 + (4 * (i : Int))) 1 e33 rfl dX4_kindsThatFit_56 (by omega) (fun z56 e56 => ?_)
        refine J_ialdW (pc := 57) (16 + 4 * i + 1) (by omega) rfl (by omega) dX4_kindsThatFit_57 ?_
        refine J_callVz (pc := 58) fC_X4_79 rfl dX4_kindsThatFit_58 (c_X4_angerBy hc k ((m.1 1 (16 + 4 * i)).toInt) ((m.1 1 (16 + 4 * i + 1)).toInt) hk rfl rfl (by omega)) rfl ⟨Nat.le_of_ble_eq_true rfl, Nat.le_of_ble_eq_true rfl⟩ rfl (Nat.le_of_ble_eq_true rfl) (fun z58 e58 => ?_)
        refine J_aload_n (pc := 61) dX4_kindsThatFit_61 rfl ?_
        refine J_getR (pc := 62) 1 fF_X4_7 rfl rfl dX4_kindsThatFit_62 ?_
        refine J_iload (pc := 65) dX4_kindsThatFit_65 rfl ?_
        refine J_iconst (pc := 67) (v := 2) dX4_kindsThatFit_67 (by decide) ?_
        refine J_iaddW (pc := 68) (16 + (4 * (i : Int))) 2 e33 rfl dX4_kindsThatFit_68 (by omega) (fun z68 e68 => ?_)
        refine J_ialdW (pc := 69) (16 + 4 * i + 2) (by omega) rfl (by omega) dX4_kindsThatFit_69 ?_
        refine J_icmp_neW (pc := 70) (aZ k ((m.1 1 (16 + 4 * i)).toInt) ((m.1 1 (16 + 4 * i + 1)).toInt)) ((m.1 1 (16 + 4 * i + 2)).toInt) e58 rfl 110 dX4_kindsThatFit_70 (by decide) (fun h70 => ?_) (fun h70 => ?_)
        · refine J_iconst (pc := 110) (v := 0) dX4_kindsThatFit_110 (by decide) ?_
          refine J_istore_n (pc := 111) (lv' := [some (.ref 0), some (.int bv), some (.int kv), some (.int 0), some (.int iv), some (.int z33)]) dX4_kindsThatFit_111 (Nat.le_of_ble_eq_true rfl) rfl rfl ?_
          refine J_iincW' (pc := 112) (i : Int) hi (lv' := fun iq_ => [some (.ref 0), some (.int bv), some (.int kv), some (.int 0), some (.int iq_), some (.int z33)]) dX4_kindsThatFit_112 rfl (by omega) (by decide) (Nat.le_of_ble_eq_true rfl) rfl (fun _ => rfl) (fun z112 e112 => ?_)
          refine J_goto (pc := 115) 15 dX4_kindsThatFit_115 (by decide) ?_
          refine J_lv' (lv' := [some (.ref 0), some (.int bv), some (.int kv), some (.int 0), some (.int z112), none]) (by repeat' constructor) (ih (i + 1) z112 0 (by omega) (by omega) ?_ hk2)
          refine Or.inr ⟨rfl, fun z => ?_⟩
          have z1 := fitP_s.mp z
          rcases hfl with ⟨e, q⟩ | ⟨e, q⟩
          · have z2 := z1.2; omega
          · exact q z1.1
        · refine J_aload_n (pc := 73) dX4_kindsThatFit_73 rfl ?_
          refine J_iload_n (pc := 74) dX4_kindsThatFit_74 rfl ?_
          refine J_aload_n (pc := 75) dX4_kindsThatFit_75 rfl ?_
          refine J_getR (pc := 76) 1 fF_X4_7 rfl rfl dX4_kindsThatFit_76 ?_
          refine J_iload (pc := 79) dX4_kindsThatFit_79 rfl ?_
          refine J_ialdW (pc := 81) (16 + 4 * i) (by omega) rfl (by omega) dX4_kindsThatFit_81 ?_
          refine J_aload_n (pc := 82) dX4_kindsThatFit_82 rfl ?_
          refine J_getR (pc := 83) 1 fF_X4_7 rfl rfl dX4_kindsThatFit_83 ?_
          refine J_iload (pc := 86) dX4_kindsThatFit_86 rfl ?_
          refine J_iconst (pc := 88) (v := 1) dX4_kindsThatFit_88 (by decide) ?_
          refine J_iaddW (pc := 89) (16 + (4 * (i : Int))) 1 e33 rfl dX4_kindsThatFit_89 (by omega) (fun z89 e89 => ?_)
          refine J_ialdW (pc := 90) (16 + 4 * i + 1) (by omega) rfl (by omega) dX4_kindsThatFit_90 ?_
          refine J_callVz (pc := 91) fC_X4_86 rfl dX4_kindsThatFit_91 (c_X4_prideBy hc k ((m.1 1 (16 + 4 * i)).toInt) ((m.1 1 (16 + 4 * i + 1)).toInt) hk rfl rfl (by omega)) rfl ⟨Nat.le_of_ble_eq_true rfl, Nat.le_of_ble_eq_true rfl⟩ rfl (Nat.le_of_ble_eq_true rfl) (fun z91 e91 => ?_)
          refine J_aload_n (pc := 94) dX4_kindsThatFit_94 rfl ?_
          refine J_getR (pc := 95) 1 fF_X4_7 rfl rfl dX4_kindsThatFit_95 ?_
          refine J_iload (pc := 98) dX4_kindsThatFit_98 rfl ?_
          refine J_iconst (pc := 100) (v := 3) dX4_kindsThatFit_100 (by decide) ?_
          refine J_iaddW (pc := 101) (16 + (4 * (i : Int))) 3 e33 rfl dX4_kindsThatFit_101 (by omega) (fun z101 e101 => ?_)
          refine J_ialdW (pc := 102) (16 + 4 * i + 3) (by omega) rfl (by omega) dX4_kindsThatFit_102 ?_
          refine J_icmp_neW (pc := 103) (pZ k ((m.1 1 (16 + 4 * i)).toInt) ((m.1 1 (16 + 4 * i + 1)).toInt)) ((m.1 1 (16 + 4 * i + 3)).toInt) e91 rfl 110 dX4_kindsThatFit_103 (by decide) (fun h103 => ?_) (fun h103 => ?_)
          · refine J_iconst (pc := 110) (v := 0) dX4_kindsThatFit_110 (by decide) ?_
            refine J_istore_n (pc := 111) (lv' := [some (.ref 0), some (.int bv), some (.int kv), some (.int 0), some (.int iv), some (.int z33)]) dX4_kindsThatFit_111 (Nat.le_of_ble_eq_true rfl) rfl rfl ?_
            refine J_iincW' (pc := 112) (i : Int) hi (lv' := fun iq_ => [some (.ref 0), some (.int bv), some (.int kv), some (.int 0), some (.int iq_), some (.int z33)]) dX4_kindsThatFit_112 rfl (by omega) (by decide) (Nat.le_of_ble_eq_true rfl) rfl (fun _ => rfl) (fun z112 e112 => ?_)
            refine J_goto (pc := 115) 15 dX4_kindsThatFit_115 (by decide) ?_
            refine J_lv' (lv' := [some (.ref 0), some (.int bv), some (.int kv), some (.int 0), some (.int z112), none]) (by repeat' constructor) (ih (i + 1) z112 0 (by omega) (by omega) ?_ hk2)
            refine Or.inr ⟨rfl, fun z => ?_⟩
            have z1 := fitP_s.mp z
            rcases hfl with ⟨e, q⟩ | ⟨e, q⟩
            · have z2 := z1.2; omega
            · exact q z1.1
          · refine J_iconst (pc := 106) (v := 1) dX4_kindsThatFit_106 (by decide) ?_
            refine J_goto (pc := 107) 111 dX4_kindsThatFit_107 (by decide) ?_
            refine J_istore_n (pc := 111) (lv' := [some (.ref 0), some (.int bv), some (.int kv), some (.int 1), some (.int iv), some (.int z33)]) dX4_kindsThatFit_111 (Nat.le_of_ble_eq_true rfl) rfl rfl ?_
            refine J_iincW' (pc := 112) (i : Int) hi (lv' := fun iq_ => [some (.ref 0), some (.int bv), some (.int kv), some (.int 1), some (.int iq_), some (.int z33)]) dX4_kindsThatFit_112 rfl (by omega) (by decide) (Nat.le_of_ble_eq_true rfl) rfl (fun _ => rfl) (fun z112 e112 => ?_)
            refine J_goto (pc := 115) 15 dX4_kindsThatFit_115 (by decide) ?_
            refine J_lv' (lv' := [some (.ref 0), some (.int bv), some (.int kv), some (.int 1), some (.int z112), none]) (by repeat' constructor) (ih (i + 1) z112 1 (by omega) (by omega) ?_ hk2)
            rcases hfl with ⟨e, q⟩ | ⟨e, q⟩
            · exact Or.inl ⟨rfl, fitP_s.mpr ⟨q, by omega, by omega⟩⟩
            · exfalso; omega
set_option maxRecDepth 100000 in
set_option maxHeartbeats 4000000 in
theorem l_n_is {m : JM} (hc : constM m) {n : Nat} (hn : (m.1 1 15).toInt = (n : Int)) (hn6 : n ≤ 6) (hr : ∀ j : Nat, j < n → (0 ≤ (m.1 1 (16 + 4 * j)).toInt ∧ (m.1 1 (16 + 4 * j)).toInt ≤ 5) ∧ (0 ≤ (m.1 1 (16 + 4 * j + 1)).toInt ∧ (m.1 1 (16 + 4 * j + 1)).toInt ≤ 99))  : ∀ d : Nat, ∀ (t : Nat) (kv bv : Int32), t + d = 6 → kv.toInt = (t : Int) → J G shM mX4_kindsThatFit 4 [some (.ref 0), some (.int bv), some (.int kv), none, none, none] [] m (fun w μ' => w = some (.int (isI (m.1 1) n d t bv)) ∧ μ' = m) := by
  intro d
  induction d with
  | zero =>
    intro t kv bv hd ht
    refine J_iload_n (pc := 4) dX4_kindsThatFit_4 rfl ?_
    refine J_bipush (pc := 5) (v := 6) dX4_kindsThatFit_5 (by decide) ?_
    refine J_icmp_geW (pc := 7) (t : Int) 6 ht rfl 138 dX4_kindsThatFit_7 (by decide) (fun h7 => ?_) (fun h7 => ?_)
    · refine J_iload_n (pc := 138) dX4_kindsThatFit_138 rfl ?_
      refine J_iret (pc := 139) dX4_kindsThatFit_139 rfl ?_
      exact ⟨rfl, rfl⟩
    · exfalso; omega
  | succ d ih =>
    intro t kv bv hd ht
    refine J_iload_n (pc := 4) dX4_kindsThatFit_4 rfl ?_
    refine J_bipush (pc := 5) (v := 6) dX4_kindsThatFit_5 (by decide) ?_
    refine J_icmp_geW (pc := 7) (t : Int) 6 ht rfl 138 dX4_kindsThatFit_7 (by decide) (fun h7 => ?_) (fun h7 => ?_)
    · exfalso; omega
    · refine J_iconst (pc := 10) (v := 1) dX4_kindsThatFit_10 (by decide) ?_
      refine J_istore_n (pc := 11) (lv' := [some (.ref 0), some (.int bv), some (.int kv), some (.int 1), none, none]) dX4_kindsThatFit_11 (Nat.le_of_ble_eq_true rfl) rfl rfl ?_
      refine J_iconst (pc := 12) (v := 0) dX4_kindsThatFit_12 (by decide) ?_
      refine J_istore (pc := 13) (lv' := [some (.ref 0), some (.int bv), some (.int kv), some (.int 1), some (.int 0), none]) dX4_kindsThatFit_13 (Nat.le_of_ble_eq_true rfl) rfl rfl ?_
      refine J_lv' (lv' := [some (.ref 0), some (.int bv), some (.int kv), some (.int 1), some (.int 0), none]) (by repeat' constructor) ?_
      refine l_n_fit hc hn hn6 hr ht n 0 0 1 (by omega) rfl (Or.inl ⟨rfl, fun j hj => by omega⟩) (fun fv hfv => ?_)
      refine J_iload_n (pc := 118) dX4_kindsThatFit_118 rfl ?_
      refine J_iload_n (pc := 119) dX4_kindsThatFit_119 rfl ?_
      refine J_if_eqW (pc := 120) fv.toInt rfl 129 dX4_kindsThatFit_120 (by decide) (fun h120 => ?_) (fun h120 => ?_)
      · refine J_iconst (pc := 129) (v := 0) dX4_kindsThatFit_129 (by decide) ?_
        refine J_ior (pc := 130) dX4_kindsThatFit_130 ?_
        refine J_istore_n (pc := 131) (lv' := [some (.ref 0), some (.int (bv ||| 0)), some (.int kv), some (.int fv), none, none]) dX4_kindsThatFit_131 (Nat.le_of_ble_eq_true rfl) rfl rfl ?_
        refine J_iincW' (pc := 132) (t : Int) ht (lv' := fun iq_ => [some (.ref 0), some (.int (bv ||| 0)), some (.int iq_), some (.int fv), none, none]) dX4_kindsThatFit_132 rfl (by omega) (by decide) (Nat.le_of_ble_eq_true rfl) rfl (fun _ => rfl) (fun z132 e132 => ?_)
        refine J_goto (pc := 135) 4 dX4_kindsThatFit_135 (by decide) ?_
        have hiv : kv = iZ (t : Int) := iZ_of ht
        rw [show (bv ||| 0 : Int32) = bv from Int32.or_zero]
        refine J_lv' (lv' := [some (.ref 0), some (.int bv), some (.int z132), none, none, none]) (by repeat' constructor) (J_mono (ih (t + 1) z132 bv (by omega) (by omega)) (fun w μ' hh => ⟨?_, hh.2⟩))
        rw [hh.1, isI]
        rw [if_neg (by rcases hfv with ⟨e, q⟩ | ⟨e, q⟩; omega; exact q)]
      · refine J_iconst (pc := 123) (v := 1) dX4_kindsThatFit_123 (by decide) ?_
        refine J_iload_n (pc := 124) dX4_kindsThatFit_124 rfl ?_
        refine J_ishl (pc := 125) dX4_kindsThatFit_125 ?_
        refine J_goto (pc := 126) 130 dX4_kindsThatFit_126 (by decide) ?_
        refine J_ior (pc := 130) dX4_kindsThatFit_130 ?_
        refine J_istore_n (pc := 131) (lv' := [some (.ref 0), some (.int (bv ||| (1 <<< (kv &&& 31)))), some (.int kv), some (.int fv), none, none]) dX4_kindsThatFit_131 (Nat.le_of_ble_eq_true rfl) rfl rfl ?_
        refine J_iincW' (pc := 132) (t : Int) ht (lv' := fun iq_ => [some (.ref 0), some (.int (bv ||| (1 <<< (kv &&& 31)))), some (.int iq_), some (.int fv), none, none]) dX4_kindsThatFit_132 rfl (by omega) (by decide) (Nat.le_of_ble_eq_true rfl) rfl (fun _ => rfl) (fun z132 e132 => ?_)
        refine J_goto (pc := 135) 4 dX4_kindsThatFit_135 (by decide) ?_
        have hiv : kv = iZ (t : Int) := iZ_of ht
        refine J_lv' (lv' := [some (.ref 0), some (.int (bv ||| (1 <<< (kv &&& 31)))), some (.int z132), none, none, none]) (by repeat' constructor) (J_mono (ih (t + 1) z132 (bv ||| (1 <<< (kv &&& 31))) (by omega) (by omega)) (fun w μ' hh => ⟨?_, hh.2⟩))
        rw [hh.1, isI]
        rw [if_pos (by rcases hfv with ⟨e, q⟩ | ⟨e, q⟩; exact q; omega), ← hiv]
set_option maxRecDepth 100000 in
set_option maxHeartbeats 4000000 in
theorem c_X4_kindsThatFit {N : Int} {c m : JM} (h : Inv N c m) (hN : 150 ≤ N ∧ N < 100000)  : Con G shM mX4_kindsThatFit [.ref 0] m (fun v μ' => v = some (.int (isI (m.1 1) (m.1 1 15).toInt.toNat 6 0 0)) ∧ μ' = m) := by
  refine Con_of [some (.ref 0), none, none, none, none, none] (by decide +kernel) (Nat.le_of_ble_eq_true rfl) (fun _ h => h) ?_
  refine J_iconst (pc := 0) (v := 0) dX4_kindsThatFit_0 (by decide) ?_
  refine J_istore_n (pc := 1) (lv' := [some (.ref 0), some (.int 0), none, none, none, none]) dX4_kindsThatFit_1 (Nat.le_of_ble_eq_true rfl) rfl rfl ?_
  refine J_iconst (pc := 2) (v := 0) dX4_kindsThatFit_2 (by decide) ?_
  refine J_istore_n (pc := 3) (lv' := [some (.ref 0), some (.int 0), some (.int 0), none, none, none]) dX4_kindsThatFit_3 (Nat.le_of_ble_eq_true rfl) rfl rfl ?_
  obtain ⟨n, n0, n1, n2, n3, n4⟩ := Inv_n h
  rw [show (m.1 1 15).toInt.toNat = n by omega]
  exact J_lv' (lv' := [some (.ref 0), some (.int 0), some (.int 0), none, none, none]) (by repeat' constructor) (l_n_is h.1 n0 n2 n4 6 0 0 0 rfl rfl)
set_option maxRecDepth 100000 in
set_option maxHeartbeats 4000000 in
theorem n_is {N : Int} {c m : JM} (h : Inv N c m) (hN : 150 ≤ N ∧ N < 100000)  : Con G shM mX4_is [.ref 0] m (fun v μ' => v = some (.int (isI (m.1 1) (m.1 1 15).toInt.toNat 6 0 0)) ∧ μ' = m) := by
  refine Con_of [some (.ref 0)] (by decide +kernel) (Nat.le_of_ble_eq_true rfl) (fun _ h => h) ?_
  refine J_aload_n (pc := 0) dX4_is_0 rfl ?_
  refine J_callVi (pc := 1) fC_X4_226 rfl dX4_is_1 (c_X4_kindsThatFit h hN) rfl ⟨Nat.le_of_ble_eq_true rfl, Nat.le_of_ble_eq_true rfl⟩ rfl (Nat.le_of_ble_eq_true rfl) (fun z1 d1 => ?_)
  refine J_iret (pc := 4) dX4_is_4 rfl ?_
  exact ⟨by rw [d1], rfl⟩
theorem pr_is {G : JG × JG} {N : Int} {c m : JM} (h : Inv N c m) (hN : 150 ≤ N ∧ N < 100000) : Pair G N c m mX3_is mX4_is [] := by
  refine ⟨_, _, k_is h hN, n_is h hN, fun v c' w m' hC hM => ?_⟩
  exact ⟨⟨by rw [hC.1, hM.1], _, hC.1⟩, by rw [hC.2, hM.2]; exact Inv_eq (by omega) h (eqC_rf _) (eqM_rf _)⟩

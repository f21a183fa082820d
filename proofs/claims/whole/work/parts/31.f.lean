/-! ===== words heard one behind another: strikes ===== -/
def stk (k wr ht w : Int) : Nat → Int → Int → Int → Int → Int → Int
  | 0, _, _, _, _, _ => -1
  | d + 1, a, p, n, b, s => if b = 0 then (if jZ wr ht (hA2 k a n w) (hP2 k p n w) w = 2 then s + 1 else stk k wr ht w d (hA2 k a n w) (hP2 k p n w) (n + 1) (jZ wr ht (hA2 k a n w) (hP2 k p n w) w) (s + 1)) else -1
/-- the model's four numbers, all else as in m -/
def mst (m ν : JM) (a p n b : Int) : Prop := eqM m ν ∧ (ν.1 0 4).toInt = a ∧ (ν.1 0 5).toInt = p ∧ (ν.1 0 6).toInt = n ∧ (ν.1 0 7).toInt = b
theorem mst_hear {m ν : JM} {a p n b w : Int} (h : mst m ν a p n b) (hn : 0 ≤ n ∧ n < 1000000) : mst m (hearM ν w) (hA2 (m.1 1 0).toInt a n w) (hP2 (m.1 1 0).toInt p n w) (n + 1) (jZ (m.1 1 3).toInt (m.1 1 4).toInt (hA2 (m.1 1 0).toInt a n w) (hP2 (m.1 1 0).toInt p n w) w) := by
  obtain ⟨⟨e1, e2, e3⟩, h4, h5, h6, h7⟩ := h
  have f1 : ν.1 1 = m.1 1 := e1 1 (by omega)
  have g1 := hA2_rng (m.1 1 0).toInt a n w
  have g2 := hP2_rng (m.1 1 0).toInt p n w
  have g3 := jZ_rng (m.1 1 3).toInt (m.1 1 4).toInt (hA2 (m.1 1 0).toInt a n w) (hP2 (m.1 1 0).toInt p n w) w
  unfold hearM
  rw [f1, h4, h5, h6]
  refine ⟨⟨fun o ho => ?_, ?_, e3⟩, ?_, ?_, ?_, ?_⟩
  · unfold setS
    rw [jI_ne (by omega), jI_ne (by omega), jI_ne (by omega), jI_ne (by omega)]
    exact e1 o ho
  · rw [← e2]; rfl
  · show (iZ _).toInt = _; rw [iZ_i (by omega)]
  · show (iZ _).toInt = _; rw [iZ_i (by omega)]
  · show (iZ _).toInt = _; rw [iZ_i (by omega)]
  · show (iZ _).toInt = _; rw [iZ_i (by omega)]
theorem mst_begin {m ν : JM} (h : eqM m ν) : mst m (beginM ν) (m.1 1 1).toInt (m.1 1 2).toInt (m.1 1 5).toInt (m.1 1 6).toInt := by
  obtain ⟨e1, e2, e3⟩ := h
  have f1 : ν.1 1 = m.1 1 := e1 1 (by omega)
  refine ⟨⟨fun o ho => ?_, ?_, e3⟩, ?_, ?_, ?_, ?_⟩
  · unfold beginM
    rw [jI_ne (by omega), jI_ne (by omega), jI_ne (by omega), jI_ne (by omega)]
    exact e1 o ho
  · rw [← e2]; rfl
  · show (ν.1 1 1).toInt = _; rw [f1]
  · show (ν.1 1 2).toInt = _; rw [f1]
  · show (ν.1 1 5).toInt = _; rw [f1]
  · show (ν.1 1 6).toInt = _; rw [f1]
theorem mst_c {m ν : JM} {a p n b : Int} (h : mst m ν a p n b) (hc : constM m) : constM ν := ⟨fun j hj => by rw [h.1.1 2 (by omega)]; exact hc.1 j hj, fun j hj => by rw [h.1.1 3 (by omega)]; exact hc.2 j hj⟩
variable {G : JG}
set_option maxRecDepth 100000 in
set_option maxHeartbeats 4000000 in
theorem l_k_strikes {c : JM} {k wr ht n0 : Int} (hk : (c.1 1 0).toInt = k) (hwr : (c.1 1 1).toInt = wr) (hht : (c.1 1 2).toInt = ht) (h4 : (c.1 1 4).toInt = n0) (hn0 : 0 ≤ n0 ∧ n0 < 200000) {w : Int32} {w' : Int} (hw : w.toInt = w') (hw5 : 0 ≤ w' ∧ w' ≤ 5) : ∀ d : Nat, ∀ (i : Nat) (iv mv : Int32) (a p b : Int), i + d = 60 → iv.toInt = (i : Int) → mv.toInt = mZ a p b → (0 ≤ a ∧ a ≤ 99 ∧ 0 ≤ p ∧ p ≤ 99 ∧ 0 ≤ b ∧ b ≤ 2) → J G shC mX3_strikes 24 [some (.ref 0), some (.int w), some (.int mv), some (.int iv)] [] c (fun v μ' => IsZ v (stk k wr ht w' d a p (n0 + (i : Int)) b (i : Int)) ∧ μ' = c) := by
  intro d
  induction d with
  | zero =>
    intro i iv mv a p b hd hi hm hr
    obtain ⟨d1, d2, d3⟩ := mZ_d (b := b) ⟨hr.1, hr.2.1, hr.2.2.1, hr.2.2.2.1⟩
    have hm0 : 0 ≤ mZ a p b := by unfold mZ; omega
    have g1 := hA2_rng k a (n0 + (i : Int)) w'
    have g2 := hP2_rng k p (n0 + (i : Int)) w'
    have g3 := jZ_rng wr ht (hA2 k a (n0 + (i : Int)) w') (hP2 k p (n0 + (i : Int)) w') w'
    obtain ⟨y1, y2, y3⟩ := mZ_d (b := (jZ wr ht (hA2 k a (n0 + (i : Int)) w') (hP2 k p (n0 + (i : Int)) w') w')) ⟨g1.1, g1.2, g2.1, g2.2⟩
    have hm1 : 0 ≤ mZ (hA2 k a (n0 + (i : Int)) w') (hP2 k p (n0 + (i : Int)) w') (jZ wr ht (hA2 k a (n0 + (i : Int)) w') (hP2 k p (n0 + (i : Int)) w') w') := by unfold mZ; omega
    refine J_iload_n (pc := 24) dX3_strikes_24 rfl ?_
    refine J_bipush (pc := 25) (v := 60) dX3_strikes_25 (by decide) ?_
    refine J_icmp_geW (pc := 27) (i : Int) 60 hi rfl 74 dX3_strikes_27 (by decide) (fun h27 => ?_) (fun h27 => ?_)
    · refine J_iconst (pc := 74) (v := (-1)) dX3_strikes_74 (by decide) ?_
      refine J_iret (pc := 75) dX3_strikes_75 rfl ?_
      exact ⟨⟨_, rfl, rfl⟩, rfl⟩
    · exfalso; omega
  | succ d ih =>
    intro i iv mv a p b hd hi hm hr
    obtain ⟨d1, d2, d3⟩ := mZ_d (b := b) ⟨hr.1, hr.2.1, hr.2.2.1, hr.2.2.2.1⟩
    have hm0 : 0 ≤ mZ a p b := by unfold mZ; omega
    have g1 := hA2_rng k a (n0 + (i : Int)) w'
    have g2 := hP2_rng k p (n0 + (i : Int)) w'
    have g3 := jZ_rng wr ht (hA2 k a (n0 + (i : Int)) w') (hP2 k p (n0 + (i : Int)) w') w'
    obtain ⟨y1, y2, y3⟩ := mZ_d (b := (jZ wr ht (hA2 k a (n0 + (i : Int)) w') (hP2 k p (n0 + (i : Int)) w') w')) ⟨g1.1, g1.2, g2.1, g2.2⟩
    have hm1 : 0 ≤ mZ (hA2 k a (n0 + (i : Int)) w') (hP2 k p (n0 + (i : Int)) w') (jZ wr ht (hA2 k a (n0 + (i : Int)) w') (hP2 k p (n0 + (i : Int)) w') w') := by unfold mZ; omega
    refine J_iload_n (pc := 24) dX3_strikes_24 rfl ?_
    refine J_bipush (pc := 25) (v := 60) dX3_strikes_25 (by decide) ?_
    refine J_icmp_geW (pc := 27) (i : Int) 60 hi rfl 74 dX3_strikes_27 (by decide) (fun h27 => ?_) (fun h27 => ?_)
    · exfalso; omega
    · refine J_iload_n (pc := 30) dX3_strikes_30 rfl ?_
      refine J_callSz (pc := 31) fC_X3_120 dX3_strikes_31 (c_X3_beingOf (mZ a p b) hm (by omega)) rfl ⟨Nat.le_of_ble_eq_true rfl, Nat.le_of_ble_eq_true rfl⟩ rfl (Nat.le_of_ble_eq_true rfl) (fun z31 e31 => ?_)
      have q31 : z31.toInt = b := by rw [e31, d3]
      refine J_if_neW (pc := 34) b q31 74 dX3_strikes_34 (by decide) (fun h34 => ?_) (fun h34 => ?_)
      · refine J_iconst (pc := 74) (v := (-1)) dX3_strikes_74 (by decide) ?_
        refine J_iret (pc := 75) dX3_strikes_75 rfl ?_
        exact ⟨⟨_, rfl, by rw [stk, if_neg h34]; rfl⟩, rfl⟩
      · refine J_aload_n (pc := 37) dX3_strikes_37 rfl ?_
        refine J_getR (pc := 38) 1 fF_X3_12 rfl rfl dX3_strikes_38 ?_
        refine J_iload_n (pc := 41) dX3_strikes_41 rfl ?_
        refine J_aload_n (pc := 42) dX3_strikes_42 rfl ?_
        refine J_getR (pc := 43) 1 fF_X3_12 rfl rfl dX3_strikes_43 ?_
        refine J_getI (pc := 46) fF_X3_68 rfl rfl dX3_strikes_46 ?_
        refine J_iload_n (pc := 49) dX3_strikes_49 rfl ?_
        refine J_iaddW (pc := 50) n0 (i : Int) h4 hi dX3_strikes_50 (by omega) (fun z50 e50 => ?_)
        refine J_iload_n (pc := 51) dX3_strikes_51 rfl ?_
        refine J_callVz (pc := 52) fC_X3_160 rfl dX3_strikes_52 (c_X0_hear jarAt_1 (mZ a p b) (n0 + (i : Int)) w' hm e50 hw (by omega)) rfl ⟨Nat.le_of_ble_eq_true rfl, Nat.le_of_ble_eq_true rfl⟩ rfl (Nat.le_of_ble_eq_true rfl) (fun z52 e52 => ?_)
        have q52 : z52.toInt = (mZ (hA2 k a (n0 + (i : Int)) w') (hP2 k p (n0 + (i : Int)) w') (jZ wr ht (hA2 k a (n0 + (i : Int)) w') (hP2 k p (n0 + (i : Int)) w') w')) := by rw [e52, hk, hwr, hht, hM_2 ⟨hr.1, hr.2.1, hr.2.2.1, hr.2.2.2.1⟩]
        refine J_istore_n (pc := 55) (lv' := [some (.ref 0), some (.int w), some (.int z52), some (.int iv)]) dX3_strikes_55 (Nat.le_of_ble_eq_true rfl) rfl rfl ?_
        refine J_iload_n (pc := 56) dX3_strikes_56 rfl ?_
        refine J_callSz (pc := 57) fC_X3_120 dX3_strikes_57 (c_X3_beingOf (mZ (hA2 k a (n0 + (i : Int)) w') (hP2 k p (n0 + (i : Int)) w') (jZ wr ht (hA2 k a (n0 + (i : Int)) w') (hP2 k p (n0 + (i : Int)) w') w')) q52 (by omega)) rfl ⟨Nat.le_of_ble_eq_true rfl, Nat.le_of_ble_eq_true rfl⟩ rfl (Nat.le_of_ble_eq_true rfl) (fun z57 e57 => ?_)
        have q57 : z57.toInt = (jZ wr ht (hA2 k a (n0 + (i : Int)) w') (hP2 k p (n0 + (i : Int)) w') w') := by rw [e57, y3]
        refine J_iconst (pc := 60) (v := 2) dX3_strikes_60 (by decide) ?_
        refine J_icmp_neW (pc := 61) (jZ wr ht (hA2 k a (n0 + (i : Int)) w') (hP2 k p (n0 + (i : Int)) w') w') 2 q57 rfl 68 dX3_strikes_61 (by decide) (fun h61 => ?_) (fun h61 => ?_)
        · refine J_iincW' (pc := 68) (i : Int) hi (lv' := fun v => [some (.ref 0), some (.int w), some (.int z52), some (.int v)]) dX3_strikes_68 rfl (by omega) (by decide) (Nat.le_of_ble_eq_true rfl) rfl (fun _ => rfl) (fun z68 e68 => ?_)
          refine J_goto (pc := 71) 24 dX3_strikes_71 (by decide) ?_
          refine J_mono (ih (i + 1) z68 z52 (hA2 k a (n0 + (i : Int)) w') (hP2 k p (n0 + (i : Int)) w') (jZ wr ht (hA2 k a (n0 + (i : Int)) w') (hP2 k p (n0 + (i : Int)) w') w') (by omega) (by omega) q52 (by omega)) (fun v μ' hh => ⟨?_, hh.2⟩)
          rw [stk, if_pos h34, if_neg h61]
          have := hh.1
          rw [show (n0 + ((i + 1 : Nat) : Int)) = (n0 + (i : Int)) + 1 by omega, show (((i + 1 : Nat) : Int)) = (i : Int) + 1 by omega] at this
          exact this
        · refine J_iload_n (pc := 64) dX3_strikes_64 rfl ?_
          refine J_iconst (pc := 65) (v := 1) dX3_strikes_65 (by decide) ?_
          refine J_iaddW (pc := 66) (i : Int) 1 hi rfl dX3_strikes_66 (by omega) (fun z66 e66 => ?_)
          refine J_iret (pc := 67) dX3_strikes_67 rfl ?_
          exact ⟨⟨_, rfl, by rw [stk, if_pos h34, if_pos h61]; exact e66⟩, rfl⟩
set_option maxRecDepth 100000 in
set_option maxHeartbeats 4000000 in
theorem l_n_strikes {m : JM} (hc : constM m) {w : Int32} {w' : Int} (hw : w.toInt = w') (hw5 : 0 ≤ w' ∧ w' ≤ 5) : ∀ d : Nat, ∀ (i : Nat) (iv : Int32) (ν : JM) (a p n b s : Int), i + d = 61 → iv.toInt = (i : Int) → s + 1 = (i : Int) → mst m ν a p n b → (0 ≤ a ∧ a ≤ 99 ∧ 0 ≤ p ∧ p ≤ 99) → (0 ≤ n ∧ n + (d : Int) < 300000) → J G shM mX4_strikes 25 [some (.ref 0), some (.int w), some (.int iv)] [] ν (fun v μ' => IsZ v (stk (m.1 1 0).toInt (m.1 1 3).toInt (m.1 1 4).toInt w' d a p n b s) ∧ eqM m μ') := by
  intro d
  induction d with
  | zero =>
    intro i iv ν a p n b s hd hi hsi hs hr hn
    have g1 := hA2_rng (m.1 1 0).toInt a n w'
    have g2 := hP2_rng (m.1 1 0).toInt p n w'
    refine J_iload_n (pc := 25) dX4_strikes_25 rfl ?_
    refine J_bipush (pc := 26) (v := 61) dX4_strikes_26 (by decide) ?_
    refine J_icmp_geW (pc := 28) (i : Int) 61 hi rfl 60 dX4_strikes_28 (by decide) (fun h28 => ?_) (fun h28 => ?_)
    · refine J_iconst (pc := 60) (v := (-1)) dX4_strikes_60 (by decide) ?_
      refine J_iret (pc := 61) dX4_strikes_61 rfl ?_
      exact ⟨⟨_, rfl, rfl⟩, hs.1⟩
    · exfalso; omega
  | succ d ih =>
    intro i iv ν a p n b s hd hi hsi hs hr hn
    have g1 := hA2_rng (m.1 1 0).toInt a n w'
    have g2 := hP2_rng (m.1 1 0).toInt p n w'
    refine J_iload_n (pc := 25) dX4_strikes_25 rfl ?_
    refine J_bipush (pc := 26) (v := 61) dX4_strikes_26 (by decide) ?_
    refine J_icmp_geW (pc := 28) (i : Int) 61 hi rfl 60 dX4_strikes_28 (by decide) (fun h28 => ?_) (fun h28 => ?_)
    · exfalso; omega
    · refine J_aload_n (pc := 31) dX4_strikes_31 rfl ?_
      refine J_getI (pc := 32) fF_X4_76 rfl rfl dX4_strikes_32 ?_
      refine J_if_neW (pc := 35) b hs.2.2.2.2 60 dX4_strikes_35 (by decide) (fun h35 => ?_) (fun h35 => ?_)
      · refine J_iconst (pc := 60) (v := (-1)) dX4_strikes_60 (by decide) ?_
        refine J_iret (pc := 61) dX4_strikes_61 rfl ?_
        exact ⟨⟨_, rfl, by rw [stk, if_neg h35]; rfl⟩, hs.1⟩
      · refine J_aload_n (pc := 38) dX4_strikes_38 rfl ?_
        refine J_iload_n (pc := 39) dX4_strikes_39 rfl ?_
        refine J_iconst (pc := 40) (v := 1) dX4_strikes_40 (by decide) ?_
        refine J_callVv (pc := 41) fC_X4_139 rfl dX4_strikes_41 (c_X4_hear1 (mst_c hs hc) w' hw (by omega) (by rw [hs.2.1]; omega) (by rw [hs.2.2.1]; omega) (by rw [hs.2.2.2.1]; omega)) rfl ⟨Nat.le_of_ble_eq_true rfl, Nat.le_of_ble_eq_true rfl⟩ rfl (Nat.le_of_ble_eq_true rfl) (fun μ41 m41 => ?_)
        have hs2 := mst_hear (w := w') hs (by omega)
        rw [← m41] at hs2
        refine J_aload_n (pc := 44) dX4_strikes_44 rfl ?_
        refine J_getI (pc := 45) fF_X4_76 rfl rfl dX4_strikes_45 ?_
        refine J_iconst (pc := 48) (v := 2) dX4_strikes_48 (by decide) ?_
        refine J_icmp_neW (pc := 49) (jZ (m.1 1 3).toInt (m.1 1 4).toInt (hA2 (m.1 1 0).toInt a n w') (hP2 (m.1 1 0).toInt p n w') w') 2 hs2.2.2.2.2 rfl 54 dX4_strikes_49 (by decide) (fun h49 => ?_) (fun h49 => ?_)
        · refine J_iincW' (pc := 54) (i : Int) hi (lv' := fun v => [some (.ref 0), some (.int w), some (.int v)]) dX4_strikes_54 rfl (by omega) (by decide) (Nat.le_of_ble_eq_true rfl) rfl (fun _ => rfl) (fun z54 e54 => ?_)
          refine J_goto (pc := 57) 25 dX4_strikes_57 (by decide) ?_
          refine J_mono (ih (i + 1) z54 μ41 (hA2 (m.1 1 0).toInt a n w') (hP2 (m.1 1 0).toInt p n w') (n + 1) (jZ (m.1 1 3).toInt (m.1 1 4).toInt (hA2 (m.1 1 0).toInt a n w') (hP2 (m.1 1 0).toInt p n w') w') (s + 1) (by omega) (by omega) (by omega) hs2 (by omega) (by omega)) (fun v μ' hh => ⟨?_, hh.2⟩)
          rw [stk, if_pos h35, if_neg h49]
          exact hh.1
        · refine J_iload_n (pc := 52) dX4_strikes_52 rfl ?_
          refine J_iret (pc := 53) dX4_strikes_53 rfl ?_
          exact ⟨⟨_, rfl, by rw [stk, if_pos h35, if_pos h49, hi]; omega⟩, hs2.1⟩
set_option maxRecDepth 100000 in
set_option maxHeartbeats 4000000 in
theorem k_strikes {N : Int} {c m : JM} (h : Inv N c m) (hN : 150 ≤ N ∧ N < 100000) {a : Int32}  : Con G shC mX3_strikes [.ref 0, .int a] c (fun v μ' => (¬(0 ≤ a.toInt ∧ a.toInt ≤ 5) ∧ IsZ v (-2) ∧ μ' = (jI c 0 8 (c.1 0 8 + 1))) ∨ ((0 ≤ a.toInt ∧ a.toInt ≤ 5) ∧ IsZ v (stk (m.1 1 0).toInt (m.1 1 3).toInt (m.1 1 4).toInt a.toInt 60 (m.1 1 1).toInt (m.1 1 2).toInt (m.1 1 5).toInt (m.1 1 6).toInt 0) ∧ μ' = c)) := by
  obtain ⟨q0, q1, q2, q3, q4, q5, q6⟩ := Inv_q h
  obtain ⟨r0, r1, r2, r3, r4, r5, r6, r15, r40, r9⟩ := Inv_r h
  have hc := h.1
  have qt : (c.1 21 1).toInt = (m.1 0 9).toInt := by rw [h.2.2.2.2.1.1]
  have qs0 : (c.1 0 8).toInt = (m.1 4 0).toInt := by rw [h.2.2.2.2.2.2.1]
  have qs1 : (c.1 0 9).toInt = (m.1 4 1).toInt := by rw [h.2.2.2.2.2.2.2.1]
  have qs2 : (c.1 0 10).toInt = (m.1 4 2).toInt := by rw [h.2.2.2.2.2.2.2.2]
  refine Con_of [some (.ref 0), some (.int a), none, none] (by decide +kernel) (Nat.le_of_ble_eq_true rfl) (fun _ h => h) ?_
  refine J_iload_n (pc := 0) dX3_strikes_0 rfl ?_
  refine J_callSc (pc := 1) fC_X3_116 dX3_strikes_1 (c_X3_isWord a.toInt rfl) rfl ⟨Nat.le_of_ble_eq_true rfl, Nat.le_of_ble_eq_true rfl⟩ rfl (Nat.le_of_ble_eq_true rfl) (fun h1 => ?_) (fun h1 => ?_)
  · refine J_if_ne_T (pc := 4) 14 dX3_strikes_4 (by decide) (by decide) ?_
    refine J_aload_n (pc := 14) dX3_strikes_14 rfl ?_
    refine J_getR (pc := 15) 1 fF_X3_12 rfl rfl dX3_strikes_15 ?_
    refine J_getI (pc := 18) fF_X3_78 rfl rfl dX3_strikes_18 ?_
    refine J_istore_n (pc := 21) (lv' := [some (.ref 0), some (.int a), some (.int (c.1 1 3)), none]) dX3_strikes_21 (Nat.le_of_ble_eq_true rfl) rfl rfl ?_
    refine J_iconst (pc := 22) (v := 0) dX3_strikes_22 (by decide) ?_
    refine J_istore_n (pc := 23) (lv' := [some (.ref 0), some (.int a), some (.int (c.1 1 3)), some (.int 0)]) dX3_strikes_23 (Nat.le_of_ble_eq_true rfl) rfl rfl ?_
    refine J_mono (l_k_strikes (k := (m.1 1 0).toInt) (wr := (m.1 1 3).toInt) (ht := (m.1 1 4).toInt) (n0 := (m.1 1 5).toInt) q0 q1 q2 q4 (by omega) (w := a) rfl (by omega) 60 0 0 (c.1 1 3) (m.1 1 1).toInt (m.1 1 2).toInt (m.1 1 6).toInt rfl rfl q3 (by omega)) (fun v μ' hh => Or.inr ⟨by omega, ?_, hh.2⟩)
    have := hh.1
    rw [show ((m.1 1 5).toInt + ((0 : Nat) : Int)) = (m.1 1 5).toInt by omega] at this
    exact this
  · refine J_if_ne_F (pc := 4) 14 dX3_strikes_4 (by decide) (by decide) ?_
    refine J_aload_n (pc := 7) dX3_strikes_7 rfl ?_
    refine J_bipush (pc := 8) (v := (-2)) dX3_strikes_8 (by decide) ?_
    refine J_callVim (pc := 10) fC_X3_64 rfl dX3_strikes_10 (c_X3_refuse2) rfl ⟨Nat.le_of_ble_eq_true rfl, Nat.le_of_ble_eq_true rfl⟩ rfl (Nat.le_of_ble_eq_true rfl) (fun z10 μ10 d10 m10 => ?_)
    refine J_iret (pc := 13) dX3_strikes_13 rfl ?_
    subst_vars
    exact Or.inl ⟨by omega, ⟨_, rfl, rfl⟩, rfl⟩
set_option maxRecDepth 100000 in
set_option maxHeartbeats 4000000 in
theorem n_strikes {N : Int} {c m : JM} (h : Inv N c m) (hN : 150 ≤ N ∧ N < 100000) {a : Int32}  : Con G shM mX4_strikes [.ref 0, .int a] m (fun v μ' => (¬(0 ≤ a.toInt ∧ a.toInt ≤ 5) ∧ IsZ v (-2) ∧ μ' = (jI m 4 0 (m.1 4 0 + 1))) ∨ ((0 ≤ a.toInt ∧ a.toInt ≤ 5) ∧ IsZ v (stk (m.1 1 0).toInt (m.1 1 3).toInt (m.1 1 4).toInt a.toInt 60 (m.1 1 1).toInt (m.1 1 2).toInt (m.1 1 5).toInt (m.1 1 6).toInt 0) ∧ eqM m μ')) := by
  obtain ⟨q0, q1, q2, q3, q4, q5, q6⟩ := Inv_q h
  obtain ⟨r0, r1, r2, r3, r4, r5, r6, r15, r40, r9⟩ := Inv_r h
  have hc := h.1
  have qt : (c.1 21 1).toInt = (m.1 0 9).toInt := by rw [h.2.2.2.2.1.1]
  have qs0 : (c.1 0 8).toInt = (m.1 4 0).toInt := by rw [h.2.2.2.2.2.2.1]
  have qs1 : (c.1 0 9).toInt = (m.1 4 1).toInt := by rw [h.2.2.2.2.2.2.2.1]
  have qs2 : (c.1 0 10).toInt = (m.1 4 2).toInt := by rw [h.2.2.2.2.2.2.2.2]
  refine Con_of [some (.ref 0), some (.int a), none] (by decide +kernel) (Nat.le_of_ble_eq_true rfl) (fun _ h => h) ?_
  refine J_iload_n (pc := 0) dX4_strikes_0 rfl ?_
  refine J_i2l (pc := 1) dX4_strikes_1 rfl ?_
  refine J_lconst (pc := 2) (v := 0) dX4_strikes_2 (by decide) ?_
  refine J_ldc2 (pc := 3) fK_X4_89 dX4_strikes_3 ?_
  refine J_callSc (pc := 6) fC_X4_58 dX4_strikes_6 (c_X4_in a.toInt 0 5 (i2l_z rfl) rfl rfl) rfl ⟨Nat.le_of_ble_eq_true rfl, Nat.le_of_ble_eq_true rfl⟩ rfl (Nat.le_of_ble_eq_true rfl) (fun h6 => ?_) (fun h6 => ?_)
  · refine J_if_ne_T (pc := 9) 19 dX4_strikes_9 (by decide) (by decide) ?_
    refine J_aload_n (pc := 19) dX4_strikes_19 rfl ?_
    refine J_callVv (pc := 20) fC_X4_136 rfl dX4_strikes_20 (c_X4_begin) rfl ⟨Nat.le_of_ble_eq_true rfl, Nat.le_of_ble_eq_true rfl⟩ rfl (Nat.le_of_ble_eq_true rfl) (fun μ20 m20 => ?_)
    refine J_iconst (pc := 23) (v := 1) dX4_strikes_23 (by decide) ?_
    refine J_istore_n (pc := 24) (lv' := [some (.ref 0), some (.int a), some (.int 1)]) dX4_strikes_24 (Nat.le_of_ble_eq_true rfl) rfl rfl ?_
    have hs := mst_begin (eqM_rf m)
    rw [← m20] at hs
    exact J_mono (l_n_strikes hc (w := a) rfl (by omega) 60 1 1 μ20 _ _ _ _ 0 rfl rfl rfl hs (by omega) (by omega)) (fun v μ' hh => Or.inr ⟨by omega, hh.1, hh.2⟩)
  · refine J_if_ne_F (pc := 9) 19 dX4_strikes_9 (by decide) (by decide) ?_
    refine J_aload_n (pc := 12) dX4_strikes_12 rfl ?_
    refine J_bipush (pc := 13) (v := (-2)) dX4_strikes_13 (by decide) ?_
    refine J_callVim (pc := 15) fC_X4_91 rfl dX4_strikes_15 (c_X4_no2) rfl ⟨Nat.le_of_ble_eq_true rfl, Nat.le_of_ble_eq_true rfl⟩ rfl (Nat.le_of_ble_eq_true rfl) (fun z15 μ15 d15 m15 => ?_)
    refine J_iret (pc := 18) dX4_strikes_18 rfl ?_
    subst_vars
    exact Or.inl ⟨by omega, ⟨_, rfl, rfl⟩, rfl⟩
theorem pr_strikes {G : JG × JG} {N : Int} {c m : JM} (h : Inv N c m) (hN : 150 ≤ N ∧ N < 100000) {a : Int32} : Pair G N c m mX3_strikes mX4_strikes [.int a] := by
  refine ⟨_, _, k_strikes h hN, n_strikes h hN, fun v c' w m' hC hM => ?_⟩
  rcases hC with ⟨a1, a2, a3⟩ | ⟨a1, a2, a3⟩
  · rcases hM with ⟨b1, b2, b3⟩ | ⟨b1, b2, b3⟩
    · exact ⟨IsZ_eq a2 b2, by rw [a3, b3]; exact Inv_no (by omega) h 0 (by decide)⟩
    · exact absurd b1 a1
  · rcases hM with ⟨b1, b2, b3⟩ | ⟨b1, b2, b3⟩
    · exact absurd a1 b1
    · exact ⟨IsZ_eq a2 b2, by rw [a3]; exact Inv_eq (by omega) h (eqC_rf _) b3⟩

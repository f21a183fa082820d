/-! ===== since, cast, is ===== -/
def sncI (v : Int) (f : Nat → Int) : Nat → Nat → Int32 → Int32
  | 0, _, b => b
  | d + 1, i, b => sncI v f d (i + 1) (if f i = v then b ||| (1 <<< (iZ (i : Int) &&& 31)) else b)
def cstI (v : Int) (f : Nat → Int) : Nat → Nat
  | 0 => 0
  | d + 1 => if v ≤ f d then cstI v f d else d + 1
def vowZ (m : JM) (j : Nat) : Int := (m.1 1 (7 + j)).toInt
theorem Inv_v {N : Int} {c m : JM} (h : Inv N c m) (j : Nat) (hj : j < 8) : (c.1 2 j).toInt = vowZ m j := by
  have := h.2.2.1.2.2.2.2.2.2.2.1 j hj
  rw [show 1 + 1 = 2 from rfl] at this
  rw [this]; rfl
/-- all the notes are so by kind k -/
def fitP (f : Nat → Int32) (k : Int) (n : Nat) : Prop := ∀ j : Nat, j < n → aZ k (f (16 + 4 * j)).toInt (f (16 + 4 * j + 1)).toInt = (f (16 + 4 * j + 2)).toInt ∧ pZ k (f (16 + 4 * j)).toInt (f (16 + 4 * j + 1)).toInt = (f (16 + 4 * j + 3)).toInt
noncomputable def isI (f : Nat → Int32) (n : Nat) : Nat → Nat → Int32 → Int32
  | 0, _, b => b
  | d + 1, k, b => isI f n d (k + 1) (@ite _ (fitP f k n) (Classical.propDecidable _) (b ||| (1 <<< (iZ (k : Int) &&& 31))) b)
theorem fitP_s {f : Nat → Int32} {k : Int} {n : Nat} : fitP f k (n + 1) ↔ fitP f k n ∧ (aZ k (f (16 + 4 * n)).toInt (f (16 + 4 * n + 1)).toInt = (f (16 + 4 * n + 2)).toInt ∧ pZ k (f (16 + 4 * n)).toInt (f (16 + 4 * n + 1)).toInt = (f (16 + 4 * n + 3)).toInt) := by
  constructor
  · exact fun h => ⟨fun j hj => h j (by omega), h n (by omega)⟩
  · intro h j hj
    by_cases e : j = n
    · rw [e]; exact h.2
    · exact h.1 j (by omega)
theorem fitP_le {f : Nat → Int32} {k : Int} {n n' : Nat} (h : n ≤ n') (hf : fitP f k n') : fitP f k n := fun j hj => hf j (by omega)
variable {G : JG}
set_option maxRecDepth 100000 in
set_option maxHeartbeats 4000000 in
theorem l_k_since {c : JM} {f : Nat → Int} (hv : ∀ j : Nat, j < 8 → (c.1 2 j).toInt = f j) {v : Int32} {v' : Int} (hvv : v.toInt = v')  : ∀ d : Nat, ∀ (i : Nat) (iv b : Int32), i + d = 8 → iv.toInt = (i : Int) → J G shC mX3_since 20 [some (.ref 0), some (.int v), some (.int b), some (.int iv)] [] c (fun w μ' => w = some (.int (sncI v' f d i b)) ∧ μ' = c) := by
  intro d
  induction d with
  | zero =>
    intro i iv b hd hi
    refine J_iload_n (pc := 20) dX3_since_20 rfl ?_
    refine J_bipush (pc := 21) (v := 8) dX3_since_21 (by decide) ?_
    refine J_icmp_geW (pc := 23) (i : Int) 8 hi rfl 53 dX3_since_23 (by decide) (fun h23 => ?_) (fun h23 => ?_)
    · refine J_iload_n (pc := 53) dX3_since_53 rfl ?_
      refine J_iret (pc := 54) dX3_since_54 rfl ?_
      exact ⟨rfl, rfl⟩
    · exfalso; omega
  | succ d ih =>
    intro i iv b hd hi
    refine J_iload_n (pc := 20) dX3_since_20 rfl ?_
    refine J_bipush (pc := 21) (v := 8) dX3_since_21 (by decide) ?_
    refine J_icmp_geW (pc := 23) (i : Int) 8 hi rfl 53 dX3_since_23 (by decide) (fun h23 => ?_) (fun h23 => ?_)
    · exfalso; omega
    · refine J_aload_n (pc := 26) dX3_since_26 rfl ?_
      refine J_getR (pc := 27) 1 fF_X3_12 rfl rfl dX3_since_27 ?_
      refine J_getR (pc := 30) 2 fF_X3_87 rfl rfl dX3_since_30 ?_
      refine J_iload_n (pc := 33) dX3_since_33 rfl ?_
      refine J_callSe (pc := 34) fC_X3_91 dX3_since_34 (c_X3_at rfl i (by omega) (by omega) (by omega)) rfl ⟨Nat.le_of_ble_eq_true rfl, Nat.le_of_ble_eq_true rfl⟩ rfl (Nat.le_of_ble_eq_true rfl) ?_
      refine J_iload_n (pc := 37) dX3_since_37 rfl ?_
      refine J_icmp_neW (pc := 38) (f i) v' (hv i (by omega)) hvv 47 dX3_since_38 (by decide) (fun h38 => ?_) (fun h38 => ?_)
      · refine J_iincW' (pc := 47) (i : Int) hi (lv' := fun iq_ => [some (.ref 0), some (.int v), some (.int b), some (.int iq_)]) dX3_since_47 rfl (by omega) (by decide) (Nat.le_of_ble_eq_true rfl) rfl (fun _ => rfl) (fun z47 e47 => ?_)
        refine J_goto (pc := 50) 20 dX3_since_50 (by decide) ?_
        have hiv : iv = iZ (i : Int) := iZ_of hi
        refine J_mono (ih (i + 1) z47 b (by omega) (by omega)) (fun w μ' hh => ⟨?_, hh.2⟩)
        rw [hh.1, sncI]
        rw [if_neg h38]
      · refine J_iload_n (pc := 41) dX3_since_41 rfl ?_
        refine J_iconst (pc := 42) (v := 1) dX3_since_42 (by decide) ?_
        refine J_iload_n (pc := 43) dX3_since_43 rfl ?_
        refine J_ishl (pc := 44) dX3_since_44 ?_
        refine J_ior (pc := 45) dX3_since_45 ?_
        refine J_istore_n (pc := 46) (lv' := [some (.ref 0), some (.int v), some (.int (b ||| (1 <<< (iv &&& 31)))), some (.int iv)]) dX3_since_46 (Nat.le_of_ble_eq_true rfl) rfl rfl ?_
        refine J_iincW' (pc := 47) (i : Int) hi (lv' := fun iq_ => [some (.ref 0), some (.int v), some (.int (b ||| (1 <<< (iv &&& 31)))), some (.int iq_)]) dX3_since_47 rfl (by omega) (by decide) (Nat.le_of_ble_eq_true rfl) rfl (fun _ => rfl) (fun z47 e47 => ?_)
        refine J_goto (pc := 50) 20 dX3_since_50 (by decide) ?_
        have hiv : iv = iZ (i : Int) := iZ_of hi
        refine J_mono (ih (i + 1) z47 (b ||| (1 <<< (iv &&& 31))) (by omega) (by omega)) (fun w μ' hh => ⟨?_, hh.2⟩)
        rw [hh.1, sncI]
        rw [if_pos h38, ← hiv]
set_option maxRecDepth 100000 in
set_option maxHeartbeats 4000000 in
theorem l_n_since {m : JM} {v : Int32} {v' : Int} (hvv : v.toInt = v')  : ∀ d : Nat, ∀ (i : Nat) (iv b : Int32), i + d = 8 → iv.toInt = (i : Int) → J G shM mX4_since 23 [some (.ref 0), some (.int v), some (.int b), some (.int iv)] [] m (fun w μ' => w = some (.int (sncI v' (vowZ m) d i b)) ∧ μ' = m) := by
  intro d
  induction d with
  | zero =>
    intro i iv b hd hi
    refine J_iload_n (pc := 23) dX4_since_23 rfl ?_
    refine J_bipush (pc := 24) (v := 8) dX4_since_24 (by decide) ?_
    refine J_icmp_geW (pc := 26) (i : Int) 8 hi rfl 58 dX4_since_26 (by decide) (fun h26 => ?_) (fun h26 => ?_)
    · refine J_iload_n (pc := 58) dX4_since_58 rfl ?_
      refine J_iret (pc := 59) dX4_since_59 rfl ?_
      exact ⟨rfl, rfl⟩
    · exfalso; omega
  | succ d ih =>
    intro i iv b hd hi
    refine J_iload_n (pc := 23) dX4_since_23 rfl ?_
    refine J_bipush (pc := 24) (v := 8) dX4_since_24 (by decide) ?_
    refine J_icmp_geW (pc := 26) (i : Int) 8 hi rfl 58 dX4_since_26 (by decide) (fun h26 => ?_) (fun h26 => ?_)
    · exfalso; omega
    · refine J_iload_n (pc := 29) dX4_since_29 rfl ?_
      refine J_aload_n (pc := 30) dX4_since_30 rfl ?_
      refine J_getR (pc := 31) 1 fF_X4_7 rfl rfl dX4_since_31 ?_
      refine J_bipush (pc := 34) (v := 7) dX4_since_34 (by decide) ?_
      refine J_iload_n (pc := 36) dX4_since_36 rfl ?_
      refine J_iaddW (pc := 37) 7 (i : Int) rfl hi dX4_since_37 (by omega) (fun z37 e37 => ?_)
      refine J_ialdW (pc := 38) (7 + i) (by omega) rfl (by omega) dX4_since_38 ?_
      refine J_iload_n (pc := 39) dX4_since_39 rfl ?_
      refine J_icmp_neW (pc := 40) (vowZ m i) v' rfl hvv 49 dX4_since_40 (by decide) (fun h40 => ?_) (fun h40 => ?_)
      · refine J_iconst (pc := 49) (v := 0) dX4_since_49 (by decide) ?_
        refine J_ior (pc := 50) dX4_since_50 ?_
        refine J_istore_n (pc := 51) (lv' := [some (.ref 0), some (.int v), some (.int (b ||| 0)), some (.int iv)]) dX4_since_51 (Nat.le_of_ble_eq_true rfl) rfl rfl ?_
        refine J_iincW' (pc := 52) (i : Int) hi (lv' := fun iq_ => [some (.ref 0), some (.int v), some (.int (b ||| 0)), some (.int iq_)]) dX4_since_52 rfl (by omega) (by decide) (Nat.le_of_ble_eq_true rfl) rfl (fun _ => rfl) (fun z52 e52 => ?_)
        refine J_goto (pc := 55) 23 dX4_since_55 (by decide) ?_
        have hiv : iv = iZ (i : Int) := iZ_of hi
        rw [show (b ||| 0 : Int32) = b from Int32.or_zero]
        refine J_mono (ih (i + 1) z52 b (by omega) (by omega)) (fun w μ' hh => ⟨?_, hh.2⟩)
        rw [hh.1, sncI]
        rw [if_neg h40]
      · refine J_iconst (pc := 43) (v := 1) dX4_since_43 (by decide) ?_
        refine J_iload_n (pc := 44) dX4_since_44 rfl ?_
        refine J_ishl (pc := 45) dX4_since_45 ?_
        refine J_goto (pc := 46) 50 dX4_since_46 (by decide) ?_
        refine J_ior (pc := 50) dX4_since_50 ?_
        refine J_istore_n (pc := 51) (lv' := [some (.ref 0), some (.int v), some (.int (b ||| (1 <<< (iv &&& 31)))), some (.int iv)]) dX4_since_51 (Nat.le_of_ble_eq_true rfl) rfl rfl ?_
        refine J_iincW' (pc := 52) (i : Int) hi (lv' := fun iq_ => [some (.ref 0), some (.int v), some (.int (b ||| (1 <<< (iv &&& 31)))), some (.int iq_)]) dX4_since_52 rfl (by omega) (by decide) (Nat.le_of_ble_eq_true rfl) rfl (fun _ => rfl) (fun z52 e52 => ?_)
        refine J_goto (pc := 55) 23 dX4_since_55 (by decide) ?_
        have hiv : iv = iZ (i : Int) := iZ_of hi
        refine J_mono (ih (i + 1) z52 (b ||| (1 <<< (iv &&& 31))) (by omega) (by omega)) (fun w μ' hh => ⟨?_, hh.2⟩)
        rw [hh.1, sncI]
        rw [if_pos h40, ← hiv]
set_option maxRecDepth 100000 in
set_option maxHeartbeats 4000000 in
theorem k_since {N : Int} {c m : JM} (h : Inv N c m) (hN : 150 ≤ N ∧ N < 100000) {a : Int32}  : Con G shC mX3_since [.ref 0, .int a] c (fun v μ' => (¬(0 ≤ a.toInt ∧ a.toInt ≤ 4) ∧ v = some (.int (-2)) ∧ μ' = (jI c 0 8 (c.1 0 8 + 1))) ∨ ((0 ≤ a.toInt ∧ a.toInt ≤ 4) ∧ v = some (.int (sncI a.toInt (vowZ m) 8 0 0)) ∧ μ' = c)) := by
  obtain ⟨q0, q1, q2, q3, q4, q5, q6⟩ := Inv_q h
  obtain ⟨r0, r1, r2, r3, r4, r5, r6, r15, r40, r9⟩ := Inv_r h
  have hc := h.1
  have qt : (c.1 21 1).toInt = (m.1 0 9).toInt := by rw [h.2.2.2.2.1.1]
  have qs0 : (c.1 0 8).toInt = (m.1 4 0).toInt := by rw [h.2.2.2.2.2.2.1]
  have qs1 : (c.1 0 9).toInt = (m.1 4 1).toInt := by rw [h.2.2.2.2.2.2.2.1]
  have qs2 : (c.1 0 10).toInt = (m.1 4 2).toInt := by rw [h.2.2.2.2.2.2.2.2]
  refine Con_of [some (.ref 0), some (.int a), none, none] (by decide +kernel) (Nat.le_of_ble_eq_true rfl) (fun _ h => h) ?_
  refine J_iload_n (pc := 0) dX3_since_0 rfl ?_
  refine J_iconst (pc := 1) (v := 0) dX3_since_1 (by decide) ?_
  refine J_iconst (pc := 2) (v := 4) dX3_since_2 (by decide) ?_
  refine J_callSc (pc := 3) fC_X3_60 dX3_since_3 (c_X3_within a.toInt 0 4 rfl rfl rfl) rfl ⟨Nat.le_of_ble_eq_true rfl, Nat.le_of_ble_eq_true rfl⟩ rfl (Nat.le_of_ble_eq_true rfl) (fun h3 => ?_) (fun h3 => ?_)
  · refine J_if_ne_T (pc := 6) 16 dX3_since_6 (by decide) (by decide) ?_
    refine J_iconst (pc := 16) (v := 0) dX3_since_16 (by decide) ?_
    refine J_istore_n (pc := 17) (lv' := [some (.ref 0), some (.int a), some (.int 0), none]) dX3_since_17 (Nat.le_of_ble_eq_true rfl) rfl rfl ?_
    refine J_iconst (pc := 18) (v := 0) dX3_since_18 (by decide) ?_
    refine J_istore_n (pc := 19) (lv' := [some (.ref 0), some (.int a), some (.int 0), some (.int 0)]) dX3_since_19 (Nat.le_of_ble_eq_true rfl) rfl rfl ?_
    exact J_mono (l_k_since (f := vowZ m) (Inv_v h) rfl 8 0 0 0 rfl rfl) (fun v μ' hh => Or.inr ⟨by omega, hh.1, hh.2⟩)
  · refine J_if_ne_F (pc := 6) 16 dX3_since_6 (by decide) (by decide) ?_
    refine J_aload_n (pc := 9) dX3_since_9 rfl ?_
    refine J_bipush (pc := 10) (v := (-2)) dX3_since_10 (by decide) ?_
    refine J_callVim (pc := 12) fC_X3_64 rfl dX3_since_12 (c_X3_refuse2) rfl ⟨Nat.le_of_ble_eq_true rfl, Nat.le_of_ble_eq_true rfl⟩ rfl (Nat.le_of_ble_eq_true rfl) (fun z12 μ12 d12 m12 => ?_)
    refine J_iret (pc := 15) dX3_since_15 rfl ?_
    subst_vars
    exact Or.inl ⟨by omega, rfl, rfl⟩
set_option maxRecDepth 100000 in
set_option maxHeartbeats 4000000 in
theorem n_since {N : Int} {c m : JM} (h : Inv N c m) (hN : 150 ≤ N ∧ N < 100000) {a : Int32}  : Con G shM mX4_since [.ref 0, .int a] m (fun v μ' => (¬(0 ≤ a.toInt ∧ a.toInt ≤ 4) ∧ v = some (.int (-2)) ∧ μ' = (jI m 4 0 (m.1 4 0 + 1))) ∨ ((0 ≤ a.toInt ∧ a.toInt ≤ 4) ∧ v = some (.int (sncI a.toInt (vowZ m) 8 0 0)) ∧ μ' = m)) := by
  obtain ⟨q0, q1, q2, q3, q4, q5, q6⟩ := Inv_q h
  obtain ⟨r0, r1, r2, r3, r4, r5, r6, r15, r40, r9⟩ := Inv_r h
  have hc := h.1
  have qt : (c.1 21 1).toInt = (m.1 0 9).toInt := by rw [h.2.2.2.2.1.1]
  have qs0 : (c.1 0 8).toInt = (m.1 4 0).toInt := by rw [h.2.2.2.2.2.2.1]
  have qs1 : (c.1 0 9).toInt = (m.1 4 1).toInt := by rw [h.2.2.2.2.2.2.2.1]
  have qs2 : (c.1 0 10).toInt = (m.1 4 2).toInt := by rw [h.2.2.2.2.2.2.2.2]
  refine Con_of [some (.ref 0), some (.int a), none, none] (by decide +kernel) (Nat.le_of_ble_eq_true rfl) (fun _ h => h) ?_
  refine J_iload_n (pc := 0) dX4_since_0 rfl ?_
  refine J_i2l (pc := 1) dX4_since_1 rfl ?_
  refine J_lconst (pc := 2) (v := 0) dX4_since_2 (by decide) ?_
  refine J_ldc2 (pc := 3) fK_X4_98 dX4_since_3 ?_
  refine J_callSc (pc := 6) fC_X4_58 dX4_since_6 (c_X4_in a.toInt 0 4 (i2l_z rfl) rfl rfl) rfl ⟨Nat.le_of_ble_eq_true rfl, Nat.le_of_ble_eq_true rfl⟩ rfl (Nat.le_of_ble_eq_true rfl) (fun h6 => ?_) (fun h6 => ?_)
  · refine J_if_ne_T (pc := 9) 19 dX4_since_9 (by decide) (by decide) ?_
    refine J_iconst (pc := 19) (v := 0) dX4_since_19 (by decide) ?_
    refine J_istore_n (pc := 20) (lv' := [some (.ref 0), some (.int a), some (.int 0), none]) dX4_since_20 (Nat.le_of_ble_eq_true rfl) rfl rfl ?_
    refine J_iconst (pc := 21) (v := 0) dX4_since_21 (by decide) ?_
    refine J_istore_n (pc := 22) (lv' := [some (.ref 0), some (.int a), some (.int 0), some (.int 0)]) dX4_since_22 (Nat.le_of_ble_eq_true rfl) rfl rfl ?_
    exact J_mono (l_n_since rfl 8 0 0 0 rfl rfl) (fun v μ' hh => Or.inr ⟨by omega, hh.1, hh.2⟩)
  · refine J_if_ne_F (pc := 9) 19 dX4_since_9 (by decide) (by decide) ?_
    refine J_aload_n (pc := 12) dX4_since_12 rfl ?_
    refine J_bipush (pc := 13) (v := (-2)) dX4_since_13 (by decide) ?_
    refine J_callVim (pc := 15) fC_X4_91 rfl dX4_since_15 (c_X4_no2) rfl ⟨Nat.le_of_ble_eq_true rfl, Nat.le_of_ble_eq_true rfl⟩ rfl (Nat.le_of_ble_eq_true rfl) (fun z15 μ15 d15 m15 => ?_)
    refine J_iret (pc := 18) dX4_since_18 rfl ?_
    subst_vars
    exact Or.inl ⟨by omega, rfl, rfl⟩
theorem pr_since {G : JG × JG} {N : Int} {c m : JM} (h : Inv N c m) (hN : 150 ≤ N ∧ N < 100000) {a : Int32} : Pair G N c m mX3_since mX4_since [.int a] := by
  refine ⟨_, _, k_since h hN, n_since h hN, fun v c' w m' hC hM => ?_⟩
  rcases hC with ⟨a1, a2, a3⟩ | ⟨a1, a2, a3⟩
  · rcases hM with ⟨b1, b2, b3⟩ | ⟨b1, b2, b3⟩
    · exact ⟨⟨by rw [a2, b2], _, a2⟩, by rw [a3, b3]; exact Inv_no (by omega) h 0 (by decide)⟩
    · exact absurd b1 a1
  · rcases hM with ⟨b1, b2, b3⟩ | ⟨b1, b2, b3⟩
    · exact absurd a1 b1
    · exact ⟨⟨by rw [a2, b2], _, a2⟩, by rw [a3, b3]; exact Inv_eq (by omega) h (eqC_rf _) (eqM_rf _)⟩
set_option maxRecDepth 100000 in
set_option maxHeartbeats 4000000 in
theorem l_k_cast {c : JM} {f : Nat → Int} (hv : ∀ j : Nat, j < 8 → (c.1 2 j).toInt = f j) {v : Int32} {v' : Int} (hvv : v.toInt = v')  : ∀ d : Nat, ∀ (fv cv : Int32), d ≤ 8 → fv.toInt = (d : Int) → cv.toInt = (d : Int) - 1 → J G shC mX3_cast 22 [some (.ref 0), some (.int v), some (.int fv), some (.int cv)] [] c (fun w μ' => IsZ w (if cstI v' f d = 8 then -1 else (cstI v' f d : Int)) ∧ μ' = c) := by
  intro d
  induction d with
  | zero =>
    intro fv cv hd hf hcv
    refine J_iload_n (pc := 22) dX3_cast_22 rfl ?_
    refine J_if_ltW (pc := 23) cv.toInt rfl 49 dX3_cast_23 (by decide) (fun h23 => ?_) (fun h23 => ?_)
    · refine J_iload_n (pc := 49) dX3_cast_49 rfl ?_
      refine J_bipush (pc := 50) (v := 8) dX3_cast_50 (by decide) ?_
      refine J_icmp_neW (pc := 52) fv.toInt 8 rfl rfl 59 dX3_cast_52 (by decide) (fun h52 => ?_) (fun h52 => ?_)
      · refine J_iload_n (pc := 59) dX3_cast_59 rfl ?_
        refine J_iret (pc := 60) dX3_cast_60 rfl ?_
        exact ⟨⟨_, rfl, by rw [show cstI v' f 0 = 0 from rfl]; omega⟩, rfl⟩
      · refine J_iconst (pc := 55) (v := (-1)) dX3_cast_55 (by decide) ?_
        refine J_goto (pc := 56) 60 dX3_cast_56 (by decide) ?_
        refine J_iret (pc := 60) dX3_cast_60 rfl ?_
        exact ⟨⟨_, rfl, by rw [show cstI v' f 0 = 0 from rfl]; omega⟩, rfl⟩
    · exfalso; omega
  | succ d ih =>
    intro fv cv hd hf hcv
    refine J_iload_n (pc := 22) dX3_cast_22 rfl ?_
    refine J_if_ltW (pc := 23) cv.toInt rfl 49 dX3_cast_23 (by decide) (fun h23 => ?_) (fun h23 => ?_)
    · exfalso; omega
    · refine J_aload_n (pc := 26) dX3_cast_26 rfl ?_
      refine J_getR (pc := 27) 1 fF_X3_12 rfl rfl dX3_cast_27 ?_
      refine J_getR (pc := 30) 2 fF_X3_87 rfl rfl dX3_cast_30 ?_
      refine J_iload_n (pc := 33) dX3_cast_33 rfl ?_
      refine J_callSe (pc := 34) fC_X3_91 dX3_cast_34 (c_X3_at rfl d (by omega) (by omega) (by omega)) rfl ⟨Nat.le_of_ble_eq_true rfl, Nat.le_of_ble_eq_true rfl⟩ rfl (Nat.le_of_ble_eq_true rfl) ?_
      refine J_iload_n (pc := 37) dX3_cast_37 rfl ?_
      refine J_icmp_ltW (pc := 38) (f d) v' (hv d (by omega)) hvv 49 dX3_cast_38 (by decide) (fun h38 => ?_) (fun h38 => ?_)
      · refine J_iload_n (pc := 49) dX3_cast_49 rfl ?_
        refine J_bipush (pc := 50) (v := 8) dX3_cast_50 (by decide) ?_
        refine J_icmp_neW (pc := 52) fv.toInt 8 rfl rfl 59 dX3_cast_52 (by decide) (fun h52 => ?_) (fun h52 => ?_)
        · refine J_iload_n (pc := 59) dX3_cast_59 rfl ?_
          refine J_iret (pc := 60) dX3_cast_60 rfl ?_
          exact ⟨⟨_, rfl, by rw [show cstI v' f (d + 1) = d + 1 from by rw [cstI]; exact if_neg (by omega)]; first | omega | (show (-1 : Int) = _; omega)⟩, rfl⟩
        · refine J_iconst (pc := 55) (v := (-1)) dX3_cast_55 (by decide) ?_
          refine J_goto (pc := 56) 60 dX3_cast_56 (by decide) ?_
          refine J_iret (pc := 60) dX3_cast_60 rfl ?_
          exact ⟨⟨_, rfl, by rw [show cstI v' f (d + 1) = d + 1 from by rw [cstI]; exact if_neg (by omega)]; first | omega | (show (-1 : Int) = _; omega)⟩, rfl⟩
      · refine J_iload_n (pc := 41) dX3_cast_41 rfl ?_
        refine J_istore_n (pc := 42) (lv' := [some (.ref 0), some (.int v), some (.int cv), some (.int cv)]) dX3_cast_42 (Nat.le_of_ble_eq_true rfl) rfl rfl ?_
        refine J_iincW' (pc := 43) cv.toInt rfl (lv' := fun iq_ => [some (.ref 0), some (.int v), some (.int cv), some (.int iq_)]) dX3_cast_43 rfl (by omega) (by decide) (Nat.le_of_ble_eq_true rfl) rfl (fun _ => rfl) (fun z43 e43 => ?_)
        refine J_goto (pc := 46) 22 dX3_cast_46 (by decide) ?_
        refine J_mono (ih cv z43 (by omega) (by omega) (by omega)) (fun w μ' hh => ⟨?_, hh.2⟩)
        rw [cstI, if_pos h38]
        exact hh.1
set_option maxRecDepth 100000 in
set_option maxHeartbeats 4000000 in
theorem l_n_cast {m : JM} {v : Int32} {v' : Int} (hvv : v.toInt = v')  : ∀ d : Nat, ∀ (fv : Int32), d ≤ 8 → fv.toInt = (d : Int) → J G shM mX4_cast 22 [some (.ref 0), some (.int v), some (.int fv)] [] m (fun w μ' => IsZ w (if cstI v' (vowZ m) d = 8 then -1 else (cstI v' (vowZ m) d : Int)) ∧ μ' = m) := by
  intro d
  induction d with
  | zero =>
    intro fv hd hf
    refine J_iload_n (pc := 22) dX4_cast_22 rfl ?_
    refine J_if_leW (pc := 23) fv.toInt rfl 47 dX4_cast_23 (by decide) (fun h23 => ?_) (fun h23 => ?_)
    · refine J_iload_n (pc := 47) dX4_cast_47 rfl ?_
      refine J_bipush (pc := 48) (v := 8) dX4_cast_48 (by decide) ?_
      refine J_icmp_geW (pc := 50) fv.toInt 8 rfl rfl 57 dX4_cast_50 (by decide) (fun h50 => ?_) (fun h50 => ?_)
      · refine J_iconst (pc := 57) (v := (-1)) dX4_cast_57 (by decide) ?_
        refine J_iret (pc := 58) dX4_cast_58 rfl ?_
        exact ⟨⟨_, rfl, by rw [show cstI v' (vowZ m) 0 = 0 from rfl]; omega⟩, rfl⟩
      · refine J_iload_n (pc := 53) dX4_cast_53 rfl ?_
        refine J_goto (pc := 54) 58 dX4_cast_54 (by decide) ?_
        refine J_iret (pc := 58) dX4_cast_58 rfl ?_
        exact ⟨⟨_, rfl, by rw [show cstI v' (vowZ m) 0 = 0 from rfl]; omega⟩, rfl⟩
    · exfalso; omega
  | succ d ih =>
    intro fv hd hf
    refine J_iload_n (pc := 22) dX4_cast_22 rfl ?_
    refine J_if_leW (pc := 23) fv.toInt rfl 47 dX4_cast_23 (by decide) (fun h23 => ?_) (fun h23 => ?_)
    · exfalso; omega
    · refine J_aload_n (pc := 26) dX4_cast_26 rfl ?_
      refine J_getR (pc := 27) 1 fF_X4_7 rfl rfl dX4_cast_27 ?_
      refine J_bipush (pc := 30) (v := 7) dX4_cast_30 (by decide) ?_
      refine J_iload_n (pc := 32) dX4_cast_32 rfl ?_
      refine J_iaddW (pc := 33) 7 fv.toInt rfl rfl dX4_cast_33 (by omega) (fun z33 e33 => ?_)
      refine J_iconst (pc := 34) (v := 1) dX4_cast_34 (by decide) ?_
      refine J_isubW (pc := 35) (7 + fv.toInt) 1 e33 rfl dX4_cast_35 (by omega) (fun z35 e35 => ?_)
      refine J_ialdW (pc := 36) (7 + d) (by omega) rfl (by omega) dX4_cast_36 ?_
      refine J_iload_n (pc := 37) dX4_cast_37 rfl ?_
      refine J_icmp_ltW (pc := 38) (vowZ m d) v' rfl hvv 47 dX4_cast_38 (by decide) (fun h38 => ?_) (fun h38 => ?_)
      · refine J_iload_n (pc := 47) dX4_cast_47 rfl ?_
        refine J_bipush (pc := 48) (v := 8) dX4_cast_48 (by decide) ?_
        refine J_icmp_geW (pc := 50) fv.toInt 8 rfl rfl 57 dX4_cast_50 (by decide) (fun h50 => ?_) (fun h50 => ?_)
        · refine J_iconst (pc := 57) (v := (-1)) dX4_cast_57 (by decide) ?_
          refine J_iret (pc := 58) dX4_cast_58 rfl ?_
          exact ⟨⟨_, rfl, by rw [show cstI v' (vowZ m) (d + 1) = d + 1 from by rw [cstI]; exact if_neg (by omega)]; first | omega | (show (-1 : Int) = _; omega)⟩, rfl⟩
        · refine J_iload_n (pc := 53) dX4_cast_53 rfl ?_
          refine J_goto (pc := 54) 58 dX4_cast_54 (by decide) ?_
          refine J_iret (pc := 58) dX4_cast_58 rfl ?_
          exact ⟨⟨_, rfl, by rw [show cstI v' (vowZ m) (d + 1) = d + 1 from by rw [cstI]; exact if_neg (by omega)]; first | omega | (show (-1 : Int) = _; omega)⟩, rfl⟩
      · refine J_iincW' (pc := 41) fv.toInt rfl (lv' := fun iq_ => [some (.ref 0), some (.int v), some (.int iq_)]) dX4_cast_41 rfl (by omega) (by decide) (Nat.le_of_ble_eq_true rfl) rfl (fun _ => rfl) (fun z41 e41 => ?_)
        refine J_goto (pc := 44) 22 dX4_cast_44 (by decide) ?_
        refine J_mono (ih z41 (by omega) (by omega)) (fun w μ' hh => ⟨?_, hh.2⟩)
        rw [cstI, if_pos h38]
        exact hh.1
set_option maxRecDepth 100000 in
set_option maxHeartbeats 4000000 in
theorem k_cast {N : Int} {c m : JM} (h : Inv N c m) (hN : 150 ≤ N ∧ N < 100000) {a : Int32}  : Con G shC mX3_cast [.ref 0, .int a] c (fun v μ' => (¬(0 ≤ a.toInt ∧ a.toInt ≤ 4) ∧ IsZ v (-2) ∧ μ' = (jI c 0 8 (c.1 0 8 + 1))) ∨ ((0 ≤ a.toInt ∧ a.toInt ≤ 4) ∧ IsZ v (if cstI a.toInt (vowZ m) 8 = 8 then -1 else (cstI a.toInt (vowZ m) 8 : Int)) ∧ μ' = c)) := by
  obtain ⟨q0, q1, q2, q3, q4, q5, q6⟩ := Inv_q h
  obtain ⟨r0, r1, r2, r3, r4, r5, r6, r15, r40, r9⟩ := Inv_r h
  have hc := h.1
  have qt : (c.1 21 1).toInt = (m.1 0 9).toInt := by rw [h.2.2.2.2.1.1]
  have qs0 : (c.1 0 8).toInt = (m.1 4 0).toInt := by rw [h.2.2.2.2.2.2.1]
  have qs1 : (c.1 0 9).toInt = (m.1 4 1).toInt := by rw [h.2.2.2.2.2.2.2.1]
  have qs2 : (c.1 0 10).toInt = (m.1 4 2).toInt := by rw [h.2.2.2.2.2.2.2.2]
  refine Con_of [some (.ref 0), some (.int a), none, none] (by decide +kernel) (Nat.le_of_ble_eq_true rfl) (fun _ h => h) ?_
  refine J_iload_n (pc := 0) dX3_cast_0 rfl ?_
  refine J_iconst (pc := 1) (v := 0) dX3_cast_1 (by decide) ?_
  refine J_iconst (pc := 2) (v := 4) dX3_cast_2 (by decide) ?_
  refine J_callSc (pc := 3) fC_X3_60 dX3_cast_3 (c_X3_within a.toInt 0 4 rfl rfl rfl) rfl ⟨Nat.le_of_ble_eq_true rfl, Nat.le_of_ble_eq_true rfl⟩ rfl (Nat.le_of_ble_eq_true rfl) (fun h3 => ?_) (fun h3 => ?_)
  · refine J_if_ne_T (pc := 6) 16 dX3_cast_6 (by decide) (by decide) ?_
    refine J_bipush (pc := 16) (v := 8) dX3_cast_16 (by decide) ?_
    refine J_istore_n (pc := 18) (lv' := [some (.ref 0), some (.int a), some (.int 8), none]) dX3_cast_18 (Nat.le_of_ble_eq_true rfl) rfl rfl ?_
    refine J_bipush (pc := 19) (v := 7) dX3_cast_19 (by decide) ?_
    refine J_istore_n (pc := 21) (lv' := [some (.ref 0), some (.int a), some (.int 8), some (.int 7)]) dX3_cast_21 (Nat.le_of_ble_eq_true rfl) rfl rfl ?_
    exact J_mono (l_k_cast (f := vowZ m) (Inv_v h) rfl 8 8 7 (by decide) rfl rfl) (fun v μ' hh => Or.inr ⟨by omega, hh.1, hh.2⟩)
  · refine J_if_ne_F (pc := 6) 16 dX3_cast_6 (by decide) (by decide) ?_
    refine J_aload_n (pc := 9) dX3_cast_9 rfl ?_
    refine J_bipush (pc := 10) (v := (-2)) dX3_cast_10 (by decide) ?_
    refine J_callVim (pc := 12) fC_X3_64 rfl dX3_cast_12 (c_X3_refuse2) rfl ⟨Nat.le_of_ble_eq_true rfl, Nat.le_of_ble_eq_true rfl⟩ rfl (Nat.le_of_ble_eq_true rfl) (fun z12 μ12 d12 m12 => ?_)
    refine J_iret (pc := 15) dX3_cast_15 rfl ?_
    subst_vars
    exact Or.inl ⟨by omega, ⟨_, rfl, rfl⟩, rfl⟩
set_option maxRecDepth 100000 in
set_option maxHeartbeats 4000000 in
theorem n_cast {N : Int} {c m : JM} (h : Inv N c m) (hN : 150 ≤ N ∧ N < 100000) {a : Int32}  : Con G shM mX4_cast [.ref 0, .int a] m (fun v μ' => (¬(0 ≤ a.toInt ∧ a.toInt ≤ 4) ∧ IsZ v (-2) ∧ μ' = (jI m 4 0 (m.1 4 0 + 1))) ∨ ((0 ≤ a.toInt ∧ a.toInt ≤ 4) ∧ IsZ v (if cstI a.toInt (vowZ m) 8 = 8 then -1 else (cstI a.toInt (vowZ m) 8 : Int)) ∧ eqM m μ')) := by
  obtain ⟨q0, q1, q2, q3, q4, q5, q6⟩ := Inv_q h
  obtain ⟨r0, r1, r2, r3, r4, r5, r6, r15, r40, r9⟩ := Inv_r h
  have hc := h.1
  have qt : (c.1 21 1).toInt = (m.1 0 9).toInt := by rw [h.2.2.2.2.1.1]
  have qs0 : (c.1 0 8).toInt = (m.1 4 0).toInt := by rw [h.2.2.2.2.2.2.1]
  have qs1 : (c.1 0 9).toInt = (m.1 4 1).toInt := by rw [h.2.2.2.2.2.2.2.1]
  have qs2 : (c.1 0 10).toInt = (m.1 4 2).toInt := by rw [h.2.2.2.2.2.2.2.2]
  refine Con_of [some (.ref 0), some (.int a), none] (by decide +kernel) (Nat.le_of_ble_eq_true rfl) (fun _ h => h) ?_
  refine J_iload_n (pc := 0) dX4_cast_0 rfl ?_
  refine J_i2l (pc := 1) dX4_cast_1 rfl ?_
  refine J_lconst (pc := 2) (v := 0) dX4_cast_2 (by decide) ?_
  refine J_ldc2 (pc := 3) fK_X4_98 dX4_cast_3 ?_
  refine J_callSc (pc := 6) fC_X4_58 dX4_cast_6 (c_X4_in a.toInt 0 4 (i2l_z rfl) rfl rfl) rfl ⟨Nat.le_of_ble_eq_true rfl, Nat.le_of_ble_eq_true rfl⟩ rfl (Nat.le_of_ble_eq_true rfl) (fun h6 => ?_) (fun h6 => ?_)
  · refine J_if_ne_T (pc := 9) 19 dX4_cast_9 (by decide) (by decide) ?_
    refine J_bipush (pc := 19) (v := 8) dX4_cast_19 (by decide) ?_
    refine J_istore_n (pc := 21) (lv' := [some (.ref 0), some (.int a), some (.int 8)]) dX4_cast_21 (Nat.le_of_ble_eq_true rfl) rfl rfl ?_
    exact J_mono (l_n_cast rfl 8 8 (by decide) rfl) (fun v μ' hh => Or.inr ⟨by omega, hh.1, by rw [hh.2]; exact eqM_rf m⟩)
  · refine J_if_ne_F (pc := 9) 19 dX4_cast_9 (by decide) (by decide) ?_
    refine J_aload_n (pc := 12) dX4_cast_12 rfl ?_
    refine J_bipush (pc := 13) (v := (-2)) dX4_cast_13 (by decide) ?_
    refine J_callVim (pc := 15) fC_X4_91 rfl dX4_cast_15 (c_X4_no2) rfl ⟨Nat.le_of_ble_eq_true rfl, Nat.le_of_ble_eq_true rfl⟩ rfl (Nat.le_of_ble_eq_true rfl) (fun z15 μ15 d15 m15 => ?_)
    refine J_iret (pc := 18) dX4_cast_18 rfl ?_
    subst_vars
    exact Or.inl ⟨by omega, ⟨_, rfl, rfl⟩, rfl⟩
theorem pr_cast {G : JG × JG} {N : Int} {c m : JM} (h : Inv N c m) (hN : 150 ≤ N ∧ N < 100000) {a : Int32} : Pair G N c m mX3_cast mX4_cast [.int a] := by
  refine ⟨_, _, k_cast h hN, n_cast h hN, fun v c' w m' hC hM => ?_⟩
  rcases hC with ⟨a1, a2, a3⟩ | ⟨a1, a2, a3⟩
  · rcases hM with ⟨b1, b2, b3⟩ | ⟨b1, b2, b3⟩
    · exact ⟨IsZ_eq a2 b2, by rw [a3, b3]; exact Inv_no (by omega) h 0 (by decide)⟩
    · exact absurd b1 a1
  · rcases hM with ⟨b1, b2, b3⟩ | ⟨b1, b2, b3⟩
    · exact absurd a1 b1
    · exact ⟨IsZ_eq a2 b2, by rw [a3]; exact Inv_eq (by omega) h (eqC_rf _) b3⟩

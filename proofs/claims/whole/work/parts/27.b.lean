/-! ===== public methods: bound, vow, type, clear, moves, status, count, part, forget ===== -/
theorem jrep_low {c c' : JM} {b : Nat} {f f' : Nat → Int32} (hj : jrep c b f) (hr : ∀ o, b + 1 ≤ o → o ≤ b + 4 → c'.1 o = c.1 o) (h5 : c'.1 b 5 = c.1 b 5) (h6 : c'.1 b 6 = c.1 b 6) (hf : ∀ j, 7 ≤ j → f' j = f j) (e0 : c'.1 b 0 = f' 0) (e1 : c'.1 b 1 = f' 3) (e2 : c'.1 b 2 = f' 4) (e3 : (c'.1 b 3).toInt = mZ (f' 1).toInt (f' 2).toInt (f' 6).toInt) (e4 : c'.1 b 4 = f' 5) : jrep c' b f' := by
  obtain ⟨-, -, -, -, -, j5, j6, j7, j8, j9⟩ := hj
  refine ⟨e0, e1, e2, e3, e4, by rw [h5, j5, hf _ (by omega)], by rw [h6, j6, hf _ (by omega)], fun j hj => ?_, fun j hj => ?_, fun j hj => ?_⟩
  · rw [hr _ (by omega) (by omega), hf _ (by omega)]; exact j7 j hj
  · rw [hf _ (by omega)] at hj
    rw [hr _ (by omega) (by omega), hf _ (by omega)]; exact j8 j hj
  · rw [hf _ (by omega)] at hj
    rw [hr _ (by omega) (by omega), hr _ (by omega) (by omega), hf _ (by omega), hf _ (by omega), hf _ (by omega), hf _ (by omega)]; exact j9 j hj
theorem wfF_low {N : Int} {f f' : Nat → Int32} (hw : wfF N f) (hf : ∀ j, 7 ≤ j → f' j = f j) (h0 : 0 ≤ (f' 0).toInt ∧ (f' 0).toInt ≤ 5) (h1 : 0 ≤ (f' 1).toInt ∧ (f' 1).toInt ≤ 99) (h2 : 0 ≤ (f' 2).toInt ∧ (f' 2).toInt ≤ 99) (h3 : 1 ≤ (f' 3).toInt ∧ (f' 3).toInt ≤ 99) (h4 : 1 ≤ (f' 4).toInt ∧ (f' 4).toInt ≤ 99) (h5 : 0 ≤ (f' 5).toInt ∧ (f' 5).toInt ≤ N) (h6 : 0 ≤ (f' 6).toInt ∧ (f' 6).toInt ≤ 2) : wfF N f' := by
  obtain ⟨-, -, -, -, -, -, -, h7, h8, h9, ha, hb⟩ := hw
  refine ⟨h0, h1, h2, h3, h4, h5, h6, fun j hj => by rw [hf _ (by omega)]; exact h7 j hj, by rw [hf _ (by omega)]; exact h8, by rw [hf _ (by omega)]; exact h9, fun j hj => ?_, fun j hj => ?_⟩
  · rw [hf _ (by omega)] at hj
    rw [hf _ (by omega), hf _ (by omega)]; exact ha j hj
  · rw [hf _ (by omega)] at hj
    rw [hf _ (by omega), hf _ (by omega), hf _ (by omega), hf _ (by omega)]; exact hb j hj
variable {G : JG}
set_option maxRecDepth 100000 in
set_option maxHeartbeats 4000000 in
theorem k_bound {N : Int} {c m : JM} (h : Inv N c m) (hN : 150 ≤ N ∧ N < 100000) {a b : Int32}  : Con G shC mX3_bound [.ref 0, .int a, .int b] c (fun v μ' => ((¬(1 ≤ a.toInt ∧ a.toInt ≤ 99 ∧ 1 ≤ b.toInt ∧ b.toInt ≤ 99)) ∧ IsZ v (-2) ∧ μ' = (jI c 0 8 (c.1 0 8 + 1))) ∨ (((1 ≤ a.toInt ∧ a.toInt ≤ 99 ∧ 1 ≤ b.toInt ∧ b.toInt ≤ 99) ∧ a.toInt ≤ (m.1 1 1).toInt) ∧ IsZ v (-3) ∧ μ' = (jI c 0 9 (c.1 0 9 + 1))) ∨ (((1 ≤ a.toInt ∧ a.toInt ≤ 99 ∧ 1 ≤ b.toInt ∧ b.toInt ≤ 99) ∧ (m.1 1 1).toInt < a.toInt) ∧ IsZ v (1) ∧ μ' = jI (jI c 1 1 a) 1 2 b)) := by
  obtain ⟨q0, q1, q2, q3, q4, q5, q6⟩ := Inv_q h
  obtain ⟨r0, r1, r2, r3, r4, r5, r6, r15, r40, r9⟩ := Inv_r h
  have hc := h.1
  have qt : (c.1 21 1).toInt = (m.1 0 9).toInt := by rw [h.2.2.2.2.1.1]
  have qs0 : (c.1 0 8).toInt = (m.1 4 0).toInt := by rw [h.2.2.2.2.2.2.1]
  have qs1 : (c.1 0 9).toInt = (m.1 4 1).toInt := by rw [h.2.2.2.2.2.2.2.1]
  have qs2 : (c.1 0 10).toInt = (m.1 4 2).toInt := by rw [h.2.2.2.2.2.2.2.2]
  refine Con_of [some (.ref 0), some (.int a), some (.int b)] (by decide +kernel) (Nat.le_of_ble_eq_true rfl) (fun _ h => h) ?_
  refine J_iload_n (pc := 0) dX3_bound_0 rfl ?_
  refine J_iconst (pc := 1) (v := 1) dX3_bound_1 (by decide) ?_
  refine J_bipush (pc := 2) (v := 99) dX3_bound_2 (by decide) ?_
  refine J_callSc (pc := 4) fC_X3_60 dX3_bound_4 (c_X3_within a.toInt 1 99 rfl rfl rfl) rfl ⟨Nat.le_of_ble_eq_true rfl, Nat.le_of_ble_eq_true rfl⟩ rfl (Nat.le_of_ble_eq_true rfl) (fun h4 => ?_) (fun h4 => ?_)
  · refine J_if_eq_F (pc := 7) 20 dX3_bound_7 (by decide) (by decide) ?_
    refine J_iload_n (pc := 10) dX3_bound_10 rfl ?_
    refine J_iconst (pc := 11) (v := 1) dX3_bound_11 (by decide) ?_
    refine J_bipush (pc := 12) (v := 99) dX3_bound_12 (by decide) ?_
    refine J_callSc (pc := 14) fC_X3_60 dX3_bound_14 (c_X3_within b.toInt 1 99 rfl rfl rfl) rfl ⟨Nat.le_of_ble_eq_true rfl, Nat.le_of_ble_eq_true rfl⟩ rfl (Nat.le_of_ble_eq_true rfl) (fun h14 => ?_) (fun h14 => ?_)
    · refine J_if_ne_T (pc := 17) 27 dX3_bound_17 (by decide) (by decide) ?_
      refine J_aload_n (pc := 27) dX3_bound_27 rfl ?_
      refine J_getR (pc := 28) 1 fF_X3_12 rfl rfl dX3_bound_28 ?_
      refine J_getI (pc := 31) fF_X3_78 rfl rfl dX3_bound_31 ?_
      refine J_callSz (pc := 34) fC_X3_81 dX3_bound_34 (c_X3_angerOf ((m.1 1 6).toInt * 10000 + (m.1 1 1).toInt * 100 + (m.1 1 2).toInt) q3 (by omega)) rfl ⟨Nat.le_of_ble_eq_true rfl, Nat.le_of_ble_eq_true rfl⟩ rfl (Nat.le_of_ble_eq_true rfl) (fun z34 e34 => ?_)
      refine J_iload_n (pc := 37) dX3_bound_37 rfl ?_
      refine J_icmp_ltW (pc := 38) (((m.1 1 6).toInt * 10000 + (m.1 1 1).toInt * 100 + (m.1 1 2).toInt) % 10000 / 100) a.toInt e34 rfl 48 dX3_bound_38 (by decide) (fun h38 => ?_) (fun h38 => ?_)
      · refine J_aload_n (pc := 48) dX3_bound_48 rfl ?_
        refine J_getR (pc := 49) 1 fF_X3_12 rfl rfl dX3_bound_49 ?_
        refine J_iload_n (pc := 52) dX3_bound_52 rfl ?_
        refine J_putIW (pc := 53) fF_X3_71 rfl rfl dX3_bound_53 (fun μ53 m53 => ?_)
        refine J_aload_n (pc := 56) dX3_bound_56 rfl ?_
        refine J_getR (pc := 57) 1 fF_X3_12 rfl rfl dX3_bound_57 ?_
        refine J_iload_n (pc := 60) dX3_bound_60 rfl ?_
        refine J_putIW (pc := 61) fF_X3_84 rfl rfl dX3_bound_61 (fun μ61 m61 => ?_)
        refine J_iconst (pc := 64) (v := 1) dX3_bound_64 (by decide) ?_
        refine J_iret (pc := 65) dX3_bound_65 rfl ?_
        subst_vars
        first
          | exact Or.inl ⟨by omega, ⟨_, rfl, by first | rfl | omega⟩, by first | rfl | omega⟩
          | exact Or.inr (Or.inl ⟨by omega, ⟨_, rfl, by first | rfl | omega⟩, by first | rfl | omega⟩)
          | exact Or.inr (Or.inr (⟨by omega, ⟨_, rfl, by first | rfl | omega⟩, by first | rfl | omega⟩))
      · refine J_aload_n (pc := 41) dX3_bound_41 rfl ?_
        refine J_bipush (pc := 42) (v := (-3)) dX3_bound_42 (by decide) ?_
        refine J_callVim (pc := 44) fC_X3_64 rfl dX3_bound_44 (c_X3_refuse3) rfl ⟨Nat.le_of_ble_eq_true rfl, Nat.le_of_ble_eq_true rfl⟩ rfl (Nat.le_of_ble_eq_true rfl) (fun z44 μ44 d44 m44 => ?_)
        refine J_iret (pc := 47) dX3_bound_47 rfl ?_
        subst_vars
        first
          | exact Or.inl ⟨by omega, ⟨_, rfl, by first | rfl | omega⟩, by first | rfl | omega⟩
          | exact Or.inr (Or.inl ⟨by omega, ⟨_, rfl, by first | rfl | omega⟩, by first | rfl | omega⟩)
          | exact Or.inr (Or.inr (⟨by omega, ⟨_, rfl, by first | rfl | omega⟩, by first | rfl | omega⟩))
    · refine J_if_ne_F (pc := 17) 27 dX3_bound_17 (by decide) (by decide) ?_
      refine J_aload_n (pc := 20) dX3_bound_20 rfl ?_
      refine J_bipush (pc := 21) (v := (-2)) dX3_bound_21 (by decide) ?_
      refine J_callVim (pc := 23) fC_X3_64 rfl dX3_bound_23 (c_X3_refuse2) rfl ⟨Nat.le_of_ble_eq_true rfl, Nat.le_of_ble_eq_true rfl⟩ rfl (Nat.le_of_ble_eq_true rfl) (fun z23 μ23 d23 m23 => ?_)
      refine J_iret (pc := 26) dX3_bound_26 rfl ?_
      subst_vars
      first
        | exact Or.inl ⟨by omega, ⟨_, rfl, by first | rfl | omega⟩, by first | rfl | omega⟩
        | exact Or.inr (Or.inl ⟨by omega, ⟨_, rfl, by first | rfl | omega⟩, by first | rfl | omega⟩)
        | exact Or.inr (Or.inr (⟨by omega, ⟨_, rfl, by first | rfl | omega⟩, by first | rfl | omega⟩))
  · refine J_if_eq_T (pc := 7) 20 dX3_bound_7 (by decide) (by decide) ?_
    refine J_aload_n (pc := 20) dX3_bound_20 rfl ?_
    refine J_bipush (pc := 21) (v := (-2)) dX3_bound_21 (by decide) ?_
    refine J_callVim (pc := 23) fC_X3_64 rfl dX3_bound_23 (c_X3_refuse2) rfl ⟨Nat.le_of_ble_eq_true rfl, Nat.le_of_ble_eq_true rfl⟩ rfl (Nat.le_of_ble_eq_true rfl) (fun z23 μ23 d23 m23 => ?_)
    refine J_iret (pc := 26) dX3_bound_26 rfl ?_
    subst_vars
    first
      | exact Or.inl ⟨by omega, ⟨_, rfl, by first | rfl | omega⟩, by first | rfl | omega⟩
      | exact Or.inr (Or.inl ⟨by omega, ⟨_, rfl, by first | rfl | omega⟩, by first | rfl | omega⟩)
      | exact Or.inr (Or.inr (⟨by omega, ⟨_, rfl, by first | rfl | omega⟩, by first | rfl | omega⟩))
set_option maxRecDepth 100000 in
set_option maxHeartbeats 4000000 in
theorem n_bound {N : Int} {c m : JM} (h : Inv N c m) (hN : 150 ≤ N ∧ N < 100000) {a b : Int32}  : Con G shM mX4_bound [.ref 0, .int a, .int b] m (fun v μ' => ((¬(1 ≤ a.toInt ∧ a.toInt ≤ 99 ∧ 1 ≤ b.toInt ∧ b.toInt ≤ 99)) ∧ IsZ v (-2) ∧ μ' = (jI m 4 0 (m.1 4 0 + 1))) ∨ (((1 ≤ a.toInt ∧ a.toInt ≤ 99 ∧ 1 ≤ b.toInt ∧ b.toInt ≤ 99) ∧ a.toInt ≤ (m.1 1 1).toInt) ∧ IsZ v (-3) ∧ μ' = (jI m 4 1 (m.1 4 1 + 1))) ∨ (((1 ≤ a.toInt ∧ a.toInt ≤ 99 ∧ 1 ≤ b.toInt ∧ b.toInt ≤ 99) ∧ (m.1 1 1).toInt < a.toInt) ∧ IsZ v (1) ∧ μ' = jC m 1 (upd (upd (m.1 1) 3 a) 4 b))) := by
  obtain ⟨q0, q1, q2, q3, q4, q5, q6⟩ := Inv_q h
  obtain ⟨r0, r1, r2, r3, r4, r5, r6, r15, r40, r9⟩ := Inv_r h
  have hc := h.1
  have qt : (c.1 21 1).toInt = (m.1 0 9).toInt := by rw [h.2.2.2.2.1.1]
  have qs0 : (c.1 0 8).toInt = (m.1 4 0).toInt := by rw [h.2.2.2.2.2.2.1]
  have qs1 : (c.1 0 9).toInt = (m.1 4 1).toInt := by rw [h.2.2.2.2.2.2.2.1]
  have qs2 : (c.1 0 10).toInt = (m.1 4 2).toInt := by rw [h.2.2.2.2.2.2.2.2]
  refine Con_of [some (.ref 0), some (.int a), some (.int b)] (by decide +kernel) (Nat.le_of_ble_eq_true rfl) (fun _ h => h) ?_
  refine J_iload_n (pc := 0) dX4_bound_0 rfl ?_
  refine J_i2l (pc := 1) dX4_bound_1 rfl ?_
  refine J_lconst (pc := 2) (v := 1) dX4_bound_2 (by decide) ?_
  refine J_ldc2 (pc := 3) fK_X4_94 dX4_bound_3 ?_
  refine J_callSc (pc := 6) fC_X4_58 dX4_bound_6 (c_X4_in a.toInt 1 99 (i2l_z rfl) rfl rfl) rfl ⟨Nat.le_of_ble_eq_true rfl, Nat.le_of_ble_eq_true rfl⟩ rfl (Nat.le_of_ble_eq_true rfl) (fun h6 => ?_) (fun h6 => ?_)
  · refine J_if_eq_F (pc := 9) 24 dX4_bound_9 (by decide) (by decide) ?_
    refine J_iload_n (pc := 12) dX4_bound_12 rfl ?_
    refine J_i2l (pc := 13) dX4_bound_13 rfl ?_
    refine J_lconst (pc := 14) (v := 1) dX4_bound_14 (by decide) ?_
    refine J_ldc2 (pc := 15) fK_X4_94 dX4_bound_15 ?_
    refine J_callSc (pc := 18) fC_X4_58 dX4_bound_18 (c_X4_in b.toInt 1 99 (i2l_z rfl) rfl rfl) rfl ⟨Nat.le_of_ble_eq_true rfl, Nat.le_of_ble_eq_true rfl⟩ rfl (Nat.le_of_ble_eq_true rfl) (fun h18 => ?_) (fun h18 => ?_)
    · refine J_if_ne_T (pc := 21) 31 dX4_bound_21 (by decide) (by decide) ?_
      refine J_aload_n (pc := 31) dX4_bound_31 rfl ?_
      refine J_getR (pc := 32) 1 fF_X4_7 rfl rfl dX4_bound_32 ?_
      refine J_iconst (pc := 35) (v := 1) dX4_bound_35 (by decide) ?_
      refine J_ialdW (pc := 36) 1 (rfl) rfl (by decide) dX4_bound_36 ?_
      refine J_iload_n (pc := 37) dX4_bound_37 rfl ?_
      refine J_icmp_ltW (pc := 38) ((m.1 1 1).toInt) a.toInt rfl rfl 48 dX4_bound_38 (by decide) (fun h38 => ?_) (fun h38 => ?_)
      · refine J_aload_n (pc := 48) dX4_bound_48 rfl ?_
        refine J_getR (pc := 49) 1 fF_X4_7 rfl rfl dX4_bound_49 ?_
        refine J_iconst (pc := 52) (v := 3) dX4_bound_52 (by decide) ?_
        refine J_iload_n (pc := 53) dX4_bound_53 rfl ?_
        refine J_iastW (pc := 54) 3 (rfl) rfl (by decide) dX4_bound_54 (fun μ54 m54 => ?_)
        refine J_aload_n (pc := 55) dX4_bound_55 rfl ?_
        refine J_getR (pc := 56) 1 fF_X4_7 rfl rfl dX4_bound_56 ?_
        refine J_iconst (pc := 59) (v := 4) dX4_bound_59 (by decide) ?_
        refine J_iload_n (pc := 60) dX4_bound_60 rfl ?_
        refine J_iastW (pc := 61) 4 (rfl) rfl (by decide) dX4_bound_61 (fun μ61 m61 => ?_)
        refine J_iconst (pc := 62) (v := 1) dX4_bound_62 (by decide) ?_
        refine J_iret (pc := 63) dX4_bound_63 rfl ?_
        subst_vars
        first
          | exact Or.inl ⟨by omega, ⟨_, rfl, by first | rfl | omega⟩, by first | rfl | (simp only [jI_row, jC_jC, jC_at])⟩
          | exact Or.inr (Or.inl ⟨by omega, ⟨_, rfl, by first | rfl | omega⟩, by first | rfl | (simp only [jI_row, jC_jC, jC_at])⟩)
          | exact Or.inr (Or.inr (⟨by omega, ⟨_, rfl, by first | rfl | omega⟩, by first | rfl | (simp only [jI_row, jC_jC, jC_at])⟩))
      · refine J_aload_n (pc := 41) dX4_bound_41 rfl ?_
        refine J_bipush (pc := 42) (v := (-3)) dX4_bound_42 (by decide) ?_
        refine J_callVim (pc := 44) fC_X4_91 rfl dX4_bound_44 (c_X4_no3) rfl ⟨Nat.le_of_ble_eq_true rfl, Nat.le_of_ble_eq_true rfl⟩ rfl (Nat.le_of_ble_eq_true rfl) (fun z44 μ44 d44 m44 => ?_)
        refine J_iret (pc := 47) dX4_bound_47 rfl ?_
        subst_vars
        first
          | exact Or.inl ⟨by omega, ⟨_, rfl, by first | rfl | omega⟩, by first | rfl | (simp only [jI_row, jC_jC, jC_at])⟩
          | exact Or.inr (Or.inl ⟨by omega, ⟨_, rfl, by first | rfl | omega⟩, by first | rfl | (simp only [jI_row, jC_jC, jC_at])⟩)
          | exact Or.inr (Or.inr (⟨by omega, ⟨_, rfl, by first | rfl | omega⟩, by first | rfl | (simp only [jI_row, jC_jC, jC_at])⟩))
    · refine J_if_ne_F (pc := 21) 31 dX4_bound_21 (by decide) (by decide) ?_
      refine J_aload_n (pc := 24) dX4_bound_24 rfl ?_
      refine J_bipush (pc := 25) (v := (-2)) dX4_bound_25 (by decide) ?_
      refine J_callVim (pc := 27) fC_X4_91 rfl dX4_bound_27 (c_X4_no2) rfl ⟨Nat.le_of_ble_eq_true rfl, Nat.le_of_ble_eq_true rfl⟩ rfl (Nat.le_of_ble_eq_true rfl) (fun z27 μ27 d27 m27 => ?_)
      refine J_iret (pc := 30) dX4_bound_30 rfl ?_
      subst_vars
      first
        | exact Or.inl ⟨by omega, ⟨_, rfl, by first | rfl | omega⟩, by first | rfl | (simp only [jI_row, jC_jC, jC_at])⟩
        | exact Or.inr (Or.inl ⟨by omega, ⟨_, rfl, by first | rfl | omega⟩, by first | rfl | (simp only [jI_row, jC_jC, jC_at])⟩)
        | exact Or.inr (Or.inr (⟨by omega, ⟨_, rfl, by first | rfl | omega⟩, by first | rfl | (simp only [jI_row, jC_jC, jC_at])⟩))
  · refine J_if_eq_T (pc := 9) 24 dX4_bound_9 (by decide) (by decide) ?_
    refine J_aload_n (pc := 24) dX4_bound_24 rfl ?_
    refine J_bipush (pc := 25) (v := (-2)) dX4_bound_25 (by decide) ?_
    refine J_callVim (pc := 27) fC_X4_91 rfl dX4_bound_27 (c_X4_no2) rfl ⟨Nat.le_of_ble_eq_true rfl, Nat.le_of_ble_eq_true rfl⟩ rfl (Nat.le_of_ble_eq_true rfl) (fun z27 μ27 d27 m27 => ?_)
    refine J_iret (pc := 30) dX4_bound_30 rfl ?_
    subst_vars
    first
      | exact Or.inl ⟨by omega, ⟨_, rfl, by first | rfl | omega⟩, by first | rfl | (simp only [jI_row, jC_jC, jC_at])⟩
      | exact Or.inr (Or.inl ⟨by omega, ⟨_, rfl, by first | rfl | omega⟩, by first | rfl | (simp only [jI_row, jC_jC, jC_at])⟩)
      | exact Or.inr (Or.inr (⟨by omega, ⟨_, rfl, by first | rfl | omega⟩, by first | rfl | (simp only [jI_row, jC_jC, jC_at])⟩))
theorem pr_bound {G : JG × JG} {N : Int} {c m : JM} (h : Inv N c m) (hN : 150 ≤ N ∧ N < 100000) {a b : Int32} : Pair G N c m mX3_bound mX4_bound [.int a, .int b] := by
  refine ⟨_, _, k_bound h hN, n_bound h hN, fun v c' w m' hC hM => ?_⟩
  obtain ⟨q0, q1, q2, q3, q4, q5, q6⟩ := Inv_q h
  obtain ⟨r0, r1, r2, r3, r4, r5, r6, r15, r40, r9⟩ := Inv_r h
  have hc := h.1
  have qt : (c.1 21 1).toInt = (m.1 0 9).toInt := by rw [h.2.2.2.2.1.1]
  have qs0 : (c.1 0 8).toInt = (m.1 4 0).toInt := by rw [h.2.2.2.2.2.2.1]
  have qs1 : (c.1 0 9).toInt = (m.1 4 1).toInt := by rw [h.2.2.2.2.2.2.2.1]
  have qs2 : (c.1 0 10).toInt = (m.1 4 2).toInt := by rw [h.2.2.2.2.2.2.2.2]
  rcases hC with ⟨a1, a2, a3⟩ | ⟨a1, a2, a3⟩ | ⟨a1, a2, a3⟩
  · rcases hM with ⟨b1, b2, b3⟩ | ⟨b1, b2, b3⟩ | ⟨b1, b2, b3⟩
    · exact ⟨IsZ_eq a2 b2, by rw [a3, b3]; exact Inv_no (by omega) h 0 (by decide)⟩
    · exfalso; omega
    · exfalso; omega
  · rcases hM with ⟨b1, b2, b3⟩ | ⟨b1, b2, b3⟩ | ⟨b1, b2, b3⟩
    · exfalso; omega
    · exact ⟨IsZ_eq a2 b2, by rw [a3, b3]; exact Inv_no (by omega) h 1 (by decide)⟩
    · exfalso; omega
  · rcases hM with ⟨b1, b2, b3⟩ | ⟨b1, b2, b3⟩ | ⟨b1, b2, b3⟩
    · exfalso; omega
    · exfalso; omega
    · refine ⟨IsZ_eq a2 b2, ?_⟩
      rw [a3, b3]
      refine Inv_row (f := upd (upd (m.1 1) 3 a) 4 b) (by omega) h (fun o ho => by rw [jI_ne (by omega), jI_ne (by omega)]) (by rw [jI_ne (by omega), jI_ne (by omega)]) rfl (eqM_rf _) ?_ ?_
      · obtain ⟨j0, j1, j2, j3, j4, -⟩ := h.2.2.1
        exact jrep_low h.2.2.1 (fun o h1 h2 => by rw [jI_ne (by omega), jI_ne (by omega)]) rfl rfl (fun j hj => by simp only [upd]; rw [if_neg (by omega), if_neg (by omega)]) j0 rfl rfl j3 j4
      · exact wfF_low (wfF_mono (by omega) h.2.1) (fun j hj => by simp only [upd]; rw [if_neg (by omega), if_neg (by omega)]) r0 r1 r2 (by show 1 ≤ a.toInt ∧ a.toInt ≤ 99; omega) (by show 1 ≤ b.toInt ∧ b.toInt ≤ 99; omega) ⟨r5.1, by show (m.1 1 5).toInt ≤ _; omega⟩ r6
set_option maxRecDepth 100000 in
set_option maxHeartbeats 4000000 in
theorem k_vow {N : Int} {c m : JM} (h : Inv N c m) (hN : 150 ≤ N ∧ N < 100000) {a b : Int32}  : Con G shC mX3_vow [.ref 0, .int a, .int b] c (fun v μ' => ((¬(0 ≤ a.toInt ∧ a.toInt ≤ 7 ∧ 0 ≤ b.toInt ∧ b.toInt ≤ 4)) ∧ IsZ v (-2) ∧ μ' = (jI c 0 8 (c.1 0 8 + 1))) ∨ ((0 ≤ a.toInt ∧ a.toInt ≤ 7 ∧ 0 ≤ b.toInt ∧ b.toInt ≤ 4) ∧ IsZ v ((c.1 2 a.toInt.toNat).toInt) ∧ μ' = jI c 2 a.toInt.toNat b)) := by
  obtain ⟨q0, q1, q2, q3, q4, q5, q6⟩ := Inv_q h
  obtain ⟨r0, r1, r2, r3, r4, r5, r6, r15, r40, r9⟩ := Inv_r h
  have hc := h.1
  have qt : (c.1 21 1).toInt = (m.1 0 9).toInt := by rw [h.2.2.2.2.1.1]
  have qs0 : (c.1 0 8).toInt = (m.1 4 0).toInt := by rw [h.2.2.2.2.2.2.1]
  have qs1 : (c.1 0 9).toInt = (m.1 4 1).toInt := by rw [h.2.2.2.2.2.2.2.1]
  have qs2 : (c.1 0 10).toInt = (m.1 4 2).toInt := by rw [h.2.2.2.2.2.2.2.2]
  refine Con_of [some (.ref 0), some (.int a), some (.int b), none] (by decide +kernel) (Nat.le_of_ble_eq_true rfl) (fun _ h => h) ?_
  refine J_iload_n (pc := 0) dX3_vow_0 rfl ?_
  refine J_iconst (pc := 1) (v := 0) dX3_vow_1 (by decide) ?_
  refine J_bipush (pc := 2) (v := 7) dX3_vow_2 (by decide) ?_
  refine J_callSc (pc := 4) fC_X3_60 dX3_vow_4 (c_X3_within a.toInt 0 7 rfl rfl rfl) rfl ⟨Nat.le_of_ble_eq_true rfl, Nat.le_of_ble_eq_true rfl⟩ rfl (Nat.le_of_ble_eq_true rfl) (fun h4 => ?_) (fun h4 => ?_)
  · refine J_if_eq_F (pc := 7) 19 dX3_vow_7 (by decide) (by decide) ?_
    refine J_iload_n (pc := 10) dX3_vow_10 rfl ?_
    refine J_iconst (pc := 11) (v := 0) dX3_vow_11 (by decide) ?_
    refine J_iconst (pc := 12) (v := 4) dX3_vow_12 (by decide) ?_
    refine J_callSc (pc := 13) fC_X3_60 dX3_vow_13 (c_X3_within b.toInt 0 4 rfl rfl rfl) rfl ⟨Nat.le_of_ble_eq_true rfl, Nat.le_of_ble_eq_true rfl⟩ rfl (Nat.le_of_ble_eq_true rfl) (fun h13 => ?_) (fun h13 => ?_)
    · refine J_if_ne_T (pc := 16) 26 dX3_vow_16 (by decide) (by decide) ?_
      refine J_aload_n (pc := 26) dX3_vow_26 rfl ?_
      refine J_getR (pc := 27) 1 fF_X3_12 rfl rfl dX3_vow_27 ?_
      refine J_getR (pc := 30) 2 fF_X3_87 rfl rfl dX3_vow_30 ?_
      refine J_iload_n (pc := 33) dX3_vow_33 rfl ?_
      refine J_callSe (pc := 34) fC_X3_91 dX3_vow_34 (c_X3_at rfl a.toInt.toNat (by omega) (by omega) (by omega)) rfl ⟨Nat.le_of_ble_eq_true rfl, Nat.le_of_ble_eq_true rfl⟩ rfl (Nat.le_of_ble_eq_true rfl) ?_
      refine J_istore_n (pc := 37) (lv' := [some (.ref 0), some (.int a), some (.int b), some (.int (c.1 2 a.toInt.toNat))]) dX3_vow_37 (Nat.le_of_ble_eq_true rfl) rfl rfl ?_
      refine J_aload_n (pc := 38) dX3_vow_38 rfl ?_
      refine J_getR (pc := 39) 1 fF_X3_12 rfl rfl dX3_vow_39 ?_
      refine J_getR (pc := 42) 2 fF_X3_87 rfl rfl dX3_vow_42 ?_
      refine J_iload_n (pc := 45) dX3_vow_45 rfl ?_
      refine J_iload_n (pc := 46) dX3_vow_46 rfl ?_
      refine J_callSv (pc := 47) fC_X3_95 dX3_vow_47 (c_X3_put rfl a.toInt.toNat (by omega) (by omega) (by omega)) rfl ⟨Nat.le_of_ble_eq_true rfl, Nat.le_of_ble_eq_true rfl⟩ rfl (Nat.le_of_ble_eq_true rfl) (fun μ47 m47 => ?_)
      refine J_iload_n (pc := 50) dX3_vow_50 rfl ?_
      refine J_iret (pc := 51) dX3_vow_51 rfl ?_
      subst_vars
      first
        | exact Or.inl ⟨by omega, ⟨_, rfl, by first | rfl | omega⟩, by first | rfl | omega⟩
        | exact Or.inr (⟨by omega, ⟨_, rfl, by first | rfl | omega⟩, by first | rfl | omega⟩)
    · refine J_if_ne_F (pc := 16) 26 dX3_vow_16 (by decide) (by decide) ?_
      refine J_aload_n (pc := 19) dX3_vow_19 rfl ?_
      refine J_bipush (pc := 20) (v := (-2)) dX3_vow_20 (by decide) ?_
      refine J_callVim (pc := 22) fC_X3_64 rfl dX3_vow_22 (c_X3_refuse2) rfl ⟨Nat.le_of_ble_eq_true rfl, Nat.le_of_ble_eq_true rfl⟩ rfl (Nat.le_of_ble_eq_true rfl) (fun z22 μ22 d22 m22 => ?_)
      refine J_iret (pc := 25) dX3_vow_25 rfl ?_
      subst_vars
      first
        | exact Or.inl ⟨by omega, ⟨_, rfl, by first | rfl | omega⟩, by first | rfl | omega⟩
        | exact Or.inr (⟨by omega, ⟨_, rfl, by first | rfl | omega⟩, by first | rfl | omega⟩)
  · refine J_if_eq_T (pc := 7) 19 dX3_vow_7 (by decide) (by decide) ?_
    refine J_aload_n (pc := 19) dX3_vow_19 rfl ?_
    refine J_bipush (pc := 20) (v := (-2)) dX3_vow_20 (by decide) ?_
    refine J_callVim (pc := 22) fC_X3_64 rfl dX3_vow_22 (c_X3_refuse2) rfl ⟨Nat.le_of_ble_eq_true rfl, Nat.le_of_ble_eq_true rfl⟩ rfl (Nat.le_of_ble_eq_true rfl) (fun z22 μ22 d22 m22 => ?_)
    refine J_iret (pc := 25) dX3_vow_25 rfl ?_
    subst_vars
    first
      | exact Or.inl ⟨by omega, ⟨_, rfl, by first | rfl | omega⟩, by first | rfl | omega⟩
      | exact Or.inr (⟨by omega, ⟨_, rfl, by first | rfl | omega⟩, by first | rfl | omega⟩)
set_option maxRecDepth 100000 in
set_option maxHeartbeats 4000000 in
theorem n_vow {N : Int} {c m : JM} (h : Inv N c m) (hN : 150 ≤ N ∧ N < 100000) {a b : Int32}  : Con G shM mX4_vow [.ref 0, .int a, .int b] m (fun v μ' => ((¬(0 ≤ a.toInt ∧ a.toInt ≤ 7 ∧ 0 ≤ b.toInt ∧ b.toInt ≤ 4)) ∧ IsZ v (-2) ∧ μ' = (jI m 4 0 (m.1 4 0 + 1))) ∨ ((0 ≤ a.toInt ∧ a.toInt ≤ 7 ∧ 0 ≤ b.toInt ∧ b.toInt ≤ 4) ∧ IsZ v ((m.1 1 (7 + a.toInt.toNat)).toInt) ∧ μ' = jC m 1 (upd (m.1 1) (7 + a.toInt.toNat) b))) := by
  obtain ⟨q0, q1, q2, q3, q4, q5, q6⟩ := Inv_q h
  obtain ⟨r0, r1, r2, r3, r4, r5, r6, r15, r40, r9⟩ := Inv_r h
  have hc := h.1
  have qt : (c.1 21 1).toInt = (m.1 0 9).toInt := by rw [h.2.2.2.2.1.1]
  have qs0 : (c.1 0 8).toInt = (m.1 4 0).toInt := by rw [h.2.2.2.2.2.2.1]
  have qs1 : (c.1 0 9).toInt = (m.1 4 1).toInt := by rw [h.2.2.2.2.2.2.2.1]
  have qs2 : (c.1 0 10).toInt = (m.1 4 2).toInt := by rw [h.2.2.2.2.2.2.2.2]
  refine Con_of [some (.ref 0), some (.int a), some (.int b), none] (by decide +kernel) (Nat.le_of_ble_eq_true rfl) (fun _ h => h) ?_
  refine J_iload_n (pc := 0) dX4_vow_0 rfl ?_
  refine J_i2l (pc := 1) dX4_vow_1 rfl ?_
  refine J_lconst (pc := 2) (v := 0) dX4_vow_2 (by decide) ?_
  refine J_ldc2 (pc := 3) fK_X4_96 dX4_vow_3 ?_
  refine J_callSc (pc := 6) fC_X4_58 dX4_vow_6 (c_X4_in a.toInt 0 7 (i2l_z rfl) rfl rfl) rfl ⟨Nat.le_of_ble_eq_true rfl, Nat.le_of_ble_eq_true rfl⟩ rfl (Nat.le_of_ble_eq_true rfl) (fun h6 => ?_) (fun h6 => ?_)
  · refine J_if_eq_F (pc := 9) 24 dX4_vow_9 (by decide) (by decide) ?_
    refine J_iload_n (pc := 12) dX4_vow_12 rfl ?_
    refine J_i2l (pc := 13) dX4_vow_13 rfl ?_
    refine J_lconst (pc := 14) (v := 0) dX4_vow_14 (by decide) ?_
    refine J_ldc2 (pc := 15) fK_X4_98 dX4_vow_15 ?_
    refine J_callSc (pc := 18) fC_X4_58 dX4_vow_18 (c_X4_in b.toInt 0 4 (i2l_z rfl) rfl rfl) rfl ⟨Nat.le_of_ble_eq_true rfl, Nat.le_of_ble_eq_true rfl⟩ rfl (Nat.le_of_ble_eq_true rfl) (fun h18 => ?_) (fun h18 => ?_)
    · refine J_if_ne_T (pc := 21) 31 dX4_vow_21 (by decide) (by decide) ?_
      refine J_aload_n (pc := 31) dX4_vow_31 rfl ?_
      refine J_getR (pc := 32) 1 fF_X4_7 rfl rfl dX4_vow_32 ?_
      refine J_bipush (pc := 35) (v := 7) dX4_vow_35 (by decide) ?_
      refine J_iload_n (pc := 37) dX4_vow_37 rfl ?_
      refine J_iaddW (pc := 38) 7 a.toInt rfl rfl dX4_vow_38 (by omega) (fun z38 e38 => ?_)
      refine J_ialdW (pc := 39) (7 + a.toInt.toNat) (by omega) rfl (by omega) dX4_vow_39 ?_
      refine J_istore_n (pc := 40) (lv' := [some (.ref 0), some (.int a), some (.int b), some (.int (m.1 1 (7 + a.toInt.toNat)))]) dX4_vow_40 (Nat.le_of_ble_eq_true rfl) rfl rfl ?_
      refine J_aload_n (pc := 41) dX4_vow_41 rfl ?_
      refine J_getR (pc := 42) 1 fF_X4_7 rfl rfl dX4_vow_42 ?_
      refine J_bipush (pc := 45) (v := 7) dX4_vow_45 (by decide) ?_
      refine J_iload_n (pc := 47) dX4_vow_47 rfl ?_
      refine J_iaddW (pc := 48) 7 a.toInt rfl rfl dX4_vow_48 (by omega) (fun z48 e48 => ?_)
      refine J_iload_n (pc := 49) dX4_vow_49 rfl ?_
      refine J_iastW (pc := 50) (7 + a.toInt.toNat) (by omega) rfl (by omega) dX4_vow_50 (fun μ50 m50 => ?_)
      refine J_iload_n (pc := 51) dX4_vow_51 rfl ?_
      refine J_iret (pc := 52) dX4_vow_52 rfl ?_
      subst_vars
      first
        | exact Or.inl ⟨by omega, ⟨_, rfl, by first | rfl | omega⟩, by first | rfl | (simp only [jI_row, jC_jC, jC_at])⟩
        | exact Or.inr (⟨by omega, ⟨_, rfl, by first | rfl | omega⟩, by first | rfl | (simp only [jI_row, jC_jC, jC_at])⟩)
    · refine J_if_ne_F (pc := 21) 31 dX4_vow_21 (by decide) (by decide) ?_
      refine J_aload_n (pc := 24) dX4_vow_24 rfl ?_
      refine J_bipush (pc := 25) (v := (-2)) dX4_vow_25 (by decide) ?_
      refine J_callVim (pc := 27) fC_X4_91 rfl dX4_vow_27 (c_X4_no2) rfl ⟨Nat.le_of_ble_eq_true rfl, Nat.le_of_ble_eq_true rfl⟩ rfl (Nat.le_of_ble_eq_true rfl) (fun z27 μ27 d27 m27 => ?_)
      refine J_iret (pc := 30) dX4_vow_30 rfl ?_
      subst_vars
      first
        | exact Or.inl ⟨by omega, ⟨_, rfl, by first | rfl | omega⟩, by first | rfl | (simp only [jI_row, jC_jC, jC_at])⟩
        | exact Or.inr (⟨by omega, ⟨_, rfl, by first | rfl | omega⟩, by first | rfl | (simp only [jI_row, jC_jC, jC_at])⟩)
  · refine J_if_eq_T (pc := 9) 24 dX4_vow_9 (by decide) (by decide) ?_
    refine J_aload_n (pc := 24) dX4_vow_24 rfl ?_
    refine J_bipush (pc := 25) (v := (-2)) dX4_vow_25 (by decide) ?_
    refine J_callVim (pc := 27) fC_X4_91 rfl dX4_vow_27 (c_X4_no2) rfl ⟨Nat.le_of_ble_eq_true rfl, Nat.le_of_ble_eq_true rfl⟩ rfl (Nat.le_of_ble_eq_true rfl) (fun z27 μ27 d27 m27 => ?_)
    refine J_iret (pc := 30) dX4_vow_30 rfl ?_
    subst_vars
    first
      | exact Or.inl ⟨by omega, ⟨_, rfl, by first | rfl | omega⟩, by first | rfl | (simp only [jI_row, jC_jC, jC_at])⟩
      | exact Or.inr (⟨by omega, ⟨_, rfl, by first | rfl | omega⟩, by first | rfl | (simp only [jI_row, jC_jC, jC_at])⟩)
theorem pr_vow {G : JG × JG} {N : Int} {c m : JM} (h : Inv N c m) (hN : 150 ≤ N ∧ N < 100000) {a b : Int32} : Pair G N c m mX3_vow mX4_vow [.int a, .int b] := by
  refine ⟨_, _, k_vow h hN, n_vow h hN, fun v c' w m' hC hM => ?_⟩
  obtain ⟨q0, q1, q2, q3, q4, q5, q6⟩ := Inv_q h
  obtain ⟨r0, r1, r2, r3, r4, r5, r6, r15, r40, r9⟩ := Inv_r h
  have hc := h.1
  have qt : (c.1 21 1).toInt = (m.1 0 9).toInt := by rw [h.2.2.2.2.1.1]
  have qs0 : (c.1 0 8).toInt = (m.1 4 0).toInt := by rw [h.2.2.2.2.2.2.1]
  have qs1 : (c.1 0 9).toInt = (m.1 4 1).toInt := by rw [h.2.2.2.2.2.2.2.1]
  have qs2 : (c.1 0 10).toInt = (m.1 4 2).toInt := by rw [h.2.2.2.2.2.2.2.2]
  rcases hC with ⟨a1, a2, a3⟩ | ⟨a1, a2, a3⟩
  · rcases hM with ⟨b1, b2, b3⟩ | ⟨b1, b2, b3⟩
    · exact ⟨IsZ_eq a2 b2, by rw [a3, b3]; exact Inv_no (by omega) h 0 (by decide)⟩
    · exfalso; omega
  · rcases hM with ⟨b1, b2, b3⟩ | ⟨b1, b2, b3⟩
    · exfalso; omega
    · have e := h.2.2.1.2.2.2.2.2.2.2.1 a.toInt.toNat (by omega)
      rw [show 1 + 1 = 2 from rfl] at e
      rw [e] at a2
      refine ⟨IsZ_eq a2 b2, ?_⟩
      rw [a3, b3]
      refine Inv_row (f := upd (m.1 1) (7 + a.toInt.toNat) b) (by omega) h (fun o ho => by rw [jI_ne (by omega)]) (by rw [jI_ne (by omega)]) rfl (eqM_rf _) ?_ ?_
      · obtain ⟨j0, j1, j2, j3, j4, j5, j6, j7, j8, j9⟩ := h.2.2.1
        have u : ∀ j, j ≠ 7 + a.toInt.toNat → upd (m.1 1) (7 + a.toInt.toNat) b j = m.1 1 j := fun j hj => pk_un hj
        unfold jrep
        rw [u 0 (by omega), u 1 (by omega), u 2 (by omega), u 3 (by omega), u 4 (by omega), u 5 (by omega), u 6 (by omega), u 15 (by omega), u 40 (by omega)]
        refine ⟨j0, j1, j2, j3, j4, j5, j6, fun j hj => ?_, fun j hj => ?_, fun j hj => ?_⟩
        · rw [jI_i]
          by_cases z : j = a.toInt.toNat
          · rw [if_pos ⟨rfl, z⟩, z]; simp [upd]
          · rw [if_neg (by omega), u _ (by omega)]; exact j7 j hj
        · rw [jI_ne (by omega), u _ (by omega)]; exact j8 j hj
        · rw [jI_ne (by omega), jI_ne (by omega), u _ (by omega), u _ (by omega), u _ (by omega), u _ (by omega)]; exact j9 j hj
      · obtain ⟨h0, h1, h2, h3, h4, h5, h6, h7, h8, h9, ha, hb⟩ := wfF_mono (M := N + 1) (by omega) h.2.1
        have u : ∀ j, j ≠ 7 + a.toInt.toNat → upd (m.1 1) (7 + a.toInt.toNat) b j = m.1 1 j := fun j hj => pk_un hj
        unfold wfF
        rw [u 0 (by omega), u 1 (by omega), u 2 (by omega), u 3 (by omega), u 4 (by omega), u 5 (by omega), u 6 (by omega), u 15 (by omega), u 40 (by omega)]
        refine ⟨h0, h1, h2, h3, h4, h5, h6, fun j hj => ?_, h8, h9, fun j hj => ?_, fun j hj => ?_⟩
        · by_cases z : j = a.toInt.toNat
          · rw [z]; simp only [upd, if_true]; omega
          · rw [u _ (by omega)]; exact h7 j hj
        · rw [u _ (by omega), u _ (by omega)]; exact ha j hj
        · rw [u _ (by omega), u _ (by omega), u _ (by omega), u _ (by omega)]; exact hb j hj
set_option maxRecDepth 100000 in
set_option maxHeartbeats 4000000 in
theorem k_type {N : Int} {c m : JM} (h : Inv N c m) (hN : 150 ≤ N ∧ N < 100000) {a : Int32}  : Con G shC mX3_type [.ref 0, .int a] c (fun v μ' => ((¬(0 ≤ a.toInt ∧ a.toInt ≤ 127)) ∧ IsZ v (-2) ∧ μ' = (jI c 0 8 (c.1 0 8 + 1))) ∨ (((0 ≤ a.toInt ∧ a.toInt ≤ 127) ∧ (m.1 0 9).toInt = 150) ∧ IsZ v (-4) ∧ μ' = (jI c 0 10 (c.1 0 10 + 1))) ∨ (((0 ≤ a.toInt ∧ a.toInt ≤ 127) ∧ (m.1 0 9).toInt < 150) ∧ IsZ v ((m.1 0 9).toInt + 1) ∧ μ' = jI (jI c 22 (m.1 0 9).toInt.toNat a) 21 1 (iZ ((m.1 0 9).toInt + 1)))) := by
  obtain ⟨q0, q1, q2, q3, q4, q5, q6⟩ := Inv_q h
  obtain ⟨r0, r1, r2, r3, r4, r5, r6, r15, r40, r9⟩ := Inv_r h
  have hc := h.1
  have qt : (c.1 21 1).toInt = (m.1 0 9).toInt := by rw [h.2.2.2.2.1.1]
  have qs0 : (c.1 0 8).toInt = (m.1 4 0).toInt := by rw [h.2.2.2.2.2.2.1]
  have qs1 : (c.1 0 9).toInt = (m.1 4 1).toInt := by rw [h.2.2.2.2.2.2.2.1]
  have qs2 : (c.1 0 10).toInt = (m.1 4 2).toInt := by rw [h.2.2.2.2.2.2.2.2]
  refine Con_of [some (.ref 0), some (.int a)] (by decide +kernel) (Nat.le_of_ble_eq_true rfl) (fun _ h => h) ?_
  refine J_iload_n (pc := 0) dX3_type_0 rfl ?_
  refine J_iconst (pc := 1) (v := 0) dX3_type_1 (by decide) ?_
  refine J_bipush (pc := 2) (v := 127) dX3_type_2 (by decide) ?_
  refine J_callSc (pc := 4) fC_X3_60 dX3_type_4 (c_X3_within a.toInt 0 127 rfl rfl rfl) rfl ⟨Nat.le_of_ble_eq_true rfl, Nat.le_of_ble_eq_true rfl⟩ rfl (Nat.le_of_ble_eq_true rfl) (fun h4 => ?_) (fun h4 => ?_)
  · refine J_if_ne_T (pc := 7) 17 dX3_type_7 (by decide) (by decide) ?_
    refine J_aload_n (pc := 17) dX3_type_17 rfl ?_
    refine J_getR (pc := 18) 21 fF_X3_28 rfl rfl dX3_type_18 ?_
    refine J_getI (pc := 21) fF_X3_99 rfl rfl dX3_type_21 ?_
    refine J_sipush (pc := 24) (v := 150) dX3_type_24 (by decide) ?_
    refine J_icmp_ltW (pc := 27) ((m.1 0 9).toInt) 150 qt rfl 37 dX3_type_27 (by decide) (fun h27 => ?_) (fun h27 => ?_)
    · refine J_aload_n (pc := 37) dX3_type_37 rfl ?_
      refine J_getR (pc := 38) 21 fF_X3_28 rfl rfl dX3_type_38 ?_
      refine J_getR (pc := 41) 22 fF_X3_102 rfl rfl dX3_type_41 ?_
      refine J_aload_n (pc := 44) dX3_type_44 rfl ?_
      refine J_getR (pc := 45) 21 fF_X3_28 rfl rfl dX3_type_45 ?_
      refine J_getI (pc := 48) fF_X3_99 rfl rfl dX3_type_48 ?_
      refine J_iload_n (pc := 51) dX3_type_51 rfl ?_
      refine J_callSv (pc := 52) fC_X3_95 dX3_type_52 (c_X3_put rfl (((m.1 0 9).toInt).toNat) (by have q := qt; omega) (by omega) (by omega)) rfl ⟨Nat.le_of_ble_eq_true rfl, Nat.le_of_ble_eq_true rfl⟩ rfl (Nat.le_of_ble_eq_true rfl) (fun μ52 m52 => ?_)
      refine J_aload_n (pc := 55) dX3_type_55 rfl ?_
      refine J_getR (pc := 56) 21 fF_X3_28 rfl rfl dX3_type_56 ?_
      refine J_dup (pc := 59) dX3_type_59 rfl ?_
      refine J_getI (pc := 60) fF_X3_99 rfl rfl dX3_type_60 ?_
      refine J_iconst (pc := 63) (v := 1) dX3_type_63 (by decide) ?_
      refine J_iaddW (pc := 64) ((m.1 0 9).toInt) 1 (show (μ52.1 21 1).toInt = (m.1 0 9).toInt by simp [m52, jI_i]; exact qt) rfl dX3_type_64 (by omega) (fun z64 e64 => ?_)
      refine J_putIW (pc := 65) fF_X3_99 rfl rfl dX3_type_65 (fun μ65 m65 => ?_)
      refine J_aload_n (pc := 68) dX3_type_68 rfl ?_
      refine J_getR (pc := 69) 21 fF_X3_28 rfl rfl dX3_type_69 ?_
      refine J_getI (pc := 72) fF_X3_99 rfl rfl dX3_type_72 ?_
      refine J_iret (pc := 75) dX3_type_75 rfl ?_
      rw [iZ_of e64] at m65
      refine Or.inr (Or.inr ⟨by omega, ⟨_, rfl, ?_⟩, by rw [m65, m52]⟩)
      rw [m65, jI_i, if_pos ⟨rfl, rfl⟩, iZ_i (by omega)]
    · refine J_aload_n (pc := 30) dX3_type_30 rfl ?_
      refine J_bipush (pc := 31) (v := (-4)) dX3_type_31 (by decide) ?_
      refine J_callVim (pc := 33) fC_X3_64 rfl dX3_type_33 (c_X3_refuse4) rfl ⟨Nat.le_of_ble_eq_true rfl, Nat.le_of_ble_eq_true rfl⟩ rfl (Nat.le_of_ble_eq_true rfl) (fun z33 μ33 d33 m33 => ?_)
      refine J_iret (pc := 36) dX3_type_36 rfl ?_
      subst_vars
      first
        | exact Or.inl ⟨by omega, ⟨_, rfl, by first | rfl | omega⟩, by first | rfl | omega⟩
        | exact Or.inr (Or.inl ⟨by omega, ⟨_, rfl, by first | rfl | omega⟩, by first | rfl | omega⟩)
        | exact Or.inr (Or.inr (⟨by omega, ⟨_, rfl, by first | rfl | omega⟩, by first | rfl | omega⟩))
  · refine J_if_ne_F (pc := 7) 17 dX3_type_7 (by decide) (by decide) ?_
    refine J_aload_n (pc := 10) dX3_type_10 rfl ?_
    refine J_bipush (pc := 11) (v := (-2)) dX3_type_11 (by decide) ?_
    refine J_callVim (pc := 13) fC_X3_64 rfl dX3_type_13 (c_X3_refuse2) rfl ⟨Nat.le_of_ble_eq_true rfl, Nat.le_of_ble_eq_true rfl⟩ rfl (Nat.le_of_ble_eq_true rfl) (fun z13 μ13 d13 m13 => ?_)
    refine J_iret (pc := 16) dX3_type_16 rfl ?_
    subst_vars
    first
      | exact Or.inl ⟨by omega, ⟨_, rfl, by first | rfl | omega⟩, by first | rfl | omega⟩
      | exact Or.inr (Or.inl ⟨by omega, ⟨_, rfl, by first | rfl | omega⟩, by first | rfl | omega⟩)
      | exact Or.inr (Or.inr (⟨by omega, ⟨_, rfl, by first | rfl | omega⟩, by first | rfl | omega⟩))
set_option maxRecDepth 100000 in
set_option maxHeartbeats 4000000 in
theorem n_type {N : Int} {c m : JM} (h : Inv N c m) (hN : 150 ≤ N ∧ N < 100000) {a : Int32}  : Con G shM mX4_type [.ref 0, .int a] m (fun v μ' => ((¬(0 ≤ a.toInt ∧ a.toInt ≤ 127)) ∧ IsZ v (-2) ∧ μ' = (jI m 4 0 (m.1 4 0 + 1))) ∨ (((0 ≤ a.toInt ∧ a.toInt ≤ 127) ∧ (m.1 0 9).toInt = 150) ∧ IsZ v (-4) ∧ μ' = (jI m 4 2 (m.1 4 2 + 1))) ∨ (((0 ≤ a.toInt ∧ a.toInt ≤ 127) ∧ (m.1 0 9).toInt < 150) ∧ IsZ v ((m.1 0 9).toInt + 1) ∧ μ' = jI (jI m 5 (m.1 0 9).toInt.toNat a) 0 9 (iZ ((m.1 0 9).toInt + 1)))) := by
  obtain ⟨q0, q1, q2, q3, q4, q5, q6⟩ := Inv_q h
  obtain ⟨r0, r1, r2, r3, r4, r5, r6, r15, r40, r9⟩ := Inv_r h
  have hc := h.1
  have qt : (c.1 21 1).toInt = (m.1 0 9).toInt := by rw [h.2.2.2.2.1.1]
  have qs0 : (c.1 0 8).toInt = (m.1 4 0).toInt := by rw [h.2.2.2.2.2.2.1]
  have qs1 : (c.1 0 9).toInt = (m.1 4 1).toInt := by rw [h.2.2.2.2.2.2.2.1]
  have qs2 : (c.1 0 10).toInt = (m.1 4 2).toInt := by rw [h.2.2.2.2.2.2.2.2]
  refine Con_of [some (.ref 0), some (.int a)] (by decide +kernel) (Nat.le_of_ble_eq_true rfl) (fun _ h => h) ?_
  refine J_iload_n (pc := 0) dX4_type_0 rfl ?_
  refine J_i2l (pc := 1) dX4_type_1 rfl ?_
  refine J_lconst (pc := 2) (v := 0) dX4_type_2 (by decide) ?_
  refine J_ldc2 (pc := 3) fK_X4_100 dX4_type_3 ?_
  refine J_callSc (pc := 6) fC_X4_58 dX4_type_6 (c_X4_in a.toInt 0 127 (i2l_z rfl) rfl rfl) rfl ⟨Nat.le_of_ble_eq_true rfl, Nat.le_of_ble_eq_true rfl⟩ rfl (Nat.le_of_ble_eq_true rfl) (fun h6 => ?_) (fun h6 => ?_)
  · refine J_if_ne_T (pc := 9) 19 dX4_type_9 (by decide) (by decide) ?_
    refine J_aload_n (pc := 19) dX4_type_19 rfl ?_
    refine J_getI (pc := 20) fF_X4_102 rfl rfl dX4_type_20 ?_
    refine J_sipush (pc := 23) (v := 150) dX4_type_23 (by decide) ?_
    refine J_icmp_neW (pc := 26) ((m.1 0 9).toInt) 150 rfl rfl 36 dX4_type_26 (by decide) (fun h26 => ?_) (fun h26 => ?_)
    · refine J_aload_n (pc := 36) dX4_type_36 rfl ?_
      refine J_getR (pc := 37) 5 fF_X4_22 rfl rfl dX4_type_37 ?_
      refine J_aload_n (pc := 40) dX4_type_40 rfl ?_
      refine J_getI (pc := 41) fF_X4_102 rfl rfl dX4_type_41 ?_
      refine J_iload_n (pc := 44) dX4_type_44 rfl ?_
      refine J_iastW (pc := 45) ((m.1 0 9).toInt).toNat (by omega) rfl (by omega) dX4_type_45 (fun μ45 m45 => ?_)
      refine J_aload_n (pc := 46) dX4_type_46 rfl ?_
      refine J_dup (pc := 47) dX4_type_47 rfl ?_
      refine J_getI (pc := 48) fF_X4_102 rfl rfl dX4_type_48 ?_
      refine J_iconst (pc := 51) (v := 1) dX4_type_51 (by decide) ?_
      refine J_iaddW (pc := 52) ((m.1 0 9).toInt) 1 (show (μ45.1 0 9).toInt = (m.1 0 9).toInt by simp [m45, jI_i]) rfl dX4_type_52 (by omega) (fun z52 e52 => ?_)
      refine J_putIW (pc := 53) fF_X4_102 rfl rfl dX4_type_53 (fun μ53 m53 => ?_)
      refine J_aload_n (pc := 56) dX4_type_56 rfl ?_
      refine J_getI (pc := 57) fF_X4_102 rfl rfl dX4_type_57 ?_
      refine J_iret (pc := 60) dX4_type_60 rfl ?_
      rw [iZ_of e52] at m53
      refine Or.inr (Or.inr ⟨by omega, ⟨_, rfl, ?_⟩, by rw [m53, m45]⟩)
      rw [m53, jI_i, if_pos ⟨rfl, rfl⟩, iZ_i (by omega)]
    · refine J_aload_n (pc := 29) dX4_type_29 rfl ?_
      refine J_bipush (pc := 30) (v := (-4)) dX4_type_30 (by decide) ?_
      refine J_callVim (pc := 32) fC_X4_91 rfl dX4_type_32 (c_X4_no4) rfl ⟨Nat.le_of_ble_eq_true rfl, Nat.le_of_ble_eq_true rfl⟩ rfl (Nat.le_of_ble_eq_true rfl) (fun z32 μ32 d32 m32 => ?_)
      refine J_iret (pc := 35) dX4_type_35 rfl ?_
      subst_vars
      first
        | exact Or.inl ⟨by omega, ⟨_, rfl, by first | rfl | omega⟩, by first | rfl | omega⟩
        | exact Or.inr (Or.inl ⟨by omega, ⟨_, rfl, by first | rfl | omega⟩, by first | rfl | omega⟩)
        | exact Or.inr (Or.inr (⟨by omega, ⟨_, rfl, by first | rfl | omega⟩, by first | rfl | omega⟩))
  · refine J_if_ne_F (pc := 9) 19 dX4_type_9 (by decide) (by decide) ?_
    refine J_aload_n (pc := 12) dX4_type_12 rfl ?_
    refine J_bipush (pc := 13) (v := (-2)) dX4_type_13 (by decide) ?_
    refine J_callVim (pc := 15) fC_X4_91 rfl dX4_type_15 (c_X4_no2) rfl ⟨Nat.le_of_ble_eq_true rfl, Nat.le_of_ble_eq_true rfl⟩ rfl (Nat.le_of_ble_eq_true rfl) (fun z15 μ15 d15 m15 => ?_)
    refine J_iret (pc := 18) dX4_type_18 rfl ?_
    subst_vars
    first
      | exact Or.inl ⟨by omega, ⟨_, rfl, by first | rfl | omega⟩, by first | rfl | omega⟩
      | exact Or.inr (Or.inl ⟨by omega, ⟨_, rfl, by first | rfl | omega⟩, by first | rfl | omega⟩)
      | exact Or.inr (Or.inr (⟨by omega, ⟨_, rfl, by first | rfl | omega⟩, by first | rfl | omega⟩))
theorem pr_type {G : JG × JG} {N : Int} {c m : JM} (h : Inv N c m) (hN : 150 ≤ N ∧ N < 100000) {a : Int32} : Pair G N c m mX3_type mX4_type [.int a] := by
  refine ⟨_, _, k_type h hN, n_type h hN, fun v c' w m' hC hM => ?_⟩
  obtain ⟨q0, q1, q2, q3, q4, q5, q6⟩ := Inv_q h
  obtain ⟨r0, r1, r2, r3, r4, r5, r6, r15, r40, r9⟩ := Inv_r h
  have hc := h.1
  have qt : (c.1 21 1).toInt = (m.1 0 9).toInt := by rw [h.2.2.2.2.1.1]
  have qs0 : (c.1 0 8).toInt = (m.1 4 0).toInt := by rw [h.2.2.2.2.2.2.1]
  have qs1 : (c.1 0 9).toInt = (m.1 4 1).toInt := by rw [h.2.2.2.2.2.2.2.1]
  have qs2 : (c.1 0 10).toInt = (m.1 4 2).toInt := by rw [h.2.2.2.2.2.2.2.2]
  rcases hC with ⟨a1, a2, a3⟩ | ⟨a1, a2, a3⟩ | ⟨a1, a2, a3⟩
  · rcases hM with ⟨b1, b2, b3⟩ | ⟨b1, b2, b3⟩ | ⟨b1, b2, b3⟩
    · exact ⟨IsZ_eq a2 b2, by rw [a3, b3]; exact Inv_no (by omega) h 0 (by decide)⟩
    · exfalso; omega
    · exfalso; omega
  · rcases hM with ⟨b1, b2, b3⟩ | ⟨b1, b2, b3⟩ | ⟨b1, b2, b3⟩
    · exfalso; omega
    · exact ⟨IsZ_eq a2 b2, by rw [a3, b3]; exact Inv_no (by omega) h 2 (by decide)⟩
    · exfalso; omega
  · rcases hM with ⟨b1, b2, b3⟩ | ⟨b1, b2, b3⟩ | ⟨b1, b2, b3⟩
    · exfalso; omega
    · exfalso; omega
    · refine ⟨IsZ_eq a2 b2, ?_⟩
      rw [a3, b3]
      obtain ⟨i1, i2, i3, i4, ⟨i5, i6, i7⟩, i8, i9⟩ := h
      have hn : ((m.1 0 9).toInt + 1) = (iZ ((m.1 0 9).toInt + 1)).toInt := by rw [iZ_i (by omega)]
      have c1 : ∀ o, o ≠ 22 → o ≠ 21 → (jI (jI c 22 (m.1 0 9).toInt.toNat a) 21 1 (iZ ((m.1 0 9).toInt + 1))).1 o = c.1 o := fun o h1 h2 => by rw [jI_ne h2, jI_ne h1]
      have m1 : ∀ o, o ≠ 5 → o ≠ 0 → (jI (jI m 5 (m.1 0 9).toInt.toNat a) 0 9 (iZ ((m.1 0 9).toInt + 1))).1 o = m.1 o := fun o h1 h2 => by rw [jI_ne h2, jI_ne h1]
      refine ⟨⟨fun j hj => by rw [m1 2 (by omega) (by omega)]; exact i1.1 j hj, fun j hj => by rw [m1 3 (by omega) (by omega)]; exact i1.2 j hj⟩, by rw [m1 1 (by omega) (by omega)]; exact wfF_mono (by omega) i2, ?_, fun i hi => ?_, ⟨?_, ?_, fun j hj => ?_⟩, i8, ?_⟩
      · rw [m1 1 (by omega) (by omega)]
        exact jrep_congr i2 (fun _ _ => rfl) (fun o h1 h2 k _ => by rw [c1 o (by omega) (by omega)]) i3
      · have fi : imgF (jI (jI m 5 (m.1 0 9).toInt.toNat a) 0 9 (iZ ((m.1 0 9).toInt + 1))) i = imgF m i := by unfold imgF; rw [m1 11 (by omega) (by omega)]
        rw [m1 12 (by omega) (by omega), fi, c1 (11 + 5 * i) (by omega) (by omega)]
        obtain ⟨b1, b2, b3⟩ := i4 i hi
        exact ⟨b1, b2, fun hk => ⟨wfF_mono (by omega) (b3 hk).1, jrep_congr (b3 hk).1 (fun _ _ => rfl) (fun o h1 h2 k _ => by rw [c1 o (by omega) (by omega)]) (b3 hk).2⟩⟩
      · simp [jI_i]
      · simp only [jI_i]; rw [if_pos (by simp), ← hn]; omega
      · rw [show (jI (jI m 5 (m.1 0 9).toInt.toNat a) 0 9 (iZ ((m.1 0 9).toInt + 1))).1 0 9 = iZ ((m.1 0 9).toInt + 1) from rfl, ← hn] at hj
        rw [jI_ne (show (22 : Nat) ≠ 21 by decide), jI_ne (show (5 : Nat) ≠ 0 by decide), jI_i, jI_i]
        by_cases z : j = (m.1 0 9).toInt.toNat
        · rw [if_pos ⟨rfl, z⟩, if_pos ⟨rfl, z⟩]; exact ⟨rfl, by omega, by omega⟩
        · rw [if_neg (fun q => z q.2), if_neg (fun q => z q.2)]; exact i7 j (by omega)
      · rw [c1 0 (by omega) (by omega), m1 4 (by omega) (by omega)]; exact i9
set_option maxRecDepth 100000 in
set_option maxHeartbeats 4000000 in
theorem k_clear {N : Int} {c m : JM} (h : Inv N c m) (hN : 150 ≤ N ∧ N < 100000)  : Con G shC mX3_clear [.ref 0] c (fun v μ' => ((True) ∧ IsZ v ((m.1 0 9).toInt) ∧ μ' = jI c 21 1 0)) := by
  obtain ⟨q0, q1, q2, q3, q4, q5, q6⟩ := Inv_q h
  obtain ⟨r0, r1, r2, r3, r4, r5, r6, r15, r40, r9⟩ := Inv_r h
  have hc := h.1
  have qt : (c.1 21 1).toInt = (m.1 0 9).toInt := by rw [h.2.2.2.2.1.1]
  have qs0 : (c.1 0 8).toInt = (m.1 4 0).toInt := by rw [h.2.2.2.2.2.2.1]
  have qs1 : (c.1 0 9).toInt = (m.1 4 1).toInt := by rw [h.2.2.2.2.2.2.2.1]
  have qs2 : (c.1 0 10).toInt = (m.1 4 2).toInt := by rw [h.2.2.2.2.2.2.2.2]
  refine Con_of [some (.ref 0), none] (by decide +kernel) (Nat.le_of_ble_eq_true rfl) (fun _ h => h) ?_
  refine J_aload_n (pc := 0) dX3_clear_0 rfl ?_
  refine J_getR (pc := 1) 21 fF_X3_28 rfl rfl dX3_clear_1 ?_
  refine J_getI (pc := 4) fF_X3_99 rfl rfl dX3_clear_4 ?_
  refine J_istore_n (pc := 7) (lv' := [some (.ref 0), some (.int (c.1 21 1))]) dX3_clear_7 (Nat.le_of_ble_eq_true rfl) rfl rfl ?_
  refine J_aload_n (pc := 8) dX3_clear_8 rfl ?_
  refine J_getR (pc := 9) 21 fF_X3_28 rfl rfl dX3_clear_9 ?_
  refine J_iconst (pc := 12) (v := 0) dX3_clear_12 (by decide) ?_
  refine J_putIW (pc := 13) fF_X3_99 rfl rfl dX3_clear_13 (fun μ13 m13 => ?_)
  refine J_iload_n (pc := 16) dX3_clear_16 rfl ?_
  refine J_iret (pc := 17) dX3_clear_17 rfl ?_
  exact ⟨trivial, ⟨_, rfl, qt⟩, m13⟩
set_option maxRecDepth 100000 in
set_option maxHeartbeats 4000000 in
theorem n_clear {N : Int} {c m : JM} (h : Inv N c m) (hN : 150 ≤ N ∧ N < 100000)  : Con G shM mX4_clear [.ref 0] m (fun v μ' => ((True) ∧ IsZ v ((m.1 0 9).toInt) ∧ μ' = jI m 0 9 0)) := by
  obtain ⟨q0, q1, q2, q3, q4, q5, q6⟩ := Inv_q h
  obtain ⟨r0, r1, r2, r3, r4, r5, r6, r15, r40, r9⟩ := Inv_r h
  have hc := h.1
  have qt : (c.1 21 1).toInt = (m.1 0 9).toInt := by rw [h.2.2.2.2.1.1]
  have qs0 : (c.1 0 8).toInt = (m.1 4 0).toInt := by rw [h.2.2.2.2.2.2.1]
  have qs1 : (c.1 0 9).toInt = (m.1 4 1).toInt := by rw [h.2.2.2.2.2.2.2.1]
  have qs2 : (c.1 0 10).toInt = (m.1 4 2).toInt := by rw [h.2.2.2.2.2.2.2.2]
  refine Con_of [some (.ref 0), none] (by decide +kernel) (Nat.le_of_ble_eq_true rfl) (fun _ h => h) ?_
  refine J_aload_n (pc := 0) dX4_clear_0 rfl ?_
  refine J_getI (pc := 1) fF_X4_102 rfl rfl dX4_clear_1 ?_
  refine J_istore_n (pc := 4) (lv' := [some (.ref 0), some (.int (m.1 0 9))]) dX4_clear_4 (Nat.le_of_ble_eq_true rfl) rfl rfl ?_
  refine J_aload_n (pc := 5) dX4_clear_5 rfl ?_
  refine J_iconst (pc := 6) (v := 0) dX4_clear_6 (by decide) ?_
  refine J_putIW (pc := 7) fF_X4_102 rfl rfl dX4_clear_7 (fun μ7 m7 => ?_)
  refine J_iload_n (pc := 10) dX4_clear_10 rfl ?_
  refine J_iret (pc := 11) dX4_clear_11 rfl ?_
  exact ⟨trivial, ⟨_, rfl, rfl⟩, m7⟩
theorem pr_clear {G : JG × JG} {N : Int} {c m : JM} (h : Inv N c m) (hN : 150 ≤ N ∧ N < 100000) : Pair G N c m mX3_clear mX4_clear [] := by
  refine ⟨_, _, k_clear h hN, n_clear h hN, fun v c' w m' hC hM => ?_⟩
  obtain ⟨q0, q1, q2, q3, q4, q5, q6⟩ := Inv_q h
  obtain ⟨r0, r1, r2, r3, r4, r5, r6, r15, r40, r9⟩ := Inv_r h
  have hc := h.1
  have qt : (c.1 21 1).toInt = (m.1 0 9).toInt := by rw [h.2.2.2.2.1.1]
  have qs0 : (c.1 0 8).toInt = (m.1 4 0).toInt := by rw [h.2.2.2.2.2.2.1]
  have qs1 : (c.1 0 9).toInt = (m.1 4 1).toInt := by rw [h.2.2.2.2.2.2.2.1]
  have qs2 : (c.1 0 10).toInt = (m.1 4 2).toInt := by rw [h.2.2.2.2.2.2.2.2]
  obtain ⟨a1, a2, a3⟩ := hC
  obtain ⟨b1, b2, b3⟩ := hM
  refine ⟨IsZ_eq a2 b2, ?_⟩
  rw [a3, b3]
  obtain ⟨i1, i2, i3, i4, ⟨i5, i6, i7⟩, i8, i9⟩ := h
  refine ⟨⟨fun j hj => i1.1 j hj, fun j hj => i1.2 j hj⟩, wfF_mono (by omega) i2, ?_, fun i hi => ?_, ⟨rfl, by show 0 ≤ (0 : Int32).toInt ∧ (0 : Int32).toInt ≤ 150; decide, fun j hj => ?_⟩, i8, i9⟩
  · exact jrep_congr i2 (fun _ _ => rfl) (fun o h1 h2 k _ => by rw [jI_ne (by omega)]) i3
  · obtain ⟨b1, b2, b3⟩ := i4 i hi
    have e := jI_ne (μ := c) (k := 1) (x := 0) (show 11 + 5 * i ≠ 21 by omega)
    rw [e]
    exact ⟨b1, b2, fun hk => ⟨wfF_mono (by omega) (b3 hk).1, jrep_congr (b3 hk).1 (fun _ _ => rfl) (fun o h1 h2 k _ => by rw [jI_ne (by omega)]) (b3 hk).2⟩⟩
  · exfalso
    have : ((jI m 0 9 0).1 0 9).toInt = 0 := rfl
    omega
set_option maxRecDepth 100000 in
set_option maxHeartbeats 4000000 in
theorem k_moves {N : Int} {c m : JM} (h : Inv N c m) (hN : 150 ≤ N ∧ N < 100000) {a b : Int32}  : Con G shC mX3_moves [.ref 0, .int a, .int b] c (fun v μ' => ((¬(0 ≤ a.toInt ∧ a.toInt ≤ 5 ∧ 0 ≤ b.toInt ∧ b.toInt ≤ 1)) ∧ IsZ v (-100) ∧ μ' = (jI c 0 8 (c.1 0 8 + 1))) ∨ (((0 ≤ a.toInt ∧ a.toInt ≤ 5 ∧ 0 ≤ b.toInt ∧ b.toInt ≤ 1) ∧ b.toInt = 0) ∧ IsZ v (aZ (m.1 1 0).toInt a.toInt (m.1 1 5).toInt) ∧ μ' = c) ∨ (((0 ≤ a.toInt ∧ a.toInt ≤ 5 ∧ 0 ≤ b.toInt ∧ b.toInt ≤ 1) ∧ b.toInt ≠ 0) ∧ IsZ v (pZ (m.1 1 0).toInt a.toInt (m.1 1 5).toInt) ∧ μ' = c)) := by
  obtain ⟨q0, q1, q2, q3, q4, q5, q6⟩ := Inv_q h
  obtain ⟨r0, r1, r2, r3, r4, r5, r6, r15, r40, r9⟩ := Inv_r h
  have hc := h.1
  have qt : (c.1 21 1).toInt = (m.1 0 9).toInt := by rw [h.2.2.2.2.1.1]
  have qs0 : (c.1 0 8).toInt = (m.1 4 0).toInt := by rw [h.2.2.2.2.2.2.1]
  have qs1 : (c.1 0 9).toInt = (m.1 4 1).toInt := by rw [h.2.2.2.2.2.2.2.1]
  have qs2 : (c.1 0 10).toInt = (m.1 4 2).toInt := by rw [h.2.2.2.2.2.2.2.2]
  refine Con_of [some (.ref 0), some (.int a), some (.int b)] (by decide +kernel) (Nat.le_of_ble_eq_true rfl) (fun _ h => h) ?_
  refine J_iload_n (pc := 0) dX3_moves_0 rfl ?_
  refine J_callSc (pc := 1) fC_X3_116 dX3_moves_1 (c_X3_isWord a.toInt rfl) rfl ⟨Nat.le_of_ble_eq_true rfl, Nat.le_of_ble_eq_true rfl⟩ rfl (Nat.le_of_ble_eq_true rfl) (fun h1 => ?_) (fun h1 => ?_)
  · refine J_if_eq_F (pc := 4) 16 dX3_moves_4 (by decide) (by decide) ?_
    refine J_iload_n (pc := 7) dX3_moves_7 rfl ?_
    refine J_iconst (pc := 8) (v := 0) dX3_moves_8 (by decide) ?_
    refine J_iconst (pc := 9) (v := 1) dX3_moves_9 (by decide) ?_
    refine J_callSc (pc := 10) fC_X3_60 dX3_moves_10 (c_X3_within b.toInt 0 1 rfl rfl rfl) rfl ⟨Nat.le_of_ble_eq_true rfl, Nat.le_of_ble_eq_true rfl⟩ rfl (Nat.le_of_ble_eq_true rfl) (fun h10 => ?_) (fun h10 => ?_)
    · refine J_if_ne_T (pc := 13) 23 dX3_moves_13 (by decide) (by decide) ?_
      refine J_iload_n (pc := 23) dX3_moves_23 rfl ?_
      refine J_if_neW (pc := 24) b.toInt rfl 48 dX3_moves_24 (by decide) (fun h24 => ?_) (fun h24 => ?_)
      · refine J_aload_n (pc := 48) dX3_moves_48 rfl ?_
        refine J_getR (pc := 49) 1 fF_X3_12 rfl rfl dX3_moves_49 ?_
        refine J_getI (pc := 52) fF_X3_141 rfl rfl dX3_moves_52 ?_
        refine J_iload_n (pc := 55) dX3_moves_55 rfl ?_
        refine J_aload_n (pc := 56) dX3_moves_56 rfl ?_
        refine J_getR (pc := 57) 1 fF_X3_12 rfl rfl dX3_moves_57 ?_
        refine J_getI (pc := 60) fF_X3_68 rfl rfl dX3_moves_60 ?_
        refine J_callSz (pc := 63) fC_X3_150 dX3_moves_63 (c_X3_prideMove ((m.1 1 0).toInt) a.toInt ((m.1 1 5).toInt) q0 rfl q4 (by omega)) rfl ⟨Nat.le_of_ble_eq_true rfl, Nat.le_of_ble_eq_true rfl⟩ rfl (Nat.le_of_ble_eq_true rfl) (fun z63 e63 => ?_)
        refine J_iret (pc := 66) dX3_moves_66 rfl ?_
        subst_vars
        first
          | exact Or.inl ⟨by omega, ⟨_, rfl, by first | rfl | omega⟩, by first | rfl | omega⟩
          | exact Or.inr (Or.inl ⟨by omega, ⟨_, rfl, by first | rfl | omega⟩, by first | rfl | omega⟩)
          | exact Or.inr (Or.inr (⟨by omega, ⟨_, rfl, by first | rfl | omega⟩, by first | rfl | omega⟩))
      · refine J_aload_n (pc := 27) dX3_moves_27 rfl ?_
        refine J_getR (pc := 28) 1 fF_X3_12 rfl rfl dX3_moves_28 ?_
        refine J_getI (pc := 31) fF_X3_141 rfl rfl dX3_moves_31 ?_
        refine J_iload_n (pc := 34) dX3_moves_34 rfl ?_
        refine J_aload_n (pc := 35) dX3_moves_35 rfl ?_
        refine J_getR (pc := 36) 1 fF_X3_12 rfl rfl dX3_moves_36 ?_
        refine J_getI (pc := 39) fF_X3_68 rfl rfl dX3_moves_39 ?_
        refine J_callSz (pc := 42) fC_X3_147 dX3_moves_42 (c_X3_angerMove ((m.1 1 0).toInt) a.toInt ((m.1 1 5).toInt) q0 rfl q4 (by omega)) rfl ⟨Nat.le_of_ble_eq_true rfl, Nat.le_of_ble_eq_true rfl⟩ rfl (Nat.le_of_ble_eq_true rfl) (fun z42 e42 => ?_)
        refine J_goto (pc := 45) 66 dX3_moves_45 (by decide) ?_
        refine J_iret (pc := 66) dX3_moves_66 rfl ?_
        subst_vars
        first
          | exact Or.inl ⟨by omega, ⟨_, rfl, by first | rfl | omega⟩, by first | rfl | omega⟩
          | exact Or.inr (Or.inl ⟨by omega, ⟨_, rfl, by first | rfl | omega⟩, by first | rfl | omega⟩)
          | exact Or.inr (Or.inr (⟨by omega, ⟨_, rfl, by first | rfl | omega⟩, by first | rfl | omega⟩))
    · refine J_if_ne_F (pc := 13) 23 dX3_moves_13 (by decide) (by decide) ?_
      refine J_aload_n (pc := 16) dX3_moves_16 rfl ?_
      refine J_bipush (pc := 17) (v := (-100)) dX3_moves_17 (by decide) ?_
      refine J_callVim (pc := 19) fC_X3_144 rfl dX3_moves_19 (c_X3_refuseBad) rfl ⟨Nat.le_of_ble_eq_true rfl, Nat.le_of_ble_eq_true rfl⟩ rfl (Nat.le_of_ble_eq_true rfl) (fun z19 μ19 d19 m19 => ?_)
      refine J_iret (pc := 22) dX3_moves_22 rfl ?_
      subst_vars
      first
        | exact Or.inl ⟨by omega, ⟨_, rfl, by first | rfl | omega⟩, by first | rfl | omega⟩
        | exact Or.inr (Or.inl ⟨by omega, ⟨_, rfl, by first | rfl | omega⟩, by first | rfl | omega⟩)
        | exact Or.inr (Or.inr (⟨by omega, ⟨_, rfl, by first | rfl | omega⟩, by first | rfl | omega⟩))
  · refine J_if_eq_T (pc := 4) 16 dX3_moves_4 (by decide) (by decide) ?_
    refine J_aload_n (pc := 16) dX3_moves_16 rfl ?_
    refine J_bipush (pc := 17) (v := (-100)) dX3_moves_17 (by decide) ?_
    refine J_callVim (pc := 19) fC_X3_144 rfl dX3_moves_19 (c_X3_refuseBad) rfl ⟨Nat.le_of_ble_eq_true rfl, Nat.le_of_ble_eq_true rfl⟩ rfl (Nat.le_of_ble_eq_true rfl) (fun z19 μ19 d19 m19 => ?_)
    refine J_iret (pc := 22) dX3_moves_22 rfl ?_
    subst_vars
    first
      | exact Or.inl ⟨by omega, ⟨_, rfl, by first | rfl | omega⟩, by first | rfl | omega⟩
      | exact Or.inr (Or.inl ⟨by omega, ⟨_, rfl, by first | rfl | omega⟩, by first | rfl | omega⟩)
      | exact Or.inr (Or.inr (⟨by omega, ⟨_, rfl, by first | rfl | omega⟩, by first | rfl | omega⟩))
set_option maxRecDepth 100000 in
set_option maxHeartbeats 4000000 in
theorem n_moves {N : Int} {c m : JM} (h : Inv N c m) (hN : 150 ≤ N ∧ N < 100000) {a b : Int32}  : Con G shM mX4_moves [.ref 0, .int a, .int b] m (fun v μ' => ((¬(0 ≤ a.toInt ∧ a.toInt ≤ 5 ∧ 0 ≤ b.toInt ∧ b.toInt ≤ 1)) ∧ IsZ v (-100) ∧ μ' = (jI m 4 0 (m.1 4 0 + 1))) ∨ (((0 ≤ a.toInt ∧ a.toInt ≤ 5 ∧ 0 ≤ b.toInt ∧ b.toInt ≤ 1) ∧ b.toInt = 0) ∧ IsZ v (aZ (m.1 1 0).toInt a.toInt (m.1 1 5).toInt) ∧ μ' = m) ∨ (((0 ≤ a.toInt ∧ a.toInt ≤ 5 ∧ 0 ≤ b.toInt ∧ b.toInt ≤ 1) ∧ b.toInt ≠ 0) ∧ IsZ v (pZ (m.1 1 0).toInt a.toInt (m.1 1 5).toInt) ∧ μ' = m)) := by
  obtain ⟨q0, q1, q2, q3, q4, q5, q6⟩ := Inv_q h
  obtain ⟨r0, r1, r2, r3, r4, r5, r6, r15, r40, r9⟩ := Inv_r h
  have hc := h.1
  have qt : (c.1 21 1).toInt = (m.1 0 9).toInt := by rw [h.2.2.2.2.1.1]
  have qs0 : (c.1 0 8).toInt = (m.1 4 0).toInt := by rw [h.2.2.2.2.2.2.1]
  have qs1 : (c.1 0 9).toInt = (m.1 4 1).toInt := by rw [h.2.2.2.2.2.2.2.1]
  have qs2 : (c.1 0 10).toInt = (m.1 4 2).toInt := by rw [h.2.2.2.2.2.2.2.2]
  refine Con_of [some (.ref 0), some (.int a), some (.int b)] (by decide +kernel) (Nat.le_of_ble_eq_true rfl) (fun _ h => h) ?_
  refine J_iload_n (pc := 0) dX4_moves_0 rfl ?_
  refine J_i2l (pc := 1) dX4_moves_1 rfl ?_
  refine J_lconst (pc := 2) (v := 0) dX4_moves_2 (by decide) ?_
  refine J_ldc2 (pc := 3) fK_X4_89 dX4_moves_3 ?_
  refine J_callSc (pc := 6) fC_X4_58 dX4_moves_6 (c_X4_in a.toInt 0 5 (i2l_z rfl) rfl rfl) rfl ⟨Nat.le_of_ble_eq_true rfl, Nat.le_of_ble_eq_true rfl⟩ rfl (Nat.le_of_ble_eq_true rfl) (fun h6 => ?_) (fun h6 => ?_)
  · refine J_if_eq_F (pc := 9) 22 dX4_moves_9 (by decide) (by decide) ?_
    refine J_iload_n (pc := 12) dX4_moves_12 rfl ?_
    refine J_i2l (pc := 13) dX4_moves_13 rfl ?_
    refine J_lconst (pc := 14) (v := 0) dX4_moves_14 (by decide) ?_
    refine J_lconst (pc := 15) (v := 1) dX4_moves_15 (by decide) ?_
    refine J_callSc (pc := 16) fC_X4_58 dX4_moves_16 (c_X4_in b.toInt 0 1 (i2l_z rfl) rfl rfl) rfl ⟨Nat.le_of_ble_eq_true rfl, Nat.le_of_ble_eq_true rfl⟩ rfl (Nat.le_of_ble_eq_true rfl) (fun h16 => ?_) (fun h16 => ?_)
    · refine J_if_ne_T (pc := 19) 29 dX4_moves_19 (by decide) (by decide) ?_
      refine J_iload_n (pc := 29) dX4_moves_29 rfl ?_
      refine J_if_neW (pc := 30) b.toInt rfl 53 dX4_moves_30 (by decide) (fun h30 => ?_) (fun h30 => ?_)
      · refine J_aload_n (pc := 53) dX4_moves_53 rfl ?_
        refine J_aload_n (pc := 54) dX4_moves_54 rfl ?_
        refine J_getR (pc := 55) 1 fF_X4_7 rfl rfl dX4_moves_55 ?_
        refine J_iconst (pc := 58) (v := 0) dX4_moves_58 (by decide) ?_
        refine J_ialdW (pc := 59) 0 (rfl) rfl (by decide) dX4_moves_59 ?_
        refine J_iload_n (pc := 60) dX4_moves_60 rfl ?_
        refine J_aload_n (pc := 61) dX4_moves_61 rfl ?_
        refine J_getR (pc := 62) 1 fF_X4_7 rfl rfl dX4_moves_62 ?_
        refine J_iconst (pc := 65) (v := 5) dX4_moves_65 (by decide) ?_
        refine J_ialdW (pc := 66) 5 (rfl) rfl (by decide) dX4_moves_66 ?_
        refine J_callVz (pc := 67) fC_X4_86 rfl dX4_moves_67 (c_X4_prideBy hc ((m.1 1 0).toInt) a.toInt ((m.1 1 5).toInt) rfl rfl rfl (by omega)) rfl ⟨Nat.le_of_ble_eq_true rfl, Nat.le_of_ble_eq_true rfl⟩ rfl (Nat.le_of_ble_eq_true rfl) (fun z67 e67 => ?_)
        refine J_iret (pc := 70) dX4_moves_70 rfl ?_
        subst_vars
        first
          | exact Or.inl ⟨by omega, ⟨_, rfl, by first | rfl | omega⟩, by first | rfl | omega⟩
          | exact Or.inr (Or.inl ⟨by omega, ⟨_, rfl, by first | rfl | omega⟩, by first | rfl | omega⟩)
          | exact Or.inr (Or.inr (⟨by omega, ⟨_, rfl, by first | rfl | omega⟩, by first | rfl | omega⟩))
      · refine J_aload_n (pc := 33) dX4_moves_33 rfl ?_
        refine J_aload_n (pc := 34) dX4_moves_34 rfl ?_
        refine J_getR (pc := 35) 1 fF_X4_7 rfl rfl dX4_moves_35 ?_
        refine J_iconst (pc := 38) (v := 0) dX4_moves_38 (by decide) ?_
        refine J_ialdW (pc := 39) 0 (rfl) rfl (by decide) dX4_moves_39 ?_
        refine J_iload_n (pc := 40) dX4_moves_40 rfl ?_
        refine J_aload_n (pc := 41) dX4_moves_41 rfl ?_
        refine J_getR (pc := 42) 1 fF_X4_7 rfl rfl dX4_moves_42 ?_
        refine J_iconst (pc := 45) (v := 5) dX4_moves_45 (by decide) ?_
        refine J_ialdW (pc := 46) 5 (rfl) rfl (by decide) dX4_moves_46 ?_
        refine J_callVz (pc := 47) fC_X4_79 rfl dX4_moves_47 (c_X4_angerBy hc ((m.1 1 0).toInt) a.toInt ((m.1 1 5).toInt) rfl rfl rfl (by omega)) rfl ⟨Nat.le_of_ble_eq_true rfl, Nat.le_of_ble_eq_true rfl⟩ rfl (Nat.le_of_ble_eq_true rfl) (fun z47 e47 => ?_)
        refine J_goto (pc := 50) 70 dX4_moves_50 (by decide) ?_
        refine J_iret (pc := 70) dX4_moves_70 rfl ?_
        subst_vars
        first
          | exact Or.inl ⟨by omega, ⟨_, rfl, by first | rfl | omega⟩, by first | rfl | omega⟩
          | exact Or.inr (Or.inl ⟨by omega, ⟨_, rfl, by first | rfl | omega⟩, by first | rfl | omega⟩)
          | exact Or.inr (Or.inr (⟨by omega, ⟨_, rfl, by first | rfl | omega⟩, by first | rfl | omega⟩))
    · refine J_if_ne_F (pc := 19) 29 dX4_moves_19 (by decide) (by decide) ?_
      refine J_aload_n (pc := 22) dX4_moves_22 rfl ?_
      refine J_bipush (pc := 23) (v := (-100)) dX4_moves_23 (by decide) ?_
      refine J_callVim (pc := 25) fC_X4_62 rfl dX4_moves_25 (c_X4_noAs) rfl ⟨Nat.le_of_ble_eq_true rfl, Nat.le_of_ble_eq_true rfl⟩ rfl (Nat.le_of_ble_eq_true rfl) (fun z25 μ25 d25 m25 => ?_)
      refine J_iret (pc := 28) dX4_moves_28 rfl ?_
      subst_vars
      first
        | exact Or.inl ⟨by omega, ⟨_, rfl, by first | rfl | omega⟩, by first | rfl | omega⟩
        | exact Or.inr (Or.inl ⟨by omega, ⟨_, rfl, by first | rfl | omega⟩, by first | rfl | omega⟩)
        | exact Or.inr (Or.inr (⟨by omega, ⟨_, rfl, by first | rfl | omega⟩, by first | rfl | omega⟩))
  · refine J_if_eq_T (pc := 9) 22 dX4_moves_9 (by decide) (by decide) ?_
    refine J_aload_n (pc := 22) dX4_moves_22 rfl ?_
    refine J_bipush (pc := 23) (v := (-100)) dX4_moves_23 (by decide) ?_
    refine J_callVim (pc := 25) fC_X4_62 rfl dX4_moves_25 (c_X4_noAs) rfl ⟨Nat.le_of_ble_eq_true rfl, Nat.le_of_ble_eq_true rfl⟩ rfl (Nat.le_of_ble_eq_true rfl) (fun z25 μ25 d25 m25 => ?_)
    refine J_iret (pc := 28) dX4_moves_28 rfl ?_
    subst_vars
    first
      | exact Or.inl ⟨by omega, ⟨_, rfl, by first | rfl | omega⟩, by first | rfl | omega⟩
      | exact Or.inr (Or.inl ⟨by omega, ⟨_, rfl, by first | rfl | omega⟩, by first | rfl | omega⟩)
      | exact Or.inr (Or.inr (⟨by omega, ⟨_, rfl, by first | rfl | omega⟩, by first | rfl | omega⟩))
theorem pr_moves {G : JG × JG} {N : Int} {c m : JM} (h : Inv N c m) (hN : 150 ≤ N ∧ N < 100000) {a b : Int32} : Pair G N c m mX3_moves mX4_moves [.int a, .int b] := by
  refine ⟨_, _, k_moves h hN, n_moves h hN, fun v c' w m' hC hM => ?_⟩
  obtain ⟨q0, q1, q2, q3, q4, q5, q6⟩ := Inv_q h
  obtain ⟨r0, r1, r2, r3, r4, r5, r6, r15, r40, r9⟩ := Inv_r h
  have hc := h.1
  have qt : (c.1 21 1).toInt = (m.1 0 9).toInt := by rw [h.2.2.2.2.1.1]
  have qs0 : (c.1 0 8).toInt = (m.1 4 0).toInt := by rw [h.2.2.2.2.2.2.1]
  have qs1 : (c.1 0 9).toInt = (m.1 4 1).toInt := by rw [h.2.2.2.2.2.2.2.1]
  have qs2 : (c.1 0 10).toInt = (m.1 4 2).toInt := by rw [h.2.2.2.2.2.2.2.2]
  rcases hC with ⟨a1, a2, a3⟩ | ⟨a1, a2, a3⟩ | ⟨a1, a2, a3⟩
  · rcases hM with ⟨b1, b2, b3⟩ | ⟨b1, b2, b3⟩ | ⟨b1, b2, b3⟩
    · exact ⟨IsZ_eq a2 b2, by rw [a3, b3]; exact Inv_no (by omega) h 0 (by decide)⟩
    · exfalso; omega
    · exfalso; omega
  · rcases hM with ⟨b1, b2, b3⟩ | ⟨b1, b2, b3⟩ | ⟨b1, b2, b3⟩
    · exfalso; omega
    · exact ⟨IsZ_eq a2 b2, by rw [a3, b3]; exact Inv_eq (by omega) h (eqC_rf _) (eqM_rf _)⟩
    · exfalso; omega
  · rcases hM with ⟨b1, b2, b3⟩ | ⟨b1, b2, b3⟩ | ⟨b1, b2, b3⟩
    · exfalso; omega
    · exfalso; omega
    · exact ⟨IsZ_eq a2 b2, by rw [a3, b3]; exact Inv_eq (by omega) h (eqC_rf _) (eqM_rf _)⟩
set_option maxRecDepth 100000 in
set_option maxHeartbeats 4000000 in
theorem k_status {N : Int} {c m : JM} (h : Inv N c m) (hN : 150 ≤ N ∧ N < 100000) {a : Int32}  : Con G shC mX3_status [.ref 0, .int a] c (fun v μ' => ((¬(0 ≤ a.toInt ∧ a.toInt ≤ 2)) ∧ IsZ v (-1) ∧ μ' = (jI c 0 8 (c.1 0 8 + 1))) ∨ ((a.toInt = 0) ∧ IsZ v ((m.1 4 0).toInt) ∧ μ' = c) ∨ ((a.toInt = 1) ∧ IsZ v ((m.1 4 1).toInt) ∧ μ' = c) ∨ ((a.toInt = 2) ∧ IsZ v ((m.1 4 2).toInt) ∧ μ' = c)) := by
  obtain ⟨q0, q1, q2, q3, q4, q5, q6⟩ := Inv_q h
  obtain ⟨r0, r1, r2, r3, r4, r5, r6, r15, r40, r9⟩ := Inv_r h
  have hc := h.1
  have qt : (c.1 21 1).toInt = (m.1 0 9).toInt := by rw [h.2.2.2.2.1.1]
  have qs0 : (c.1 0 8).toInt = (m.1 4 0).toInt := by rw [h.2.2.2.2.2.2.1]
  have qs1 : (c.1 0 9).toInt = (m.1 4 1).toInt := by rw [h.2.2.2.2.2.2.2.1]
  have qs2 : (c.1 0 10).toInt = (m.1 4 2).toInt := by rw [h.2.2.2.2.2.2.2.2]
  refine Con_of [some (.ref 0), some (.int a)] (by decide +kernel) (Nat.le_of_ble_eq_true rfl) (fun _ h => h) ?_
  refine J_iload_n (pc := 0) dX3_status_0 rfl ?_
  rcases (by omega : a.toInt = 0 ∨ a.toInt = 1 ∨ a.toInt = 2 ∨ (a.toInt < 0 ∨ 2 < a.toInt)) with h1 | h1 | h1 | h1
  · refine J_tsIn (pc := 1) 28 dX3_status_1 (z := 0) (by first | omega | (rw [rfl]; omega)) (by decide) (by decide) rfl (by decide) ?_
    refine J_aload_n (pc := 28) dX3_status_28 rfl ?_
    refine J_getI (pc := 29) fF_X3_46 rfl rfl dX3_status_29 ?_
    refine J_iret (pc := 32) dX3_status_32 rfl ?_
    subst_vars
    first
      | exact Or.inl ⟨by omega, ⟨_, rfl, by first | rfl | omega⟩, by first | rfl | omega⟩
      | exact Or.inr (Or.inl ⟨by omega, ⟨_, rfl, by first | rfl | omega⟩, by first | rfl | omega⟩)
      | exact Or.inr (Or.inr (Or.inl ⟨by omega, ⟨_, rfl, by first | rfl | omega⟩, by first | rfl | omega⟩))
      | exact Or.inr (Or.inr (Or.inr (⟨by omega, ⟨_, rfl, by first | rfl | omega⟩, by first | rfl | omega⟩)))
  · refine J_tsIn (pc := 1) 33 dX3_status_1 (z := 1) (by first | omega | (rw [rfl]; omega)) (by decide) (by decide) rfl (by decide) ?_
    refine J_aload_n (pc := 33) dX3_status_33 rfl ?_
    refine J_getI (pc := 34) fF_X3_50 rfl rfl dX3_status_34 ?_
    refine J_iret (pc := 37) dX3_status_37 rfl ?_
    subst_vars
    first
      | exact Or.inl ⟨by omega, ⟨_, rfl, by first | rfl | omega⟩, by first | rfl | omega⟩
      | exact Or.inr (Or.inl ⟨by omega, ⟨_, rfl, by first | rfl | omega⟩, by first | rfl | omega⟩)
      | exact Or.inr (Or.inr (Or.inl ⟨by omega, ⟨_, rfl, by first | rfl | omega⟩, by first | rfl | omega⟩))
      | exact Or.inr (Or.inr (Or.inr (⟨by omega, ⟨_, rfl, by first | rfl | omega⟩, by first | rfl | omega⟩)))
  · refine J_tsIn (pc := 1) 38 dX3_status_1 (z := 2) (by first | omega | (rw [rfl]; omega)) (by decide) (by decide) rfl (by decide) ?_
    refine J_aload_n (pc := 38) dX3_status_38 rfl ?_
    refine J_getI (pc := 39) fF_X3_53 rfl rfl dX3_status_39 ?_
    refine J_iret (pc := 42) dX3_status_42 rfl ?_
    subst_vars
    first
      | exact Or.inl ⟨by omega, ⟨_, rfl, by first | rfl | omega⟩, by first | rfl | omega⟩
      | exact Or.inr (Or.inl ⟨by omega, ⟨_, rfl, by first | rfl | omega⟩, by first | rfl | omega⟩)
      | exact Or.inr (Or.inr (Or.inl ⟨by omega, ⟨_, rfl, by first | rfl | omega⟩, by first | rfl | omega⟩))
      | exact Or.inr (Or.inr (Or.inr (⟨by omega, ⟨_, rfl, by first | rfl | omega⟩, by first | rfl | omega⟩)))
  · refine J_tsOut (pc := 1) 43 dX3_status_1 (by first | omega | (rw [rfl]; omega)) (by decide) ?_
    refine J_aload_n (pc := 43) dX3_status_43 rfl ?_
    refine J_iconst (pc := 44) (v := (-1)) dX3_status_44 (by decide) ?_
    refine J_callVim (pc := 45) fC_X3_144 rfl dX3_status_45 (c_X3_refuseBad) rfl ⟨Nat.le_of_ble_eq_true rfl, Nat.le_of_ble_eq_true rfl⟩ rfl (Nat.le_of_ble_eq_true rfl) (fun z45 μ45 d45 m45 => ?_)
    refine J_iret (pc := 48) dX3_status_48 rfl ?_
    subst_vars
    first
      | exact Or.inl ⟨by omega, ⟨_, rfl, by first | rfl | omega⟩, by first | rfl | omega⟩
      | exact Or.inr (Or.inl ⟨by omega, ⟨_, rfl, by first | rfl | omega⟩, by first | rfl | omega⟩)
      | exact Or.inr (Or.inr (Or.inl ⟨by omega, ⟨_, rfl, by first | rfl | omega⟩, by first | rfl | omega⟩))
      | exact Or.inr (Or.inr (Or.inr (⟨by omega, ⟨_, rfl, by first | rfl | omega⟩, by first | rfl | omega⟩)))
set_option maxRecDepth 100000 in
set_option maxHeartbeats 4000000 in
theorem n_status {N : Int} {c m : JM} (h : Inv N c m) (hN : 150 ≤ N ∧ N < 100000) {a : Int32}  : Con G shM mX4_status [.ref 0, .int a] m (fun v μ' => ((¬(0 ≤ a.toInt ∧ a.toInt ≤ 2)) ∧ IsZ v (-1) ∧ μ' = (jI m 4 0 (m.1 4 0 + 1))) ∨ ((0 ≤ a.toInt ∧ a.toInt ≤ 2) ∧ IsZ v ((m.1 4 a.toInt.toNat).toInt) ∧ μ' = m)) := by
  obtain ⟨q0, q1, q2, q3, q4, q5, q6⟩ := Inv_q h
  obtain ⟨r0, r1, r2, r3, r4, r5, r6, r15, r40, r9⟩ := Inv_r h
  have hc := h.1
  have qt : (c.1 21 1).toInt = (m.1 0 9).toInt := by rw [h.2.2.2.2.1.1]
  have qs0 : (c.1 0 8).toInt = (m.1 4 0).toInt := by rw [h.2.2.2.2.2.2.1]
  have qs1 : (c.1 0 9).toInt = (m.1 4 1).toInt := by rw [h.2.2.2.2.2.2.2.1]
  have qs2 : (c.1 0 10).toInt = (m.1 4 2).toInt := by rw [h.2.2.2.2.2.2.2.2]
  refine Con_of [some (.ref 0), some (.int a)] (by decide +kernel) (Nat.le_of_ble_eq_true rfl) (fun _ h => h) ?_
  refine J_iload_n (pc := 0) dX4_status_0 rfl ?_
  refine J_i2l (pc := 1) dX4_status_1 rfl ?_
  refine J_lconst (pc := 2) (v := 0) dX4_status_2 (by decide) ?_
  refine J_ldc2 (pc := 3) fK_X4_56 dX4_status_3 ?_
  refine J_callSc (pc := 6) fC_X4_58 dX4_status_6 (c_X4_in a.toInt 0 2 (i2l_z rfl) rfl rfl) rfl ⟨Nat.le_of_ble_eq_true rfl, Nat.le_of_ble_eq_true rfl⟩ rfl (Nat.le_of_ble_eq_true rfl) (fun h6 => ?_) (fun h6 => ?_)
  · refine J_if_eq_F (pc := 9) 21 dX4_status_9 (by decide) (by decide) ?_
    refine J_aload_n (pc := 12) dX4_status_12 rfl ?_
    refine J_getR (pc := 13) 4 fF_X4_19 rfl rfl dX4_status_13 ?_
    refine J_iload_n (pc := 16) dX4_status_16 rfl ?_
    refine J_ialdW (pc := 17) a.toInt.toNat (by omega) rfl (by omega) dX4_status_17 ?_
    refine J_goto (pc := 18) 26 dX4_status_18 (by decide) ?_
    refine J_iret (pc := 26) dX4_status_26 rfl ?_
    subst_vars
    first
      | exact Or.inl ⟨by omega, ⟨_, rfl, by first | rfl | omega⟩, by first | rfl | omega⟩
      | exact Or.inr (⟨by omega, ⟨_, rfl, by first | rfl | omega⟩, by first | rfl | omega⟩)
  · refine J_if_eq_T (pc := 9) 21 dX4_status_9 (by decide) (by decide) ?_
    refine J_aload_n (pc := 21) dX4_status_21 rfl ?_
    refine J_iconst (pc := 22) (v := (-1)) dX4_status_22 (by decide) ?_
    refine J_callVim (pc := 23) fC_X4_62 rfl dX4_status_23 (c_X4_noAs) rfl ⟨Nat.le_of_ble_eq_true rfl, Nat.le_of_ble_eq_true rfl⟩ rfl (Nat.le_of_ble_eq_true rfl) (fun z23 μ23 d23 m23 => ?_)
    refine J_iret (pc := 26) dX4_status_26 rfl ?_
    subst_vars
    first
      | exact Or.inl ⟨by omega, ⟨_, rfl, by first | rfl | omega⟩, by first | rfl | omega⟩
      | exact Or.inr (⟨by omega, ⟨_, rfl, by first | rfl | omega⟩, by first | rfl | omega⟩)
theorem pr_status {G : JG × JG} {N : Int} {c m : JM} (h : Inv N c m) (hN : 150 ≤ N ∧ N < 100000) {a : Int32} : Pair G N c m mX3_status mX4_status [.int a] := by
  refine ⟨_, _, k_status h hN, n_status h hN, fun v c' w m' hC hM => ?_⟩
  obtain ⟨q0, q1, q2, q3, q4, q5, q6⟩ := Inv_q h
  obtain ⟨r0, r1, r2, r3, r4, r5, r6, r15, r40, r9⟩ := Inv_r h
  have hc := h.1
  have qt : (c.1 21 1).toInt = (m.1 0 9).toInt := by rw [h.2.2.2.2.1.1]
  have qs0 : (c.1 0 8).toInt = (m.1 4 0).toInt := by rw [h.2.2.2.2.2.2.1]
  have qs1 : (c.1 0 9).toInt = (m.1 4 1).toInt := by rw [h.2.2.2.2.2.2.2.1]
  have qs2 : (c.1 0 10).toInt = (m.1 4 2).toInt := by rw [h.2.2.2.2.2.2.2.2]
  rcases hM with ⟨b1, b2, b3⟩ | ⟨b1, b2, b3⟩
  · rcases hC with ⟨a1, a2, a3⟩ | hC
    · exact ⟨IsZ_eq a2 b2, by rw [a3, b3]; exact Inv_no (by omega) h 0 (by decide)⟩
    · exfalso; omega
  · have hx : IsZ v (m.1 4 a.toInt.toNat).toInt ∧ c' = c := by
      rcases hC with ⟨a1, -, -⟩ | hC
      · exact absurd b1 a1
      rcases hC with ⟨a1, a2, a3⟩ | ⟨a1, a2, a3⟩ | ⟨a1, a2, a3⟩ <;> exact ⟨by rw [a1]; exact a2, a3⟩
    obtain ⟨a2, a3⟩ := hx
    exact ⟨IsZ_eq a2 b2, by rw [a3, b3]; exact Inv_eq (by omega) h (eqC_rf _) (eqM_rf _)⟩
def cntZ (m : JM) (a : Int) : Int := if a = 0 then (m.1 1 5).toInt else if a = 1 then (m.1 1 15).toInt else if a = 2 then (m.1 1 40).toInt else (m.1 0 9).toInt
set_option maxRecDepth 100000 in
set_option maxHeartbeats 4000000 in
theorem c_X4_countOf {m : JM} {a : Int32} (a' : Int) (ha : a.toInt = a') : Con G shM mX4_countOf [.ref 0, .int a] m (j_z (cntZ m a') m) := by
  refine Con_of [some (.ref 0), some (.int a)] (by decide +kernel) (Nat.le_of_ble_eq_true rfl) (fun _ h => h) ?_
  refine J_iload_n (pc := 0) dX4_countOf_0 rfl ?_
  rcases (by omega : a' = 0 ∨ a' = 1 ∨ a' = 2 ∨ (a' < 0 ∨ 2 < a')) with h1 | h1 | h1 | h1
  · refine J_tsIn (pc := 1) 28 dX4_countOf_1 (z := 0) (by first | omega | (rw [ha]; omega)) (by decide) (by decide) rfl (by decide) ?_
    refine J_aload_n (pc := 28) dX4_countOf_28 rfl ?_
    refine J_getR (pc := 29) 1 fF_X4_7 rfl rfl dX4_countOf_29 ?_
    refine J_iconst (pc := 32) (v := 5) dX4_countOf_32 (by decide) ?_
    refine J_ialdW (pc := 33) 5 (rfl) rfl (by decide) dX4_countOf_33 ?_
    refine J_iret (pc := 34) dX4_countOf_34 rfl ?_
    exact ⟨⟨_, rfl, by unfold cntZ; omega⟩, rfl⟩
  · refine J_tsIn (pc := 1) 35 dX4_countOf_1 (z := 1) (by first | omega | (rw [ha]; omega)) (by decide) (by decide) rfl (by decide) ?_
    refine J_aload_n (pc := 35) dX4_countOf_35 rfl ?_
    refine J_getR (pc := 36) 1 fF_X4_7 rfl rfl dX4_countOf_36 ?_
    refine J_bipush (pc := 39) (v := 15) dX4_countOf_39 (by decide) ?_
    refine J_ialdW (pc := 41) 15 (rfl) rfl (by decide) dX4_countOf_41 ?_
    refine J_iret (pc := 42) dX4_countOf_42 rfl ?_
    exact ⟨⟨_, rfl, by unfold cntZ; omega⟩, rfl⟩
  · refine J_tsIn (pc := 1) 43 dX4_countOf_1 (z := 2) (by first | omega | (rw [ha]; omega)) (by decide) (by decide) rfl (by decide) ?_
    refine J_aload_n (pc := 43) dX4_countOf_43 rfl ?_
    refine J_getR (pc := 44) 1 fF_X4_7 rfl rfl dX4_countOf_44 ?_
    refine J_bipush (pc := 47) (v := 40) dX4_countOf_47 (by decide) ?_
    refine J_ialdW (pc := 49) 40 (rfl) rfl (by decide) dX4_countOf_49 ?_
    refine J_iret (pc := 50) dX4_countOf_50 rfl ?_
    exact ⟨⟨_, rfl, by unfold cntZ; omega⟩, rfl⟩
  · refine J_tsOut (pc := 1) 51 dX4_countOf_1 (by first | omega | (rw [ha]; omega)) (by decide) ?_
    refine J_aload_n (pc := 51) dX4_countOf_51 rfl ?_
    refine J_getI (pc := 52) fF_X4_102 rfl rfl dX4_countOf_52 ?_
    refine J_iret (pc := 55) dX4_countOf_55 rfl ?_
    exact ⟨⟨_, rfl, by unfold cntZ; omega⟩, rfl⟩
set_option maxRecDepth 100000 in
set_option maxHeartbeats 4000000 in
theorem k_count {N : Int} {c m : JM} (h : Inv N c m) (hN : 150 ≤ N ∧ N < 100000) {a : Int32}  : Con G shC mX3_count [.ref 0, .int a] c (fun v μ' => ((¬(0 ≤ a.toInt ∧ a.toInt ≤ 3)) ∧ IsZ v (-2) ∧ μ' = (jI c 0 8 (c.1 0 8 + 1))) ∨ ((0 ≤ a.toInt ∧ a.toInt ≤ 3) ∧ IsZ v (cntZ m a.toInt) ∧ μ' = c)) := by
  obtain ⟨q0, q1, q2, q3, q4, q5, q6⟩ := Inv_q h
  obtain ⟨r0, r1, r2, r3, r4, r5, r6, r15, r40, r9⟩ := Inv_r h
  have hc := h.1
  have qt : (c.1 21 1).toInt = (m.1 0 9).toInt := by rw [h.2.2.2.2.1.1]
  have qs0 : (c.1 0 8).toInt = (m.1 4 0).toInt := by rw [h.2.2.2.2.2.2.1]
  have qs1 : (c.1 0 9).toInt = (m.1 4 1).toInt := by rw [h.2.2.2.2.2.2.2.1]
  have qs2 : (c.1 0 10).toInt = (m.1 4 2).toInt := by rw [h.2.2.2.2.2.2.2.2]
  refine Con_of [some (.ref 0), some (.int a)] (by decide +kernel) (Nat.le_of_ble_eq_true rfl) (fun _ h => h) ?_
  refine J_iload_n (pc := 0) dX3_count_0 rfl ?_
  rcases (by omega : a.toInt = 0 ∨ a.toInt = 1 ∨ a.toInt = 2 ∨ a.toInt = 3 ∨ (a.toInt < 0 ∨ 3 < a.toInt)) with h1 | h1 | h1 | h1 | h1
  · refine J_tsIn (pc := 1) 32 dX3_count_1 (z := 0) (by first | omega | (rw [rfl]; omega)) (by decide) (by decide) rfl (by decide) ?_
    refine J_aload_n (pc := 32) dX3_count_32 rfl ?_
    refine J_getR (pc := 33) 1 fF_X3_12 rfl rfl dX3_count_33 ?_
    refine J_getI (pc := 36) fF_X3_68 rfl rfl dX3_count_36 ?_
    refine J_iret (pc := 39) dX3_count_39 rfl ?_
    subst_vars
    first
      | exact Or.inl ⟨by omega, ⟨_, rfl, by first | rfl | (unfold cntZ; omega)⟩, by first | rfl | omega⟩
      | exact Or.inr (⟨by omega, ⟨_, rfl, by first | rfl | (unfold cntZ; omega)⟩, by first | rfl | omega⟩)
  · refine J_tsIn (pc := 1) 40 dX3_count_1 (z := 1) (by first | omega | (rw [rfl]; omega)) (by decide) (by decide) rfl (by decide) ?_
    refine J_aload_n (pc := 40) dX3_count_40 rfl ?_
    refine J_getR (pc := 41) 1 fF_X3_12 rfl rfl dX3_count_41 ?_
    refine J_getI (pc := 44) fF_X3_178 rfl rfl dX3_count_44 ?_
    refine J_iret (pc := 47) dX3_count_47 rfl ?_
    subst_vars
    first
      | exact Or.inl ⟨by omega, ⟨_, rfl, by first | rfl | (unfold cntZ; omega)⟩, by first | rfl | omega⟩
      | exact Or.inr (⟨by omega, ⟨_, rfl, by first | rfl | (unfold cntZ; omega)⟩, by first | rfl | omega⟩)
  · refine J_tsIn (pc := 1) 48 dX3_count_1 (z := 2) (by first | omega | (rw [rfl]; omega)) (by decide) (by decide) rfl (by decide) ?_
    refine J_aload_n (pc := 48) dX3_count_48 rfl ?_
    refine J_getR (pc := 49) 1 fF_X3_12 rfl rfl dX3_count_49 ?_
    refine J_getI (pc := 52) fF_X3_135 rfl rfl dX3_count_52 ?_
    refine J_iret (pc := 55) dX3_count_55 rfl ?_
    subst_vars
    first
      | exact Or.inl ⟨by omega, ⟨_, rfl, by first | rfl | (unfold cntZ; omega)⟩, by first | rfl | omega⟩
      | exact Or.inr (⟨by omega, ⟨_, rfl, by first | rfl | (unfold cntZ; omega)⟩, by first | rfl | omega⟩)
  · refine J_tsIn (pc := 1) 56 dX3_count_1 (z := 3) (by first | omega | (rw [rfl]; omega)) (by decide) (by decide) rfl (by decide) ?_
    refine J_aload_n (pc := 56) dX3_count_56 rfl ?_
    refine J_getR (pc := 57) 21 fF_X3_28 rfl rfl dX3_count_57 ?_
    refine J_getI (pc := 60) fF_X3_99 rfl rfl dX3_count_60 ?_
    refine J_iret (pc := 63) dX3_count_63 rfl ?_
    subst_vars
    first
      | exact Or.inl ⟨by omega, ⟨_, rfl, by first | rfl | (unfold cntZ; omega)⟩, by first | rfl | omega⟩
      | exact Or.inr (⟨by omega, ⟨_, rfl, by first | rfl | (unfold cntZ; omega)⟩, by first | rfl | omega⟩)
  · refine J_tsOut (pc := 1) 64 dX3_count_1 (by first | omega | (rw [rfl]; omega)) (by decide) ?_
    refine J_aload_n (pc := 64) dX3_count_64 rfl ?_
    refine J_bipush (pc := 65) (v := (-2)) dX3_count_65 (by decide) ?_
    refine J_callVim (pc := 67) fC_X3_64 rfl dX3_count_67 (c_X3_refuse2) rfl ⟨Nat.le_of_ble_eq_true rfl, Nat.le_of_ble_eq_true rfl⟩ rfl (Nat.le_of_ble_eq_true rfl) (fun z67 μ67 d67 m67 => ?_)
    refine J_iret (pc := 70) dX3_count_70 rfl ?_
    subst_vars
    first
      | exact Or.inl ⟨by omega, ⟨_, rfl, by first | rfl | (unfold cntZ; omega)⟩, by first | rfl | omega⟩
      | exact Or.inr (⟨by omega, ⟨_, rfl, by first | rfl | (unfold cntZ; omega)⟩, by first | rfl | omega⟩)
set_option maxRecDepth 100000 in
set_option maxHeartbeats 4000000 in
theorem n_count {N : Int} {c m : JM} (h : Inv N c m) (hN : 150 ≤ N ∧ N < 100000) {a : Int32}  : Con G shM mX4_count [.ref 0, .int a] m (fun v μ' => ((¬(0 ≤ a.toInt ∧ a.toInt ≤ 3)) ∧ IsZ v (-2) ∧ μ' = (jI m 4 0 (m.1 4 0 + 1))) ∨ ((0 ≤ a.toInt ∧ a.toInt ≤ 3) ∧ IsZ v (cntZ m a.toInt) ∧ μ' = m)) := by
  obtain ⟨q0, q1, q2, q3, q4, q5, q6⟩ := Inv_q h
  obtain ⟨r0, r1, r2, r3, r4, r5, r6, r15, r40, r9⟩ := Inv_r h
  have hc := h.1
  have qt : (c.1 21 1).toInt = (m.1 0 9).toInt := by rw [h.2.2.2.2.1.1]
  have qs0 : (c.1 0 8).toInt = (m.1 4 0).toInt := by rw [h.2.2.2.2.2.2.1]
  have qs1 : (c.1 0 9).toInt = (m.1 4 1).toInt := by rw [h.2.2.2.2.2.2.2.1]
  have qs2 : (c.1 0 10).toInt = (m.1 4 2).toInt := by rw [h.2.2.2.2.2.2.2.2]
  refine Con_of [some (.ref 0), some (.int a)] (by decide +kernel) (Nat.le_of_ble_eq_true rfl) (fun _ h => h) ?_
  refine J_iload_n (pc := 0) dX4_count_0 rfl ?_
  refine J_i2l (pc := 1) dX4_count_1 rfl ?_
  refine J_lconst (pc := 2) (v := 0) dX4_count_2 (by decide) ?_
  refine J_ldc2 (pc := 3) fK_X4_180 dX4_count_3 ?_
  refine J_callSc (pc := 6) fC_X4_58 dX4_count_6 (c_X4_in a.toInt 0 3 (i2l_z rfl) rfl rfl) rfl ⟨Nat.le_of_ble_eq_true rfl, Nat.le_of_ble_eq_true rfl⟩ rfl (Nat.le_of_ble_eq_true rfl) (fun h6 => ?_) (fun h6 => ?_)
  · refine J_if_eq_F (pc := 9) 20 dX4_count_9 (by decide) (by decide) ?_
    refine J_aload_n (pc := 12) dX4_count_12 rfl ?_
    refine J_iload_n (pc := 13) dX4_count_13 rfl ?_
    refine J_callVz (pc := 14) fC_X4_250 rfl dX4_count_14 (c_X4_countOf a.toInt rfl) rfl ⟨Nat.le_of_ble_eq_true rfl, Nat.le_of_ble_eq_true rfl⟩ rfl (Nat.le_of_ble_eq_true rfl) (fun z14 e14 => ?_)
    refine J_goto (pc := 17) 26 dX4_count_17 (by decide) ?_
    refine J_iret (pc := 26) dX4_count_26 rfl ?_
    subst_vars
    first
      | exact Or.inl ⟨by omega, ⟨_, rfl, by first | rfl | omega⟩, by first | rfl | omega⟩
      | exact Or.inr (⟨by omega, ⟨_, rfl, by first | rfl | omega⟩, by first | rfl | omega⟩)
  · refine J_if_eq_T (pc := 9) 20 dX4_count_9 (by decide) (by decide) ?_
    refine J_aload_n (pc := 20) dX4_count_20 rfl ?_
    refine J_bipush (pc := 21) (v := (-2)) dX4_count_21 (by decide) ?_
    refine J_callVim (pc := 23) fC_X4_91 rfl dX4_count_23 (c_X4_no2) rfl ⟨Nat.le_of_ble_eq_true rfl, Nat.le_of_ble_eq_true rfl⟩ rfl (Nat.le_of_ble_eq_true rfl) (fun z23 μ23 d23 m23 => ?_)
    refine J_iret (pc := 26) dX4_count_26 rfl ?_
    subst_vars
    first
      | exact Or.inl ⟨by omega, ⟨_, rfl, by first | rfl | omega⟩, by first | rfl | omega⟩
      | exact Or.inr (⟨by omega, ⟨_, rfl, by first | rfl | omega⟩, by first | rfl | omega⟩)
theorem pr_count {G : JG × JG} {N : Int} {c m : JM} (h : Inv N c m) (hN : 150 ≤ N ∧ N < 100000) {a : Int32} : Pair G N c m mX3_count mX4_count [.int a] := by
  refine ⟨_, _, k_count h hN, n_count h hN, fun v c' w m' hC hM => ?_⟩
  obtain ⟨q0, q1, q2, q3, q4, q5, q6⟩ := Inv_q h
  obtain ⟨r0, r1, r2, r3, r4, r5, r6, r15, r40, r9⟩ := Inv_r h
  have hc := h.1
  have qt : (c.1 21 1).toInt = (m.1 0 9).toInt := by rw [h.2.2.2.2.1.1]
  have qs0 : (c.1 0 8).toInt = (m.1 4 0).toInt := by rw [h.2.2.2.2.2.2.1]
  have qs1 : (c.1 0 9).toInt = (m.1 4 1).toInt := by rw [h.2.2.2.2.2.2.2.1]
  have qs2 : (c.1 0 10).toInt = (m.1 4 2).toInt := by rw [h.2.2.2.2.2.2.2.2]
  rcases hC with ⟨a1, a2, a3⟩ | ⟨a1, a2, a3⟩
  · rcases hM with ⟨b1, b2, b3⟩ | ⟨b1, b2, b3⟩
    · exact ⟨IsZ_eq a2 b2, by rw [a3, b3]; exact Inv_no (by omega) h 0 (by decide)⟩
    · exfalso; omega
  · rcases hM with ⟨b1, b2, b3⟩ | ⟨b1, b2, b3⟩
    · exfalso; omega
    · exact ⟨IsZ_eq a2 b2, by rw [a3, b3]; exact Inv_eq (by omega) h (eqC_rf _) (eqM_rf _)⟩
set_option maxRecDepth 100000 in
set_option maxHeartbeats 4000000 in
theorem k_part {N : Int} {c m : JM} (h : Inv N c m) (hN : 150 ≤ N ∧ N < 100000) {a : Int32}  : Con G shC mX3_part [.ref 0, .int a] c (fun v μ' => ((a.toInt ≠ 0 ∧ a.toInt ≠ 1) ∧ v = some (.long (-2)) ∧ μ' = (jI c 0 8 (c.1 0 8 + 1))) ∨ ((a.toInt = 0) ∧ v = some (.long (c.2 0 6)) ∧ μ' = c) ∨ ((a.toInt = 1) ∧ v = some (.long (c.2 0 7)) ∧ μ' = c)) := by
  obtain ⟨q0, q1, q2, q3, q4, q5, q6⟩ := Inv_q h
  obtain ⟨r0, r1, r2, r3, r4, r5, r6, r15, r40, r9⟩ := Inv_r h
  have hc := h.1
  have qt : (c.1 21 1).toInt = (m.1 0 9).toInt := by rw [h.2.2.2.2.1.1]
  have qs0 : (c.1 0 8).toInt = (m.1 4 0).toInt := by rw [h.2.2.2.2.2.2.1]
  have qs1 : (c.1 0 9).toInt = (m.1 4 1).toInt := by rw [h.2.2.2.2.2.2.2.1]
  have qs2 : (c.1 0 10).toInt = (m.1 4 2).toInt := by rw [h.2.2.2.2.2.2.2.2]
  refine Con_of [some (.ref 0), some (.int a)] (by decide +kernel) (Nat.le_of_ble_eq_true rfl) (fun _ h => h) ?_
  refine J_iload_n (pc := 0) dX3_part_0 rfl ?_
  rcases (by omega : a.toInt = 0 ∨ a.toInt = 1 ∨ (a.toInt ≠ 0 ∧ a.toInt ≠ 1)) with h1 | h1 | h1
  · refine J_look (pc := 1) 28 dX3_part_1 (by decide) (off := 27) (by rw [show a.toInt = 0 by first | omega | (rw [rfl]; omega)]; rfl) (by decide) ?_
    refine J_aload_n (pc := 28) dX3_part_28 rfl ?_
    refine J_getL (pc := 29) fF_X3_39 rfl rfl dX3_part_29 ?_
    refine J_lret (pc := 32) dX3_part_32 rfl ?_
    subst_vars
    first
      | exact Or.inl ⟨by omega, rfl, by first | rfl | omega⟩
      | exact Or.inr (Or.inl ⟨by omega, rfl, by first | rfl | omega⟩)
      | exact Or.inr (Or.inr (⟨by omega, rfl, by first | rfl | omega⟩))
  · refine J_look (pc := 1) 33 dX3_part_1 (by decide) (off := 32) (by rw [show a.toInt = 1 by first | omega | (rw [rfl]; omega)]; rfl) (by decide) ?_
    refine J_aload_n (pc := 33) dX3_part_33 rfl ?_
    refine J_getL (pc := 34) fF_X3_43 rfl rfl dX3_part_34 ?_
    refine J_lret (pc := 37) dX3_part_37 rfl ?_
    subst_vars
    first
      | exact Or.inl ⟨by omega, rfl, by first | rfl | omega⟩
      | exact Or.inr (Or.inl ⟨by omega, rfl, by first | rfl | omega⟩)
      | exact Or.inr (Or.inr (⟨by omega, rfl, by first | rfl | omega⟩))
  · have g1 : ¬ 0 = a.toInt ∧ ¬ 1 = a.toInt := by first | omega | (rw [rfl]; omega)
    refine J_look (pc := 1) 38 dX3_part_1 (by decide) (off := 37) (by simp [Op.lookupswitch.offset, g1]) (by decide) ?_
    refine J_aload_n (pc := 38) dX3_part_38 rfl ?_
    refine J_bipush (pc := 39) (v := (-2)) dX3_part_39 (by decide) ?_
    refine J_callVim (pc := 41) fC_X3_64 rfl dX3_part_41 (c_X3_refuse2) rfl ⟨Nat.le_of_ble_eq_true rfl, Nat.le_of_ble_eq_true rfl⟩ rfl (Nat.le_of_ble_eq_true rfl) (fun z41 μ41 d41 m41 => ?_)
    refine J_i2l (pc := 44) dX3_part_44 rfl ?_
    refine J_lret (pc := 45) dX3_part_45 rfl ?_
    subst_vars
    first
      | exact Or.inl ⟨by omega, rfl, by first | rfl | omega⟩
      | exact Or.inr (Or.inl ⟨by omega, rfl, by first | rfl | omega⟩)
      | exact Or.inr (Or.inr (⟨by omega, rfl, by first | rfl | omega⟩))
set_option maxRecDepth 100000 in
set_option maxHeartbeats 4000000 in
theorem n_part {N : Int} {c m : JM} (h : Inv N c m) (hN : 150 ≤ N ∧ N < 100000) {a : Int32}  : Con G shM mX4_part [.ref 0, .int a] m (fun v μ' => ((a.toInt ≠ 0 ∧ a.toInt ≠ 1) ∧ v = some (.long (-2)) ∧ μ' = (jI m 4 0 (m.1 4 0 + 1))) ∨ ((a.toInt = 0) ∧ v = some (.long (m.2 0 20)) ∧ μ' = m) ∨ ((a.toInt = 1) ∧ v = some (.long (m.2 0 21)) ∧ μ' = m)) := by
  obtain ⟨q0, q1, q2, q3, q4, q5, q6⟩ := Inv_q h
  obtain ⟨r0, r1, r2, r3, r4, r5, r6, r15, r40, r9⟩ := Inv_r h
  have hc := h.1
  have qt : (c.1 21 1).toInt = (m.1 0 9).toInt := by rw [h.2.2.2.2.1.1]
  have qs0 : (c.1 0 8).toInt = (m.1 4 0).toInt := by rw [h.2.2.2.2.2.2.1]
  have qs1 : (c.1 0 9).toInt = (m.1 4 1).toInt := by rw [h.2.2.2.2.2.2.2.1]
  have qs2 : (c.1 0 10).toInt = (m.1 4 2).toInt := by rw [h.2.2.2.2.2.2.2.2]
  refine Con_of [some (.ref 0), some (.int a)] (by decide +kernel) (Nat.le_of_ble_eq_true rfl) (fun _ h => h) ?_
  refine J_iload_n (pc := 0) dX4_part_0 rfl ?_
  refine J_if_neW (pc := 1) a.toInt rfl 11 dX4_part_1 (by decide) (fun h1 => ?_) (fun h1 => ?_)
  · refine J_iload_n (pc := 11) dX4_part_11 rfl ?_
    refine J_iconst (pc := 12) (v := 1) dX4_part_12 (by decide) ?_
    refine J_icmp_neW (pc := 13) a.toInt 1 rfl rfl 23 dX4_part_13 (by decide) (fun h13 => ?_) (fun h13 => ?_)
    · refine J_aload_n (pc := 23) dX4_part_23 rfl ?_
      refine J_bipush (pc := 24) (v := (-2)) dX4_part_24 (by decide) ?_
      refine J_callVim (pc := 26) fC_X4_91 rfl dX4_part_26 (c_X4_no2) rfl ⟨Nat.le_of_ble_eq_true rfl, Nat.le_of_ble_eq_true rfl⟩ rfl (Nat.le_of_ble_eq_true rfl) (fun z26 μ26 d26 m26 => ?_)
      refine J_i2l (pc := 29) dX4_part_29 rfl ?_
      refine J_lret (pc := 30) dX4_part_30 rfl ?_
      subst_vars
      first
        | exact Or.inl ⟨by omega, rfl, by first | rfl | omega⟩
        | exact Or.inr (Or.inl ⟨by omega, rfl, by first | rfl | omega⟩)
        | exact Or.inr (Or.inr (⟨by omega, rfl, by first | rfl | omega⟩))
    · refine J_aload_n (pc := 16) dX4_part_16 rfl ?_
      refine J_getL (pc := 17) fF_X4_42 rfl rfl dX4_part_17 ?_
      refine J_goto (pc := 20) 30 dX4_part_20 (by decide) ?_
      refine J_lret (pc := 30) dX4_part_30 rfl ?_
      subst_vars
      first
        | exact Or.inl ⟨by omega, rfl, by first | rfl | omega⟩
        | exact Or.inr (Or.inl ⟨by omega, rfl, by first | rfl | omega⟩)
        | exact Or.inr (Or.inr (⟨by omega, rfl, by first | rfl | omega⟩))
  · refine J_aload_n (pc := 4) dX4_part_4 rfl ?_
    refine J_getL (pc := 5) fF_X4_215 rfl rfl dX4_part_5 ?_
    refine J_goto (pc := 8) 30 dX4_part_8 (by decide) ?_
    refine J_lret (pc := 30) dX4_part_30 rfl ?_
    subst_vars
    first
      | exact Or.inl ⟨by omega, rfl, by first | rfl | omega⟩
      | exact Or.inr (Or.inl ⟨by omega, rfl, by first | rfl | omega⟩)
      | exact Or.inr (Or.inr (⟨by omega, rfl, by first | rfl | omega⟩))
theorem pr_part {G : JG × JG} {N : Int} {c m : JM} (h : Inv N c m) (hN : 150 ≤ N ∧ N < 100000) {a : Int32} : PairL G N c m mX3_part mX4_part [.int a] := by
  refine ⟨_, _, k_part h hN, n_part h hN, fun v c' w m' hC hM => ?_⟩
  obtain ⟨q0, q1, q2, q3, q4, q5, q6⟩ := Inv_q h
  obtain ⟨r0, r1, r2, r3, r4, r5, r6, r15, r40, r9⟩ := Inv_r h
  have hc := h.1
  have qt : (c.1 21 1).toInt = (m.1 0 9).toInt := by rw [h.2.2.2.2.1.1]
  have qs0 : (c.1 0 8).toInt = (m.1 4 0).toInt := by rw [h.2.2.2.2.2.2.1]
  have qs1 : (c.1 0 9).toInt = (m.1 4 1).toInt := by rw [h.2.2.2.2.2.2.2.1]
  have qs2 : (c.1 0 10).toInt = (m.1 4 2).toInt := by rw [h.2.2.2.2.2.2.2.2]
  obtain ⟨f1, f2⟩ := h.2.2.2.2.2.1
  rcases hC with ⟨a1, a2, a3⟩ | ⟨a1, a2, a3⟩ | ⟨a1, a2, a3⟩
  · rcases hM with ⟨b1, b2, b3⟩ | ⟨b1, b2, b3⟩ | ⟨b1, b2, b3⟩
    · exact ⟨⟨by rw [a2, b2], _, a2⟩, by rw [a3, b3]; exact Inv_no (by omega) h 0 (by decide)⟩
    · exfalso; omega
    · exfalso; omega
  · rcases hM with ⟨b1, b2, b3⟩ | ⟨b1, b2, b3⟩ | ⟨b1, b2, b3⟩
    · exfalso; omega
    · exact ⟨⟨by rw [a2, b2, f1], _, a2⟩, by rw [a3, b3]; exact Inv_eq (by omega) h (eqC_rf _) (eqM_rf _)⟩
    · exfalso; omega
  · rcases hM with ⟨b1, b2, b3⟩ | ⟨b1, b2, b3⟩ | ⟨b1, b2, b3⟩
    · exfalso; omega
    · exfalso; omega
    · exact ⟨⟨by rw [a2, b2, f2], _, a2⟩, by rw [a3, b3]; exact Inv_eq (by omega) h (eqC_rf _) (eqM_rf _)⟩

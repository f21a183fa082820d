/-! ===== public methods, first group ===== -/
theorem jI_ne {μ : JM} {a k o : Nat} {x : Int32} (h : o ≠ a) : (jI μ a k x).1 o = μ.1 o := by funext j; simp [jI_i, h]
theorem begM_o {c : JM} {b o : Nat} {k : Int32} (h : o ≠ b) (h2 : o ≠ b + 1) : (begM c b k).1 o = c.1 o := by
  funext j
  simp [begM, jC, jI_i, h, h2]
variable {G : JG}
set_option maxRecDepth 100000 in
set_option maxHeartbeats 4000000 in
theorem c_X3_refuse2 {μ : JM} : Con G shC mX3_refuse [.ref 0, .int (-2)] μ (j_is (some (.int (-2))) (jI μ 0 8 (μ.1 0 8 + 1))) := by
  refine Con_of [some (.ref 0), some (.int (-2))] (by decide +kernel) (Nat.le_of_ble_eq_true rfl) (fun _ h => h) ?_
  refine J_iload_n (pc := 0) dX3_refuse_0 rfl ?_
  refine J_bipush (pc := 1) (v := (-2)) dX3_refuse_1 (by decide) ?_
  refine J_icmp_ne_F (pc := 3) 19 dX3_refuse_3 (by decide) (by decide) ?_
  refine J_aload_n (pc := 6) dX3_refuse_6 rfl ?_
  refine J_dup (pc := 7) dX3_refuse_7 rfl ?_
  refine J_getI (pc := 8) fF_X3_46 rfl rfl dX3_refuse_8 ?_
  refine J_iconst (pc := 11) (v := 1) dX3_refuse_11 (by decide) ?_
  refine J_iadd (pc := 12) dX3_refuse_12 ?_
  refine J_putIW (pc := 13) fF_X3_46 rfl rfl dX3_refuse_13 (fun μ13 m13 => ?_)
  refine J_goto (pc := 16) 48 dX3_refuse_16 (by decide) ?_
  refine J_iload_n (pc := 48) dX3_refuse_48 rfl ?_
  refine J_iret (pc := 49) dX3_refuse_49 rfl ?_
  exact ⟨rfl, m13⟩
set_option maxRecDepth 100000 in
set_option maxHeartbeats 4000000 in
theorem c_X3_refuse3 {μ : JM} : Con G shC mX3_refuse [.ref 0, .int (-3)] μ (j_is (some (.int (-3))) (jI μ 0 9 (μ.1 0 9 + 1))) := by
  refine Con_of [some (.ref 0), some (.int (-3))] (by decide +kernel) (Nat.le_of_ble_eq_true rfl) (fun _ h => h) ?_
  refine J_iload_n (pc := 0) dX3_refuse_0 rfl ?_
  refine J_bipush (pc := 1) (v := (-2)) dX3_refuse_1 (by decide) ?_
  refine J_icmp_ne_T (pc := 3) 19 dX3_refuse_3 (by decide) (by decide) ?_
  refine J_iload_n (pc := 19) dX3_refuse_19 rfl ?_
  refine J_bipush (pc := 20) (v := (-3)) dX3_refuse_20 (by decide) ?_
  refine J_icmp_ne_F (pc := 22) 38 dX3_refuse_22 (by decide) (by decide) ?_
  refine J_aload_n (pc := 25) dX3_refuse_25 rfl ?_
  refine J_dup (pc := 26) dX3_refuse_26 rfl ?_
  refine J_getI (pc := 27) fF_X3_50 rfl rfl dX3_refuse_27 ?_
  refine J_iconst (pc := 30) (v := 1) dX3_refuse_30 (by decide) ?_
  refine J_iadd (pc := 31) dX3_refuse_31 ?_
  refine J_putIW (pc := 32) fF_X3_50 rfl rfl dX3_refuse_32 (fun μ32 m32 => ?_)
  refine J_goto (pc := 35) 48 dX3_refuse_35 (by decide) ?_
  refine J_iload_n (pc := 48) dX3_refuse_48 rfl ?_
  refine J_iret (pc := 49) dX3_refuse_49 rfl ?_
  exact ⟨rfl, m32⟩
set_option maxRecDepth 100000 in
set_option maxHeartbeats 4000000 in
theorem c_X3_refuse4 {μ : JM} : Con G shC mX3_refuse [.ref 0, .int (-4)] μ (j_is (some (.int (-4))) (jI μ 0 10 (μ.1 0 10 + 1))) := by
  refine Con_of [some (.ref 0), some (.int (-4))] (by decide +kernel) (Nat.le_of_ble_eq_true rfl) (fun _ h => h) ?_
  refine J_iload_n (pc := 0) dX3_refuse_0 rfl ?_
  refine J_bipush (pc := 1) (v := (-2)) dX3_refuse_1 (by decide) ?_
  refine J_icmp_ne_T (pc := 3) 19 dX3_refuse_3 (by decide) (by decide) ?_
  refine J_iload_n (pc := 19) dX3_refuse_19 rfl ?_
  refine J_bipush (pc := 20) (v := (-3)) dX3_refuse_20 (by decide) ?_
  refine J_icmp_ne_T (pc := 22) 38 dX3_refuse_22 (by decide) (by decide) ?_
  refine J_aload_n (pc := 38) dX3_refuse_38 rfl ?_
  refine J_dup (pc := 39) dX3_refuse_39 rfl ?_
  refine J_getI (pc := 40) fF_X3_53 rfl rfl dX3_refuse_40 ?_
  refine J_iconst (pc := 43) (v := 1) dX3_refuse_43 (by decide) ?_
  refine J_iadd (pc := 44) dX3_refuse_44 ?_
  refine J_putIW (pc := 45) fF_X3_53 rfl rfl dX3_refuse_45 (fun μ45 m45 => ?_)
  refine J_iload_n (pc := 48) dX3_refuse_48 rfl ?_
  refine J_iret (pc := 49) dX3_refuse_49 rfl ?_
  exact ⟨rfl, m45⟩
set_option maxRecDepth 100000 in
set_option maxHeartbeats 4000000 in
theorem c_X3_refuseBad {μ : JM} {a : Int32} : Con G shC mX3_refuseBad [.ref 0, .int a] μ (j_is (some (.int a)) (jI μ 0 8 (μ.1 0 8 + 1))) := by
  refine Con_of [some (.ref 0), some (.int a)] (by decide +kernel) (Nat.le_of_ble_eq_true rfl) (fun _ h => h) ?_
  refine J_aload_n (pc := 0) dX3_refuseBad_0 rfl ?_
  refine J_dup (pc := 1) dX3_refuseBad_1 rfl ?_
  refine J_getI (pc := 2) fF_X3_46 rfl rfl dX3_refuseBad_2 ?_
  refine J_iconst (pc := 5) (v := 1) dX3_refuseBad_5 (by decide) ?_
  refine J_iadd (pc := 6) dX3_refuseBad_6 ?_
  refine J_putIW (pc := 7) fF_X3_46 rfl rfl dX3_refuseBad_7 (fun μ7 m7 => ?_)
  refine J_iload_n (pc := 10) dX3_refuseBad_10 rfl ?_
  refine J_iret (pc := 11) dX3_refuseBad_11 rfl ?_
  exact ⟨rfl, m7⟩
set_option maxRecDepth 100000 in
set_option maxHeartbeats 4000000 in
theorem k_jar {N : Int} {c m : JM} (h : Inv N c m) (hN : 150 ≤ N ∧ N < 100000) {a : Int32}  : Con G shC mX3_jar [.ref 0, .int a] c (fun v μ' => ((¬(0 ≤ a.toInt ∧ a.toInt ≤ 5)) ∧ IsZ v (-2) ∧ μ' = (jI c 0 8 (c.1 0 8 + 1))) ∨ ((0 ≤ a.toInt ∧ a.toInt ≤ 5) ∧ IsZ v ((m.1 1 5).toInt) ∧ μ' = begM c 1 a)) := by
  obtain ⟨q0, q1, q2, q3, q4, q5, q6⟩ := Inv_q h
  obtain ⟨r0, r1, r2, r3, r4, r5, r6, r15, r40, r9⟩ := Inv_r h
  have hc := h.1
  have qt : (c.1 21 1).toInt = (m.1 0 9).toInt := by rw [h.2.2.2.2.1.1]
  have qs0 : (c.1 0 8).toInt = (m.1 4 0).toInt := by rw [h.2.2.2.2.2.2.1]
  have qs1 : (c.1 0 9).toInt = (m.1 4 1).toInt := by rw [h.2.2.2.2.2.2.2.1]
  have qs2 : (c.1 0 10).toInt = (m.1 4 2).toInt := by rw [h.2.2.2.2.2.2.2.2]
  refine Con_of [some (.ref 0), some (.int a), none] (by decide +kernel) (Nat.le_of_ble_eq_true rfl) (fun _ h => h) ?_
  refine J_iload_n (pc := 0) dX3_jar_0 rfl ?_
  refine J_iconst (pc := 1) (v := 0) dX3_jar_1 (by decide) ?_
  refine J_iconst (pc := 2) (v := 5) dX3_jar_2 (by decide) ?_
  refine J_callSc (pc := 3) fC_X3_60 dX3_jar_3 (c_X3_within a.toInt 0 5 rfl rfl rfl) rfl ⟨Nat.le_of_ble_eq_true rfl, Nat.le_of_ble_eq_true rfl⟩ rfl (Nat.le_of_ble_eq_true rfl) (fun h3 => ?_) (fun h3 => ?_)
  · refine J_if_ne_T (pc := 6) 16 dX3_jar_6 (by decide) (by decide) ?_
    refine J_aload_n (pc := 16) dX3_jar_16 rfl ?_
    refine J_getR (pc := 17) 1 fF_X3_12 rfl rfl dX3_jar_17 ?_
    refine J_getI (pc := 20) fF_X3_68 rfl rfl dX3_jar_20 ?_
    refine J_istore_n (pc := 23) (lv' := [some (.ref 0), some (.int a), some (.int (c.1 1 4))]) dX3_jar_23 (Nat.le_of_ble_eq_true rfl) rfl rfl ?_
    refine J_aload_n (pc := 24) dX3_jar_24 rfl ?_
    refine J_getR (pc := 25) 1 fF_X3_12 rfl rfl dX3_jar_25 ?_
    refine J_iload_n (pc := 28) dX3_jar_28 rfl ?_
    refine J_callVv (pc := 29) fC_X3_56 rfl dX3_jar_29 (c_X0_begin jarAt_1) rfl ⟨Nat.le_of_ble_eq_true rfl, Nat.le_of_ble_eq_true rfl⟩ rfl (Nat.le_of_ble_eq_true rfl) (fun μ29 m29 => ?_)
    refine J_iload_n (pc := 32) dX3_jar_32 rfl ?_
    refine J_iret (pc := 33) dX3_jar_33 rfl ?_
    subst_vars
    first
      | exact Or.inl ⟨by omega, ⟨_, rfl, by first | rfl | omega⟩, by first | rfl | omega⟩
      | exact Or.inr (⟨by omega, ⟨_, rfl, by first | rfl | omega⟩, by first | rfl | omega⟩)
  · refine J_if_ne_F (pc := 6) 16 dX3_jar_6 (by decide) (by decide) ?_
    refine J_aload_n (pc := 9) dX3_jar_9 rfl ?_
    refine J_bipush (pc := 10) (v := (-2)) dX3_jar_10 (by decide) ?_
    refine J_callVim (pc := 12) fC_X3_64 rfl dX3_jar_12 (c_X3_refuse2) rfl ⟨Nat.le_of_ble_eq_true rfl, Nat.le_of_ble_eq_true rfl⟩ rfl (Nat.le_of_ble_eq_true rfl) (fun z12 μ12 d12 m12 => ?_)
    refine J_iret (pc := 15) dX3_jar_15 rfl ?_
    subst_vars
    first
      | exact Or.inl ⟨by omega, ⟨_, rfl, by first | rfl | omega⟩, by first | rfl | omega⟩
      | exact Or.inr (⟨by omega, ⟨_, rfl, by first | rfl | omega⟩, by first | rfl | omega⟩)
set_option maxRecDepth 100000 in
set_option maxHeartbeats 4000000 in
theorem n_jar {N : Int} {c m : JM} (h : Inv N c m) (hN : 150 ≤ N ∧ N < 100000) {a : Int32}  : Con G shM mX4_jar [.ref 0, .int a] m (fun v μ' => ((¬(0 ≤ a.toInt ∧ a.toInt ≤ 5)) ∧ IsZ v (-2) ∧ μ' = (jI m 4 0 (m.1 4 0 + 1))) ∨ ((0 ≤ a.toInt ∧ a.toInt ≤ 5) ∧ IsZ v ((m.1 1 5).toInt) ∧ μ' = freshM m a)) := by
  obtain ⟨q0, q1, q2, q3, q4, q5, q6⟩ := Inv_q h
  obtain ⟨r0, r1, r2, r3, r4, r5, r6, r15, r40, r9⟩ := Inv_r h
  have hc := h.1
  have qt : (c.1 21 1).toInt = (m.1 0 9).toInt := by rw [h.2.2.2.2.1.1]
  have qs0 : (c.1 0 8).toInt = (m.1 4 0).toInt := by rw [h.2.2.2.2.2.2.1]
  have qs1 : (c.1 0 9).toInt = (m.1 4 1).toInt := by rw [h.2.2.2.2.2.2.2.1]
  have qs2 : (c.1 0 10).toInt = (m.1 4 2).toInt := by rw [h.2.2.2.2.2.2.2.2]
  refine Con_of [some (.ref 0), some (.int a), none] (by decide +kernel) (Nat.le_of_ble_eq_true rfl) (fun _ h => h) ?_
  refine J_iload_n (pc := 0) dX4_jar_0 rfl ?_
  refine J_i2l (pc := 1) dX4_jar_1 rfl ?_
  refine J_lconst (pc := 2) (v := 0) dX4_jar_2 (by decide) ?_
  refine J_ldc2 (pc := 3) fK_X4_89 dX4_jar_3 ?_
  refine J_callSc (pc := 6) fC_X4_58 dX4_jar_6 (c_X4_in a.toInt 0 5 (i2l_z rfl) rfl rfl) rfl ⟨Nat.le_of_ble_eq_true rfl, Nat.le_of_ble_eq_true rfl⟩ rfl (Nat.le_of_ble_eq_true rfl) (fun h6 => ?_) (fun h6 => ?_)
  · refine J_if_ne_T (pc := 9) 19 dX4_jar_9 (by decide) (by decide) ?_
    refine J_aload_n (pc := 19) dX4_jar_19 rfl ?_
    refine J_getR (pc := 20) 1 fF_X4_7 rfl rfl dX4_jar_20 ?_
    refine J_iconst (pc := 23) (v := 5) dX4_jar_23 (by decide) ?_
    refine J_ialdW (pc := 24) 5 (rfl) rfl (by decide) dX4_jar_24 ?_
    refine J_istore_n (pc := 25) (lv' := [some (.ref 0), some (.int a), some (.int (m.1 1 5))]) dX4_jar_25 (Nat.le_of_ble_eq_true rfl) rfl rfl ?_
    refine J_aload_n (pc := 26) dX4_jar_26 rfl ?_
    refine J_iload_n (pc := 27) dX4_jar_27 rfl ?_
    refine J_callVv (pc := 28) fC_X4_52 rfl dX4_jar_28 (c_X4_fresh) rfl ⟨Nat.le_of_ble_eq_true rfl, Nat.le_of_ble_eq_true rfl⟩ rfl (Nat.le_of_ble_eq_true rfl) (fun μ28 m28 => ?_)
    refine J_iload_n (pc := 31) dX4_jar_31 rfl ?_
    refine J_iret (pc := 32) dX4_jar_32 rfl ?_
    subst_vars
    first
      | exact Or.inl ⟨by omega, ⟨_, rfl, by first | rfl | omega⟩, by first | rfl | omega⟩
      | exact Or.inr (⟨by omega, ⟨_, rfl, by first | rfl | omega⟩, by first | rfl | omega⟩)
  · refine J_if_ne_F (pc := 9) 19 dX4_jar_9 (by decide) (by decide) ?_
    refine J_aload_n (pc := 12) dX4_jar_12 rfl ?_
    refine J_bipush (pc := 13) (v := (-2)) dX4_jar_13 (by decide) ?_
    refine J_callVim (pc := 15) fC_X4_91 rfl dX4_jar_15 (c_X4_no2) rfl ⟨Nat.le_of_ble_eq_true rfl, Nat.le_of_ble_eq_true rfl⟩ rfl (Nat.le_of_ble_eq_true rfl) (fun z15 μ15 d15 m15 => ?_)
    refine J_iret (pc := 18) dX4_jar_18 rfl ?_
    subst_vars
    first
      | exact Or.inl ⟨by omega, ⟨_, rfl, by first | rfl | omega⟩, by first | rfl | omega⟩
      | exact Or.inr (⟨by omega, ⟨_, rfl, by first | rfl | omega⟩, by first | rfl | omega⟩)
theorem pr_jar {G : JG × JG} {N : Int} {c m : JM} (h : Inv N c m) (hN : 150 ≤ N ∧ N < 100000) {a : Int32} : Pair G N c m mX3_jar mX4_jar [.int a] := by
  refine ⟨_, _, k_jar h hN, n_jar h hN, fun v c' w m' hC hM => ?_⟩
  obtain ⟨q0, q1, q2, q3, q4, q5, q6⟩ := Inv_q h
  obtain ⟨r0, r1, r2, r3, r4, r5, r6, r15, r40, r9⟩ := Inv_r h
  have hc := h.1
  have qt : (c.1 21 1).toInt = (m.1 0 9).toInt := by rw [h.2.2.2.2.1.1]
  have qs0 : (c.1 0 8).toInt = (m.1 4 0).toInt := by rw [h.2.2.2.2.2.2.1]
  have qs1 : (c.1 0 9).toInt = (m.1 4 1).toInt := by rw [h.2.2.2.2.2.2.2.1]
  have qs2 : (c.1 0 10).toInt = (m.1 4 2).toInt := by rw [h.2.2.2.2.2.2.2.2]
  rcases hC with ⟨a1, a2, a3⟩ | ⟨a1, a2, a3⟩
  · rcases hM with ⟨b1, b2, b3⟩ | ⟨b1, b2, b3⟩
    · exact ⟨IsZ_eq a2 b2, by rw [a3, b3]; exact Inv_no (by omega) h 0 (by decide)⟩
    · exfalso; omega
  · rcases hM with ⟨b1, b2, b3⟩ | ⟨b1, b2, b3⟩
    · exfalso; omega
    · exact ⟨IsZ_eq a2 b2, by rw [a3, b3]; exact Inv_row (by omega) h (fun o ho => begM_o (by omega) (by omega)) (by rw [begM_o (by omega) (by omega)]) rfl (eqM_rf _) jrep_begin (wfF_fresh (by omega) (by omega))⟩
set_option maxRecDepth 100000 in
set_option maxHeartbeats 4000000 in
theorem k_now {N : Int} {c m : JM} (h : Inv N c m) (hN : 150 ≤ N ∧ N < 100000) {a : Int32}  : Con G shC mX3_now [.ref 0, .int a] c (fun v μ' => ((¬(0 ≤ a.toInt ∧ a.toInt ≤ 6)) ∧ IsZ v (-2) ∧ μ' = (jI c 0 8 (c.1 0 8 + 1))) ∨ ((a.toInt = 0) ∧ IsZ v ((m.1 1 0).toInt) ∧ μ' = c) ∨ ((a.toInt = 1) ∧ IsZ v ((m.1 1 1).toInt) ∧ μ' = c) ∨ ((a.toInt = 2) ∧ IsZ v ((m.1 1 2).toInt) ∧ μ' = c) ∨ ((a.toInt = 3) ∧ IsZ v ((m.1 1 3).toInt) ∧ μ' = c) ∨ ((a.toInt = 4) ∧ IsZ v ((m.1 1 4).toInt) ∧ μ' = c) ∨ ((a.toInt = 5) ∧ IsZ v ((m.1 1 5).toInt) ∧ μ' = c) ∨ ((a.toInt = 6) ∧ IsZ v ((m.1 1 6).toInt) ∧ μ' = c)) := by
  obtain ⟨q0, q1, q2, q3, q4, q5, q6⟩ := Inv_q h
  obtain ⟨r0, r1, r2, r3, r4, r5, r6, r15, r40, r9⟩ := Inv_r h
  have hc := h.1
  have qt : (c.1 21 1).toInt = (m.1 0 9).toInt := by rw [h.2.2.2.2.1.1]
  have qs0 : (c.1 0 8).toInt = (m.1 4 0).toInt := by rw [h.2.2.2.2.2.2.1]
  have qs1 : (c.1 0 9).toInt = (m.1 4 1).toInt := by rw [h.2.2.2.2.2.2.2.1]
  have qs2 : (c.1 0 10).toInt = (m.1 4 2).toInt := by rw [h.2.2.2.2.2.2.2.2]
  refine Con_of [some (.ref 0), some (.int a)] (by decide +kernel) (Nat.le_of_ble_eq_true rfl) (fun _ h => h) ?_
  refine J_iload_n (pc := 0) dX3_now_0 rfl ?_
  rcases (by omega : a.toInt = 0 ∨ a.toInt = 1 ∨ a.toInt = 2 ∨ a.toInt = 3 ∨ a.toInt = 4 ∨ a.toInt = 5 ∨ a.toInt = 6 ∨ (a.toInt < 0 ∨ 6 < a.toInt)) with h1 | h1 | h1 | h1 | h1 | h1 | h1 | h1
  · refine J_tsIn (pc := 1) 44 dX3_now_1 (z := 0) (by first | omega | (rw [rfl]; omega)) (by decide) (by decide) rfl (by decide) ?_
    refine J_aload_n (pc := 44) dX3_now_44 rfl ?_
    refine J_getR (pc := 45) 1 fF_X3_12 rfl rfl dX3_now_45 ?_
    refine J_getI (pc := 48) fF_X3_141 rfl rfl dX3_now_48 ?_
    refine J_iret (pc := 51) dX3_now_51 rfl ?_
    subst_vars
    first
      | exact Or.inl ⟨by omega, ⟨_, rfl, by first | rfl | omega⟩, by first | rfl | omega⟩
      | exact Or.inr (Or.inl ⟨by omega, ⟨_, rfl, by first | rfl | omega⟩, by first | rfl | omega⟩)
      | exact Or.inr (Or.inr (Or.inl ⟨by omega, ⟨_, rfl, by first | rfl | omega⟩, by first | rfl | omega⟩))
      | exact Or.inr (Or.inr (Or.inr (Or.inl ⟨by omega, ⟨_, rfl, by first | rfl | omega⟩, by first | rfl | omega⟩)))
      | exact Or.inr (Or.inr (Or.inr (Or.inr (Or.inl ⟨by omega, ⟨_, rfl, by first | rfl | omega⟩, by first | rfl | omega⟩))))
      | exact Or.inr (Or.inr (Or.inr (Or.inr (Or.inr (Or.inl ⟨by omega, ⟨_, rfl, by first | rfl | omega⟩, by first | rfl | omega⟩)))))
      | exact Or.inr (Or.inr (Or.inr (Or.inr (Or.inr (Or.inr (Or.inl ⟨by omega, ⟨_, rfl, by first | rfl | omega⟩, by first | rfl | omega⟩))))))
      | exact Or.inr (Or.inr (Or.inr (Or.inr (Or.inr (Or.inr (Or.inr (⟨by omega, ⟨_, rfl, by first | rfl | omega⟩, by first | rfl | omega⟩)))))))
  · refine J_tsIn (pc := 1) 52 dX3_now_1 (z := 1) (by first | omega | (rw [rfl]; omega)) (by decide) (by decide) rfl (by decide) ?_
    refine J_aload_n (pc := 52) dX3_now_52 rfl ?_
    refine J_getR (pc := 53) 1 fF_X3_12 rfl rfl dX3_now_53 ?_
    refine J_getI (pc := 56) fF_X3_78 rfl rfl dX3_now_56 ?_
    refine J_callSz (pc := 59) fC_X3_81 dX3_now_59 (c_X3_angerOf ((m.1 1 6).toInt * 10000 + (m.1 1 1).toInt * 100 + (m.1 1 2).toInt) q3 (by omega)) rfl ⟨Nat.le_of_ble_eq_true rfl, Nat.le_of_ble_eq_true rfl⟩ rfl (Nat.le_of_ble_eq_true rfl) (fun z59 e59 => ?_)
    refine J_iret (pc := 62) dX3_now_62 rfl ?_
    subst_vars
    first
      | exact Or.inl ⟨by omega, ⟨_, rfl, by first | rfl | omega⟩, by first | rfl | omega⟩
      | exact Or.inr (Or.inl ⟨by omega, ⟨_, rfl, by first | rfl | omega⟩, by first | rfl | omega⟩)
      | exact Or.inr (Or.inr (Or.inl ⟨by omega, ⟨_, rfl, by first | rfl | omega⟩, by first | rfl | omega⟩))
      | exact Or.inr (Or.inr (Or.inr (Or.inl ⟨by omega, ⟨_, rfl, by first | rfl | omega⟩, by first | rfl | omega⟩)))
      | exact Or.inr (Or.inr (Or.inr (Or.inr (Or.inl ⟨by omega, ⟨_, rfl, by first | rfl | omega⟩, by first | rfl | omega⟩))))
      | exact Or.inr (Or.inr (Or.inr (Or.inr (Or.inr (Or.inl ⟨by omega, ⟨_, rfl, by first | rfl | omega⟩, by first | rfl | omega⟩)))))
      | exact Or.inr (Or.inr (Or.inr (Or.inr (Or.inr (Or.inr (Or.inl ⟨by omega, ⟨_, rfl, by first | rfl | omega⟩, by first | rfl | omega⟩))))))
      | exact Or.inr (Or.inr (Or.inr (Or.inr (Or.inr (Or.inr (Or.inr (⟨by omega, ⟨_, rfl, by first | rfl | omega⟩, by first | rfl | omega⟩)))))))
  · refine J_tsIn (pc := 1) 63 dX3_now_1 (z := 2) (by first | omega | (rw [rfl]; omega)) (by decide) (by decide) rfl (by decide) ?_
    refine J_aload_n (pc := 63) dX3_now_63 rfl ?_
    refine J_getR (pc := 64) 1 fF_X3_12 rfl rfl dX3_now_64 ?_
    refine J_getI (pc := 67) fF_X3_78 rfl rfl dX3_now_67 ?_
    refine J_callSz (pc := 70) fC_X3_129 dX3_now_70 (c_X3_prideOf ((m.1 1 6).toInt * 10000 + (m.1 1 1).toInt * 100 + (m.1 1 2).toInt) q3 (by omega)) rfl ⟨Nat.le_of_ble_eq_true rfl, Nat.le_of_ble_eq_true rfl⟩ rfl (Nat.le_of_ble_eq_true rfl) (fun z70 e70 => ?_)
    refine J_iret (pc := 73) dX3_now_73 rfl ?_
    subst_vars
    first
      | exact Or.inl ⟨by omega, ⟨_, rfl, by first | rfl | omega⟩, by first | rfl | omega⟩
      | exact Or.inr (Or.inl ⟨by omega, ⟨_, rfl, by first | rfl | omega⟩, by first | rfl | omega⟩)
      | exact Or.inr (Or.inr (Or.inl ⟨by omega, ⟨_, rfl, by first | rfl | omega⟩, by first | rfl | omega⟩))
      | exact Or.inr (Or.inr (Or.inr (Or.inl ⟨by omega, ⟨_, rfl, by first | rfl | omega⟩, by first | rfl | omega⟩)))
      | exact Or.inr (Or.inr (Or.inr (Or.inr (Or.inl ⟨by omega, ⟨_, rfl, by first | rfl | omega⟩, by first | rfl | omega⟩))))
      | exact Or.inr (Or.inr (Or.inr (Or.inr (Or.inr (Or.inl ⟨by omega, ⟨_, rfl, by first | rfl | omega⟩, by first | rfl | omega⟩)))))
      | exact Or.inr (Or.inr (Or.inr (Or.inr (Or.inr (Or.inr (Or.inl ⟨by omega, ⟨_, rfl, by first | rfl | omega⟩, by first | rfl | omega⟩))))))
      | exact Or.inr (Or.inr (Or.inr (Or.inr (Or.inr (Or.inr (Or.inr (⟨by omega, ⟨_, rfl, by first | rfl | omega⟩, by first | rfl | omega⟩)))))))
  · refine J_tsIn (pc := 1) 74 dX3_now_1 (z := 3) (by first | omega | (rw [rfl]; omega)) (by decide) (by decide) rfl (by decide) ?_
    refine J_aload_n (pc := 74) dX3_now_74 rfl ?_
    refine J_getR (pc := 75) 1 fF_X3_12 rfl rfl dX3_now_75 ?_
    refine J_getI (pc := 78) fF_X3_71 rfl rfl dX3_now_78 ?_
    refine J_iret (pc := 81) dX3_now_81 rfl ?_
    subst_vars
    first
      | exact Or.inl ⟨by omega, ⟨_, rfl, by first | rfl | omega⟩, by first | rfl | omega⟩
      | exact Or.inr (Or.inl ⟨by omega, ⟨_, rfl, by first | rfl | omega⟩, by first | rfl | omega⟩)
      | exact Or.inr (Or.inr (Or.inl ⟨by omega, ⟨_, rfl, by first | rfl | omega⟩, by first | rfl | omega⟩))
      | exact Or.inr (Or.inr (Or.inr (Or.inl ⟨by omega, ⟨_, rfl, by first | rfl | omega⟩, by first | rfl | omega⟩)))
      | exact Or.inr (Or.inr (Or.inr (Or.inr (Or.inl ⟨by omega, ⟨_, rfl, by first | rfl | omega⟩, by first | rfl | omega⟩))))
      | exact Or.inr (Or.inr (Or.inr (Or.inr (Or.inr (Or.inl ⟨by omega, ⟨_, rfl, by first | rfl | omega⟩, by first | rfl | omega⟩)))))
      | exact Or.inr (Or.inr (Or.inr (Or.inr (Or.inr (Or.inr (Or.inl ⟨by omega, ⟨_, rfl, by first | rfl | omega⟩, by first | rfl | omega⟩))))))
      | exact Or.inr (Or.inr (Or.inr (Or.inr (Or.inr (Or.inr (Or.inr (⟨by omega, ⟨_, rfl, by first | rfl | omega⟩, by first | rfl | omega⟩)))))))
  · refine J_tsIn (pc := 1) 82 dX3_now_1 (z := 4) (by first | omega | (rw [rfl]; omega)) (by decide) (by decide) rfl (by decide) ?_
    refine J_aload_n (pc := 82) dX3_now_82 rfl ?_
    refine J_getR (pc := 83) 1 fF_X3_12 rfl rfl dX3_now_83 ?_
    refine J_getI (pc := 86) fF_X3_84 rfl rfl dX3_now_86 ?_
    refine J_iret (pc := 89) dX3_now_89 rfl ?_
    subst_vars
    first
      | exact Or.inl ⟨by omega, ⟨_, rfl, by first | rfl | omega⟩, by first | rfl | omega⟩
      | exact Or.inr (Or.inl ⟨by omega, ⟨_, rfl, by first | rfl | omega⟩, by first | rfl | omega⟩)
      | exact Or.inr (Or.inr (Or.inl ⟨by omega, ⟨_, rfl, by first | rfl | omega⟩, by first | rfl | omega⟩))
      | exact Or.inr (Or.inr (Or.inr (Or.inl ⟨by omega, ⟨_, rfl, by first | rfl | omega⟩, by first | rfl | omega⟩)))
      | exact Or.inr (Or.inr (Or.inr (Or.inr (Or.inl ⟨by omega, ⟨_, rfl, by first | rfl | omega⟩, by first | rfl | omega⟩))))
      | exact Or.inr (Or.inr (Or.inr (Or.inr (Or.inr (Or.inl ⟨by omega, ⟨_, rfl, by first | rfl | omega⟩, by first | rfl | omega⟩)))))
      | exact Or.inr (Or.inr (Or.inr (Or.inr (Or.inr (Or.inr (Or.inl ⟨by omega, ⟨_, rfl, by first | rfl | omega⟩, by first | rfl | omega⟩))))))
      | exact Or.inr (Or.inr (Or.inr (Or.inr (Or.inr (Or.inr (Or.inr (⟨by omega, ⟨_, rfl, by first | rfl | omega⟩, by first | rfl | omega⟩)))))))
  · refine J_tsIn (pc := 1) 90 dX3_now_1 (z := 5) (by first | omega | (rw [rfl]; omega)) (by decide) (by decide) rfl (by decide) ?_
    refine J_aload_n (pc := 90) dX3_now_90 rfl ?_
    refine J_getR (pc := 91) 1 fF_X3_12 rfl rfl dX3_now_91 ?_
    refine J_getI (pc := 94) fF_X3_68 rfl rfl dX3_now_94 ?_
    refine J_iret (pc := 97) dX3_now_97 rfl ?_
    subst_vars
    first
      | exact Or.inl ⟨by omega, ⟨_, rfl, by first | rfl | omega⟩, by first | rfl | omega⟩
      | exact Or.inr (Or.inl ⟨by omega, ⟨_, rfl, by first | rfl | omega⟩, by first | rfl | omega⟩)
      | exact Or.inr (Or.inr (Or.inl ⟨by omega, ⟨_, rfl, by first | rfl | omega⟩, by first | rfl | omega⟩))
      | exact Or.inr (Or.inr (Or.inr (Or.inl ⟨by omega, ⟨_, rfl, by first | rfl | omega⟩, by first | rfl | omega⟩)))
      | exact Or.inr (Or.inr (Or.inr (Or.inr (Or.inl ⟨by omega, ⟨_, rfl, by first | rfl | omega⟩, by first | rfl | omega⟩))))
      | exact Or.inr (Or.inr (Or.inr (Or.inr (Or.inr (Or.inl ⟨by omega, ⟨_, rfl, by first | rfl | omega⟩, by first | rfl | omega⟩)))))
      | exact Or.inr (Or.inr (Or.inr (Or.inr (Or.inr (Or.inr (Or.inl ⟨by omega, ⟨_, rfl, by first | rfl | omega⟩, by first | rfl | omega⟩))))))
      | exact Or.inr (Or.inr (Or.inr (Or.inr (Or.inr (Or.inr (Or.inr (⟨by omega, ⟨_, rfl, by first | rfl | omega⟩, by first | rfl | omega⟩)))))))
  · refine J_tsIn (pc := 1) 98 dX3_now_1 (z := 6) (by first | omega | (rw [rfl]; omega)) (by decide) (by decide) rfl (by decide) ?_
    refine J_aload_n (pc := 98) dX3_now_98 rfl ?_
    refine J_getR (pc := 99) 1 fF_X3_12 rfl rfl dX3_now_99 ?_
    refine J_getI (pc := 102) fF_X3_78 rfl rfl dX3_now_102 ?_
    refine J_callSz (pc := 105) fC_X3_120 dX3_now_105 (c_X3_beingOf ((m.1 1 6).toInt * 10000 + (m.1 1 1).toInt * 100 + (m.1 1 2).toInt) q3 (by omega)) rfl ⟨Nat.le_of_ble_eq_true rfl, Nat.le_of_ble_eq_true rfl⟩ rfl (Nat.le_of_ble_eq_true rfl) (fun z105 e105 => ?_)
    refine J_iret (pc := 108) dX3_now_108 rfl ?_
    subst_vars
    first
      | exact Or.inl ⟨by omega, ⟨_, rfl, by first | rfl | omega⟩, by first | rfl | omega⟩
      | exact Or.inr (Or.inl ⟨by omega, ⟨_, rfl, by first | rfl | omega⟩, by first | rfl | omega⟩)
      | exact Or.inr (Or.inr (Or.inl ⟨by omega, ⟨_, rfl, by first | rfl | omega⟩, by first | rfl | omega⟩))
      | exact Or.inr (Or.inr (Or.inr (Or.inl ⟨by omega, ⟨_, rfl, by first | rfl | omega⟩, by first | rfl | omega⟩)))
      | exact Or.inr (Or.inr (Or.inr (Or.inr (Or.inl ⟨by omega, ⟨_, rfl, by first | rfl | omega⟩, by first | rfl | omega⟩))))
      | exact Or.inr (Or.inr (Or.inr (Or.inr (Or.inr (Or.inl ⟨by omega, ⟨_, rfl, by first | rfl | omega⟩, by first | rfl | omega⟩)))))
      | exact Or.inr (Or.inr (Or.inr (Or.inr (Or.inr (Or.inr (Or.inl ⟨by omega, ⟨_, rfl, by first | rfl | omega⟩, by first | rfl | omega⟩))))))
      | exact Or.inr (Or.inr (Or.inr (Or.inr (Or.inr (Or.inr (Or.inr (⟨by omega, ⟨_, rfl, by first | rfl | omega⟩, by first | rfl | omega⟩)))))))
  · refine J_tsOut (pc := 1) 109 dX3_now_1 (by first | omega | (rw [rfl]; omega)) (by decide) ?_
    refine J_aload_n (pc := 109) dX3_now_109 rfl ?_
    refine J_bipush (pc := 110) (v := (-2)) dX3_now_110 (by decide) ?_
    refine J_callVim (pc := 112) fC_X3_64 rfl dX3_now_112 (c_X3_refuse2) rfl ⟨Nat.le_of_ble_eq_true rfl, Nat.le_of_ble_eq_true rfl⟩ rfl (Nat.le_of_ble_eq_true rfl) (fun z112 μ112 d112 m112 => ?_)
    refine J_iret (pc := 115) dX3_now_115 rfl ?_
    subst_vars
    first
      | exact Or.inl ⟨by omega, ⟨_, rfl, by first | rfl | omega⟩, by first | rfl | omega⟩
      | exact Or.inr (Or.inl ⟨by omega, ⟨_, rfl, by first | rfl | omega⟩, by first | rfl | omega⟩)
      | exact Or.inr (Or.inr (Or.inl ⟨by omega, ⟨_, rfl, by first | rfl | omega⟩, by first | rfl | omega⟩))
      | exact Or.inr (Or.inr (Or.inr (Or.inl ⟨by omega, ⟨_, rfl, by first | rfl | omega⟩, by first | rfl | omega⟩)))
      | exact Or.inr (Or.inr (Or.inr (Or.inr (Or.inl ⟨by omega, ⟨_, rfl, by first | rfl | omega⟩, by first | rfl | omega⟩))))
      | exact Or.inr (Or.inr (Or.inr (Or.inr (Or.inr (Or.inl ⟨by omega, ⟨_, rfl, by first | rfl | omega⟩, by first | rfl | omega⟩)))))
      | exact Or.inr (Or.inr (Or.inr (Or.inr (Or.inr (Or.inr (Or.inl ⟨by omega, ⟨_, rfl, by first | rfl | omega⟩, by first | rfl | omega⟩))))))
      | exact Or.inr (Or.inr (Or.inr (Or.inr (Or.inr (Or.inr (Or.inr (⟨by omega, ⟨_, rfl, by first | rfl | omega⟩, by first | rfl | omega⟩)))))))
set_option maxRecDepth 100000 in
set_option maxHeartbeats 4000000 in
theorem n_now {N : Int} {c m : JM} (h : Inv N c m) (hN : 150 ≤ N ∧ N < 100000) {a : Int32}  : Con G shM mX4_now [.ref 0, .int a] m (fun v μ' => ((¬(0 ≤ a.toInt ∧ a.toInt ≤ 6)) ∧ IsZ v (-2) ∧ μ' = (jI m 4 0 (m.1 4 0 + 1))) ∨ ((0 ≤ a.toInt ∧ a.toInt ≤ 6) ∧ IsZ v ((m.1 1 a.toInt.toNat).toInt) ∧ μ' = m)) := by
  obtain ⟨q0, q1, q2, q3, q4, q5, q6⟩ := Inv_q h
  obtain ⟨r0, r1, r2, r3, r4, r5, r6, r15, r40, r9⟩ := Inv_r h
  have hc := h.1
  have qt : (c.1 21 1).toInt = (m.1 0 9).toInt := by rw [h.2.2.2.2.1.1]
  have qs0 : (c.1 0 8).toInt = (m.1 4 0).toInt := by rw [h.2.2.2.2.2.2.1]
  have qs1 : (c.1 0 9).toInt = (m.1 4 1).toInt := by rw [h.2.2.2.2.2.2.2.1]
  have qs2 : (c.1 0 10).toInt = (m.1 4 2).toInt := by rw [h.2.2.2.2.2.2.2.2]
  refine Con_of [some (.ref 0), some (.int a)] (by decide +kernel) (Nat.le_of_ble_eq_true rfl) (fun _ h => h) ?_
  refine J_iload_n (pc := 0) dX4_now_0 rfl ?_
  refine J_i2l (pc := 1) dX4_now_1 rfl ?_
  refine J_lconst (pc := 2) (v := 0) dX4_now_2 (by decide) ?_
  refine J_ldc2 (pc := 3) fK_X4_171 dX4_now_3 ?_
  refine J_callSc (pc := 6) fC_X4_58 dX4_now_6 (c_X4_in a.toInt 0 6 (i2l_z rfl) rfl rfl) rfl ⟨Nat.le_of_ble_eq_true rfl, Nat.le_of_ble_eq_true rfl⟩ rfl (Nat.le_of_ble_eq_true rfl) (fun h6 => ?_) (fun h6 => ?_)
  · refine J_if_eq_F (pc := 9) 21 dX4_now_9 (by decide) (by decide) ?_
    refine J_aload_n (pc := 12) dX4_now_12 rfl ?_
    refine J_getR (pc := 13) 1 fF_X4_7 rfl rfl dX4_now_13 ?_
    refine J_iload_n (pc := 16) dX4_now_16 rfl ?_
    refine J_ialdW (pc := 17) a.toInt.toNat (by omega) rfl (by omega) dX4_now_17 ?_
    refine J_goto (pc := 18) 27 dX4_now_18 (by decide) ?_
    refine J_iret (pc := 27) dX4_now_27 rfl ?_
    subst_vars
    first
      | exact Or.inl ⟨by omega, ⟨_, rfl, by first | rfl | omega⟩, by first | rfl | omega⟩
      | exact Or.inr (⟨by omega, ⟨_, rfl, by first | rfl | omega⟩, by first | rfl | omega⟩)
  · refine J_if_eq_T (pc := 9) 21 dX4_now_9 (by decide) (by decide) ?_
    refine J_aload_n (pc := 21) dX4_now_21 rfl ?_
    refine J_bipush (pc := 22) (v := (-2)) dX4_now_22 (by decide) ?_
    refine J_callVim (pc := 24) fC_X4_91 rfl dX4_now_24 (c_X4_no2) rfl ⟨Nat.le_of_ble_eq_true rfl, Nat.le_of_ble_eq_true rfl⟩ rfl (Nat.le_of_ble_eq_true rfl) (fun z24 μ24 d24 m24 => ?_)
    refine J_iret (pc := 27) dX4_now_27 rfl ?_
    subst_vars
    first
      | exact Or.inl ⟨by omega, ⟨_, rfl, by first | rfl | omega⟩, by first | rfl | omega⟩
      | exact Or.inr (⟨by omega, ⟨_, rfl, by first | rfl | omega⟩, by first | rfl | omega⟩)
theorem pr_now {G : JG × JG} {N : Int} {c m : JM} (h : Inv N c m) (hN : 150 ≤ N ∧ N < 100000) {a : Int32} : Pair G N c m mX3_now mX4_now [.int a] := by
  refine ⟨_, _, k_now h hN, n_now h hN, fun v c' w m' hC hM => ?_⟩
  obtain ⟨q0, q1, q2, q3, q4, q5, q6⟩ := Inv_q h
  obtain ⟨r0, r1, r2, r3, r4, r5, r6, r15, r40, r9⟩ := Inv_r h
  have hc := h.1
  have qt : (c.1 21 1).toInt = (m.1 0 9).toInt := by rw [h.2.2.2.2.1.1]
  have qs0 : (c.1 0 8).toInt = (m.1 4 0).toInt := by rw [h.2.2.2.2.2.2.1]
  have qs1 : (c.1 0 9).toInt = (m.1 4 1).toInt := by rw [h.2.2.2.2.2.2.2.1]
  have qs2 : (c.1 0 10).toInt = (m.1 4 2).toInt := by rw [h.2.2.2.2.2.2.2.2]
  rcases hM with ⟨b1, b2, b3⟩ | ⟨b1, b2, b3⟩
  · rcases hC with ⟨a1, a2, a3⟩ | hC
    · exact ⟨IsZ_eq a2 b2, by rw [a3, b3]; exact Inv_no (by omega) h 0 (by decide)⟩
    · exfalso; omega
  · have hx : IsZ v (m.1 1 a.toInt.toNat).toInt ∧ c' = c := by
      rcases hC with ⟨a1, -, -⟩ | hC
      · exact absurd b1 a1
      rcases hC with ⟨a1, a2, a3⟩ | ⟨a1, a2, a3⟩ | ⟨a1, a2, a3⟩ | ⟨a1, a2, a3⟩ | ⟨a1, a2, a3⟩ | ⟨a1, a2, a3⟩ | ⟨a1, a2, a3⟩ <;> exact ⟨by rw [a1]; exact a2, a3⟩
    obtain ⟨a2, a3⟩ := hx
    exact ⟨IsZ_eq a2 b2, by rw [a3, b3]; exact Inv_eq (by omega) h (eqC_rf _) (eqM_rf _)⟩
set_option maxRecDepth 100000 in
set_option maxHeartbeats 4000000 in
theorem k_mood {N : Int} {c m : JM} (h : Inv N c m) (hN : 150 ≤ N ∧ N < 100000) {a b : Int32}  : Con G shC mX3_mood [.ref 0, .int a, .int b] c (fun v μ' => ((¬(0 ≤ a.toInt ∧ a.toInt ≤ 99 ∧ 0 ≤ b.toInt ∧ b.toInt ≤ 99)) ∧ IsZ v (-2) ∧ μ' = (jI c 0 8 (c.1 0 8 + 1))) ∨ (((0 ≤ a.toInt ∧ a.toInt ≤ 99 ∧ 0 ≤ b.toInt ∧ b.toInt ≤ 99) ∧ (m.1 1 3).toInt ≤ a.toInt) ∧ IsZ v (-3) ∧ μ' = (jI c 0 9 (c.1 0 9 + 1))) ∨ (((0 ≤ a.toInt ∧ a.toInt ≤ 99 ∧ 0 ≤ b.toInt ∧ b.toInt ≤ 99) ∧ a.toInt < (m.1 1 3).toInt) ∧ IsZ v (1) ∧ μ' = jI c 1 3 (iZ (mZ a.toInt b.toInt ((c.1 1 3).toInt / 10000))))) := by
  obtain ⟨q0, q1, q2, q3, q4, q5, q6⟩ := Inv_q h
  obtain ⟨r0, r1, r2, r3, r4, r5, r6, r15, r40, r9⟩ := Inv_r h
  have hc := h.1
  have qt : (c.1 21 1).toInt = (m.1 0 9).toInt := by rw [h.2.2.2.2.1.1]
  have qs0 : (c.1 0 8).toInt = (m.1 4 0).toInt := by rw [h.2.2.2.2.2.2.1]
  have qs1 : (c.1 0 9).toInt = (m.1 4 1).toInt := by rw [h.2.2.2.2.2.2.2.1]
  have qs2 : (c.1 0 10).toInt = (m.1 4 2).toInt := by rw [h.2.2.2.2.2.2.2.2]
  refine Con_of [some (.ref 0), some (.int a), some (.int b)] (by decide +kernel) (Nat.le_of_ble_eq_true rfl) (fun _ h => h) ?_
  refine J_iload_n (pc := 0) dX3_mood_0 rfl ?_
  refine J_iconst (pc := 1) (v := 0) dX3_mood_1 (by decide) ?_
  refine J_bipush (pc := 2) (v := 99) dX3_mood_2 (by decide) ?_
  refine J_callSc (pc := 4) fC_X3_60 dX3_mood_4 (c_X3_within a.toInt 0 99 rfl rfl rfl) rfl ⟨Nat.le_of_ble_eq_true rfl, Nat.le_of_ble_eq_true rfl⟩ rfl (Nat.le_of_ble_eq_true rfl) (fun h4 => ?_) (fun h4 => ?_)
  · refine J_if_eq_F (pc := 7) 20 dX3_mood_7 (by decide) (by decide) ?_
    refine J_iload_n (pc := 10) dX3_mood_10 rfl ?_
    refine J_iconst (pc := 11) (v := 0) dX3_mood_11 (by decide) ?_
    refine J_bipush (pc := 12) (v := 99) dX3_mood_12 (by decide) ?_
    refine J_callSc (pc := 14) fC_X3_60 dX3_mood_14 (c_X3_within b.toInt 0 99 rfl rfl rfl) rfl ⟨Nat.le_of_ble_eq_true rfl, Nat.le_of_ble_eq_true rfl⟩ rfl (Nat.le_of_ble_eq_true rfl) (fun h14 => ?_) (fun h14 => ?_)
    · refine J_if_ne_T (pc := 17) 27 dX3_mood_17 (by decide) (by decide) ?_
      refine J_iload_n (pc := 27) dX3_mood_27 rfl ?_
      refine J_aload_n (pc := 28) dX3_mood_28 rfl ?_
      refine J_getR (pc := 29) 1 fF_X3_12 rfl rfl dX3_mood_29 ?_
      refine J_getI (pc := 32) fF_X3_71 rfl rfl dX3_mood_32 ?_
      refine J_icmp_ltW (pc := 35) a.toInt ((m.1 1 3).toInt) rfl q1 45 dX3_mood_35 (by decide) (fun h35 => ?_) (fun h35 => ?_)
      · refine J_aload_n (pc := 45) dX3_mood_45 rfl ?_
        refine J_getR (pc := 46) 1 fF_X3_12 rfl rfl dX3_mood_46 ?_
        refine J_iload_n (pc := 49) dX3_mood_49 rfl ?_
        refine J_iload_n (pc := 50) dX3_mood_50 rfl ?_
        refine J_callVv (pc := 51) fC_X3_74 rfl dX3_mood_51 (c_X0_feel jarAt_1 a.toInt b.toInt rfl rfl (by omega) (by omega)) rfl ⟨Nat.le_of_ble_eq_true rfl, Nat.le_of_ble_eq_true rfl⟩ rfl (Nat.le_of_ble_eq_true rfl) (fun μ51 m51 => ?_)
        refine J_iconst (pc := 54) (v := 1) dX3_mood_54 (by decide) ?_
        refine J_iret (pc := 55) dX3_mood_55 rfl ?_
        subst_vars
        first
          | exact Or.inl ⟨by omega, ⟨_, rfl, by first | rfl | omega⟩, by first | rfl | omega⟩
          | exact Or.inr (Or.inl ⟨by omega, ⟨_, rfl, by first | rfl | omega⟩, by first | rfl | omega⟩)
          | exact Or.inr (Or.inr (⟨by omega, ⟨_, rfl, by first | rfl | omega⟩, by first | rfl | omega⟩))
      · refine J_aload_n (pc := 38) dX3_mood_38 rfl ?_
        refine J_bipush (pc := 39) (v := (-3)) dX3_mood_39 (by decide) ?_
        refine J_callVim (pc := 41) fC_X3_64 rfl dX3_mood_41 (c_X3_refuse3) rfl ⟨Nat.le_of_ble_eq_true rfl, Nat.le_of_ble_eq_true rfl⟩ rfl (Nat.le_of_ble_eq_true rfl) (fun z41 μ41 d41 m41 => ?_)
        refine J_iret (pc := 44) dX3_mood_44 rfl ?_
        subst_vars
        first
          | exact Or.inl ⟨by omega, ⟨_, rfl, by first | rfl | omega⟩, by first | rfl | omega⟩
          | exact Or.inr (Or.inl ⟨by omega, ⟨_, rfl, by first | rfl | omega⟩, by first | rfl | omega⟩)
          | exact Or.inr (Or.inr (⟨by omega, ⟨_, rfl, by first | rfl | omega⟩, by first | rfl | omega⟩))
    · refine J_if_ne_F (pc := 17) 27 dX3_mood_17 (by decide) (by decide) ?_
      refine J_aload_n (pc := 20) dX3_mood_20 rfl ?_
      refine J_bipush (pc := 21) (v := (-2)) dX3_mood_21 (by decide) ?_
      refine J_callVim (pc := 23) fC_X3_64 rfl dX3_mood_23 (c_X3_refuse2) rfl ⟨Nat.le_of_ble_eq_true rfl, Nat.le_of_ble_eq_true rfl⟩ rfl (Nat.le_of_ble_eq_true rfl) (fun z23 μ23 d23 m23 => ?_)
      refine J_iret (pc := 26) dX3_mood_26 rfl ?_
      subst_vars
      first
        | exact Or.inl ⟨by omega, ⟨_, rfl, by first | rfl | omega⟩, by first | rfl | omega⟩
        | exact Or.inr (Or.inl ⟨by omega, ⟨_, rfl, by first | rfl | omega⟩, by first | rfl | omega⟩)
        | exact Or.inr (Or.inr (⟨by omega, ⟨_, rfl, by first | rfl | omega⟩, by first | rfl | omega⟩))
  · refine J_if_eq_T (pc := 7) 20 dX3_mood_7 (by decide) (by decide) ?_
    refine J_aload_n (pc := 20) dX3_mood_20 rfl ?_
    refine J_bipush (pc := 21) (v := (-2)) dX3_mood_21 (by decide) ?_
    refine J_callVim (pc := 23) fC_X3_64 rfl dX3_mood_23 (c_X3_refuse2) rfl ⟨Nat.le_of_ble_eq_true rfl, Nat.le_of_ble_eq_true rfl⟩ rfl (Nat.le_of_ble_eq_true rfl) (fun z23 μ23 d23 m23 => ?_)
    refine J_iret (pc := 26) dX3_mood_26 rfl ?_
    subst_vars
    first
      | exact Or.inl ⟨by omega, ⟨_, rfl, by first | rfl | omega⟩, by first | rfl | omega⟩
      | exact Or.inr (Or.inl ⟨by omega, ⟨_, rfl, by first | rfl | omega⟩, by first | rfl | omega⟩)
      | exact Or.inr (Or.inr (⟨by omega, ⟨_, rfl, by first | rfl | omega⟩, by first | rfl | omega⟩))
set_option maxRecDepth 100000 in
set_option maxHeartbeats 4000000 in
theorem n_mood {N : Int} {c m : JM} (h : Inv N c m) (hN : 150 ≤ N ∧ N < 100000) {a b : Int32}  : Con G shM mX4_mood [.ref 0, .int a, .int b] m (fun v μ' => ((¬(0 ≤ a.toInt ∧ a.toInt ≤ 99 ∧ 0 ≤ b.toInt ∧ b.toInt ≤ 99)) ∧ IsZ v (-2) ∧ μ' = (jI m 4 0 (m.1 4 0 + 1))) ∨ (((0 ≤ a.toInt ∧ a.toInt ≤ 99 ∧ 0 ≤ b.toInt ∧ b.toInt ≤ 99) ∧ (m.1 1 3).toInt ≤ a.toInt) ∧ IsZ v (-3) ∧ μ' = (jI m 4 1 (m.1 4 1 + 1))) ∨ (((0 ≤ a.toInt ∧ a.toInt ≤ 99 ∧ 0 ≤ b.toInt ∧ b.toInt ≤ 99) ∧ a.toInt < (m.1 1 3).toInt) ∧ IsZ v (1) ∧ μ' = jC m 1 (upd (upd (m.1 1) 1 a) 2 b))) := by
  obtain ⟨q0, q1, q2, q3, q4, q5, q6⟩ := Inv_q h
  obtain ⟨r0, r1, r2, r3, r4, r5, r6, r15, r40, r9⟩ := Inv_r h
  have hc := h.1
  have qt : (c.1 21 1).toInt = (m.1 0 9).toInt := by rw [h.2.2.2.2.1.1]
  have qs0 : (c.1 0 8).toInt = (m.1 4 0).toInt := by rw [h.2.2.2.2.2.2.1]
  have qs1 : (c.1 0 9).toInt = (m.1 4 1).toInt := by rw [h.2.2.2.2.2.2.2.1]
  have qs2 : (c.1 0 10).toInt = (m.1 4 2).toInt := by rw [h.2.2.2.2.2.2.2.2]
  refine Con_of [some (.ref 0), some (.int a), some (.int b)] (by decide +kernel) (Nat.le_of_ble_eq_true rfl) (fun _ h => h) ?_
  refine J_iload_n (pc := 0) dX4_mood_0 rfl ?_
  refine J_i2l (pc := 1) dX4_mood_1 rfl ?_
  refine J_lconst (pc := 2) (v := 0) dX4_mood_2 (by decide) ?_
  refine J_ldc2 (pc := 3) fK_X4_94 dX4_mood_3 ?_
  refine J_callSc (pc := 6) fC_X4_58 dX4_mood_6 (c_X4_in a.toInt 0 99 (i2l_z rfl) rfl rfl) rfl ⟨Nat.le_of_ble_eq_true rfl, Nat.le_of_ble_eq_true rfl⟩ rfl (Nat.le_of_ble_eq_true rfl) (fun h6 => ?_) (fun h6 => ?_)
  · refine J_if_eq_F (pc := 9) 24 dX4_mood_9 (by decide) (by decide) ?_
    refine J_iload_n (pc := 12) dX4_mood_12 rfl ?_
    refine J_i2l (pc := 13) dX4_mood_13 rfl ?_
    refine J_lconst (pc := 14) (v := 0) dX4_mood_14 (by decide) ?_
    refine J_ldc2 (pc := 15) fK_X4_94 dX4_mood_15 ?_
    refine J_callSc (pc := 18) fC_X4_58 dX4_mood_18 (c_X4_in b.toInt 0 99 (i2l_z rfl) rfl rfl) rfl ⟨Nat.le_of_ble_eq_true rfl, Nat.le_of_ble_eq_true rfl⟩ rfl (Nat.le_of_ble_eq_true rfl) (fun h18 => ?_) (fun h18 => ?_)
    · refine J_if_ne_T (pc := 21) 31 dX4_mood_21 (by decide) (by decide) ?_
      refine J_iload_n (pc := 31) dX4_mood_31 rfl ?_
      refine J_aload_n (pc := 32) dX4_mood_32 rfl ?_
      refine J_getR (pc := 33) 1 fF_X4_7 rfl rfl dX4_mood_33 ?_
      refine J_iconst (pc := 36) (v := 3) dX4_mood_36 (by decide) ?_
      refine J_ialdW (pc := 37) 3 (rfl) rfl (by decide) dX4_mood_37 ?_
      refine J_icmp_ltW (pc := 38) a.toInt ((m.1 1 3).toInt) rfl rfl 48 dX4_mood_38 (by decide) (fun h38 => ?_) (fun h38 => ?_)
      · refine J_aload_n (pc := 48) dX4_mood_48 rfl ?_
        refine J_getR (pc := 49) 1 fF_X4_7 rfl rfl dX4_mood_49 ?_
        refine J_iconst (pc := 52) (v := 1) dX4_mood_52 (by decide) ?_
        refine J_iload_n (pc := 53) dX4_mood_53 rfl ?_
        refine J_iastW (pc := 54) 1 (rfl) rfl (by decide) dX4_mood_54 (fun μ54 m54 => ?_)
        refine J_aload_n (pc := 55) dX4_mood_55 rfl ?_
        refine J_getR (pc := 56) 1 fF_X4_7 rfl rfl dX4_mood_56 ?_
        refine J_iconst (pc := 59) (v := 2) dX4_mood_59 (by decide) ?_
        refine J_iload_n (pc := 60) dX4_mood_60 rfl ?_
        refine J_iastW (pc := 61) 2 (rfl) rfl (by decide) dX4_mood_61 (fun μ61 m61 => ?_)
        refine J_iconst (pc := 62) (v := 1) dX4_mood_62 (by decide) ?_
        refine J_iret (pc := 63) dX4_mood_63 rfl ?_
        subst_vars
        first
          | exact Or.inl ⟨by omega, ⟨_, rfl, by first | rfl | omega⟩, by first | rfl | (simp only [jI_row, jC_jC, jC_at])⟩
          | exact Or.inr (Or.inl ⟨by omega, ⟨_, rfl, by first | rfl | omega⟩, by first | rfl | (simp only [jI_row, jC_jC, jC_at])⟩)
          | exact Or.inr (Or.inr (⟨by omega, ⟨_, rfl, by first | rfl | omega⟩, by first | rfl | (simp only [jI_row, jC_jC, jC_at])⟩))
      · refine J_aload_n (pc := 41) dX4_mood_41 rfl ?_
        refine J_bipush (pc := 42) (v := (-3)) dX4_mood_42 (by decide) ?_
        refine J_callVim (pc := 44) fC_X4_91 rfl dX4_mood_44 (c_X4_no3) rfl ⟨Nat.le_of_ble_eq_true rfl, Nat.le_of_ble_eq_true rfl⟩ rfl (Nat.le_of_ble_eq_true rfl) (fun z44 μ44 d44 m44 => ?_)
        refine J_iret (pc := 47) dX4_mood_47 rfl ?_
        subst_vars
        first
          | exact Or.inl ⟨by omega, ⟨_, rfl, by first | rfl | omega⟩, by first | rfl | (simp only [jI_row, jC_jC, jC_at])⟩
          | exact Or.inr (Or.inl ⟨by omega, ⟨_, rfl, by first | rfl | omega⟩, by first | rfl | (simp only [jI_row, jC_jC, jC_at])⟩)
          | exact Or.inr (Or.inr (⟨by omega, ⟨_, rfl, by first | rfl | omega⟩, by first | rfl | (simp only [jI_row, jC_jC, jC_at])⟩))
    · refine J_if_ne_F (pc := 21) 31 dX4_mood_21 (by decide) (by decide) ?_
      refine J_aload_n (pc := 24) dX4_mood_24 rfl ?_
      refine J_bipush (pc := 25) (v := (-2)) dX4_mood_25 (by decide) ?_
      refine J_callVim (pc := 27) fC_X4_91 rfl dX4_mood_27 (c_X4_no2) rfl ⟨Nat.le_of_ble_eq_true rfl, Nat.le_of_ble_eq_true rfl⟩ rfl (Nat.le_of_ble_eq_true rfl) (fun z27 μ27 d27 m27 => ?_)
      refine J_iret (pc := 30) dX4_mood_30 rfl ?_
      subst_vars
      first
        | exact Or.inl ⟨by omega, ⟨_, rfl, by first | rfl | omega⟩, by first | rfl | (simp only [jI_row, jC_jC, jC_at])⟩
        | exact Or.inr (Or.inl ⟨by omega, ⟨_, rfl, by first | rfl | omega⟩, by first | rfl | (simp only [jI_row, jC_jC, jC_at])⟩)
        | exact Or.inr (Or.inr (⟨by omega, ⟨_, rfl, by first | rfl | omega⟩, by first | rfl | (simp only [jI_row, jC_jC, jC_at])⟩))
  · refine J_if_eq_T (pc := 9) 24 dX4_mood_9 (by decide) (by decide) ?_
    refine J_aload_n (pc := 24) dX4_mood_24 rfl ?_
    refine J_bipush (pc := 25) (v := (-2)) dX4_mood_25 (by decide) ?_
    refine J_callVim (pc := 27) fC_X4_91 rfl dX4_mood_27 (c_X4_no2) rfl ⟨Nat.le_of_ble_eq_true rfl, Nat.le_of_ble_eq_true rfl⟩ rfl (Nat.le_of_ble_eq_true rfl) (fun z27 μ27 d27 m27 => ?_)
    refine J_iret (pc := 30) dX4_mood_30 rfl ?_
    subst_vars
    first
      | exact Or.inl ⟨by omega, ⟨_, rfl, by first | rfl | omega⟩, by first | rfl | (simp only [jI_row, jC_jC, jC_at])⟩
      | exact Or.inr (Or.inl ⟨by omega, ⟨_, rfl, by first | rfl | omega⟩, by first | rfl | (simp only [jI_row, jC_jC, jC_at])⟩)
      | exact Or.inr (Or.inr (⟨by omega, ⟨_, rfl, by first | rfl | omega⟩, by first | rfl | (simp only [jI_row, jC_jC, jC_at])⟩))
theorem pr_mood {G : JG × JG} {N : Int} {c m : JM} (h : Inv N c m) (hN : 150 ≤ N ∧ N < 100000) {a b : Int32} : Pair G N c m mX3_mood mX4_mood [.int a, .int b] := by
  refine ⟨_, _, k_mood h hN, n_mood h hN, fun v c' w m' hC hM => ?_⟩
  obtain ⟨q0, q1, q2, q3, q4, q5, q6⟩ := Inv_q h
  obtain ⟨r0, r1, r2, r3, r4, r5, r6, r15, r40, r9⟩ := Inv_r h
  have hc := h.1
  have qt : (c.1 21 1).toInt = (m.1 0 9).toInt := by rw [h.2.2.2.2.1.1]
  have qs0 : (c.1 0 8).toInt = (m.1 4 0).toInt := by rw [h.2.2.2.2.2.2.1]
  have qs1 : (c.1 0 9).toInt = (m.1 4 1).toInt := by rw [h.2.2.2.2.2.2.2.1]
  have qs2 : (c.1 0 10).toInt = (m.1 4 2).toInt := by rw [h.2.2.2.2.2.2.2.2]
  rcases hC with ⟨a1, a2, a3⟩ | ⟨a1, a2, a3⟩ | ⟨a1, a2, a3⟩
  · rcases hM with ⟨b1, b2, b3⟩ | ⟨b1, b2, b3⟩ | ⟨b1, b2, b3⟩
    · exact ⟨IsZ_eq a2 b2, by rw [a3, b3]; exact Inv_no (by omega) h 0 (by decide)⟩
    · exfalso; omega
    · exfalso; omega
  · rcases hM with ⟨b1, b2, b3⟩ | ⟨b1, b2, b3⟩ | ⟨b1, b2, b3⟩
    · exfalso; omega
    · exact ⟨IsZ_eq a2 b2, by rw [a3, b3]; exact Inv_no (by omega) h 1 (by decide)⟩
    · exfalso; omega
  · rcases hM with ⟨b1, b2, b3⟩ | ⟨b1, b2, b3⟩ | ⟨b1, b2, b3⟩
    · exfalso; omega
    · exfalso; omega
    · refine ⟨IsZ_eq a2 b2, ?_⟩
      rw [a3, b3]
      refine Inv_row (f := upd (upd (m.1 1) 1 a) 2 b) (by omega) h (fun o ho => jI_ne (by omega)) (by rw [jI_ne (by omega)]) rfl (eqM_rf _) ?_ ?_
      · obtain ⟨j0, j1, j2, j3, j4, j5, j6, j7, j8, j9⟩ := h.2.2.1
        refine ⟨by simp [jI_i, upd, j0], by simp [jI_i, upd, j1], by simp [jI_i, upd, j2], ?_, by simp [jI_i, upd, j4], by simp [jI_i, upd, j5], by simp [jI_i, upd, j6], fun j hj => ?_, fun j hj => ?_, fun j hj => ?_⟩
        · have e : (c.1 1 3).toInt / 10000 = (m.1 1 6).toInt := by omega
          simp only [jI_i, upd]
          rw [if_pos ⟨trivial, trivial⟩, e, iZ_i (by unfold mZ; omega)]
          rfl
        · have := j7 j hj
          simp [jI_i, upd, show ¬ 7 + j = 2 by omega, show ¬ 7 + j = 1 by omega, this]
        · have := j8 j hj
          simp [jI_i, upd, show ¬ 16 + j = 2 by omega, show ¬ 16 + j = 1 by omega, this]
        · obtain ⟨t1, t2⟩ := j9 j hj
          simp only [jI_i, upd]
          rw [if_neg (by omega), if_neg (by omega), if_neg (by omega), if_neg (by omega), if_neg (by omega), if_neg (by omega), if_neg (by omega), if_neg (by omega), if_neg (by omega), if_neg (by omega)]
          exact ⟨t1, t2⟩
      · obtain ⟨h0, h1, h2, h3, h4, h5, h6, h7, h8, h9, ha, hb⟩ := wfF_mono (M := N + 1) (by omega) h.2.1
        refine ⟨h0, by show 0 ≤ a.toInt ∧ a.toInt ≤ 99; omega, by show 0 ≤ b.toInt ∧ b.toInt ≤ 99; omega, h3, h4, h5, h6, fun j hj => ?_, h8, h9, fun j hj => ?_, fun j hj => ?_⟩
        · simp only [upd]; rw [if_neg (by omega), if_neg (by omega)]; exact h7 j hj
        · simp only [upd]; rw [if_neg (by omega), if_neg (by omega), if_neg (by omega), if_neg (by omega)]; exact ha j hj
        · simp only [upd]; rw [if_neg (by omega), if_neg (by omega), if_neg (by omega), if_neg (by omega), if_neg (by omega), if_neg (by omega), if_neg (by omega), if_neg (by omega)]; exact hb j hj

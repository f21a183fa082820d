/-! ===== public methods: open, undo ===== -/
def openF (f : Nat → Int32) : Nat → Int32 := upd (upd (remF f) 2 0) 6 0
variable {G : JG}
theorem remF_low {f : Nat → Int32} {j : Nat} (h : j < 40) : remF f j = f j := by
  unfold remF
  split
  · rw [(pushF_v (f := shF f) (n := 7) (by omega)).2.2.2.2.2 j (by omega) (by omega)]
    exact shF_v.2.1 j h
  · by_cases h8 : (f 40).toInt.toNat < 8
    · rw [(pushF_v (f := f) h8).2.2.2.2.2 j (by omega) (by omega)]
    · simp only [pushF, upd]
      rw [if_neg (by omega), if_neg (by omega), if_neg (by omega), if_neg (by omega), if_neg (by omega)]
set_option maxRecDepth 100000 in
set_option maxHeartbeats 4000000 in
theorem k_open {N : Int} {c m : JM} (h : Inv N c m) (hN : 150 ≤ N ∧ N < 100000)  : Con G shC mX3_open [.ref 0] c (fun v μ' => (((m.1 1 6).toInt ≠ 1) ∧ IsZ v (-3) ∧ μ' = (jI c 0 9 (c.1 0 9 + 1))) ∨ (((m.1 1 6).toInt = 1) ∧ IsZ v ((m.1 1 2).toInt) ∧ μ' = jI (remM c 1) 1 3 (iZ (mZ (m.1 1 1).toInt 0 0)))) := by
  obtain ⟨q0, q1, q2, q3, q4, q5, q6⟩ := Inv_q h
  obtain ⟨r0, r1, r2, r3, r4, r5, r6, r15, r40, r9⟩ := Inv_r h
  have hc := h.1
  have qt : (c.1 21 1).toInt = (m.1 0 9).toInt := by rw [h.2.2.2.2.1.1]
  have qs0 : (c.1 0 8).toInt = (m.1 4 0).toInt := by rw [h.2.2.2.2.2.2.1]
  have qs1 : (c.1 0 9).toInt = (m.1 4 1).toInt := by rw [h.2.2.2.2.2.2.2.1]
  have qs2 : (c.1 0 10).toInt = (m.1 4 2).toInt := by rw [h.2.2.2.2.2.2.2.2]
  refine Con_of [some (.ref 0), none] (by decide +kernel) (Nat.le_of_ble_eq_true rfl) (fun _ h => h) ?_
  refine J_aload_n (pc := 0) dX3_open_0 rfl ?_
  refine J_getR (pc := 1) 1 fF_X3_12 rfl rfl dX3_open_1 ?_
  refine J_getI (pc := 4) fF_X3_78 rfl rfl dX3_open_4 ?_
  refine J_callSz (pc := 7) fC_X3_120 dX3_open_7 (c_X3_beingOf ((m.1 1 6).toInt * 10000 + (m.1 1 1).toInt * 100 + (m.1 1 2).toInt) q3 (by omega)) rfl ⟨Nat.le_of_ble_eq_true rfl, Nat.le_of_ble_eq_true rfl⟩ rfl (Nat.le_of_ble_eq_true rfl) (fun z7 e7 => ?_)
  refine J_iconst (pc := 10) (v := 1) dX3_open_10 (by decide) ?_
  refine J_icmp_eqW (pc := 11) (((m.1 1 6).toInt * 10000 + (m.1 1 1).toInt * 100 + (m.1 1 2).toInt) / 10000) 1 e7 rfl 21 dX3_open_11 (by decide) (fun h11 => ?_) (fun h11 => ?_)
  · refine J_aload_n (pc := 21) dX3_open_21 rfl ?_
    refine J_getR (pc := 22) 1 fF_X3_12 rfl rfl dX3_open_22 ?_
    refine J_getI (pc := 25) fF_X3_78 rfl rfl dX3_open_25 ?_
    refine J_callSz (pc := 28) fC_X3_129 dX3_open_28 (c_X3_prideOf ((m.1 1 6).toInt * 10000 + (m.1 1 1).toInt * 100 + (m.1 1 2).toInt) q3 (by omega)) rfl ⟨Nat.le_of_ble_eq_true rfl, Nat.le_of_ble_eq_true rfl⟩ rfl (Nat.le_of_ble_eq_true rfl) (fun z28 e28 => ?_)
    refine J_istore_n (pc := 31) (lv' := [some (.ref 0), some (.int z28)]) dX3_open_31 (Nat.le_of_ble_eq_true rfl) rfl rfl ?_
    refine J_aload_n (pc := 32) dX3_open_32 rfl ?_
    refine J_getR (pc := 33) 1 fF_X3_12 rfl rfl dX3_open_33 ?_
    refine J_callVv (pc := 36) fC_X3_123 rfl dX3_open_36 (c_X0_remember jarAt_1 (by omega)) rfl ⟨Nat.le_of_ble_eq_true rfl, Nat.le_of_ble_eq_true rfl⟩ rfl (Nat.le_of_ble_eq_true rfl) (fun μ36 m36 => ?_)
    refine J_aload_n (pc := 39) dX3_open_39 rfl ?_
    refine J_getR (pc := 40) 1 fF_X3_12 rfl rfl dX3_open_40 ?_
    refine J_aload_n (pc := 43) dX3_open_43 rfl ?_
    refine J_getR (pc := 44) 1 fF_X3_12 rfl rfl dX3_open_44 ?_
    refine J_getI (pc := 47) fF_X3_78 rfl rfl dX3_open_47 ?_
    refine J_callSz (pc := 50) fC_X3_81 dX3_open_50 (c_X3_angerOf ((m.1 1 6).toInt * 10000 + (m.1 1 1).toInt * 100 + (m.1 1 2).toInt) (show (μ36.1 1 3).toInt = _ by rw [m36, remM_b (by decide)]; exact q3) (by omega)) rfl ⟨Nat.le_of_ble_eq_true rfl, Nat.le_of_ble_eq_true rfl⟩ rfl (Nat.le_of_ble_eq_true rfl) (fun z50 e50 => ?_)
    refine J_iconst (pc := 53) (v := 0) dX3_open_53 (by decide) ?_
    refine J_iconst (pc := 54) (v := 0) dX3_open_54 (by decide) ?_
    refine J_callSz (pc := 55) fC_X3_132 dX3_open_55 (c_X3_mind (((m.1 1 6).toInt * 10000 + (m.1 1 1).toInt * 100 + (m.1 1 2).toInt) % 10000 / 100) 0 0 e50 rfl rfl (by omega)) rfl ⟨Nat.le_of_ble_eq_true rfl, Nat.le_of_ble_eq_true rfl⟩ rfl (Nat.le_of_ble_eq_true rfl) (fun z55 e55 => ?_)
    refine J_putIW (pc := 58) fF_X3_78 rfl rfl dX3_open_58 (fun μ58 m58 => ?_)
    refine J_iload_n (pc := 61) dX3_open_61 rfl ?_
    refine J_iret (pc := 62) dX3_open_62 rfl ?_
    have e : (0 * 10000 + (((m.1 1 6).toInt * 10000 + (m.1 1 1).toInt * 100 + (m.1 1 2).toInt) % 10000 / 100) * 100 + 0 : Int) = mZ (m.1 1 1).toInt 0 0 := by unfold mZ; omega
    rw [e] at e55
    rw [iZ_of e55] at m58
    exact Or.inr ⟨by omega, ⟨_, rfl, by omega⟩, by rw [m58, m36]⟩
  · refine J_aload_n (pc := 14) dX3_open_14 rfl ?_
    refine J_bipush (pc := 15) (v := (-3)) dX3_open_15 (by decide) ?_
    refine J_callVim (pc := 17) fC_X3_64 rfl dX3_open_17 (c_X3_refuse3) rfl ⟨Nat.le_of_ble_eq_true rfl, Nat.le_of_ble_eq_true rfl⟩ rfl (Nat.le_of_ble_eq_true rfl) (fun z17 μ17 d17 m17 => ?_)
    refine J_iret (pc := 20) dX3_open_20 rfl ?_
    subst_vars
    first
      | exact Or.inl ⟨by omega, ⟨_, rfl, by first | rfl | omega⟩, by first | rfl | omega⟩
      | exact Or.inr (⟨by omega, ⟨_, rfl, by first | rfl | omega⟩, by first | rfl | omega⟩)
set_option maxRecDepth 100000 in
set_option maxHeartbeats 4000000 in
theorem n_open {N : Int} {c m : JM} (h : Inv N c m) (hN : 150 ≤ N ∧ N < 100000)  : Con G shM mX4_open [.ref 0] m (fun v μ' => (((m.1 1 6).toInt ≠ 1) ∧ IsZ v (-3) ∧ μ' = (jI m 4 1 (m.1 4 1 + 1))) ∨ (((m.1 1 6).toInt = 1) ∧ IsZ v ((m.1 1 2).toInt) ∧ μ' = jC m 1 (openF (m.1 1)))) := by
  obtain ⟨q0, q1, q2, q3, q4, q5, q6⟩ := Inv_q h
  obtain ⟨r0, r1, r2, r3, r4, r5, r6, r15, r40, r9⟩ := Inv_r h
  have hc := h.1
  have qt : (c.1 21 1).toInt = (m.1 0 9).toInt := by rw [h.2.2.2.2.1.1]
  have qs0 : (c.1 0 8).toInt = (m.1 4 0).toInt := by rw [h.2.2.2.2.2.2.1]
  have qs1 : (c.1 0 9).toInt = (m.1 4 1).toInt := by rw [h.2.2.2.2.2.2.2.1]
  have qs2 : (c.1 0 10).toInt = (m.1 4 2).toInt := by rw [h.2.2.2.2.2.2.2.2]
  refine Con_of [some (.ref 0), none] (by decide +kernel) (Nat.le_of_ble_eq_true rfl) (fun _ h => h) ?_
  refine J_aload_n (pc := 0) dX4_open_0 rfl ?_
  refine J_getR (pc := 1) 1 fF_X4_7 rfl rfl dX4_open_1 ?_
  refine J_bipush (pc := 4) (v := 6) dX4_open_4 (by decide) ?_
  refine J_ialdW (pc := 6) 6 (rfl) rfl (by decide) dX4_open_6 ?_
  refine J_iconst (pc := 7) (v := 1) dX4_open_7 (by decide) ?_
  refine J_icmp_eqW (pc := 8) ((m.1 1 6).toInt) 1 rfl rfl 18 dX4_open_8 (by decide) (fun h8 => ?_) (fun h8 => ?_)
  · refine J_aload_n (pc := 18) dX4_open_18 rfl ?_
    refine J_callVv (pc := 19) fC_X4_168 rfl dX4_open_19 (c_X4_remember (by omega)) rfl ⟨Nat.le_of_ble_eq_true rfl, Nat.le_of_ble_eq_true rfl⟩ rfl (Nat.le_of_ble_eq_true rfl) (fun μ19 m19 => ?_)
    refine J_aload_n (pc := 22) dX4_open_22 rfl ?_
    refine J_getR (pc := 23) 1 fF_X4_7 rfl rfl dX4_open_23 ?_
    refine J_iconst (pc := 26) (v := 2) dX4_open_26 (by decide) ?_
    refine J_ialdW (pc := 27) 2 (rfl) rfl (by decide) dX4_open_27 ?_
    refine J_istore_n (pc := 28) (lv' := [some (.ref 0), some (.int (μ19.1 1 2))]) dX4_open_28 (Nat.le_of_ble_eq_true rfl) rfl rfl ?_
    refine J_aload_n (pc := 29) dX4_open_29 rfl ?_
    refine J_getR (pc := 30) 1 fF_X4_7 rfl rfl dX4_open_30 ?_
    refine J_iconst (pc := 33) (v := 2) dX4_open_33 (by decide) ?_
    refine J_iconst (pc := 34) (v := 0) dX4_open_34 (by decide) ?_
    refine J_iastW (pc := 35) 2 (rfl) rfl (by decide) dX4_open_35 (fun μ35 m35 => ?_)
    refine J_aload_n (pc := 36) dX4_open_36 rfl ?_
    refine J_getR (pc := 37) 1 fF_X4_7 rfl rfl dX4_open_37 ?_
    refine J_bipush (pc := 40) (v := 6) dX4_open_40 (by decide) ?_
    refine J_iconst (pc := 42) (v := 0) dX4_open_42 (by decide) ?_
    refine J_iastW (pc := 43) 6 (rfl) rfl (by decide) dX4_open_43 (fun μ43 m43 => ?_)
    refine J_iload_n (pc := 44) dX4_open_44 rfl ?_
    refine J_iret (pc := 45) dX4_open_45 rfl ?_
    refine Or.inr ⟨by omega, ⟨_, rfl, by rw [m19, jC_at, remF_low (by decide)]⟩, ?_⟩
    rw [m43, m35, m19]
    simp only [jI_row, jC_jC, jC_at]
    rfl
  · refine J_aload_n (pc := 11) dX4_open_11 rfl ?_
    refine J_bipush (pc := 12) (v := (-3)) dX4_open_12 (by decide) ?_
    refine J_callVim (pc := 14) fC_X4_91 rfl dX4_open_14 (c_X4_no3) rfl ⟨Nat.le_of_ble_eq_true rfl, Nat.le_of_ble_eq_true rfl⟩ rfl (Nat.le_of_ble_eq_true rfl) (fun z14 μ14 d14 m14 => ?_)
    refine J_iret (pc := 17) dX4_open_17 rfl ?_
    subst_vars
    first
      | exact Or.inl ⟨by omega, ⟨_, rfl, by first | rfl | omega⟩, by first | rfl | omega⟩
      | exact Or.inr (⟨by omega, ⟨_, rfl, by first | rfl | omega⟩, by first | rfl | omega⟩)
theorem pr_open {G : JG × JG} {N : Int} {c m : JM} (h : Inv N c m) (hN : 150 ≤ N ∧ N < 100000) : Pair G N c m mX3_open mX4_open [] := by
  refine ⟨_, _, k_open h hN, n_open h hN, fun v c' w m' hC hM => ?_⟩
  obtain ⟨q0, q1, q2, q3, q4, q5, q6⟩ := Inv_q h
  obtain ⟨r0, r1, r2, r3, r4, r5, r6, r15, r40, r9⟩ := Inv_r h
  have hc := h.1
  have qt : (c.1 21 1).toInt = (m.1 0 9).toInt := by rw [h.2.2.2.2.1.1]
  have qs0 : (c.1 0 8).toInt = (m.1 4 0).toInt := by rw [h.2.2.2.2.2.2.1]
  have qs1 : (c.1 0 9).toInt = (m.1 4 1).toInt := by rw [h.2.2.2.2.2.2.2.1]
  have qs2 : (c.1 0 10).toInt = (m.1 4 2).toInt := by rw [h.2.2.2.2.2.2.2.2]
  rcases hC with ⟨a1, a2, a3⟩ | ⟨a1, a2, a3⟩
  · rcases hM with ⟨b1, b2, b3⟩ | ⟨b1, b2, b3⟩
    · exact ⟨IsZ_eq a2 b2, by rw [a3, b3]; exact Inv_no (by omega) h 1 (by decide)⟩
    · exfalso; omega
  · rcases hM with ⟨b1, b2, b3⟩ | ⟨b1, b2, b3⟩
    · exfalso; omega
    · refine ⟨IsZ_eq a2 b2, ?_⟩
      rw [a3, b3]
      have w1 := wfF_rem h.2.1
      have j1 := jrep_rem h.2.1 h.2.2.1
      refine Inv_row (f := openF (m.1 1)) (by omega) h (fun o ho => by rw [jI_ne (by omega), remM_o (by omega) (by omega) (by omega)]) (by rw [jI_ne (by omega), remM_o (by omega) (by omega) (by omega)]) (by show (remM c 1).2 0 = c.2 0; rw [remM_l]) (eqM_rf _) ?_ ?_
      · obtain ⟨k0, k1, k2, k3, k4, -⟩ := id j1
        refine jrep_low j1 (fun o h1 h2 => by rw [jI_ne (by omega)]) rfl rfl (fun j hj => by simp only [openF, upd]; rw [if_neg (by omega), if_neg (by omega)]) k0 k1 k2 ?_ k4
        show (iZ (mZ (m.1 1 1).toInt 0 0)).toInt = mZ (remF (m.1 1) 1).toInt 0 0
        rw [remF_low (by decide), iZ_i (by unfold mZ; omega)]
      · obtain ⟨g0, g1, g2, g3, g4, g5, g6, -⟩ := w1
        exact wfF_low (wfF_mono (M := N + 1) (by omega) (wfF_rem h.2.1)) (fun j hj => by simp only [openF, upd]; rw [if_neg (by omega), if_neg (by omega)]) g0 g1 (by show 0 ≤ (0 : Int32).toInt ∧ (0 : Int32).toInt ≤ 99; decide) g3 g4 ⟨g5.1, by show (remF (m.1 1) 5).toInt ≤ _; omega⟩ (by show 0 ≤ (0 : Int32).toInt ∧ (0 : Int32).toInt ≤ 2; decide)
def backF (f : Nat → Int32) (n : Nat) : Nat → Int32 := upd (upd (upd (upd (upd f 40 (iZ (n : Int))) 1 (f (41 + 4 * n))) 2 (f (41 + 4 * n + 1))) 5 (f (41 + 4 * n + 2))) 6 (f (41 + 4 * n + 3))
def undoF (f : Nat → Int32) (n : Nat) (j : Nat) : Int32 := if 41 + 4 * n ≤ j ∧ j < 41 + 4 * n + 4 then 0 else backF f n j
theorem backF_v {f : Nat → Int32} {n : Nat} : backF f n 40 = iZ (n : Int) ∧ backF f n 1 = f (41 + 4 * n) ∧ backF f n 2 = f (41 + 4 * n + 1) ∧ backF f n 5 = f (41 + 4 * n + 2) ∧ backF f n 6 = f (41 + 4 * n + 3) ∧ ∀ j, j ≠ 40 → j ≠ 1 → j ≠ 2 → j ≠ 5 → j ≠ 6 → backF f n j = f j := by
  refine ⟨rfl, rfl, rfl, rfl, rfl, fun j a b c d e => ?_⟩
  simp only [backF, upd]
  rw [if_neg e, if_neg d, if_neg c, if_neg b, if_neg a]
theorem undoF_lo {f : Nat → Int32} {n j : Nat} (h : j < 41 + 4 * n) : undoF f n j = backF f n j := by
  unfold undoF
  rw [if_neg (by omega)]
set_option maxRecDepth 100000 in
set_option maxHeartbeats 4000000 in
theorem k_undo0 {N : Int} {c m : JM} (h : Inv N c m) (hN : 150 ≤ N ∧ N < 100000) (h0 : (m.1 1 40).toInt = 0)  : Con G shC mX3_undo [.ref 0] c (fun v μ' => ((True) ∧ IsZ v (-3) ∧ μ' = (jI c 0 9 (c.1 0 9 + 1)))) := by
  obtain ⟨q0, q1, q2, q3, q4, q5, q6⟩ := Inv_q h
  obtain ⟨r0, r1, r2, r3, r4, r5, r6, r15, r40, r9⟩ := Inv_r h
  have hc := h.1
  have qt : (c.1 21 1).toInt = (m.1 0 9).toInt := by rw [h.2.2.2.2.1.1]
  have qs0 : (c.1 0 8).toInt = (m.1 4 0).toInt := by rw [h.2.2.2.2.2.2.1]
  have qs1 : (c.1 0 9).toInt = (m.1 4 1).toInt := by rw [h.2.2.2.2.2.2.2.1]
  have qs2 : (c.1 0 10).toInt = (m.1 4 2).toInt := by rw [h.2.2.2.2.2.2.2.2]
  refine Con_of [some (.ref 0)] (by decide +kernel) (Nat.le_of_ble_eq_true rfl) (fun _ h => h) ?_
  refine J_aload_n (pc := 0) dX3_undo_0 rfl ?_
  refine J_getR (pc := 1) 1 fF_X3_12 rfl rfl dX3_undo_1 ?_
  refine J_getI (pc := 4) fF_X3_135 rfl rfl dX3_undo_4 ?_
  refine J_iconst (pc := 7) (v := 1) dX3_undo_7 (by decide) ?_
  refine J_icmp_geW (pc := 8) ((m.1 1 40).toInt) 1 q6 rfl 18 dX3_undo_8 (by decide) (fun h8 => ?_) (fun h8 => ?_)
  · exfalso; omega
  · refine J_aload_n (pc := 11) dX3_undo_11 rfl ?_
    refine J_bipush (pc := 12) (v := (-3)) dX3_undo_12 (by decide) ?_
    refine J_callVim (pc := 14) fC_X3_64 rfl dX3_undo_14 (c_X3_refuse3) rfl ⟨Nat.le_of_ble_eq_true rfl, Nat.le_of_ble_eq_true rfl⟩ rfl (Nat.le_of_ble_eq_true rfl) (fun z14 μ14 d14 m14 => ?_)
    refine J_iret (pc := 17) dX3_undo_17 rfl ?_
    subst_vars
    first
      | exact ⟨trivial, ⟨_, rfl, by first | rfl | omega⟩, by first | rfl | omega⟩
set_option maxRecDepth 100000 in
set_option maxHeartbeats 4000000 in
theorem n_undo0 {N : Int} {c m : JM} (h : Inv N c m) (hN : 150 ≤ N ∧ N < 100000) (h0 : (m.1 1 40).toInt = 0)  : Con G shM mX4_undo [.ref 0] m (fun v μ' => ((True) ∧ IsZ v (-3) ∧ μ' = (jI m 4 1 (m.1 4 1 + 1)))) := by
  obtain ⟨q0, q1, q2, q3, q4, q5, q6⟩ := Inv_q h
  obtain ⟨r0, r1, r2, r3, r4, r5, r6, r15, r40, r9⟩ := Inv_r h
  have hc := h.1
  have qt : (c.1 21 1).toInt = (m.1 0 9).toInt := by rw [h.2.2.2.2.1.1]
  have qs0 : (c.1 0 8).toInt = (m.1 4 0).toInt := by rw [h.2.2.2.2.2.2.1]
  have qs1 : (c.1 0 9).toInt = (m.1 4 1).toInt := by rw [h.2.2.2.2.2.2.2.1]
  have qs2 : (c.1 0 10).toInt = (m.1 4 2).toInt := by rw [h.2.2.2.2.2.2.2.2]
  refine Con_of [some (.ref 0), none, none] (by decide +kernel) (Nat.le_of_ble_eq_true rfl) (fun _ h => h) ?_
  refine J_aload_n (pc := 0) dX4_undo_0 rfl ?_
  refine J_getR (pc := 1) 1 fF_X4_7 rfl rfl dX4_undo_1 ?_
  refine J_bipush (pc := 4) (v := 40) dX4_undo_4 (by decide) ?_
  refine J_ialdW (pc := 6) 40 (rfl) rfl (by decide) dX4_undo_6 ?_
  refine J_if_neW (pc := 7) ((m.1 1 40).toInt) rfl 17 dX4_undo_7 (by decide) (fun h7 => ?_) (fun h7 => ?_)
  · exfalso; omega
  · refine J_aload_n (pc := 10) dX4_undo_10 rfl ?_
    refine J_bipush (pc := 11) (v := (-3)) dX4_undo_11 (by decide) ?_
    refine J_callVim (pc := 13) fC_X4_91 rfl dX4_undo_13 (c_X4_no3) rfl ⟨Nat.le_of_ble_eq_true rfl, Nat.le_of_ble_eq_true rfl⟩ rfl (Nat.le_of_ble_eq_true rfl) (fun z13 μ13 d13 m13 => ?_)
    refine J_iret (pc := 16) dX4_undo_16 rfl ?_
    subst_vars
    first
      | exact ⟨trivial, ⟨_, rfl, by first | rfl | omega⟩, by first | rfl | omega⟩
set_option maxRecDepth 100000 in
set_option maxHeartbeats 4000000 in
theorem k_undo1 {N : Int} {c m : JM} (h : Inv N c m) (hN : 150 ≤ N ∧ N < 100000) (n : Nat) (hn : (m.1 1 40).toInt = (n : Int) + 1) (hn8 : n < 8)  : Con G shC mX3_undo [.ref 0] c (fun v μ' => ((True) ∧ IsZ v ((m.1 1 (41 + 4 * n + 2)).toInt) ∧ μ' = backM c 1 n)) := by
  obtain ⟨q0, q1, q2, q3, q4, q5, q6⟩ := Inv_q h
  obtain ⟨r0, r1, r2, r3, r4, r5, r6, r15, r40, r9⟩ := Inv_r h
  have hc := h.1
  have qt : (c.1 21 1).toInt = (m.1 0 9).toInt := by rw [h.2.2.2.2.1.1]
  have qs0 : (c.1 0 8).toInt = (m.1 4 0).toInt := by rw [h.2.2.2.2.2.2.1]
  have qs1 : (c.1 0 9).toInt = (m.1 4 1).toInt := by rw [h.2.2.2.2.2.2.2.1]
  have qs2 : (c.1 0 10).toInt = (m.1 4 2).toInt := by rw [h.2.2.2.2.2.2.2.2]
  refine Con_of [some (.ref 0)] (by decide +kernel) (Nat.le_of_ble_eq_true rfl) (fun _ h => h) ?_
  refine J_aload_n (pc := 0) dX3_undo_0 rfl ?_
  refine J_getR (pc := 1) 1 fF_X3_12 rfl rfl dX3_undo_1 ?_
  refine J_getI (pc := 4) fF_X3_135 rfl rfl dX3_undo_4 ?_
  refine J_iconst (pc := 7) (v := 1) dX3_undo_7 (by decide) ?_
  refine J_icmp_geW (pc := 8) ((m.1 1 40).toInt) 1 q6 rfl 18 dX3_undo_8 (by decide) (fun h8 => ?_) (fun h8 => ?_)
  · refine J_aload_n (pc := 18) dX3_undo_18 rfl ?_
    refine J_getR (pc := 19) 1 fF_X3_12 rfl rfl dX3_undo_19 ?_
    refine J_callVv (pc := 22) fC_X3_138 rfl dX3_undo_22 (c_X0_goBack jarAt_1 n (by omega) hn8) rfl ⟨Nat.le_of_ble_eq_true rfl, Nat.le_of_ble_eq_true rfl⟩ rfl (Nat.le_of_ble_eq_true rfl) (fun μ22 m22 => ?_)
    refine J_aload_n (pc := 25) dX3_undo_25 rfl ?_
    refine J_getR (pc := 26) 1 fF_X3_12 rfl rfl dX3_undo_26 ?_
    refine J_getI (pc := 29) fF_X3_68 rfl rfl dX3_undo_29 ?_
    refine J_iret (pc := 32) dX3_undo_32 rfl ?_
    refine ⟨trivial, ⟨_, rfl, ?_⟩, m22⟩
    have e := (h.2.2.1.2.2.2.2.2.2.2.2.2 n (by omega)).2
    rw [m22, ← e]
    rfl
  · exfalso; omega
set_option maxRecDepth 100000 in
set_option maxHeartbeats 4000000 in
theorem l_undo {ν0 : JM} {n : Nat} (hn8 : n < 8) {tv : Int32} (ht : tv.toInt = 41 + 4 * (n : Int)) {Q : Option Value → JM → Prop} (hk : J G shM mX4_undo 118 [some (.ref 0), some (.int tv), none] [] (jC ν0 1 (fun j => if 41 + 4 * n ≤ j ∧ j < 41 + 4 * n + 4 then 0 else ν0.1 1 j)) Q) : ∀ i : Nat, i ≤ 4 → ∀ iv : Int32, iv.toInt = (i : Int) → ∀ ν : JM, ν = (jC ν0 1 (fun j => if 41 + 4 * n ≤ j ∧ j < 41 + 4 * n + i then 0 else ν0.1 1 j)) → J G shM mX4_undo 98 [some (.ref 0), some (.int tv), some (.int iv)] [] ν Q := by
  refine loop_up 4 (fun i hN ih iv hi ν hν => ?_)
  refine J_iload_n (pc := 98) dX4_undo_98 rfl ?_
  refine J_iconst (pc := 99) (v := 4) dX4_undo_99 (by decide) ?_
  refine J_icmp_geW (pc := 100) (i : Int) 4 hi rfl 118 dX4_undo_100 (by decide) (fun h100 => ?_) (fun h100 => ?_)
  · obtain rfl : i = 4 := by omega
    exact J_lv' (lv' := [some (.ref 0), some (.int tv), none]) (by repeat' constructor) (by rw [hν]; exact hk)
  · refine J_aload_n (pc := 103) dX4_undo_103 rfl ?_
    refine J_getR (pc := 104) 1 fF_X4_7 rfl rfl dX4_undo_104 ?_
    refine J_iload_n (pc := 107) dX4_undo_107 rfl ?_
    refine J_iload_n (pc := 108) dX4_undo_108 rfl ?_
    refine J_iaddW (pc := 109) (41 + 4 * (n : Int)) (i : Int) ht hi dX4_undo_109 (by omega) (fun z109 e109 => ?_)
    refine J_iconst (pc := 110) (v := 0) dX4_undo_110 (by decide) ?_
    refine J_iastW (pc := 111) (41 + 4 * n + i) (by omega) rfl (by omega) dX4_undo_111 (fun μ111 m111 => ?_)
    refine J_iincW' (pc := 112) (i : Int) hi (lv' := fun v => [some (.ref 0), some (.int tv), some (.int v)]) dX4_undo_112 rfl (by omega) (by decide) (Nat.le_of_ble_eq_true rfl) rfl (fun _ => rfl) (fun z112 e112 => ?_)
    refine J_goto (pc := 115) 98 dX4_undo_115 (by decide) ?_
    exact ih (i + 1) (by omega) (by omega) z112 (by omega) _ (by rw [m111]; exact row_l hν rfl)
set_option maxRecDepth 100000 in
set_option maxHeartbeats 4000000 in
theorem n_undo1 {N : Int} {c m : JM} (h : Inv N c m) (hN : 150 ≤ N ∧ N < 100000) (n : Nat) (hn : (m.1 1 40).toInt = (n : Int) + 1) (hn8 : n < 8)  : Con G shM mX4_undo [.ref 0] m (fun v μ' => ((True) ∧ IsZ v ((m.1 1 (41 + 4 * n + 2)).toInt) ∧ μ' = jC m 1 (undoF (m.1 1) n))) := by
  obtain ⟨q0, q1, q2, q3, q4, q5, q6⟩ := Inv_q h
  obtain ⟨r0, r1, r2, r3, r4, r5, r6, r15, r40, r9⟩ := Inv_r h
  have hc := h.1
  have qt : (c.1 21 1).toInt = (m.1 0 9).toInt := by rw [h.2.2.2.2.1.1]
  have qs0 : (c.1 0 8).toInt = (m.1 4 0).toInt := by rw [h.2.2.2.2.2.2.1]
  have qs1 : (c.1 0 9).toInt = (m.1 4 1).toInt := by rw [h.2.2.2.2.2.2.2.1]
  have qs2 : (c.1 0 10).toInt = (m.1 4 2).toInt := by rw [h.2.2.2.2.2.2.2.2]
  refine Con_of [some (.ref 0), none, none] (by decide +kernel) (Nat.le_of_ble_eq_true rfl) (fun _ h => h) ?_
  refine J_aload_n (pc := 0) dX4_undo_0 rfl ?_
  refine J_getR (pc := 1) 1 fF_X4_7 rfl rfl dX4_undo_1 ?_
  refine J_bipush (pc := 4) (v := 40) dX4_undo_4 (by decide) ?_
  refine J_ialdW (pc := 6) 40 (rfl) rfl (by decide) dX4_undo_6 ?_
  refine J_if_neW (pc := 7) ((n : Int) + 1) hn 17 dX4_undo_7 (by decide) (fun h7 => ?_) (fun h7 => ?_)
  · refine J_aload_n (pc := 17) dX4_undo_17 rfl ?_
    refine J_getR (pc := 18) 1 fF_X4_7 rfl rfl dX4_undo_18 ?_
    refine J_bipush (pc := 21) (v := 40) dX4_undo_21 (by decide) ?_
    refine J_dup2 (pc := 23) dX4_undo_23 rfl rfl ?_
    refine J_ialdW (pc := 24) 40 (rfl) rfl (by decide) dX4_undo_24 ?_
    refine J_iconst (pc := 25) (v := 1) dX4_undo_25 (by decide) ?_
    refine J_isubW (pc := 26) ((n : Int) + 1) 1 hn rfl dX4_undo_26 (by omega) (fun z26 e26 => ?_)
    have q26 : z26.toInt = (n : Int) := by omega
    refine J_iastW (pc := 27) 40 (rfl) rfl (by decide) dX4_undo_27 (fun μ27 m27 => ?_)
    refine J_bipush (pc := 28) (v := 41) dX4_undo_28 (by decide) ?_
    refine J_iconst (pc := 30) (v := 4) dX4_undo_30 (by decide) ?_
    refine J_aload_n (pc := 31) dX4_undo_31 rfl ?_
    refine J_getR (pc := 32) 1 fF_X4_7 rfl rfl dX4_undo_32 ?_
    refine J_bipush (pc := 35) (v := 40) dX4_undo_35 (by decide) ?_
    refine J_ialdW (pc := 37) 40 (rfl) rfl (by decide) dX4_undo_37 ?_
    refine J_imulW (pc := 38) 4 (n : Int) rfl (show (μ27.1 1 40).toInt = (n : Int) by simp [m27, jI_i]; exact q26) dX4_undo_38 (by omega) (fun z38 e38 => ?_)
    refine J_iaddW (pc := 39) 41 (4 * (n : Int)) rfl e38 dX4_undo_39 (by omega) (fun z39 e39 => ?_)
    have q39 : z39.toInt = (41 + 4 * (n : Int)) := by omega
    refine J_istore_n (pc := 40) (lv' := [some (.ref 0), some (.int z39), none]) dX4_undo_40 (Nat.le_of_ble_eq_true rfl) rfl rfl ?_
    refine J_aload_n (pc := 41) dX4_undo_41 rfl ?_
    refine J_getR (pc := 42) 1 fF_X4_7 rfl rfl dX4_undo_42 ?_
    refine J_iconst (pc := 45) (v := 1) dX4_undo_45 (by decide) ?_
    refine J_aload_n (pc := 46) dX4_undo_46 rfl ?_
    refine J_getR (pc := 47) 1 fF_X4_7 rfl rfl dX4_undo_47 ?_
    refine J_iload_n (pc := 50) dX4_undo_50 rfl ?_
    refine J_ialdW (pc := 51) (41 + 4 * n) (by omega) rfl (by omega) dX4_undo_51 ?_
    refine J_iastW (pc := 52) 1 (rfl) rfl (by decide) dX4_undo_52 (fun μ52 m52 => ?_)
    refine J_aload_n (pc := 53) dX4_undo_53 rfl ?_
    refine J_getR (pc := 54) 1 fF_X4_7 rfl rfl dX4_undo_54 ?_
    refine J_iconst (pc := 57) (v := 2) dX4_undo_57 (by decide) ?_
    refine J_aload_n (pc := 58) dX4_undo_58 rfl ?_
    refine J_getR (pc := 59) 1 fF_X4_7 rfl rfl dX4_undo_59 ?_
    refine J_iload_n (pc := 62) dX4_undo_62 rfl ?_
    refine J_iconst (pc := 63) (v := 1) dX4_undo_63 (by decide) ?_
    refine J_iaddW (pc := 64) (41 + 4 * (n : Int)) 1 q39 rfl dX4_undo_64 (by omega) (fun z64 e64 => ?_)
    refine J_ialdW (pc := 65) (41 + 4 * n + 1) (by omega) rfl (by omega) dX4_undo_65 ?_
    refine J_iastW (pc := 66) 2 (rfl) rfl (by decide) dX4_undo_66 (fun μ66 m66 => ?_)
    refine J_aload_n (pc := 67) dX4_undo_67 rfl ?_
    refine J_getR (pc := 68) 1 fF_X4_7 rfl rfl dX4_undo_68 ?_
    refine J_iconst (pc := 71) (v := 5) dX4_undo_71 (by decide) ?_
    refine J_aload_n (pc := 72) dX4_undo_72 rfl ?_
    refine J_getR (pc := 73) 1 fF_X4_7 rfl rfl dX4_undo_73 ?_
    refine J_iload_n (pc := 76) dX4_undo_76 rfl ?_
    refine J_iconst (pc := 77) (v := 2) dX4_undo_77 (by decide) ?_
    refine J_iaddW (pc := 78) (41 + 4 * (n : Int)) 2 q39 rfl dX4_undo_78 (by omega) (fun z78 e78 => ?_)
    refine J_ialdW (pc := 79) (41 + 4 * n + 2) (by omega) rfl (by omega) dX4_undo_79 ?_
    refine J_iastW (pc := 80) 5 (rfl) rfl (by decide) dX4_undo_80 (fun μ80 m80 => ?_)
    refine J_aload_n (pc := 81) dX4_undo_81 rfl ?_
    refine J_getR (pc := 82) 1 fF_X4_7 rfl rfl dX4_undo_82 ?_
    refine J_bipush (pc := 85) (v := 6) dX4_undo_85 (by decide) ?_
    refine J_aload_n (pc := 87) dX4_undo_87 rfl ?_
    refine J_getR (pc := 88) 1 fF_X4_7 rfl rfl dX4_undo_88 ?_
    refine J_iload_n (pc := 91) dX4_undo_91 rfl ?_
    refine J_iconst (pc := 92) (v := 3) dX4_undo_92 (by decide) ?_
    refine J_iaddW (pc := 93) (41 + 4 * (n : Int)) 3 q39 rfl dX4_undo_93 (by omega) (fun z93 e93 => ?_)
    refine J_ialdW (pc := 94) (41 + 4 * n + 3) (by omega) rfl (by omega) dX4_undo_94 ?_
    refine J_iastW (pc := 95) 6 (rfl) rfl (by decide) dX4_undo_95 (fun μ95 m95 => ?_)
    refine J_iconst (pc := 96) (v := 0) dX4_undo_96 (by decide) ?_
    refine J_istore_n (pc := 97) (lv' := [some (.ref 0), some (.int z39), some (.int 0)]) dX4_undo_97 (Nat.le_of_ble_eq_true rfl) rfl rfl ?_
    rw [iZ_of q26] at m27
    have e95 : μ95 = jC m 1 (backF (m.1 1) n) := by
      have s1 : μ27.1 1 (41 + 4 * n) = m.1 1 (41 + 4 * n) := by rw [m27, jI_i, if_neg (by omega)]
      have s2 : μ52.1 1 (41 + 4 * n + 1) = m.1 1 (41 + 4 * n + 1) := by rw [m52, jI_i, if_neg (by omega), m27, jI_i, if_neg (by omega)]
      have s3 : μ66.1 1 (41 + 4 * n + 2) = m.1 1 (41 + 4 * n + 2) := by rw [m66, jI_i, if_neg (by omega), m52, jI_i, if_neg (by omega), m27, jI_i, if_neg (by omega)]
      have s4 : μ80.1 1 (41 + 4 * n + 3) = m.1 1 (41 + 4 * n + 3) := by rw [m80, jI_i, if_neg (by omega), m66, jI_i, if_neg (by omega), m52, jI_i, if_neg (by omega), m27, jI_i, if_neg (by omega)]
      rw [m95, s4, m80, s3, m66, s2, m52, s1, m27]
      simp only [jI_row, jC_jC, jC_at]
      rfl
    refine l_undo hn8 q39 ?_ 0 (by decide) 0 rfl _ (row_l0 μ95 1 (41 + 4 * n) (fun _ => 0)).symm
    obtain ⟨μf, mf⟩ : ∃ x : JM, x = (jC μ95 1 (fun j => if 41 + 4 * n ≤ j ∧ j < 41 + 4 * n + 4 then 0 else μ95.1 1 j)) := ⟨_, rfl⟩
    rw [← mf]
    have ef : μf = jC m 1 (undoF (m.1 1) n) := by rw [mf, e95, jC_jC, jC_at]; rfl
    refine J_aload_n (pc := 118) dX4_undo_118 rfl ?_
    refine J_getR (pc := 119) 1 fF_X4_7 rfl rfl dX4_undo_119 ?_
    refine J_iconst (pc := 122) (v := 5) dX4_undo_122 (by decide) ?_
    refine J_ialdW (pc := 123) 5 (rfl) rfl (by decide) dX4_undo_123 ?_
    refine J_iret (pc := 124) dX4_undo_124 rfl ?_
    refine ⟨trivial, ⟨_, rfl, ?_⟩, ef⟩
    rw [ef, jC_at, undoF_lo (by omega)]
    rfl
  · exfalso; omega
theorem pr_undo {G : JG × JG} {N : Int} {c m : JM} (h : Inv N c m) (hN : 150 ≤ N ∧ N < 100000) : Pair G N c m mX3_undo mX4_undo [] := by
  obtain ⟨r0, r1, r2, r3, r4, r5, r6, r15, r40, r9⟩ := Inv_r h
  by_cases h0 : (m.1 1 40).toInt = 0
  · refine ⟨_, _, k_undo0 h hN h0, n_undo0 h hN h0, fun v c' w m' hC hM => ?_⟩
    exact ⟨IsZ_eq hC.2.1 hM.2.1, by rw [hC.2.2, hM.2.2]; exact Inv_no (by omega) h 1 (by decide)⟩
  · obtain ⟨n, hn⟩ : ∃ n : Nat, (m.1 1 40).toInt = (n : Int) + 1 := ⟨(m.1 1 40).toInt.toNat - 1, by omega⟩
    have hn8 : n < 8 := by omega
    refine ⟨_, _, k_undo1 h hN n hn hn8, n_undo1 h hN n hn hn8, fun v c' w m' hC hM => ?_⟩
    refine ⟨IsZ_eq hC.2.1 hM.2.1, ?_⟩
    rw [hC.2.2, hM.2.2]
    obtain ⟨b40, b1, b2, b5, b6, bo⟩ := backF_v (f := m.1 1) (n := n)
    have lo : ∀ j, j < 41 + 4 * n → undoF (m.1 1) n j = backF (m.1 1) n j := fun j hj => undoF_lo hj
    have co : ∀ o, o ≠ 1 → (backM c 1 n).1 o = c.1 o := fun o ho => by unfold backM; simp only []; rw [jI_ne ho, jI_ne ho, jI_ne ho]
    have c0 : ∀ k, k ≠ 3 → k ≠ 4 → k ≠ 6 → (backM c 1 n).1 1 k = c.1 1 k := fun k h3 h4 h6 => by simp [backM, jI_i, h3, h4, h6]
    have c3 : (backM c 1 n).1 1 3 = c.1 (1 + 3) n := by simp [backM, jI_i]
    have c4 : (backM c 1 n).1 1 4 = c.1 (1 + 4) n := by simp [backM, jI_i]
    have c6 : (backM c 1 n).1 1 6 = iZ (n : Int) := by simp [backM, jI_i]
    refine Inv_row (f := undoF (m.1 1) n) (by omega) h (fun o ho => co o (by omega)) (by rw [co _ (by omega)]) rfl (eqM_rf _) ?_ ?_
    · obtain ⟨j0, j1, j2, j3, j4, j5, j6, j7, j8, j9⟩ := h.2.2.1
      unfold jrep
      rw [lo 0 (by omega), lo 1 (by omega), lo 2 (by omega), lo 3 (by omega), lo 4 (by omega), lo 5 (by omega), lo 6 (by omega), lo 15 (by omega), lo 40 (by omega), b40, b1, b2, b5, b6, bo 0 (by omega) (by omega) (by omega) (by omega) (by omega), bo 3 (by omega) (by omega) (by omega) (by omega) (by omega), bo 4 (by omega) (by omega) (by omega) (by omega) (by omega), bo 15 (by omega) (by omega) (by omega) (by omega) (by omega), c0 0 (by omega) (by omega) (by omega), c0 1 (by omega) (by omega) (by omega), c0 2 (by omega) (by omega) (by omega), c0 5 (by omega) (by omega) (by omega), c3, c4, c6, iZ_i (by omega)]
      obtain ⟨k1, k2⟩ := j9 n (by omega)
      refine ⟨j0, j1, j2, k1, k2, j5, rfl, fun j hj => ?_, fun j hj => ?_, fun j hj => ?_⟩
      · rw [co _ (by omega), lo _ (by omega), bo _ (by omega) (by omega) (by omega) (by omega) (by omega)]; exact j7 j hj
      · rw [co _ (by omega), lo _ (by omega), bo _ (by omega) (by omega) (by omega) (by omega) (by omega)]; exact j8 j hj
      · rw [co _ (by omega), co _ (by omega), lo _ (by omega), lo _ (by omega), lo _ (by omega), lo _ (by omega), bo _ (by omega) (by omega) (by omega) (by omega) (by omega), bo _ (by omega) (by omega) (by omega) (by omega) (by omega), bo _ (by omega) (by omega) (by omega) (by omega) (by omega), bo _ (by omega) (by omega) (by omega) (by omega) (by omega)]; exact j9 j (by omega)
    · obtain ⟨h0, h1, h2, h3, h4, h5, h6, h7, h8, h9, ha, hb⟩ := wfF_mono (M := N + 1) (by omega) h.2.1
      unfold wfF
      rw [lo 0 (by omega), lo 1 (by omega), lo 2 (by omega), lo 3 (by omega), lo 4 (by omega), lo 5 (by omega), lo 6 (by omega), lo 15 (by omega), lo 40 (by omega), b40, b1, b2, b5, b6, bo 0 (by omega) (by omega) (by omega) (by omega) (by omega), bo 3 (by omega) (by omega) (by omega) (by omega) (by omega), bo 4 (by omega) (by omega) (by omega) (by omega) (by omega), bo 15 (by omega) (by omega) (by omega) (by omega) (by omega), iZ_i (by omega)]
      obtain ⟨e1, e2, e3, e4⟩ := hb n (by omega)
      refine ⟨h0, e1, e2, h3, h4, e3, e4, fun j hj => ?_, h8, by omega, fun j hj => ?_, fun j hj => ?_⟩
      · rw [lo _ (by omega), bo _ (by omega) (by omega) (by omega) (by omega) (by omega)]; exact h7 j hj
      · rw [lo _ (by omega), lo _ (by omega), bo _ (by omega) (by omega) (by omega) (by omega) (by omega), bo _ (by omega) (by omega) (by omega) (by omega) (by omega)]; exact ha j hj
      · rw [lo _ (by omega), lo _ (by omega), lo _ (by omega), lo _ (by omega), bo _ (by omega) (by omega) (by omega) (by omega) (by omega), bo _ (by omega) (by omega) (by omega) (by omega) (by omega), bo _ (by omega) (by omega) (by omega) (by omega) (by omega), bo _ (by omega) (by omega) (by omega) (by omega) (by omega)]; exact hb j (by omega)

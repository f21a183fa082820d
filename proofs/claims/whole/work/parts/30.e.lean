/-! ===== public methods: image, from ===== -/
theorem takeM_o {c : JM} {b a o : Nat} (h0 : o ≠ b) (h1 : o ≠ b + 1) (h2 : o ≠ b + 2) (h3 : o ≠ b + 3) (h4 : o ≠ b + 4) : (takeM c b a).1 o = c.1 o := by
  unfold takeM
  simp only []
  rw [jC_ne h4, jC_ne h3, jC_ne h2, jC_ne h1, jI_ne h0, jI_ne h0, jI_ne h0, jI_ne h0, jI_ne h0, jI_ne h0, jI_ne h0]
theorem takeM_l {c : JM} {b a : Nat} : (takeM c b a).2 = c.2 := rfl
theorem takeM_7 {c : JM} {b a : Nat} : (takeM c b a).1 b 7 = c.1 b 7 := by simp [takeM, jC, jI_i]
theorem jrep_take {c : JM} {a b : Nat} {f : Nat → Int32} {N : Int} (hw : wfF N f) (hab : a + 4 < b ∨ b + 4 < a) (hj : jrep c a f) : jrep (takeM c b a) b f := by
  obtain ⟨j0, j1, j2, j3, j4, j5, j6, j7, j8, j9⟩ := hj
  obtain ⟨-, -, -, -, -, -, -, -, w8, w9, -, -⟩ := hw
  have n0 : a ≠ b := by omega
  have fr : ∀ (k : Nat), ¬ (a = b ∧ True ∧ k = k) := fun k z => n0 z.1
  have e0 : (takeM c b a).1 b 0 = c.1 a 0 := by simp [takeM, jC, jI_i, n0]
  have e1 : (takeM c b a).1 b 1 = c.1 a 1 := by simp [takeM, jC, jI_i, n0]
  have e2 : (takeM c b a).1 b 2 = c.1 a 2 := by simp [takeM, jC, jI_i, n0]
  have e3 : (takeM c b a).1 b 3 = c.1 a 3 := by simp [takeM, jC, jI_i, n0]
  have e4 : (takeM c b a).1 b 4 = c.1 a 4 := by simp [takeM, jC, jI_i, n0]
  have e5 : (takeM c b a).1 b 5 = c.1 a 5 := by simp [takeM, jC, jI_i, n0]
  have e6 : (takeM c b a).1 b 6 = c.1 a 6 := by simp [takeM, jC, jI_i, n0]
  have a1b : a + 1 ≠ b := by omega
  have a2b : a + 2 ≠ b := by omega
  have a3b : a + 3 ≠ b := by omega
  have a4b : a + 4 ≠ b := by omega
  have x21 : a + 2 ≠ b + 1 := by omega
  have x31 : a + 3 ≠ b + 1 := by omega
  have x32 : a + 3 ≠ b + 2 := by omega
  have x41 : a + 4 ≠ b + 1 := by omega
  have x42 : a + 4 ≠ b + 2 := by omega
  have x43 : a + 4 ≠ b + 3 := by omega
  have v1 : ∀ j, j < 8 → (takeM c b a).1 (b + 1) j = c.1 (a + 1) j := fun j hj => by
    unfold takeM
    simp only []
    rw [jC_ne (by omega), jC_ne (by omega), jC_ne (by omega), jC_at, pk_cpy_in (by omega) (by omega), jI_ne a1b, jI_ne a1b, jI_ne a1b, jI_ne a1b, jI_ne a1b, jI_ne a1b, jI_ne a1b, Nat.zero_add, Nat.sub_zero]
  have v2 : ∀ j, j < 24 → (takeM c b a).1 (b + 2) j = c.1 (a + 2) j := fun j hj => by
    unfold takeM
    simp only []
    rw [jC_ne (by omega), jC_ne (by omega), jC_at, pk_cpy_in (by omega) (by omega), jC_ne x21, jI_ne a2b, jI_ne a2b, jI_ne a2b, jI_ne a2b, jI_ne a2b, jI_ne a2b, jI_ne a2b, Nat.zero_add, Nat.sub_zero]
  have v3 : ∀ j, j < 8 → (takeM c b a).1 (b + 3) j = c.1 (a + 3) j := fun j hj => by
    unfold takeM
    simp only []
    rw [jC_ne (by omega), jC_at, pk_cpy_in (by omega) (by omega), jC_ne x32, jC_ne x31, jI_ne a3b, jI_ne a3b, jI_ne a3b, jI_ne a3b, jI_ne a3b, jI_ne a3b, jI_ne a3b, Nat.zero_add, Nat.sub_zero]
  have v4 : ∀ j, j < 8 → (takeM c b a).1 (b + 4) j = c.1 (a + 4) j := fun j hj => by
    unfold takeM
    simp only []
    rw [jC_at, pk_cpy_in (by omega) (by omega), jC_ne x43, jC_ne x42, jC_ne x41, jI_ne a4b, jI_ne a4b, jI_ne a4b, jI_ne a4b, jI_ne a4b, jI_ne a4b, jI_ne a4b, Nat.zero_add, Nat.sub_zero]
  unfold jrep
  rw [e0, e1, e2, e3, e4, e5, e6]
  refine ⟨j0, j1, j2, j3, j4, j5, j6, fun j hj => by rw [v1 j hj]; exact j7 j hj, fun j hj => by rw [v2 j (by omega)]; exact j8 j hj, fun j hj => ?_⟩
  rw [v3 j (by omega), v4 j (by omega)]
  exact j9 j hj
variable {G : JG}
set_option maxRecDepth 100000 in
set_option maxHeartbeats 4000000 in
theorem c_X3_imageAt0 {μ : JM} {a : Int32} (ha : a.toInt = 0) : Con G shC mX3_imageAt [.ref 0, .int a] μ (j_is (some (.ref 11)) μ) := by
  refine Con_of [some (.ref 0), some (.int a)] (by decide +kernel) (Nat.le_of_ble_eq_true rfl) (fun _ h => h) ?_
  refine J_iload_n (pc := 0) dX3_imageAt_0 rfl ?_
  refine J_if_neW (pc := 1) 0 ha 11 dX3_imageAt_1 (by decide) (fun h1 => ?_) (fun h1 => ?_)
  · exfalso; omega
  · refine J_aload_n (pc := 4) dX3_imageAt_4 rfl ?_
    refine J_getR (pc := 5) 11 fF_X3_19 rfl rfl dX3_imageAt_5 ?_
    refine J_goto (pc := 8) 15 dX3_imageAt_8 (by decide) ?_
    refine J_aret (pc := 15) dX3_imageAt_15 rfl ?_
    exact ⟨rfl, rfl⟩
set_option maxRecDepth 100000 in
set_option maxHeartbeats 4000000 in
theorem c_X3_imageAt1 {μ : JM} {a : Int32} (ha : a.toInt = 1) : Con G shC mX3_imageAt [.ref 0, .int a] μ (j_is (some (.ref 16)) μ) := by
  refine Con_of [some (.ref 0), some (.int a)] (by decide +kernel) (Nat.le_of_ble_eq_true rfl) (fun _ h => h) ?_
  refine J_iload_n (pc := 0) dX3_imageAt_0 rfl ?_
  refine J_if_neW (pc := 1) 1 ha 11 dX3_imageAt_1 (by decide) (fun h1 => ?_) (fun h1 => ?_)
  · refine J_aload_n (pc := 11) dX3_imageAt_11 rfl ?_
    refine J_getR (pc := 12) 16 fF_X3_22 rfl rfl dX3_imageAt_12 ?_
    refine J_aret (pc := 15) dX3_imageAt_15 rfl ?_
    exact ⟨rfl, rfl⟩
  · exfalso; omega
set_option maxRecDepth 100000 in
set_option maxHeartbeats 4000000 in
theorem k_imageB {N : Int} {c m : JM} (h : Inv N c m) (hN : 150 ≤ N ∧ N < 100000) {a : Int32} (ha : ¬ (0 ≤ a.toInt ∧ a.toInt ≤ 1))  : Con G shC mX3_image [.ref 0, .int a] c (fun v μ' => ((True) ∧ IsZ v (-2) ∧ μ' = (jI c 0 8 (c.1 0 8 + 1)))) := by
  refine Con_of [some (.ref 0), some (.int a), none] (by decide +kernel) (Nat.le_of_ble_eq_true rfl) (fun _ h => h) ?_
  refine J_iload_n (pc := 0) dX3_image_0 rfl ?_
  refine J_iconst (pc := 1) (v := 0) dX3_image_1 (by decide) ?_
  refine J_iconst (pc := 2) (v := 1) dX3_image_2 (by decide) ?_
  refine J_callSc (pc := 3) fC_X3_60 dX3_image_3 (c_X3_within a.toInt 0 1 rfl rfl rfl) rfl ⟨Nat.le_of_ble_eq_true rfl, Nat.le_of_ble_eq_true rfl⟩ rfl (Nat.le_of_ble_eq_true rfl) (fun h3 => ?_) (fun h3 => ?_)
  · exact absurd h3 ha
  · refine J_if_ne_F (pc := 6) 16 dX3_image_6 (by decide) (by decide) ?_
    refine J_aload_n (pc := 9) dX3_image_9 rfl ?_
    refine J_bipush (pc := 10) (v := (-2)) dX3_image_10 (by decide) ?_
    refine J_callVim (pc := 12) fC_X3_64 rfl dX3_image_12 (c_X3_refuse2) rfl ⟨Nat.le_of_ble_eq_true rfl, Nat.le_of_ble_eq_true rfl⟩ rfl (Nat.le_of_ble_eq_true rfl) (fun z12 μ12 d12 m12 => ?_)
    refine J_iret (pc := 15) dX3_image_15 rfl ?_
    subst_vars
    first
      | exact ⟨trivial, ⟨_, rfl, by first | rfl | omega⟩, by first | rfl | omega⟩
set_option maxRecDepth 100000 in
set_option maxHeartbeats 4000000 in
theorem n_imageB {N : Int} {c m : JM} (h : Inv N c m) (hN : 150 ≤ N ∧ N < 100000) {a : Int32} (ha : ¬ (0 ≤ a.toInt ∧ a.toInt ≤ 1))  : Con G shM mX4_image [.ref 0, .int a] m (fun v μ' => ((True) ∧ IsZ v (-2) ∧ μ' = (jI m 4 0 (m.1 4 0 + 1)))) := by
  refine Con_of [some (.ref 0), some (.int a), none] (by decide +kernel) (Nat.le_of_ble_eq_true rfl) (fun _ h => h) ?_
  refine J_iload_n (pc := 0) dX4_image_0 rfl ?_
  refine J_i2l (pc := 1) dX4_image_1 rfl ?_
  refine J_lconst (pc := 2) (v := 0) dX4_image_2 (by decide) ?_
  refine J_lconst (pc := 3) (v := 1) dX4_image_3 (by decide) ?_
  refine J_callSc (pc := 4) fC_X4_58 dX4_image_4 (c_X4_in a.toInt 0 1 (i2l_z rfl) rfl rfl) rfl ⟨Nat.le_of_ble_eq_true rfl, Nat.le_of_ble_eq_true rfl⟩ rfl (Nat.le_of_ble_eq_true rfl) (fun h4 => ?_) (fun h4 => ?_)
  · exact absurd h4 ha
  · refine J_if_ne_F (pc := 7) 17 dX4_image_7 (by decide) (by decide) ?_
    refine J_aload_n (pc := 10) dX4_image_10 rfl ?_
    refine J_bipush (pc := 11) (v := (-2)) dX4_image_11 (by decide) ?_
    refine J_callVim (pc := 13) fC_X4_91 rfl dX4_image_13 (c_X4_no2) rfl ⟨Nat.le_of_ble_eq_true rfl, Nat.le_of_ble_eq_true rfl⟩ rfl (Nat.le_of_ble_eq_true rfl) (fun z13 μ13 d13 m13 => ?_)
    refine J_iret (pc := 16) dX4_image_16 rfl ?_
    subst_vars
    first
      | exact ⟨trivial, ⟨_, rfl, by first | rfl | omega⟩, by first | rfl | omega⟩
set_option maxRecDepth 100000 in
set_option maxHeartbeats 4000000 in
theorem k_fromB {N : Int} {c m : JM} (h : Inv N c m) (hN : 150 ≤ N ∧ N < 100000) {a : Int32} (ha : ¬ (0 ≤ a.toInt ∧ a.toInt ≤ 1))  : Con G shC mX3_from [.ref 0, .int a] c (fun v μ' => ((True) ∧ IsZ v (-2) ∧ μ' = (jI c 0 8 (c.1 0 8 + 1)))) := by
  refine Con_of [some (.ref 0), some (.int a), none] (by decide +kernel) (Nat.le_of_ble_eq_true rfl) (fun _ h => h) ?_
  refine J_iload_n (pc := 0) dX3_from_0 rfl ?_
  refine J_iconst (pc := 1) (v := 0) dX3_from_1 (by decide) ?_
  refine J_iconst (pc := 2) (v := 1) dX3_from_2 (by decide) ?_
  refine J_callSc (pc := 3) fC_X3_60 dX3_from_3 (c_X3_within a.toInt 0 1 rfl rfl rfl) rfl ⟨Nat.le_of_ble_eq_true rfl, Nat.le_of_ble_eq_true rfl⟩ rfl (Nat.le_of_ble_eq_true rfl) (fun h3 => ?_) (fun h3 => ?_)
  · exact absurd h3 ha
  · refine J_if_ne_F (pc := 6) 16 dX3_from_6 (by decide) (by decide) ?_
    refine J_aload_n (pc := 9) dX3_from_9 rfl ?_
    refine J_bipush (pc := 10) (v := (-2)) dX3_from_10 (by decide) ?_
    refine J_callVim (pc := 12) fC_X3_64 rfl dX3_from_12 (c_X3_refuse2) rfl ⟨Nat.le_of_ble_eq_true rfl, Nat.le_of_ble_eq_true rfl⟩ rfl (Nat.le_of_ble_eq_true rfl) (fun z12 μ12 d12 m12 => ?_)
    refine J_iret (pc := 15) dX3_from_15 rfl ?_
    subst_vars
    first
      | exact ⟨trivial, ⟨_, rfl, by first | rfl | omega⟩, by first | rfl | omega⟩
set_option maxRecDepth 100000 in
set_option maxHeartbeats 4000000 in
theorem n_fromB {N : Int} {c m : JM} (h : Inv N c m) (hN : 150 ≤ N ∧ N < 100000) {a : Int32} (ha : ¬ (0 ≤ a.toInt ∧ a.toInt ≤ 1))  : Con G shM mX4_from [.ref 0, .int a] m (fun v μ' => ((True) ∧ IsZ v (-2) ∧ μ' = (jI m 4 0 (m.1 4 0 + 1)))) := by
  refine Con_of [some (.ref 0), some (.int a), none] (by decide +kernel) (Nat.le_of_ble_eq_true rfl) (fun _ h => h) ?_
  refine J_iload_n (pc := 0) dX4_from_0 rfl ?_
  refine J_i2l (pc := 1) dX4_from_1 rfl ?_
  refine J_lconst (pc := 2) (v := 0) dX4_from_2 (by decide) ?_
  refine J_lconst (pc := 3) (v := 1) dX4_from_3 (by decide) ?_
  refine J_callSc (pc := 4) fC_X4_58 dX4_from_4 (c_X4_in a.toInt 0 1 (i2l_z rfl) rfl rfl) rfl ⟨Nat.le_of_ble_eq_true rfl, Nat.le_of_ble_eq_true rfl⟩ rfl (Nat.le_of_ble_eq_true rfl) (fun h4 => ?_) (fun h4 => ?_)
  · exact absurd h4 ha
  · refine J_if_ne_F (pc := 7) 17 dX4_from_7 (by decide) (by decide) ?_
    refine J_aload_n (pc := 10) dX4_from_10 rfl ?_
    refine J_bipush (pc := 11) (v := (-2)) dX4_from_11 (by decide) ?_
    refine J_callVim (pc := 13) fC_X4_91 rfl dX4_from_13 (c_X4_no2) rfl ⟨Nat.le_of_ble_eq_true rfl, Nat.le_of_ble_eq_true rfl⟩ rfl (Nat.le_of_ble_eq_true rfl) (fun z13 μ13 d13 m13 => ?_)
    refine J_iret (pc := 16) dX4_from_16 rfl ?_
    subst_vars
    first
      | exact ⟨trivial, ⟨_, rfl, by first | rfl | omega⟩, by first | rfl | omega⟩
set_option maxRecDepth 100000 in
set_option maxHeartbeats 4000000 in
theorem k_image0 {N : Int} {c m : JM} (h : Inv N c m) (hN : 150 ≤ N ∧ N < 100000) {a : Int32} (ha : a.toInt = 0)  : Con G shC mX3_image [.ref 0, .int a] c (fun v μ' => ((True) ∧ IsZ v (1) ∧ μ' = jI (takeM c 11 1) 11 7 1)) := by
  refine Con_of [some (.ref 0), some (.int a), none] (by decide +kernel) (Nat.le_of_ble_eq_true rfl) (fun _ h => h) ?_
  refine J_iload_n (pc := 0) dX3_image_0 rfl ?_
  refine J_iconst (pc := 1) (v := 0) dX3_image_1 (by decide) ?_
  refine J_iconst (pc := 2) (v := 1) dX3_image_2 (by decide) ?_
  refine J_callSc (pc := 3) fC_X3_60 dX3_image_3 (c_X3_within 0 0 1 ha rfl rfl) rfl ⟨Nat.le_of_ble_eq_true rfl, Nat.le_of_ble_eq_true rfl⟩ rfl (Nat.le_of_ble_eq_true rfl) (fun h3 => ?_) (fun h3 => ?_)
  · refine J_if_ne_T (pc := 6) 16 dX3_image_6 (by decide) (by decide) ?_
    refine J_aload_n (pc := 16) dX3_image_16 rfl ?_
    refine J_iload_n (pc := 17) dX3_image_17 rfl ?_
    refine J_callVr (pc := 18) fC_X3_217 rfl dX3_image_18 (c_X3_imageAt0 ha) rfl ⟨Nat.le_of_ble_eq_true rfl, Nat.le_of_ble_eq_true rfl⟩ rfl (Nat.le_of_ble_eq_true rfl) ?_
    refine J_astore_n (pc := 21) (lv' := [some (.ref 0), some (.int a), some (.ref 11)]) dX3_image_21 (Nat.le_of_ble_eq_true rfl) rfl rfl ?_
    refine J_aload_n (pc := 22) dX3_image_22 rfl ?_
    refine J_aload_n (pc := 23) dX3_image_23 rfl ?_
    refine J_getR (pc := 24) 1 fF_X3_12 rfl rfl dX3_image_24 ?_
    refine J_callVv (pc := 27) fC_X3_112 rfl dX3_image_27 (c_X0_take jarAt_11 jarAt_1) rfl ⟨Nat.le_of_ble_eq_true rfl, Nat.le_of_ble_eq_true rfl⟩ rfl (Nat.le_of_ble_eq_true rfl) (fun μ27 m27 => ?_)
    refine J_aload_n (pc := 30) dX3_image_30 rfl ?_
    refine J_iconst (pc := 31) (v := 1) dX3_image_31 (by decide) ?_
    refine J_putZW (pc := 32) (by decide) fF_X3_221 rfl rfl dX3_image_32 (fun μ32 m32 => ?_)
    refine J_iconst (pc := 35) (v := 1) dX3_image_35 (by decide) ?_
    refine J_iret (pc := 36) dX3_image_36 rfl ?_
    exact ⟨trivial, ⟨_, rfl, rfl⟩, by rw [m32, m27]⟩
  · exact absurd (by omega) h3
set_option maxRecDepth 100000 in
set_option maxHeartbeats 4000000 in
theorem k_from00 {N : Int} {c m : JM} (h : Inv N c m) (hN : 150 ≤ N ∧ N < 100000) {a : Int32} (ha : a.toInt = 0) (h0 : c.1 11 7 = 0)  : Con G shC mX3_from [.ref 0, .int a] c (fun v μ' => ((True) ∧ IsZ v (-3) ∧ μ' = (jI c 0 9 (c.1 0 9 + 1)))) := by
  refine Con_of [some (.ref 0), some (.int a), none] (by decide +kernel) (Nat.le_of_ble_eq_true rfl) (fun _ h => h) ?_
  refine J_iload_n (pc := 0) dX3_from_0 rfl ?_
  refine J_iconst (pc := 1) (v := 0) dX3_from_1 (by decide) ?_
  refine J_iconst (pc := 2) (v := 1) dX3_from_2 (by decide) ?_
  refine J_callSc (pc := 3) fC_X3_60 dX3_from_3 (c_X3_within 0 0 1 ha rfl rfl) rfl ⟨Nat.le_of_ble_eq_true rfl, Nat.le_of_ble_eq_true rfl⟩ rfl (Nat.le_of_ble_eq_true rfl) (fun h3 => ?_) (fun h3 => ?_)
  · refine J_if_ne_T (pc := 6) 16 dX3_from_6 (by decide) (by decide) ?_
    refine J_aload_n (pc := 16) dX3_from_16 rfl ?_
    refine J_iload_n (pc := 17) dX3_from_17 rfl ?_
    refine J_callVr (pc := 18) fC_X3_217 rfl dX3_from_18 (c_X3_imageAt0 ha) rfl ⟨Nat.le_of_ble_eq_true rfl, Nat.le_of_ble_eq_true rfl⟩ rfl (Nat.le_of_ble_eq_true rfl) ?_
    refine J_astore_n (pc := 21) (lv' := [some (.ref 0), some (.int a), some (.ref 11)]) dX3_from_21 (Nat.le_of_ble_eq_true rfl) rfl rfl ?_
    refine J_aload_n (pc := 22) dX3_from_22 rfl ?_
    refine J_getI (pc := 23) fF_X3_221 rfl rfl dX3_from_23 ?_
    refine J_if_neW (pc := 26) 0 (by rw [h0]; rfl) 36 dX3_from_26 (by decide) (fun h26 => ?_) (fun h26 => ?_)
    · exact absurd rfl h26
    · refine J_aload_n (pc := 29) dX3_from_29 rfl ?_
      refine J_bipush (pc := 30) (v := (-3)) dX3_from_30 (by decide) ?_
      refine J_callVim (pc := 32) fC_X3_64 rfl dX3_from_32 (c_X3_refuse3) rfl ⟨Nat.le_of_ble_eq_true rfl, Nat.le_of_ble_eq_true rfl⟩ rfl (Nat.le_of_ble_eq_true rfl) (fun z32 μ32 d32 m32 => ?_)
      refine J_iret (pc := 35) dX3_from_35 rfl ?_
      subst_vars
      exact ⟨trivial, ⟨_, rfl, rfl⟩, rfl⟩
  · exact absurd (by omega) h3
set_option maxRecDepth 100000 in
set_option maxHeartbeats 4000000 in
theorem k_from01 {N : Int} {c m : JM} (h : Inv N c m) (hN : 150 ≤ N ∧ N < 100000) {a : Int32} (ha : a.toInt = 0) (h0 : c.1 11 7 = 1)  : Con G shC mX3_from [.ref 0, .int a] c (fun v μ' => ((True) ∧ IsZ v (1) ∧ μ' = takeM c 1 11)) := by
  refine Con_of [some (.ref 0), some (.int a), none] (by decide +kernel) (Nat.le_of_ble_eq_true rfl) (fun _ h => h) ?_
  refine J_iload_n (pc := 0) dX3_from_0 rfl ?_
  refine J_iconst (pc := 1) (v := 0) dX3_from_1 (by decide) ?_
  refine J_iconst (pc := 2) (v := 1) dX3_from_2 (by decide) ?_
  refine J_callSc (pc := 3) fC_X3_60 dX3_from_3 (c_X3_within 0 0 1 ha rfl rfl) rfl ⟨Nat.le_of_ble_eq_true rfl, Nat.le_of_ble_eq_true rfl⟩ rfl (Nat.le_of_ble_eq_true rfl) (fun h3 => ?_) (fun h3 => ?_)
  · refine J_if_ne_T (pc := 6) 16 dX3_from_6 (by decide) (by decide) ?_
    refine J_aload_n (pc := 16) dX3_from_16 rfl ?_
    refine J_iload_n (pc := 17) dX3_from_17 rfl ?_
    refine J_callVr (pc := 18) fC_X3_217 rfl dX3_from_18 (c_X3_imageAt0 ha) rfl ⟨Nat.le_of_ble_eq_true rfl, Nat.le_of_ble_eq_true rfl⟩ rfl (Nat.le_of_ble_eq_true rfl) ?_
    refine J_astore_n (pc := 21) (lv' := [some (.ref 0), some (.int a), some (.ref 11)]) dX3_from_21 (Nat.le_of_ble_eq_true rfl) rfl rfl ?_
    refine J_aload_n (pc := 22) dX3_from_22 rfl ?_
    refine J_getI (pc := 23) fF_X3_221 rfl rfl dX3_from_23 ?_
    refine J_if_neW (pc := 26) 1 (by rw [h0]; rfl) 36 dX3_from_26 (by decide) (fun h26 => ?_) (fun h26 => ?_)
    · refine J_aload_n (pc := 36) dX3_from_36 rfl ?_
      refine J_getR (pc := 37) 1 fF_X3_12 rfl rfl dX3_from_37 ?_
      refine J_aload_n (pc := 40) dX3_from_40 rfl ?_
      refine J_callVv (pc := 41) fC_X3_112 rfl dX3_from_41 (c_X0_take jarAt_1 jarAt_11) rfl ⟨Nat.le_of_ble_eq_true rfl, Nat.le_of_ble_eq_true rfl⟩ rfl (Nat.le_of_ble_eq_true rfl) (fun μ41 m41 => ?_)
      refine J_iconst (pc := 44) (v := 1) dX3_from_44 (by decide) ?_
      refine J_iret (pc := 45) dX3_from_45 rfl ?_
      exact ⟨trivial, ⟨_, rfl, rfl⟩, m41⟩
    · exact absurd h26 (by decide)
  · exact absurd (by omega) h3
set_option maxRecDepth 100000 in
set_option maxHeartbeats 4000000 in
theorem k_image1 {N : Int} {c m : JM} (h : Inv N c m) (hN : 150 ≤ N ∧ N < 100000) {a : Int32} (ha : a.toInt = 1)  : Con G shC mX3_image [.ref 0, .int a] c (fun v μ' => ((True) ∧ IsZ v (1) ∧ μ' = jI (takeM c 16 1) 16 7 1)) := by
  refine Con_of [some (.ref 0), some (.int a), none] (by decide +kernel) (Nat.le_of_ble_eq_true rfl) (fun _ h => h) ?_
  refine J_iload_n (pc := 0) dX3_image_0 rfl ?_
  refine J_iconst (pc := 1) (v := 0) dX3_image_1 (by decide) ?_
  refine J_iconst (pc := 2) (v := 1) dX3_image_2 (by decide) ?_
  refine J_callSc (pc := 3) fC_X3_60 dX3_image_3 (c_X3_within 1 0 1 ha rfl rfl) rfl ⟨Nat.le_of_ble_eq_true rfl, Nat.le_of_ble_eq_true rfl⟩ rfl (Nat.le_of_ble_eq_true rfl) (fun h3 => ?_) (fun h3 => ?_)
  · refine J_if_ne_T (pc := 6) 16 dX3_image_6 (by decide) (by decide) ?_
    refine J_aload_n (pc := 16) dX3_image_16 rfl ?_
    refine J_iload_n (pc := 17) dX3_image_17 rfl ?_
    refine J_callVr (pc := 18) fC_X3_217 rfl dX3_image_18 (c_X3_imageAt1 ha) rfl ⟨Nat.le_of_ble_eq_true rfl, Nat.le_of_ble_eq_true rfl⟩ rfl (Nat.le_of_ble_eq_true rfl) ?_
    refine J_astore_n (pc := 21) (lv' := [some (.ref 0), some (.int a), some (.ref 16)]) dX3_image_21 (Nat.le_of_ble_eq_true rfl) rfl rfl ?_
    refine J_aload_n (pc := 22) dX3_image_22 rfl ?_
    refine J_aload_n (pc := 23) dX3_image_23 rfl ?_
    refine J_getR (pc := 24) 1 fF_X3_12 rfl rfl dX3_image_24 ?_
    refine J_callVv (pc := 27) fC_X3_112 rfl dX3_image_27 (c_X0_take jarAt_16 jarAt_1) rfl ⟨Nat.le_of_ble_eq_true rfl, Nat.le_of_ble_eq_true rfl⟩ rfl (Nat.le_of_ble_eq_true rfl) (fun μ27 m27 => ?_)
    refine J_aload_n (pc := 30) dX3_image_30 rfl ?_
    refine J_iconst (pc := 31) (v := 1) dX3_image_31 (by decide) ?_
    refine J_putZW (pc := 32) (by decide) fF_X3_221 rfl rfl dX3_image_32 (fun μ32 m32 => ?_)
    refine J_iconst (pc := 35) (v := 1) dX3_image_35 (by decide) ?_
    refine J_iret (pc := 36) dX3_image_36 rfl ?_
    exact ⟨trivial, ⟨_, rfl, rfl⟩, by rw [m32, m27]⟩
  · exact absurd (by omega) h3
set_option maxRecDepth 100000 in
set_option maxHeartbeats 4000000 in
theorem k_from10 {N : Int} {c m : JM} (h : Inv N c m) (hN : 150 ≤ N ∧ N < 100000) {a : Int32} (ha : a.toInt = 1) (h0 : c.1 16 7 = 0)  : Con G shC mX3_from [.ref 0, .int a] c (fun v μ' => ((True) ∧ IsZ v (-3) ∧ μ' = (jI c 0 9 (c.1 0 9 + 1)))) := by
  refine Con_of [some (.ref 0), some (.int a), none] (by decide +kernel) (Nat.le_of_ble_eq_true rfl) (fun _ h => h) ?_
  refine J_iload_n (pc := 0) dX3_from_0 rfl ?_
  refine J_iconst (pc := 1) (v := 0) dX3_from_1 (by decide) ?_
  refine J_iconst (pc := 2) (v := 1) dX3_from_2 (by decide) ?_
  refine J_callSc (pc := 3) fC_X3_60 dX3_from_3 (c_X3_within 1 0 1 ha rfl rfl) rfl ⟨Nat.le_of_ble_eq_true rfl, Nat.le_of_ble_eq_true rfl⟩ rfl (Nat.le_of_ble_eq_true rfl) (fun h3 => ?_) (fun h3 => ?_)
  · refine J_if_ne_T (pc := 6) 16 dX3_from_6 (by decide) (by decide) ?_
    refine J_aload_n (pc := 16) dX3_from_16 rfl ?_
    refine J_iload_n (pc := 17) dX3_from_17 rfl ?_
    refine J_callVr (pc := 18) fC_X3_217 rfl dX3_from_18 (c_X3_imageAt1 ha) rfl ⟨Nat.le_of_ble_eq_true rfl, Nat.le_of_ble_eq_true rfl⟩ rfl (Nat.le_of_ble_eq_true rfl) ?_
    refine J_astore_n (pc := 21) (lv' := [some (.ref 0), some (.int a), some (.ref 16)]) dX3_from_21 (Nat.le_of_ble_eq_true rfl) rfl rfl ?_
    refine J_aload_n (pc := 22) dX3_from_22 rfl ?_
    refine J_getI (pc := 23) fF_X3_221 rfl rfl dX3_from_23 ?_
    refine J_if_neW (pc := 26) 0 (by rw [h0]; rfl) 36 dX3_from_26 (by decide) (fun h26 => ?_) (fun h26 => ?_)
    · exact absurd rfl h26
    · refine J_aload_n (pc := 29) dX3_from_29 rfl ?_
      refine J_bipush (pc := 30) (v := (-3)) dX3_from_30 (by decide) ?_
      refine J_callVim (pc := 32) fC_X3_64 rfl dX3_from_32 (c_X3_refuse3) rfl ⟨Nat.le_of_ble_eq_true rfl, Nat.le_of_ble_eq_true rfl⟩ rfl (Nat.le_of_ble_eq_true rfl) (fun z32 μ32 d32 m32 => ?_)
      refine J_iret (pc := 35) dX3_from_35 rfl ?_
      subst_vars
      exact ⟨trivial, ⟨_, rfl, rfl⟩, rfl⟩
  · exact absurd (by omega) h3
set_option maxRecDepth 100000 in
set_option maxHeartbeats 4000000 in
theorem k_from11 {N : Int} {c m : JM} (h : Inv N c m) (hN : 150 ≤ N ∧ N < 100000) {a : Int32} (ha : a.toInt = 1) (h0 : c.1 16 7 = 1)  : Con G shC mX3_from [.ref 0, .int a] c (fun v μ' => ((True) ∧ IsZ v (1) ∧ μ' = takeM c 1 16)) := by
  refine Con_of [some (.ref 0), some (.int a), none] (by decide +kernel) (Nat.le_of_ble_eq_true rfl) (fun _ h => h) ?_
  refine J_iload_n (pc := 0) dX3_from_0 rfl ?_
  refine J_iconst (pc := 1) (v := 0) dX3_from_1 (by decide) ?_
  refine J_iconst (pc := 2) (v := 1) dX3_from_2 (by decide) ?_
  refine J_callSc (pc := 3) fC_X3_60 dX3_from_3 (c_X3_within 1 0 1 ha rfl rfl) rfl ⟨Nat.le_of_ble_eq_true rfl, Nat.le_of_ble_eq_true rfl⟩ rfl (Nat.le_of_ble_eq_true rfl) (fun h3 => ?_) (fun h3 => ?_)
  · refine J_if_ne_T (pc := 6) 16 dX3_from_6 (by decide) (by decide) ?_
    refine J_aload_n (pc := 16) dX3_from_16 rfl ?_
    refine J_iload_n (pc := 17) dX3_from_17 rfl ?_
    refine J_callVr (pc := 18) fC_X3_217 rfl dX3_from_18 (c_X3_imageAt1 ha) rfl ⟨Nat.le_of_ble_eq_true rfl, Nat.le_of_ble_eq_true rfl⟩ rfl (Nat.le_of_ble_eq_true rfl) ?_
    refine J_astore_n (pc := 21) (lv' := [some (.ref 0), some (.int a), some (.ref 16)]) dX3_from_21 (Nat.le_of_ble_eq_true rfl) rfl rfl ?_
    refine J_aload_n (pc := 22) dX3_from_22 rfl ?_
    refine J_getI (pc := 23) fF_X3_221 rfl rfl dX3_from_23 ?_
    refine J_if_neW (pc := 26) 1 (by rw [h0]; rfl) 36 dX3_from_26 (by decide) (fun h26 => ?_) (fun h26 => ?_)
    · refine J_aload_n (pc := 36) dX3_from_36 rfl ?_
      refine J_getR (pc := 37) 1 fF_X3_12 rfl rfl dX3_from_37 ?_
      refine J_aload_n (pc := 40) dX3_from_40 rfl ?_
      refine J_callVv (pc := 41) fC_X3_112 rfl dX3_from_41 (c_X0_take jarAt_1 jarAt_16) rfl ⟨Nat.le_of_ble_eq_true rfl, Nat.le_of_ble_eq_true rfl⟩ rfl (Nat.le_of_ble_eq_true rfl) (fun μ41 m41 => ?_)
      refine J_iconst (pc := 44) (v := 1) dX3_from_44 (by decide) ?_
      refine J_iret (pc := 45) dX3_from_45 rfl ?_
      exact ⟨trivial, ⟨_, rfl, rfl⟩, m41⟩
    · exact absurd h26 (by decide)
  · exact absurd (by omega) h3
set_option maxRecDepth 100000 in
set_option maxHeartbeats 4000000 in
theorem l_image {m : JM} {a : Int32} (i : Nat) (hi2 : i < 2) (ha : a.toInt = (i : Int)) {Q : Option Value → JM → Prop} (hk : J G shM mX4_image 48 [some (.ref 0), some (.int a), none] [] (jC m 11 (fun j => if 73 * i ≤ j ∧ j < 73 * i + 73 then m.1 1 (j - 73 * i) else m.1 11 j)) Q) : ∀ k : Nat, k ≤ 73 → ∀ iv : Int32, iv.toInt = (k : Int) → ∀ ν : JM, ν = (jC m 11 (fun j => if 73 * i ≤ j ∧ j < 73 * i + k then m.1 1 (j - 73 * i) else m.1 11 j)) → J G shM mX4_image 19 [some (.ref 0), some (.int a), some (.int iv)] [] ν Q := by
  refine loop_up 73 (fun k hN ih iv hi ν hν => ?_)
  refine J_iload_n (pc := 19) dX4_image_19 rfl ?_
  refine J_bipush (pc := 20) (v := 73) dX4_image_20 (by decide) ?_
  refine J_icmp_geW (pc := 22) (k : Int) 73 hi rfl 48 dX4_image_22 (by decide) (fun h22 => ?_) (fun h22 => ?_)
  · obtain rfl : k = 73 := by omega
    exact J_lv' (lv' := [some (.ref 0), some (.int a), none]) (by repeat' constructor) (by rw [hν]; exact hk)
  · refine J_aload_n (pc := 25) dX4_image_25 rfl ?_
    refine J_getR (pc := 26) 11 fF_X4_46 rfl rfl dX4_image_26 ?_
    refine J_bipush (pc := 29) (v := 73) dX4_image_29 (by decide) ?_
    refine J_iload_n (pc := 31) dX4_image_31 rfl ?_
    refine J_imulW (pc := 32) 73 (i : Int) rfl ha dX4_image_32 (by omega) (fun z32 e32 => ?_)
    refine J_iload_n (pc := 33) dX4_image_33 rfl ?_
    refine J_iaddW (pc := 34) (73 * (i : Int)) (k : Int) e32 hi dX4_image_34 (by omega) (fun z34 e34 => ?_)
    refine J_aload_n (pc := 35) dX4_image_35 rfl ?_
    refine J_getR (pc := 36) 1 fF_X4_7 rfl rfl dX4_image_36 ?_
    refine J_iload_n (pc := 39) dX4_image_39 rfl ?_
    refine J_ialdW (pc := 40) k (by have q := hi; omega) rfl (by omega) dX4_image_40 ?_
    refine J_iastW (pc := 41) (73 * i + k) (by omega) rfl (by omega) dX4_image_41 (fun μ41 m41 => ?_)
    refine J_iincW' (pc := 42) (k : Int) hi (lv' := fun v => [some (.ref 0), some (.int a), some (.int v)]) dX4_image_42 rfl (by omega) (by decide) (Nat.le_of_ble_eq_true rfl) rfl (fun _ => rfl) (fun z42 e42 => ?_)
    refine J_goto (pc := 45) 19 dX4_image_45 (by decide) ?_
    refine ih (k + 1) (by omega) (by omega) z42 (by omega) _ ?_
    rw [m41]
    exact row_l hν (by rw [hν, jC_ne (by decide)]; exact congrArg (m.1 1) (by omega))
set_option maxRecDepth 100000 in
set_option maxHeartbeats 4000000 in
theorem n_image1 {N : Int} {c m : JM} (h : Inv N c m) (hN : 150 ≤ N ∧ N < 100000) {a : Int32} (i : Nat) (hi2 : i < 2) (ha : a.toInt = (i : Int))  : Con G shM mX4_image [.ref 0, .int a] m (fun v μ' => ((True) ∧ IsZ v (1) ∧ μ' = jI (jC m 11 (fun j => if 73 * i ≤ j ∧ j < 73 * i + 73 then m.1 1 (j - 73 * i) else m.1 11 j)) 12 i 1)) := by
  refine Con_of [some (.ref 0), some (.int a), none] (by decide +kernel) (Nat.le_of_ble_eq_true rfl) (fun _ h => h) ?_
  refine J_iload_n (pc := 0) dX4_image_0 rfl ?_
  refine J_i2l (pc := 1) dX4_image_1 rfl ?_
  refine J_lconst (pc := 2) (v := 0) dX4_image_2 (by decide) ?_
  refine J_lconst (pc := 3) (v := 1) dX4_image_3 (by decide) ?_
  refine J_callSc (pc := 4) fC_X4_58 dX4_image_4 (c_X4_in (i : Int) 0 1 (i2l_z ha) rfl rfl) rfl ⟨Nat.le_of_ble_eq_true rfl, Nat.le_of_ble_eq_true rfl⟩ rfl (Nat.le_of_ble_eq_true rfl) (fun h4 => ?_) (fun h4 => ?_)
  · refine J_if_ne_T (pc := 7) 17 dX4_image_7 (by decide) (by decide) ?_
    refine J_iconst (pc := 17) (v := 0) dX4_image_17 (by decide) ?_
    refine J_istore_n (pc := 18) (lv' := [some (.ref 0), some (.int a), some (.int 0)]) dX4_image_18 (Nat.le_of_ble_eq_true rfl) rfl rfl ?_
    refine l_image i hi2 ha ?_ 0 (by decide) 0 rfl _ (row_l0 m 11 (73 * i) (fun j => m.1 1 (j - 73 * i))).symm
    obtain ⟨μ0, m0⟩ : ∃ x : JM, x = (jC m 11 (fun j => if 73 * i ≤ j ∧ j < 73 * i + 73 then m.1 1 (j - 73 * i) else m.1 11 j)) := ⟨_, rfl⟩
    rw [← m0]
    refine J_aload_n (pc := 48) dX4_image_48 rfl ?_
    refine J_getR (pc := 49) 12 fF_X4_49 rfl rfl dX4_image_49 ?_
    refine J_iload_n (pc := 52) dX4_image_52 rfl ?_
    refine J_iconst (pc := 53) (v := 1) dX4_image_53 (by decide) ?_
    refine J_zastW (pc := 54) i (by omega) rfl (by omega) (by decide) dX4_image_54 (fun μ54 m54 => ?_)
    refine J_iconst (pc := 55) (v := 1) dX4_image_55 (by decide) ?_
    refine J_iret (pc := 56) dX4_image_56 rfl ?_
    exact ⟨trivial, ⟨_, rfl, rfl⟩, by rw [m54, m0]⟩
  · exact absurd (by omega) h4
set_option maxRecDepth 100000 in
set_option maxHeartbeats 4000000 in
theorem l_from {m : JM} {a : Int32} (i : Nat) (hi2 : i < 2) (ha : a.toInt = (i : Int)) {Q : Option Value → JM → Prop} (hk : J G shM mX4_from 64 [some (.ref 0), some (.int a), none] [] (jC m 1 (fun j => if j < 73 then m.1 11 (73 * i + j) else m.1 1 j)) Q) : ∀ k : Nat, k ≤ 73 → ∀ iv : Int32, iv.toInt = (k : Int) → ∀ ν : JM, ν = (jC m 1 (fun j => if j < k then m.1 11 (73 * i + j) else m.1 1 j)) → J G shM mX4_from 35 [some (.ref 0), some (.int a), some (.int iv)] [] ν Q := by
  refine loop_up 73 (fun k hN ih iv hi ν hν => ?_)
  refine J_iload_n (pc := 35) dX4_from_35 rfl ?_
  refine J_bipush (pc := 36) (v := 73) dX4_from_36 (by decide) ?_
  refine J_icmp_geW (pc := 38) (k : Int) 73 hi rfl 64 dX4_from_38 (by decide) (fun h38 => ?_) (fun h38 => ?_)
  · obtain rfl : k = 73 := by omega
    exact J_lv' (lv' := [some (.ref 0), some (.int a), none]) (by repeat' constructor) (by rw [hν]; exact hk)
  · refine J_aload_n (pc := 41) dX4_from_41 rfl ?_
    refine J_getR (pc := 42) 1 fF_X4_7 rfl rfl dX4_from_42 ?_
    refine J_iload_n (pc := 45) dX4_from_45 rfl ?_
    refine J_aload_n (pc := 46) dX4_from_46 rfl ?_
    refine J_getR (pc := 47) 11 fF_X4_46 rfl rfl dX4_from_47 ?_
    refine J_bipush (pc := 50) (v := 73) dX4_from_50 (by decide) ?_
    refine J_iload_n (pc := 52) dX4_from_52 rfl ?_
    refine J_imulW (pc := 53) 73 (i : Int) rfl ha dX4_from_53 (by omega) (fun z53 e53 => ?_)
    refine J_iload_n (pc := 54) dX4_from_54 rfl ?_
    refine J_iaddW (pc := 55) (73 * (i : Int)) (k : Int) e53 hi dX4_from_55 (by omega) (fun z55 e55 => ?_)
    refine J_ialdW (pc := 56) (73 * i + k) (by omega) rfl (by omega) dX4_from_56 ?_
    refine J_iastW (pc := 57) k (by have q := hi; omega) rfl (by omega) dX4_from_57 (fun μ57 m57 => ?_)
    refine J_iincW' (pc := 58) (k : Int) hi (lv' := fun v => [some (.ref 0), some (.int a), some (.int v)]) dX4_from_58 rfl (by omega) (by decide) (Nat.le_of_ble_eq_true rfl) rfl (fun _ => rfl) (fun z58 e58 => ?_)
    refine J_goto (pc := 61) 35 dX4_from_61 (by decide) ?_
    refine ih (k + 1) (by omega) (by omega) z58 (by omega) _ ?_
    rw [m57]
    exact row_s hν (by rw [hν, jC_ne (by decide)])
set_option maxRecDepth 100000 in
set_option maxHeartbeats 4000000 in
theorem n_from0 {N : Int} {c m : JM} (h : Inv N c m) (hN : 150 ≤ N ∧ N < 100000) {a : Int32} (i : Nat) (hi2 : i < 2) (ha : a.toInt = (i : Int)) (h0 : m.1 12 i = 0)  : Con G shM mX4_from [.ref 0, .int a] m (fun v μ' => ((True) ∧ IsZ v (-3) ∧ μ' = (jI m 4 1 (m.1 4 1 + 1)))) := by
  refine Con_of [some (.ref 0), some (.int a), none] (by decide +kernel) (Nat.le_of_ble_eq_true rfl) (fun _ h => h) ?_
  refine J_iload_n (pc := 0) dX4_from_0 rfl ?_
  refine J_i2l (pc := 1) dX4_from_1 rfl ?_
  refine J_lconst (pc := 2) (v := 0) dX4_from_2 (by decide) ?_
  refine J_lconst (pc := 3) (v := 1) dX4_from_3 (by decide) ?_
  refine J_callSc (pc := 4) fC_X4_58 dX4_from_4 (c_X4_in (i : Int) 0 1 (i2l_z ha) rfl rfl) rfl ⟨Nat.le_of_ble_eq_true rfl, Nat.le_of_ble_eq_true rfl⟩ rfl (Nat.le_of_ble_eq_true rfl) (fun h4 => ?_) (fun h4 => ?_)
  · refine J_if_ne_T (pc := 7) 17 dX4_from_7 (by decide) (by decide) ?_
    refine J_aload_n (pc := 17) dX4_from_17 rfl ?_
    refine J_getR (pc := 18) 12 fF_X4_49 rfl rfl dX4_from_18 ?_
    refine J_iload_n (pc := 21) dX4_from_21 rfl ?_
    refine J_zaldW (pc := 22) i (by omega) rfl (by omega) dX4_from_22 ?_
    refine J_if_neW (pc := 23) 0 (by rw [h0]; rfl) 33 dX4_from_23 (by decide) (fun h23 => ?_) (fun h23 => ?_)
    · exact absurd rfl h23
    · refine J_aload_n (pc := 26) dX4_from_26 rfl ?_
      refine J_bipush (pc := 27) (v := (-3)) dX4_from_27 (by decide) ?_
      refine J_callVim (pc := 29) fC_X4_91 rfl dX4_from_29 (c_X4_no3) rfl ⟨Nat.le_of_ble_eq_true rfl, Nat.le_of_ble_eq_true rfl⟩ rfl (Nat.le_of_ble_eq_true rfl) (fun z29 μ29 d29 m29 => ?_)
      refine J_iret (pc := 32) dX4_from_32 rfl ?_
      subst_vars
      exact ⟨trivial, ⟨_, rfl, rfl⟩, rfl⟩
  · exact absurd (by omega) h4
set_option maxRecDepth 100000 in
set_option maxHeartbeats 4000000 in
theorem n_from1 {N : Int} {c m : JM} (h : Inv N c m) (hN : 150 ≤ N ∧ N < 100000) {a : Int32} (i : Nat) (hi2 : i < 2) (ha : a.toInt = (i : Int)) (h0 : m.1 12 i = 1)  : Con G shM mX4_from [.ref 0, .int a] m (fun v μ' => ((True) ∧ IsZ v (1) ∧ μ' = (jC m 1 (fun j => if j < 73 then m.1 11 (73 * i + j) else m.1 1 j)))) := by
  refine Con_of [some (.ref 0), some (.int a), none] (by decide +kernel) (Nat.le_of_ble_eq_true rfl) (fun _ h => h) ?_
  refine J_iload_n (pc := 0) dX4_from_0 rfl ?_
  refine J_i2l (pc := 1) dX4_from_1 rfl ?_
  refine J_lconst (pc := 2) (v := 0) dX4_from_2 (by decide) ?_
  refine J_lconst (pc := 3) (v := 1) dX4_from_3 (by decide) ?_
  refine J_callSc (pc := 4) fC_X4_58 dX4_from_4 (c_X4_in (i : Int) 0 1 (i2l_z ha) rfl rfl) rfl ⟨Nat.le_of_ble_eq_true rfl, Nat.le_of_ble_eq_true rfl⟩ rfl (Nat.le_of_ble_eq_true rfl) (fun h4 => ?_) (fun h4 => ?_)
  · refine J_if_ne_T (pc := 7) 17 dX4_from_7 (by decide) (by decide) ?_
    refine J_aload_n (pc := 17) dX4_from_17 rfl ?_
    refine J_getR (pc := 18) 12 fF_X4_49 rfl rfl dX4_from_18 ?_
    refine J_iload_n (pc := 21) dX4_from_21 rfl ?_
    refine J_zaldW (pc := 22) i (by omega) rfl (by omega) dX4_from_22 ?_
    refine J_if_neW (pc := 23) 1 (by rw [h0]; rfl) 33 dX4_from_23 (by decide) (fun h23 => ?_) (fun h23 => ?_)
    · refine J_iconst (pc := 33) (v := 0) dX4_from_33 (by decide) ?_
      refine J_istore_n (pc := 34) (lv' := [some (.ref 0), some (.int a), some (.int 0)]) dX4_from_34 (Nat.le_of_ble_eq_true rfl) rfl rfl ?_
      refine l_from i hi2 ha ?_ 0 (by decide) 0 rfl _ (row_0 m 1 (fun j => m.1 11 (73 * i + j))).symm
      obtain ⟨μ0, m0⟩ : ∃ x : JM, x = (jC m 1 (fun j => if j < 73 then m.1 11 (73 * i + j) else m.1 1 j)) := ⟨_, rfl⟩
      rw [← m0]
      refine J_iconst (pc := 64) (v := 1) dX4_from_64 (by decide) ?_
      refine J_iret (pc := 65) dX4_from_65 rfl ?_
      exact ⟨trivial, ⟨_, rfl, rfl⟩, rfl⟩
    · exact absurd h23 (by decide)
  · exact absurd (by omega) h4
theorem Inv_image {N M : Int} {c m : JM} (hNM : N ≤ M) (h : Inv N c m) (i b : Nat) (hi : i < 2) (hb : b = 11 + 5 * i) : Inv M (jI (takeM c b 1) b 7 1) (jI (jC m 11 (fun j => if 73 * i ≤ j ∧ j < 73 * i + 73 then m.1 1 (j - 73 * i) else m.1 11 j)) 12 i 1) := by
  obtain ⟨a1, a2, a3, a4, a5, a6, a7⟩ := h
  obtain ⟨m', hm'⟩ : ∃ x : JM, x = jI (jC m 11 (fun j => if 73 * i ≤ j ∧ j < 73 * i + 73 then m.1 1 (j - 73 * i) else m.1 11 j)) 12 i 1 := ⟨_, rfl⟩
  obtain ⟨c', hc'⟩ : ∃ x : JM, x = jI (takeM c b 1) b 7 1 := ⟨_, rfl⟩
  rw [← hm', ← hc']
  have mo : ∀ o, o ≠ 11 → o ≠ 12 → m'.1 o = m.1 o := fun o h1 h2 => by rw [hm', jI_ne h2, jC_ne h1]
  have co : ∀ o, (o < b ∨ b + 4 < o) → c'.1 o = c.1 o := fun o ho => by rw [hc', jI_ne (by omega), takeM_o (by omega) (by omega) (by omega) (by omega) (by omega)]
  have c2 : c'.2 = c.2 := by rw [hc']; rfl
  have m2 : m'.2 = m.2 := by rw [hm']; rfl
  have m12 : ∀ j, m'.1 12 j = if j = i then 1 else m.1 12 j := fun j => by rw [hm', jI_i, jC_ne (by decide)]; by_cases z : j = i <;> simp [z]
  have m11 : m'.1 11 = fun j => if 73 * i ≤ j ∧ j < 73 * i + 73 then m.1 1 (j - 73 * i) else m.1 11 j := by rw [hm', jI_ne (by decide), jC_at]
  refine ⟨⟨fun j hj => by rw [mo 2 (by omega) (by omega)]; exact a1.1 j hj, fun j hj => by rw [mo 3 (by omega) (by omega)]; exact a1.2 j hj⟩, by rw [mo 1 (by omega) (by omega)]; exact wfF_mono hNM a2, ?_, fun j hj => ?_, ?_, ?_, ?_⟩
  · rw [mo 1 (by omega) (by omega)]
    exact jrep_congr a2 (fun _ _ => rfl) (fun o h1 h2 k _ => by rw [co o (by omega)]) a3
  · by_cases z : j = i
    · subst z
      have hf : ∀ k, k < 73 → imgF m' j k = m.1 1 k := fun k hk => by
        unfold imgF
        rw [m11]
        simp only []
        rw [if_pos (by omega)]
        exact congrArg (m.1 1) (by omega)
      have hw : wfF M (imgF m' j) := wfF_congr hf (wfF_mono hNM a2)
      have hr : jrep c' b (m.1 1) := jrep_congr (wfF_mono hNM a2) (fun _ _ => rfl) (fun o h1 h2 k h7 => by
        rw [hc', jI_i, if_neg (fun q => h7 q.1 q.2)]) (jrep_take a2 (by omega) a3)
      refine ⟨Or.inr (by rw [m12, if_pos rfl]), ?_, fun _ => ⟨hw, ?_⟩⟩
      · rw [m12, if_pos rfl, ← hb, hc', jI_i, if_pos ⟨rfl, rfl⟩]
      · rw [← hb]
        exact jrep_congr (wfF_mono hNM a2) hf (fun _ _ _ _ _ => rfl) hr
    · have fi : ∀ k, k < 73 → imgF m' j k = imgF m j k := fun k hk => by
        unfold imgF
        rw [m11]
        simp only []
        rw [if_neg (by omega)]
      rw [m12, if_neg z, co (11 + 5 * j) (by omega)]
      obtain ⟨b1, b2, b3⟩ := a4 j hj
      exact ⟨b1, b2, fun hk => ⟨wfF_congr fi (wfF_mono hNM (b3 hk).1), jrep_congr (b3 hk).1 fi (fun o h1 h2 k _ => by rw [co o (by omega)]) (b3 hk).2⟩⟩
  · rw [co 21 (by omega), mo 0 (by omega) (by omega), co 22 (by omega), mo 5 (by omega) (by omega)]; exact a5
  · rw [c2, m2]; exact a6
  · rw [co 0 (by omega), mo 4 (by omega) (by omega)]; exact a7
theorem Inv_from {N M : Int} {c m : JM} (hNM : N ≤ M) (h : Inv N c m) (i b : Nat) (hi : i < 2) (hb : b = 11 + 5 * i) (hk : m.1 12 i = 1) : Inv M (takeM c 1 b) (jC m 1 (fun j => if j < 73 then m.1 11 (73 * i + j) else m.1 1 j)) := by
  obtain ⟨b1, b2, b3⟩ := h.2.2.2.1 i hi
  obtain ⟨w, j⟩ := b3 hk
  rw [← hb] at j
  have hf : ∀ k, k < 73 → (fun j => if j < 73 then m.1 11 (73 * i + j) else m.1 1 j) k = imgF m i k := fun k hk => by simp [hk, imgF]
  refine Inv_row hNM h (fun o ho => takeM_o (by omega) (by omega) (by omega) (by omega) (by omega)) (by rw [takeM_o (by omega) (by omega) (by omega) (by omega) (by omega)]) rfl (eqM_rf _) ?_ (wfF_congr hf (wfF_mono hNM w))
  exact jrep_congr w hf (fun _ _ _ _ _ => rfl) (jrep_take w (by omega) j)
theorem pr_image {G : JG × JG} {N : Int} {c m : JM} (h : Inv N c m) (hN : 150 ≤ N ∧ N < 100000) {a : Int32} : Pair G N c m mX3_image mX4_image [.int a] := by
  by_cases hb : 0 ≤ a.toInt ∧ a.toInt ≤ 1
  · rcases (by omega : a.toInt = 0 ∨ a.toInt = 1) with ha | ha
    · refine ⟨_, _, k_image0 h hN ha, n_image1 h hN 0 (by decide) ha, fun v c' w m' hC hM => ?_⟩
      exact ⟨IsZ_eq hC.2.1 hM.2.1, by rw [hC.2.2, hM.2.2]; exact Inv_image (by omega) h 0 11 (by decide) rfl⟩
    · refine ⟨_, _, k_image1 h hN ha, n_image1 h hN 1 (by decide) ha, fun v c' w m' hC hM => ?_⟩
      exact ⟨IsZ_eq hC.2.1 hM.2.1, by rw [hC.2.2, hM.2.2]; exact Inv_image (by omega) h 1 16 (by decide) rfl⟩
  · refine ⟨_, _, k_imageB h hN hb, n_imageB h hN hb, fun v c' w m' hC hM => ?_⟩
    exact ⟨IsZ_eq hC.2.1 hM.2.1, by rw [hC.2.2, hM.2.2]; exact Inv_no (by omega) h 0 (by decide)⟩
theorem pr_from {G : JG × JG} {N : Int} {c m : JM} (h : Inv N c m) (hN : 150 ≤ N ∧ N < 100000) {a : Int32} : Pair G N c m mX3_from mX4_from [.int a] := by
  by_cases hb : 0 ≤ a.toInt ∧ a.toInt ≤ 1
  · rcases (by omega : a.toInt = 0 ∨ a.toInt = 1) with ha | ha
    · obtain ⟨b1, b2, -⟩ := h.2.2.2.1 0 (by decide)
      rcases b1 with b1 | b1
      · refine ⟨_, _, k_from00 h hN ha (b2.trans b1), n_from0 h hN 0 (by decide) ha b1, fun v c' w m' hC hM => ?_⟩
        exact ⟨IsZ_eq hC.2.1 hM.2.1, by rw [hC.2.2, hM.2.2]; exact Inv_no (by omega) h 1 (by decide)⟩
      · refine ⟨_, _, k_from01 h hN ha (b2.trans b1), n_from1 h hN 0 (by decide) ha b1, fun v c' w m' hC hM => ?_⟩
        exact ⟨IsZ_eq hC.2.1 hM.2.1, by rw [hC.2.2, hM.2.2]; exact Inv_from (by omega) h 0 11 (by decide) rfl b1⟩
    · obtain ⟨b1, b2, -⟩ := h.2.2.2.1 1 (by decide)
      rcases b1 with b1 | b1
      · refine ⟨_, _, k_from10 h hN ha (b2.trans b1), n_from0 h hN 1 (by decide) ha b1, fun v c' w m' hC hM => ?_⟩
        exact ⟨IsZ_eq hC.2.1 hM.2.1, by rw [hC.2.2, hM.2.2]; exact Inv_no (by omega) h 1 (by decide)⟩
      · refine ⟨_, _, k_from11 h hN ha (b2.trans b1), n_from1 h hN 1 (by decide) ha b1, fun v c' w m' hC hM => ?_⟩
        exact ⟨IsZ_eq hC.2.1 hM.2.1, by rw [hC.2.2, hM.2.2]; exact Inv_from (by omega) h 1 16 (by decide) rfl b1⟩
  · refine ⟨_, _, k_fromB h hN hb, n_fromB h hN hb, fun v c' w m' hC hM => ?_⟩
    exact ⟨IsZ_eq hC.2.1 hM.2.1, by rw [hC.2.2, hM.2.2]; exact Inv_no (by omega) h 0 (by decide)⟩

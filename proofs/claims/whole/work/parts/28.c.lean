/-! ===== public methods: forget, note, say, open, undo ===== -/
theorem sayM_row (μ : JM) (w : Int) : (giveM (hearM (beginM μ) w)).1 1 = listF (μ.1 1) w := by
  funext j
  simp [giveM, hearM, setS, beginM, jI_i, listF, upd]
theorem sayM_o (μ : JM) (w : Int) {o : Nat} (h0 : o ≠ 0) (h1 : o ≠ 1) : (giveM (hearM (beginM μ) w)).1 o = μ.1 o := by
  funext j
  simp [giveM, hearM, setS, beginM, jI_i, h0, h1]
theorem sayM_eq (μ : JM) (w : Int) : eqM (jC μ 1 (listF (μ.1 1) w)) (giveM (hearM (beginM μ) w)) := by
  refine ⟨fun o ho => ?_, by simp [giveM, hearM, setS, beginM, jI_i, jC], rfl⟩
  by_cases h1 : o = 1
  · subst h1; rw [sayM_row, jC_at]
  · rw [sayM_o μ w (by omega) h1, jC_ne h1]
theorem eqM_row {m m' : JM} {f : Nat → Int32} (h : eqM (jC (jC m 1 f) 1 f) m') : eqM (jC m 1 f) m' := by rw [jC_jC] at h; exact h
variable {G : JG}
set_option maxRecDepth 100000 in
set_option maxHeartbeats 4000000 in
theorem k_forget {N : Int} {c m : JM} (h : Inv N c m) (hN : 150 ≤ N ∧ N < 100000)  : Con G shC mX3_forget [.ref 0] c (fun v μ' => ((True) ∧ IsZ v ((m.1 1 15).toInt) ∧ μ' = jI c 1 5 0)) := by
  obtain ⟨q0, q1, q2, q3, q4, q5, q6⟩ := Inv_q h
  obtain ⟨r0, r1, r2, r3, r4, r5, r6, r15, r40, r9⟩ := Inv_r h
  have hc := h.1
  have qt : (c.1 21 1).toInt = (m.1 0 9).toInt := by rw [h.2.2.2.2.1.1]
  have qs0 : (c.1 0 8).toInt = (m.1 4 0).toInt := by rw [h.2.2.2.2.2.2.1]
  have qs1 : (c.1 0 9).toInt = (m.1 4 1).toInt := by rw [h.2.2.2.2.2.2.2.1]
  have qs2 : (c.1 0 10).toInt = (m.1 4 2).toInt := by rw [h.2.2.2.2.2.2.2.2]
  refine Con_of [some (.ref 0), none] (by decide +kernel) (Nat.le_of_ble_eq_true rfl) (fun _ h => h) ?_
  refine J_aload_n (pc := 0) dX3_forget_0 rfl ?_
  refine J_getR (pc := 1) 1 fF_X3_12 rfl rfl dX3_forget_1 ?_
  refine J_getI (pc := 4) fF_X3_178 rfl rfl dX3_forget_4 ?_
  refine J_istore_n (pc := 7) (lv' := [some (.ref 0), some (.int (c.1 1 5))]) dX3_forget_7 (Nat.le_of_ble_eq_true rfl) rfl rfl ?_
  refine J_aload_n (pc := 8) dX3_forget_8 rfl ?_
  refine J_getR (pc := 9) 1 fF_X3_12 rfl rfl dX3_forget_9 ?_
  refine J_iconst (pc := 12) (v := 0) dX3_forget_12 (by decide) ?_
  refine J_putIW (pc := 13) fF_X3_178 rfl rfl dX3_forget_13 (fun μ13 m13 => ?_)
  refine J_iload_n (pc := 16) dX3_forget_16 rfl ?_
  refine J_iret (pc := 17) dX3_forget_17 rfl ?_
  exact ⟨trivial, ⟨_, rfl, q5⟩, m13⟩
set_option maxRecDepth 100000 in
set_option maxHeartbeats 4000000 in
theorem n_forget {N : Int} {c m : JM} (h : Inv N c m) (hN : 150 ≤ N ∧ N < 100000)  : Con G shM mX4_forget [.ref 0] m (fun v μ' => ((True) ∧ IsZ v ((m.1 1 15).toInt) ∧ μ' = jC m 1 (upd (m.1 1) 15 0))) := by
  obtain ⟨q0, q1, q2, q3, q4, q5, q6⟩ := Inv_q h
  obtain ⟨r0, r1, r2, r3, r4, r5, r6, r15, r40, r9⟩ := Inv_r h
  have hc := h.1
  have qt : (c.1 21 1).toInt = (m.1 0 9).toInt := by rw [h.2.2.2.2.1.1]
  have qs0 : (c.1 0 8).toInt = (m.1 4 0).toInt := by rw [h.2.2.2.2.2.2.1]
  have qs1 : (c.1 0 9).toInt = (m.1 4 1).toInt := by rw [h.2.2.2.2.2.2.2.1]
  have qs2 : (c.1 0 10).toInt = (m.1 4 2).toInt := by rw [h.2.2.2.2.2.2.2.2]
  refine Con_of [some (.ref 0), none] (by decide +kernel) (Nat.le_of_ble_eq_true rfl) (fun _ h => h) ?_
  refine J_aload_n (pc := 0) dX4_forget_0 rfl ?_
  refine J_getR (pc := 1) 1 fF_X4_7 rfl rfl dX4_forget_1 ?_
  refine J_bipush (pc := 4) (v := 15) dX4_forget_4 (by decide) ?_
  refine J_ialdW (pc := 6) 15 (rfl) rfl (by decide) dX4_forget_6 ?_
  refine J_istore_n (pc := 7) (lv' := [some (.ref 0), some (.int (m.1 1 15))]) dX4_forget_7 (Nat.le_of_ble_eq_true rfl) rfl rfl ?_
  refine J_aload_n (pc := 8) dX4_forget_8 rfl ?_
  refine J_getR (pc := 9) 1 fF_X4_7 rfl rfl dX4_forget_9 ?_
  refine J_bipush (pc := 12) (v := 15) dX4_forget_12 (by decide) ?_
  refine J_iconst (pc := 14) (v := 0) dX4_forget_14 (by decide) ?_
  refine J_iastW (pc := 15) 15 (rfl) rfl (by decide) dX4_forget_15 (fun μ15 m15 => ?_)
  refine J_iload_n (pc := 16) dX4_forget_16 rfl ?_
  refine J_iret (pc := 17) dX4_forget_17 rfl ?_
  exact ⟨trivial, ⟨_, rfl, rfl⟩, by rw [m15, jI_row]⟩
theorem pr_forget {G : JG × JG} {N : Int} {c m : JM} (h : Inv N c m) (hN : 150 ≤ N ∧ N < 100000) : Pair G N c m mX3_forget mX4_forget [] := by
  refine ⟨_, _, k_forget h hN, n_forget h hN, fun v c' w m' hC hM => ?_⟩
  obtain ⟨q0, q1, q2, q3, q4, q5, q6⟩ := Inv_q h
  obtain ⟨r0, r1, r2, r3, r4, r5, r6, r15, r40, r9⟩ := Inv_r h
  have hc := h.1
  have qt : (c.1 21 1).toInt = (m.1 0 9).toInt := by rw [h.2.2.2.2.1.1]
  have qs0 : (c.1 0 8).toInt = (m.1 4 0).toInt := by rw [h.2.2.2.2.2.2.1]
  have qs1 : (c.1 0 9).toInt = (m.1 4 1).toInt := by rw [h.2.2.2.2.2.2.2.1]
  have qs2 : (c.1 0 10).toInt = (m.1 4 2).toInt := by rw [h.2.2.2.2.2.2.2.2]
  obtain ⟨a1, a2, a3⟩ := hC
  obtain ⟨b1, b2, b3⟩ := hM
  refine ⟨IsZ_eq a2 b2, ?_⟩
  rw [a3, b3]
  refine Inv_row (f := upd (m.1 1) 15 0) (by omega) h (fun o ho => by rw [jI_ne (by omega)]) (by rw [jI_ne (by omega)]) rfl (eqM_rf _) ?_ ?_
  · obtain ⟨j0, j1, j2, j3, j4, j5, j6, j7, j8, j9⟩ := h.2.2.1
    have u : ∀ j, j ≠ 15 → upd (m.1 1) 15 0 j = m.1 1 j := fun j hj => pk_un hj
    have z15 : upd (m.1 1) 15 0 15 = 0 := rfl
    unfold jrep
    rw [u 0 (by omega), u 1 (by omega), u 2 (by omega), u 3 (by omega), u 4 (by omega), u 5 (by omega), u 6 (by omega), z15, u 40 (by omega)]
    refine ⟨j0, j1, j2, j3, j4, rfl, j6, fun j hj => ?_, fun j hj => ?_, fun j hj => ?_⟩
    · rw [jI_ne (by omega), u _ (by omega)]; exact j7 j hj
    · exfalso
      rw [z0] at hj; omega
    · rw [jI_ne (by omega), jI_ne (by omega), u _ (by omega), u _ (by omega), u _ (by omega), u _ (by omega)]; exact j9 j hj
  · obtain ⟨h0, h1, h2, h3, h4, h5, h6, h7, h8, h9, ha, hb⟩ := wfF_mono (M := N + 1) (by omega) h.2.1
    have u : ∀ j, j ≠ 15 → upd (m.1 1) 15 0 j = m.1 1 j := fun j hj => pk_un hj
    have z15 : upd (m.1 1) 15 0 15 = 0 := rfl
    unfold wfF
    rw [u 0 (by omega), u 1 (by omega), u 2 (by omega), u 3 (by omega), u 4 (by omega), u 5 (by omega), u 6 (by omega), z15, u 40 (by omega)]
    refine ⟨h0, h1, h2, h3, h4, h5, h6, fun j hj => by rw [u _ (by omega)]; exact h7 j hj, by decide, h9, fun j hj => ?_, fun j hj => ?_⟩
    · exfalso
      rw [z0] at hj; omega
    · rw [u _ (by omega), u _ (by omega), u _ (by omega), u _ (by omega)]; exact hb j hj
def noteF (f : Nat → Int32) (n : Nat) (w k a p : Int32) : Nat → Int32 := upd (upd (upd (upd (upd f (16 + 4 * n) w) (16 + 4 * n + 1) k) (16 + 4 * n + 2) a) (16 + 4 * n + 3) p) 15 (iZ ((n : Int) + 1))
set_option maxRecDepth 100000 in
set_option maxHeartbeats 4000000 in
theorem k_note {N : Int} {c m : JM} (h : Inv N c m) (hN : 150 ≤ N ∧ N < 100000) {a b x y : Int32}  : Con G shC mX3_note [.ref 0, .int a, .int b, .int x, .int y] c (fun v μ' => ((¬(0 ≤ a.toInt ∧ a.toInt ≤ 5 ∧ 0 ≤ b.toInt ∧ b.toInt ≤ 99 ∧ -20 ≤ x.toInt ∧ x.toInt ≤ 20 ∧ -20 ≤ y.toInt ∧ y.toInt ≤ 20)) ∧ IsZ v (-2) ∧ μ' = (jI c 0 8 (c.1 0 8 + 1))) ∨ (((0 ≤ a.toInt ∧ a.toInt ≤ 5 ∧ 0 ≤ b.toInt ∧ b.toInt ≤ 99 ∧ -20 ≤ x.toInt ∧ x.toInt ≤ 20 ∧ -20 ≤ y.toInt ∧ y.toInt ≤ 20) ∧ (m.1 1 15).toInt = 6) ∧ IsZ v (-4) ∧ μ' = (jI c 0 10 (c.1 0 10 + 1))) ∨ (((0 ≤ a.toInt ∧ a.toInt ≤ 5 ∧ 0 ≤ b.toInt ∧ b.toInt ≤ 99 ∧ -20 ≤ x.toInt ∧ x.toInt ≤ 20 ∧ -20 ≤ y.toInt ∧ y.toInt ≤ 20) ∧ (m.1 1 15).toInt < 6) ∧ IsZ v ((m.1 1 15).toInt + 1) ∧ μ' = addM c 1 (m.1 1 15).toInt.toNat a b x y)) := by
  obtain ⟨q0, q1, q2, q3, q4, q5, q6⟩ := Inv_q h
  obtain ⟨r0, r1, r2, r3, r4, r5, r6, r15, r40, r9⟩ := Inv_r h
  have hc := h.1
  have qt : (c.1 21 1).toInt = (m.1 0 9).toInt := by rw [h.2.2.2.2.1.1]
  have qs0 : (c.1 0 8).toInt = (m.1 4 0).toInt := by rw [h.2.2.2.2.2.2.1]
  have qs1 : (c.1 0 9).toInt = (m.1 4 1).toInt := by rw [h.2.2.2.2.2.2.2.1]
  have qs2 : (c.1 0 10).toInt = (m.1 4 2).toInt := by rw [h.2.2.2.2.2.2.2.2]
  refine Con_of [some (.ref 0), some (.int a), some (.int b), some (.int x), some (.int y)] (by decide +kernel) (Nat.le_of_ble_eq_true rfl) (fun _ h => h) ?_
  refine J_iload_n (pc := 0) dX3_note_0 rfl ?_
  refine J_callSc (pc := 1) fC_X3_116 dX3_note_1 (c_X3_isWord a.toInt rfl) rfl ⟨Nat.le_of_ble_eq_true rfl, Nat.le_of_ble_eq_true rfl⟩ rfl (Nat.le_of_ble_eq_true rfl) (fun h1 => ?_) (fun h1 => ?_)
  · refine J_if_eq_F (pc := 4) 17 dX3_note_4 (by decide) (by decide) ?_
    refine J_iload_n (pc := 7) dX3_note_7 rfl ?_
    refine J_iconst (pc := 8) (v := 0) dX3_note_8 (by decide) ?_
    refine J_bipush (pc := 9) (v := 99) dX3_note_9 (by decide) ?_
    refine J_callSc (pc := 11) fC_X3_60 dX3_note_11 (c_X3_within b.toInt 0 99 rfl rfl rfl) rfl ⟨Nat.le_of_ble_eq_true rfl, Nat.le_of_ble_eq_true rfl⟩ rfl (Nat.le_of_ble_eq_true rfl) (fun h11 => ?_) (fun h11 => ?_)
    · refine J_if_ne_T (pc := 14) 24 dX3_note_14 (by decide) (by decide) ?_
      refine J_iload_n (pc := 24) dX3_note_24 rfl ?_
      refine J_bipush (pc := 25) (v := (-20)) dX3_note_25 (by decide) ?_
      refine J_bipush (pc := 27) (v := 20) dX3_note_27 (by decide) ?_
      refine J_callSc (pc := 29) fC_X3_60 dX3_note_29 (c_X3_within x.toInt (-20) 20 rfl rfl rfl) rfl ⟨Nat.le_of_ble_eq_true rfl, Nat.le_of_ble_eq_true rfl⟩ rfl (Nat.le_of_ble_eq_true rfl) (fun h29 => ?_) (fun h29 => ?_)
      · refine J_if_eq_F (pc := 32) 47 dX3_note_32 (by decide) (by decide) ?_
        refine J_iload (pc := 35) dX3_note_35 rfl ?_
        refine J_bipush (pc := 37) (v := (-20)) dX3_note_37 (by decide) ?_
        refine J_bipush (pc := 39) (v := 20) dX3_note_39 (by decide) ?_
        refine J_callSc (pc := 41) fC_X3_60 dX3_note_41 (c_X3_within y.toInt (-20) 20 rfl rfl rfl) rfl ⟨Nat.le_of_ble_eq_true rfl, Nat.le_of_ble_eq_true rfl⟩ rfl (Nat.le_of_ble_eq_true rfl) (fun h41 => ?_) (fun h41 => ?_)
        · refine J_if_ne_T (pc := 44) 54 dX3_note_44 (by decide) (by decide) ?_
          refine J_aload_n (pc := 54) dX3_note_54 rfl ?_
          refine J_getR (pc := 55) 1 fF_X3_12 rfl rfl dX3_note_55 ?_
          refine J_getI (pc := 58) fF_X3_178 rfl rfl dX3_note_58 ?_
          refine J_bipush (pc := 61) (v := 6) dX3_note_61 (by decide) ?_
          refine J_icmp_ltW (pc := 63) ((m.1 1 15).toInt) 6 q5 rfl 73 dX3_note_63 (by decide) (fun h63 => ?_) (fun h63 => ?_)
          · refine J_aload_n (pc := 73) dX3_note_73 rfl ?_
            refine J_getR (pc := 74) 1 fF_X3_12 rfl rfl dX3_note_74 ?_
            refine J_iload_n (pc := 77) dX3_note_77 rfl ?_
            refine J_iload_n (pc := 78) dX3_note_78 rfl ?_
            refine J_iload_n (pc := 79) dX3_note_79 rfl ?_
            refine J_iload (pc := 80) dX3_note_80 rfl ?_
            refine J_callVv (pc := 82) fC_X3_181 rfl dX3_note_82 (c_X0_addNote jarAt_1 (m.1 1 15).toInt.toNat (by omega) (by omega)) rfl ⟨Nat.le_of_ble_eq_true rfl, Nat.le_of_ble_eq_true rfl⟩ rfl (Nat.le_of_ble_eq_true rfl) (fun μ82 m82 => ?_)
            refine J_aload_n (pc := 85) dX3_note_85 rfl ?_
            refine J_getR (pc := 86) 1 fF_X3_12 rfl rfl dX3_note_86 ?_
            refine J_getI (pc := 89) fF_X3_178 rfl rfl dX3_note_89 ?_
            refine J_iret (pc := 92) dX3_note_92 rfl ?_
            refine Or.inr (Or.inr ⟨by omega, ⟨_, rfl, ?_⟩, m82⟩)
            rw [m82]
            show (iZ ((((m.1 1 15).toInt.toNat : Nat) : Int) + 1)).toInt = _
            rw [iZ_i (by omega)]; omega
          · refine J_aload_n (pc := 66) dX3_note_66 rfl ?_
            refine J_bipush (pc := 67) (v := (-4)) dX3_note_67 (by decide) ?_
            refine J_callVim (pc := 69) fC_X3_64 rfl dX3_note_69 (c_X3_refuse4) rfl ⟨Nat.le_of_ble_eq_true rfl, Nat.le_of_ble_eq_true rfl⟩ rfl (Nat.le_of_ble_eq_true rfl) (fun z69 μ69 d69 m69 => ?_)
            refine J_iret (pc := 72) dX3_note_72 rfl ?_
            subst_vars
            first
              | exact Or.inl ⟨by omega, ⟨_, rfl, by first | rfl | omega⟩, by first | rfl | omega⟩
              | exact Or.inr (Or.inl ⟨by omega, ⟨_, rfl, by first | rfl | omega⟩, by first | rfl | omega⟩)
              | exact Or.inr (Or.inr (⟨by omega, ⟨_, rfl, by first | rfl | omega⟩, by first | rfl | omega⟩))
        · refine J_if_ne_F (pc := 44) 54 dX3_note_44 (by decide) (by decide) ?_
          refine J_aload_n (pc := 47) dX3_note_47 rfl ?_
          refine J_bipush (pc := 48) (v := (-2)) dX3_note_48 (by decide) ?_
          refine J_callVim (pc := 50) fC_X3_64 rfl dX3_note_50 (c_X3_refuse2) rfl ⟨Nat.le_of_ble_eq_true rfl, Nat.le_of_ble_eq_true rfl⟩ rfl (Nat.le_of_ble_eq_true rfl) (fun z50 μ50 d50 m50 => ?_)
          refine J_iret (pc := 53) dX3_note_53 rfl ?_
          subst_vars
          first
            | exact Or.inl ⟨by omega, ⟨_, rfl, by first | rfl | omega⟩, by first | rfl | omega⟩
            | exact Or.inr (Or.inl ⟨by omega, ⟨_, rfl, by first | rfl | omega⟩, by first | rfl | omega⟩)
            | exact Or.inr (Or.inr (⟨by omega, ⟨_, rfl, by first | rfl | omega⟩, by first | rfl | omega⟩))
      · refine J_if_eq_T (pc := 32) 47 dX3_note_32 (by decide) (by decide) ?_
        refine J_aload_n (pc := 47) dX3_note_47 rfl ?_
        refine J_bipush (pc := 48) (v := (-2)) dX3_note_48 (by decide) ?_
        refine J_callVim (pc := 50) fC_X3_64 rfl dX3_note_50 (c_X3_refuse2) rfl ⟨Nat.le_of_ble_eq_true rfl, Nat.le_of_ble_eq_true rfl⟩ rfl (Nat.le_of_ble_eq_true rfl) (fun z50 μ50 d50 m50 => ?_)
        refine J_iret (pc := 53) dX3_note_53 rfl ?_
        subst_vars
        first
          | exact Or.inl ⟨by omega, ⟨_, rfl, by first | rfl | omega⟩, by first | rfl | omega⟩
          | exact Or.inr (Or.inl ⟨by omega, ⟨_, rfl, by first | rfl | omega⟩, by first | rfl | omega⟩)
          | exact Or.inr (Or.inr (⟨by omega, ⟨_, rfl, by first | rfl | omega⟩, by first | rfl | omega⟩))
    · refine J_if_ne_F (pc := 14) 24 dX3_note_14 (by decide) (by decide) ?_
      refine J_aload_n (pc := 17) dX3_note_17 rfl ?_
      refine J_bipush (pc := 18) (v := (-2)) dX3_note_18 (by decide) ?_
      refine J_callVim (pc := 20) fC_X3_64 rfl dX3_note_20 (c_X3_refuse2) rfl ⟨Nat.le_of_ble_eq_true rfl, Nat.le_of_ble_eq_true rfl⟩ rfl (Nat.le_of_ble_eq_true rfl) (fun z20 μ20 d20 m20 => ?_)
      refine J_iret (pc := 23) dX3_note_23 rfl ?_
      subst_vars
      first
        | exact Or.inl ⟨by omega, ⟨_, rfl, by first | rfl | omega⟩, by first | rfl | omega⟩
        | exact Or.inr (Or.inl ⟨by omega, ⟨_, rfl, by first | rfl | omega⟩, by first | rfl | omega⟩)
        | exact Or.inr (Or.inr (⟨by omega, ⟨_, rfl, by first | rfl | omega⟩, by first | rfl | omega⟩))
  · refine J_if_eq_T (pc := 4) 17 dX3_note_4 (by decide) (by decide) ?_
    refine J_aload_n (pc := 17) dX3_note_17 rfl ?_
    refine J_bipush (pc := 18) (v := (-2)) dX3_note_18 (by decide) ?_
    refine J_callVim (pc := 20) fC_X3_64 rfl dX3_note_20 (c_X3_refuse2) rfl ⟨Nat.le_of_ble_eq_true rfl, Nat.le_of_ble_eq_true rfl⟩ rfl (Nat.le_of_ble_eq_true rfl) (fun z20 μ20 d20 m20 => ?_)
    refine J_iret (pc := 23) dX3_note_23 rfl ?_
    subst_vars
    first
      | exact Or.inl ⟨by omega, ⟨_, rfl, by first | rfl | omega⟩, by first | rfl | omega⟩
      | exact Or.inr (Or.inl ⟨by omega, ⟨_, rfl, by first | rfl | omega⟩, by first | rfl | omega⟩)
      | exact Or.inr (Or.inr (⟨by omega, ⟨_, rfl, by first | rfl | omega⟩, by first | rfl | omega⟩))
set_option maxRecDepth 100000 in
set_option maxHeartbeats 4000000 in
theorem n_note {N : Int} {c m : JM} (h : Inv N c m) (hN : 150 ≤ N ∧ N < 100000) {a b x y : Int32}  : Con G shM mX4_note [.ref 0, .int a, .int b, .int x, .int y] m (fun v μ' => ((¬(0 ≤ a.toInt ∧ a.toInt ≤ 5 ∧ 0 ≤ b.toInt ∧ b.toInt ≤ 99 ∧ -20 ≤ x.toInt ∧ x.toInt ≤ 20 ∧ -20 ≤ y.toInt ∧ y.toInt ≤ 20)) ∧ IsZ v (-2) ∧ μ' = (jI m 4 0 (m.1 4 0 + 1))) ∨ (((0 ≤ a.toInt ∧ a.toInt ≤ 5 ∧ 0 ≤ b.toInt ∧ b.toInt ≤ 99 ∧ -20 ≤ x.toInt ∧ x.toInt ≤ 20 ∧ -20 ≤ y.toInt ∧ y.toInt ≤ 20) ∧ (m.1 1 15).toInt = 6) ∧ IsZ v (-4) ∧ μ' = (jI m 4 2 (m.1 4 2 + 1))) ∨ (((0 ≤ a.toInt ∧ a.toInt ≤ 5 ∧ 0 ≤ b.toInt ∧ b.toInt ≤ 99 ∧ -20 ≤ x.toInt ∧ x.toInt ≤ 20 ∧ -20 ≤ y.toInt ∧ y.toInt ≤ 20) ∧ (m.1 1 15).toInt < 6) ∧ IsZ v ((m.1 1 15).toInt + 1) ∧ μ' = jC m 1 (noteF (m.1 1) (m.1 1 15).toInt.toNat a b x y))) := by
  obtain ⟨q0, q1, q2, q3, q4, q5, q6⟩ := Inv_q h
  obtain ⟨r0, r1, r2, r3, r4, r5, r6, r15, r40, r9⟩ := Inv_r h
  have hc := h.1
  have qt : (c.1 21 1).toInt = (m.1 0 9).toInt := by rw [h.2.2.2.2.1.1]
  have qs0 : (c.1 0 8).toInt = (m.1 4 0).toInt := by rw [h.2.2.2.2.2.2.1]
  have qs1 : (c.1 0 9).toInt = (m.1 4 1).toInt := by rw [h.2.2.2.2.2.2.2.1]
  have qs2 : (c.1 0 10).toInt = (m.1 4 2).toInt := by rw [h.2.2.2.2.2.2.2.2]
  refine Con_of [some (.ref 0), some (.int a), some (.int b), some (.int x), some (.int y), none] (by decide +kernel) (Nat.le_of_ble_eq_true rfl) (fun _ h => h) ?_
  refine J_iload_n (pc := 0) dX4_note_0 rfl ?_
  refine J_i2l (pc := 1) dX4_note_1 rfl ?_
  refine J_lconst (pc := 2) (v := 0) dX4_note_2 (by decide) ?_
  refine J_ldc2 (pc := 3) fK_X4_89 dX4_note_3 ?_
  refine J_callSc (pc := 6) fC_X4_58 dX4_note_6 (c_X4_in a.toInt 0 5 (i2l_z rfl) rfl rfl) rfl ⟨Nat.le_of_ble_eq_true rfl, Nat.le_of_ble_eq_true rfl⟩ rfl (Nat.le_of_ble_eq_true rfl) (fun h6 => ?_) (fun h6 => ?_)
  · refine J_if_eq_F (pc := 9) 53 dX4_note_9 (by decide) (by decide) ?_
    refine J_iload_n (pc := 12) dX4_note_12 rfl ?_
    refine J_i2l (pc := 13) dX4_note_13 rfl ?_
    refine J_lconst (pc := 14) (v := 0) dX4_note_14 (by decide) ?_
    refine J_ldc2 (pc := 15) fK_X4_94 dX4_note_15 ?_
    refine J_callSc (pc := 18) fC_X4_58 dX4_note_18 (c_X4_in b.toInt 0 99 (i2l_z rfl) rfl rfl) rfl ⟨Nat.le_of_ble_eq_true rfl, Nat.le_of_ble_eq_true rfl⟩ rfl (Nat.le_of_ble_eq_true rfl) (fun h18 => ?_) (fun h18 => ?_)
    · refine J_if_eq_F (pc := 21) 53 dX4_note_21 (by decide) (by decide) ?_
      refine J_iload_n (pc := 24) dX4_note_24 rfl ?_
      refine J_i2l (pc := 25) dX4_note_25 rfl ?_
      refine J_ldc2 (pc := 26) fK_X4_222 dX4_note_26 ?_
      refine J_ldc2 (pc := 29) fK_X4_224 dX4_note_29 ?_
      refine J_callSc (pc := 32) fC_X4_58 dX4_note_32 (c_X4_in x.toInt (-20) 20 (i2l_z rfl) rfl rfl) rfl ⟨Nat.le_of_ble_eq_true rfl, Nat.le_of_ble_eq_true rfl⟩ rfl (Nat.le_of_ble_eq_true rfl) (fun h32 => ?_) (fun h32 => ?_)
      · refine J_if_eq_F (pc := 35) 53 dX4_note_35 (by decide) (by decide) ?_
        refine J_iload (pc := 38) dX4_note_38 rfl ?_
        refine J_i2l (pc := 40) dX4_note_40 rfl ?_
        refine J_ldc2 (pc := 41) fK_X4_222 dX4_note_41 ?_
        refine J_ldc2 (pc := 44) fK_X4_224 dX4_note_44 ?_
        refine J_callSc (pc := 47) fC_X4_58 dX4_note_47 (c_X4_in y.toInt (-20) 20 (i2l_z rfl) rfl rfl) rfl ⟨Nat.le_of_ble_eq_true rfl, Nat.le_of_ble_eq_true rfl⟩ rfl (Nat.le_of_ble_eq_true rfl) (fun h47 => ?_) (fun h47 => ?_)
        · refine J_if_ne_T (pc := 50) 60 dX4_note_50 (by decide) (by decide) ?_
          refine J_aload_n (pc := 60) dX4_note_60 rfl ?_
          refine J_getR (pc := 61) 1 fF_X4_7 rfl rfl dX4_note_61 ?_
          refine J_bipush (pc := 64) (v := 15) dX4_note_64 (by decide) ?_
          refine J_ialdW (pc := 66) 15 (rfl) rfl (by decide) dX4_note_66 ?_
          refine J_bipush (pc := 67) (v := 6) dX4_note_67 (by decide) ?_
          refine J_icmp_neW (pc := 69) ((m.1 1 15).toInt) 6 rfl rfl 79 dX4_note_69 (by decide) (fun h69 => ?_) (fun h69 => ?_)
          · refine J_bipush (pc := 79) (v := 16) dX4_note_79 (by decide) ?_
            refine J_iconst (pc := 81) (v := 4) dX4_note_81 (by decide) ?_
            refine J_aload_n (pc := 82) dX4_note_82 rfl ?_
            refine J_getR (pc := 83) 1 fF_X4_7 rfl rfl dX4_note_83 ?_
            refine J_bipush (pc := 86) (v := 15) dX4_note_86 (by decide) ?_
            refine J_ialdW (pc := 88) 15 (rfl) rfl (by decide) dX4_note_88 ?_
            refine J_imulW (pc := 89) 4 ((m.1 1 15).toInt) rfl rfl dX4_note_89 (by omega) (fun z89 e89 => ?_)
            refine J_iaddW (pc := 90) 16 (4 * (m.1 1 15).toInt) rfl e89 dX4_note_90 (by omega) (fun z90 e90 => ?_)
            refine J_istore (pc := 91) (lv' := [some (.ref 0), some (.int a), some (.int b), some (.int x), some (.int y), some (.int z90)]) dX4_note_91 (Nat.le_of_ble_eq_true rfl) rfl rfl ?_
            refine J_aload_n (pc := 93) dX4_note_93 rfl ?_
            refine J_getR (pc := 94) 1 fF_X4_7 rfl rfl dX4_note_94 ?_
            refine J_iload (pc := 97) dX4_note_97 rfl ?_
            refine J_iload_n (pc := 99) dX4_note_99 rfl ?_
            refine J_iastW (pc := 100) (16 + 4 * (m.1 1 15).toInt.toNat) (by omega) rfl (by omega) dX4_note_100 (fun μ100 m100 => ?_)
            refine J_aload_n (pc := 101) dX4_note_101 rfl ?_
            refine J_getR (pc := 102) 1 fF_X4_7 rfl rfl dX4_note_102 ?_
            refine J_iload (pc := 105) dX4_note_105 rfl ?_
            refine J_iconst (pc := 107) (v := 1) dX4_note_107 (by decide) ?_
            refine J_iaddW (pc := 108) (16 + (4 * (m.1 1 15).toInt)) 1 e90 rfl dX4_note_108 (by omega) (fun z108 e108 => ?_)
            refine J_iload_n (pc := 109) dX4_note_109 rfl ?_
            refine J_iastW (pc := 110) (16 + 4 * (m.1 1 15).toInt.toNat + 1) (by omega) rfl (by omega) dX4_note_110 (fun μ110 m110 => ?_)
            refine J_aload_n (pc := 111) dX4_note_111 rfl ?_
            refine J_getR (pc := 112) 1 fF_X4_7 rfl rfl dX4_note_112 ?_
            refine J_iload (pc := 115) dX4_note_115 rfl ?_
            refine J_iconst (pc := 117) (v := 2) dX4_note_117 (by decide) ?_
            refine J_iaddW (pc := 118) (16 + (4 * (m.1 1 15).toInt)) 2 e90 rfl dX4_note_118 (by omega) (fun z118 e118 => ?_)
            refine J_iload_n (pc := 119) dX4_note_119 rfl ?_
            refine J_iastW (pc := 120) (16 + 4 * (m.1 1 15).toInt.toNat + 2) (by omega) rfl (by omega) dX4_note_120 (fun μ120 m120 => ?_)
            refine J_aload_n (pc := 121) dX4_note_121 rfl ?_
            refine J_getR (pc := 122) 1 fF_X4_7 rfl rfl dX4_note_122 ?_
            refine J_iload (pc := 125) dX4_note_125 rfl ?_
            refine J_iconst (pc := 127) (v := 3) dX4_note_127 (by decide) ?_
            refine J_iaddW (pc := 128) (16 + (4 * (m.1 1 15).toInt)) 3 e90 rfl dX4_note_128 (by omega) (fun z128 e128 => ?_)
            refine J_iload (pc := 129) dX4_note_129 rfl ?_
            refine J_iastW (pc := 131) (16 + 4 * (m.1 1 15).toInt.toNat + 3) (by omega) rfl (by omega) dX4_note_131 (fun μ131 m131 => ?_)
            refine J_aload_n (pc := 132) dX4_note_132 rfl ?_
            refine J_getR (pc := 133) 1 fF_X4_7 rfl rfl dX4_note_133 ?_
            refine J_bipush (pc := 136) (v := 15) dX4_note_136 (by decide) ?_
            refine J_dup2 (pc := 138) dX4_note_138 rfl rfl ?_
            refine J_ialdW (pc := 139) 15 (rfl) rfl (by decide) dX4_note_139 ?_
            refine J_iconst (pc := 140) (v := 1) dX4_note_140 (by decide) ?_
            refine J_iaddW (pc := 141) ((m.1 1 15).toInt) 1 (show (μ131.1 1 15).toInt = (m.1 1 15).toInt by simp only [m131, m120, m110, m100, jI_i]; rw [if_neg (by omega), if_neg (by omega), if_neg (by omega), if_neg (by omega)]) rfl dX4_note_141 (by omega) (fun z141 e141 => ?_)
            refine J_iastW (pc := 142) 15 (rfl) rfl (by decide) dX4_note_142 (fun μ142 m142 => ?_)
            refine J_aload_n (pc := 143) dX4_note_143 rfl ?_
            refine J_getR (pc := 144) 1 fF_X4_7 rfl rfl dX4_note_144 ?_
            refine J_bipush (pc := 147) (v := 15) dX4_note_147 (by decide) ?_
            refine J_ialdW (pc := 149) 15 (rfl) rfl (by decide) dX4_note_149 ?_
            refine J_iret (pc := 150) dX4_note_150 rfl ?_
            rw [iZ_of (show z141.toInt = (((m.1 1 15).toInt.toNat : Nat) : Int) + 1 by omega)] at m142
            refine Or.inr (Or.inr ⟨by omega, ⟨_, rfl, ?_⟩, ?_⟩)
            · rw [m142, jI_i, if_pos ⟨rfl, rfl⟩, iZ_i (by omega)]; omega
            · rw [m142, m131, m120, m110, m100]
              simp only [jI_row, jC_jC, jC_at]
              rfl
          · refine J_aload_n (pc := 72) dX4_note_72 rfl ?_
            refine J_bipush (pc := 73) (v := (-4)) dX4_note_73 (by decide) ?_
            refine J_callVim (pc := 75) fC_X4_91 rfl dX4_note_75 (c_X4_no4) rfl ⟨Nat.le_of_ble_eq_true rfl, Nat.le_of_ble_eq_true rfl⟩ rfl (Nat.le_of_ble_eq_true rfl) (fun z75 μ75 d75 m75 => ?_)
            refine J_iret (pc := 78) dX4_note_78 rfl ?_
            subst_vars
            first
              | exact Or.inl ⟨by omega, ⟨_, rfl, by first | rfl | omega⟩, by first | rfl | omega⟩
              | exact Or.inr (Or.inl ⟨by omega, ⟨_, rfl, by first | rfl | omega⟩, by first | rfl | omega⟩)
              | exact Or.inr (Or.inr (⟨by omega, ⟨_, rfl, by first | rfl | omega⟩, by first | rfl | omega⟩))
        · refine J_if_ne_F (pc := 50) 60 dX4_note_50 (by decide) (by decide) ?_
          refine J_aload_n (pc := 53) dX4_note_53 rfl ?_
          refine J_bipush (pc := 54) (v := (-2)) dX4_note_54 (by decide) ?_
          refine J_callVim (pc := 56) fC_X4_91 rfl dX4_note_56 (c_X4_no2) rfl ⟨Nat.le_of_ble_eq_true rfl, Nat.le_of_ble_eq_true rfl⟩ rfl (Nat.le_of_ble_eq_true rfl) (fun z56 μ56 d56 m56 => ?_)
          refine J_iret (pc := 59) dX4_note_59 rfl ?_
          subst_vars
          first
            | exact Or.inl ⟨by omega, ⟨_, rfl, by first | rfl | omega⟩, by first | rfl | omega⟩
            | exact Or.inr (Or.inl ⟨by omega, ⟨_, rfl, by first | rfl | omega⟩, by first | rfl | omega⟩)
            | exact Or.inr (Or.inr (⟨by omega, ⟨_, rfl, by first | rfl | omega⟩, by first | rfl | omega⟩))
      · refine J_if_eq_T (pc := 35) 53 dX4_note_35 (by decide) (by decide) ?_
        refine J_aload_n (pc := 53) dX4_note_53 rfl ?_
        refine J_bipush (pc := 54) (v := (-2)) dX4_note_54 (by decide) ?_
        refine J_callVim (pc := 56) fC_X4_91 rfl dX4_note_56 (c_X4_no2) rfl ⟨Nat.le_of_ble_eq_true rfl, Nat.le_of_ble_eq_true rfl⟩ rfl (Nat.le_of_ble_eq_true rfl) (fun z56 μ56 d56 m56 => ?_)
        refine J_iret (pc := 59) dX4_note_59 rfl ?_
        subst_vars
        first
          | exact Or.inl ⟨by omega, ⟨_, rfl, by first | rfl | omega⟩, by first | rfl | omega⟩
          | exact Or.inr (Or.inl ⟨by omega, ⟨_, rfl, by first | rfl | omega⟩, by first | rfl | omega⟩)
          | exact Or.inr (Or.inr (⟨by omega, ⟨_, rfl, by first | rfl | omega⟩, by first | rfl | omega⟩))
    · refine J_if_eq_T (pc := 21) 53 dX4_note_21 (by decide) (by decide) ?_
      refine J_aload_n (pc := 53) dX4_note_53 rfl ?_
      refine J_bipush (pc := 54) (v := (-2)) dX4_note_54 (by decide) ?_
      refine J_callVim (pc := 56) fC_X4_91 rfl dX4_note_56 (c_X4_no2) rfl ⟨Nat.le_of_ble_eq_true rfl, Nat.le_of_ble_eq_true rfl⟩ rfl (Nat.le_of_ble_eq_true rfl) (fun z56 μ56 d56 m56 => ?_)
      refine J_iret (pc := 59) dX4_note_59 rfl ?_
      subst_vars
      first
        | exact Or.inl ⟨by omega, ⟨_, rfl, by first | rfl | omega⟩, by first | rfl | omega⟩
        | exact Or.inr (Or.inl ⟨by omega, ⟨_, rfl, by first | rfl | omega⟩, by first | rfl | omega⟩)
        | exact Or.inr (Or.inr (⟨by omega, ⟨_, rfl, by first | rfl | omega⟩, by first | rfl | omega⟩))
  · refine J_if_eq_T (pc := 9) 53 dX4_note_9 (by decide) (by decide) ?_
    refine J_aload_n (pc := 53) dX4_note_53 rfl ?_
    refine J_bipush (pc := 54) (v := (-2)) dX4_note_54 (by decide) ?_
    refine J_callVim (pc := 56) fC_X4_91 rfl dX4_note_56 (c_X4_no2) rfl ⟨Nat.le_of_ble_eq_true rfl, Nat.le_of_ble_eq_true rfl⟩ rfl (Nat.le_of_ble_eq_true rfl) (fun z56 μ56 d56 m56 => ?_)
    refine J_iret (pc := 59) dX4_note_59 rfl ?_
    subst_vars
    first
      | exact Or.inl ⟨by omega, ⟨_, rfl, by first | rfl | omega⟩, by first | rfl | omega⟩
      | exact Or.inr (Or.inl ⟨by omega, ⟨_, rfl, by first | rfl | omega⟩, by first | rfl | omega⟩)
      | exact Or.inr (Or.inr (⟨by omega, ⟨_, rfl, by first | rfl | omega⟩, by first | rfl | omega⟩))
theorem noteF_v {f : Nat → Int32} {n : Nat} {w k a p : Int32} (hn : n < 6) : noteF f n w k a p (16 + 4 * n) = w ∧ noteF f n w k a p (16 + 4 * n + 1) = k ∧ noteF f n w k a p (16 + 4 * n + 2) = a ∧ noteF f n w k a p (16 + 4 * n + 3) = p ∧ noteF f n w k a p 15 = iZ ((n : Int) + 1) ∧ ∀ j, j ≠ 15 → (j < 16 + 4 * n ∨ 16 + 4 * n + 3 < j) → noteF f n w k a p j = f j := by
  refine ⟨?_, ?_, ?_, ?_, ?_, fun j h1 h2 => ?_⟩
  · simp only [noteF, upd]; rw [if_neg (by omega), if_neg (by omega), if_neg (by omega), if_neg (by omega), if_pos trivial]
  · simp only [noteF, upd]; rw [if_neg (by omega), if_neg (by omega), if_neg (by omega), if_pos trivial]
  · simp only [noteF, upd]; rw [if_neg (by omega), if_neg (by omega), if_pos trivial]
  · simp only [noteF, upd]; rw [if_neg (by omega), if_pos trivial]
  · simp only [noteF, upd]; rw [if_pos trivial]
  · simp only [noteF, upd]; rw [if_neg (by omega), if_neg (by omega), if_neg (by omega), if_neg (by omega), if_neg (by omega)]
theorem pr_note {G : JG × JG} {N : Int} {c m : JM} (h : Inv N c m) (hN : 150 ≤ N ∧ N < 100000) {a b x y : Int32} : Pair G N c m mX3_note mX4_note [.int a, .int b, .int x, .int y] := by
  refine ⟨_, _, k_note h hN, n_note h hN, fun v c' w m' hC hM => ?_⟩
  obtain ⟨q0, q1, q2, q3, q4, q5, q6⟩ := Inv_q h
  obtain ⟨r0, r1, r2, r3, r4, r5, r6, r15, r40, r9⟩ := Inv_r h
  have hc := h.1
  have qt : (c.1 21 1).toInt = (m.1 0 9).toInt := by rw [h.2.2.2.2.1.1]
  have qs0 : (c.1 0 8).toInt = (m.1 4 0).toInt := by rw [h.2.2.2.2.2.2.1]
  have qs1 : (c.1 0 9).toInt = (m.1 4 1).toInt := by rw [h.2.2.2.2.2.2.2.1]
  have qs2 : (c.1 0 10).toInt = (m.1 4 2).toInt := by rw [h.2.2.2.2.2.2.2.2]
  rcases hC with ⟨a1, a2, a3⟩ | ⟨a1, a2, a3⟩ | ⟨a1, a2, a3⟩
  · rcases hM with ⟨b1, b2, b3⟩ | ⟨b1, b2, b3⟩ | ⟨b1, b2, b3⟩
    · exact ⟨IsZ_eq a2 b2, by rw [a3, b3]; exact Inv_no (by omega) h 0 (by decide)⟩
    · exfalso; omega
    · exfalso; omega
  · rcases hM with ⟨b1, b2, b3⟩ | ⟨b1, b2, b3⟩ | ⟨b1, b2, b3⟩
    · exfalso; omega
    · exact ⟨IsZ_eq a2 b2, by rw [a3, b3]; exact Inv_no (by omega) h 2 (by decide)⟩
    · exfalso; omega
  · rcases hM with ⟨b1, b2, b3⟩ | ⟨b1, b2, b3⟩ | ⟨b1, b2, b3⟩
    · exfalso; omega
    · exfalso; omega
    · refine ⟨IsZ_eq a2 b2, ?_⟩
      rw [a3, b3]
      obtain ⟨n, hn⟩ : ∃ n : Nat, n = (m.1 1 15).toInt.toNat := ⟨_, rfl⟩
      have hn6 : n < 6 := by omega
      have hn' : (m.1 1 15).toInt = (n : Int) := by omega
      rw [← hn]
      obtain ⟨p1, p2, p3, p4, p5, po⟩ := noteF_v (f := m.1 1) (w := a) (k := b) (a := x) (p := y) hn6
      refine Inv_row (f := noteF (m.1 1) n a b x y) (by omega) h (fun o ho => by unfold addM; rw [jI_ne (by omega), jI_ne (by omega), jI_ne (by omega), jI_ne (by omega), jI_ne (by omega)]) (by unfold addM; rw [jI_ne (by omega), jI_ne (by omega), jI_ne (by omega), jI_ne (by omega), jI_ne (by omega)]) rfl (eqM_rf _) ?_ ?_
      · obtain ⟨j0, j1, j2, j3, j4, j5, j6, j7, j8, j9⟩ := h.2.2.1
        unfold jrep
        rw [po 0 (by omega) (by omega), po 1 (by omega) (by omega), po 2 (by omega) (by omega), po 3 (by omega) (by omega), po 4 (by omega) (by omega), po 5 (by omega) (by omega), po 6 (by omega) (by omega), po 40 (by omega) (by omega), p5, iZ_i (by omega)]
        have ao : ∀ o k, o ≠ 1 → o ≠ 3 → (addM c 1 n a b x y).1 o k = c.1 o k := fun o k h1 h2 => by unfold addM; rw [jI_ne (by omega), jI_ne (by omega), jI_ne (by omega), jI_ne (by omega), jI_ne (by omega)]
        have a1' : ∀ k, k ≠ 5 → (addM c 1 n a b x y).1 1 k = c.1 1 k := fun k hk => by simp [addM, jI_i, hk]
        rw [a1' 0 (by omega), a1' 1 (by omega), a1' 2 (by omega), a1' 3 (by omega), a1' 4 (by omega), a1' 6 (by omega)]
        refine ⟨j0, j1, j2, j3, j4, by simp [addM, jI_i], j6, fun j hj => ?_, fun j hj => ?_, fun j hj => ?_⟩
        · rw [ao _ _ (by omega) (by omega), po _ (by omega) (by omega)]; exact j7 j hj
        · have e : (addM c 1 n a b x y).1 (1 + 2) j = if j = n * 4 + 3 then y else if j = n * 4 + 2 then x else if j = n * 4 + 1 then b else if j = n * 4 then a else c.1 (1 + 2) j := by simp [addM, jI_i]
          rw [e]
          by_cases z3 : j = n * 4 + 3
          · rw [if_pos z3, z3, show 16 + (n * 4 + 3) = 16 + 4 * n + 3 by omega, p4]
          · rw [if_neg z3]
            by_cases z2 : j = n * 4 + 2
            · rw [if_pos z2, z2, show 16 + (n * 4 + 2) = 16 + 4 * n + 2 by omega, p3]
            · rw [if_neg z2]
              by_cases z1 : j = n * 4 + 1
              · rw [if_pos z1, z1, show 16 + (n * 4 + 1) = 16 + 4 * n + 1 by omega, p2]
              · rw [if_neg z1]
                by_cases z0' : j = n * 4
                · rw [if_pos z0', z0', show 16 + n * 4 = 16 + 4 * n by omega, p1]
                · rw [if_neg z0', po _ (by omega) (by omega)]; exact j8 j (by omega)
        · rw [ao _ _ (by omega) (by omega), ao _ _ (by omega) (by omega), po _ (by omega) (by omega), po _ (by omega) (by omega), po _ (by omega) (by omega), po _ (by omega) (by omega)]; exact j9 j hj
      · obtain ⟨h0, h1, h2, h3, h4, h5, h6, h7, h8, h9, ha, hb⟩ := wfF_mono (M := N + 1) (by omega) h.2.1
        unfold wfF
        rw [po 0 (by omega) (by omega), po 1 (by omega) (by omega), po 2 (by omega) (by omega), po 3 (by omega) (by omega), po 4 (by omega) (by omega), po 5 (by omega) (by omega), po 6 (by omega) (by omega), po 40 (by omega) (by omega), p5, iZ_i (by omega)]
        refine ⟨h0, h1, h2, h3, h4, h5, h6, fun j hj => by rw [po _ (by omega) (by omega)]; exact h7 j hj, by omega, h9, fun j hj => ?_, fun j hj => ?_⟩
        · by_cases e : j = n
          · subst e
            rw [p1, p2]; exact ⟨by omega, by omega⟩
          · rw [po _ (by omega) (by omega), po _ (by omega) (by omega)]; exact ha j (by omega)
        · rw [po _ (by omega) (by omega), po _ (by omega) (by omega), po _ (by omega) (by omega), po _ (by omega) (by omega)]; exact hb j hj
set_option maxRecDepth 100000 in
set_option maxHeartbeats 4000000 in
theorem k_say {N : Int} {c m : JM} (h : Inv N c m) (hN : 150 ≤ N ∧ N < 100000) {a : Int32}  : Con G shC mX3_say [.ref 0, .int a] c (fun v μ' => ((¬(0 ≤ a.toInt ∧ a.toInt ≤ 5)) ∧ IsZ v (-2) ∧ μ' = (jI c 0 8 (c.1 0 8 + 1))) ∨ (((0 ≤ a.toInt ∧ a.toInt ≤ 5) ∧ (m.1 1 6).toInt ≠ 0) ∧ IsZ v (-3) ∧ μ' = (jI c 0 9 (c.1 0 9 + 1))) ∨ (((0 ≤ a.toInt ∧ a.toInt ≤ 5) ∧ (m.1 1 6).toInt = 0) ∧ IsZ v (((listF (remF (m.1 1)) a.toInt) 6).toInt) ∧ μ' = listenM (remM c 1) 1 a.toInt)) := by
  obtain ⟨q0, q1, q2, q3, q4, q5, q6⟩ := Inv_q h
  obtain ⟨r0, r1, r2, r3, r4, r5, r6, r15, r40, r9⟩ := Inv_r h
  have hc := h.1
  have qt : (c.1 21 1).toInt = (m.1 0 9).toInt := by rw [h.2.2.2.2.1.1]
  have qs0 : (c.1 0 8).toInt = (m.1 4 0).toInt := by rw [h.2.2.2.2.2.2.1]
  have qs1 : (c.1 0 9).toInt = (m.1 4 1).toInt := by rw [h.2.2.2.2.2.2.2.1]
  have qs2 : (c.1 0 10).toInt = (m.1 4 2).toInt := by rw [h.2.2.2.2.2.2.2.2]
  have hr := jrep_listen (w := a.toInt) (wfF_rem h.2.1) (by omega) (jrep_rem h.2.1 h.2.2.1)
  have hw := wfF_list (w := a.toInt) (wfF_rem h.2.1) (by omega)
  have hm3 := hr.2.2.2.1
  obtain ⟨-, w1, w2, -, -, -, w6, -⟩ := hw
  obtain ⟨d1, d2, d3⟩ := mZ_d (b := ((listF (remF (m.1 1)) a.toInt) 6).toInt) ⟨w1.1, w1.2, w2.1, w2.2⟩
  have hm4 : 0 ≤ ((listenM (remM c 1) 1 a.toInt).1 1 3).toInt := by rw [hm3]; unfold mZ; omega
  refine Con_of [some (.ref 0), some (.int a)] (by decide +kernel) (Nat.le_of_ble_eq_true rfl) (fun _ h => h) ?_
  refine J_iload_n (pc := 0) dX3_say_0 rfl ?_
  refine J_callSc (pc := 1) fC_X3_116 dX3_say_1 (c_X3_isWord a.toInt rfl) rfl ⟨Nat.le_of_ble_eq_true rfl, Nat.le_of_ble_eq_true rfl⟩ rfl (Nat.le_of_ble_eq_true rfl) (fun h1 => ?_) (fun h1 => ?_)
  · refine J_if_ne_T (pc := 4) 14 dX3_say_4 (by decide) (by decide) ?_
    refine J_aload_n (pc := 14) dX3_say_14 rfl ?_
    refine J_getR (pc := 15) 1 fF_X3_12 rfl rfl dX3_say_15 ?_
    refine J_getI (pc := 18) fF_X3_78 rfl rfl dX3_say_18 ?_
    refine J_callSz (pc := 21) fC_X3_120 dX3_say_21 (c_X3_beingOf ((m.1 1 6).toInt * 10000 + (m.1 1 1).toInt * 100 + (m.1 1 2).toInt) q3 (by omega)) rfl ⟨Nat.le_of_ble_eq_true rfl, Nat.le_of_ble_eq_true rfl⟩ rfl (Nat.le_of_ble_eq_true rfl) (fun z21 e21 => ?_)
    refine J_if_eqW (pc := 24) (((m.1 1 6).toInt * 10000 + (m.1 1 1).toInt * 100 + (m.1 1 2).toInt) / 10000) e21 34 dX3_say_24 (by decide) (fun h24 => ?_) (fun h24 => ?_)
    · refine J_aload_n (pc := 34) dX3_say_34 rfl ?_
      refine J_getR (pc := 35) 1 fF_X3_12 rfl rfl dX3_say_35 ?_
      refine J_callVv (pc := 38) fC_X3_123 rfl dX3_say_38 (c_X0_remember jarAt_1 (by omega)) rfl ⟨Nat.le_of_ble_eq_true rfl, Nat.le_of_ble_eq_true rfl⟩ rfl (Nat.le_of_ble_eq_true rfl) (fun μ38 m38 => ?_)
      refine J_aload_n (pc := 41) dX3_say_41 rfl ?_
      refine J_getR (pc := 42) 1 fF_X3_12 rfl rfl dX3_say_42 ?_
      refine J_iload_n (pc := 45) dX3_say_45 rfl ?_
      refine J_callVv (pc := 46) fC_X3_126 rfl dX3_say_46 (c_X0_listen jarAt_1 a.toInt rfl (by omega) (by rw [m38, remM_b (by decide)]; omega) (by rw [m38, remM_b (by decide)]; omega)) rfl ⟨Nat.le_of_ble_eq_true rfl, Nat.le_of_ble_eq_true rfl⟩ rfl (Nat.le_of_ble_eq_true rfl) (fun μ46 m46 => ?_)
      refine J_aload_n (pc := 49) dX3_say_49 rfl ?_
      refine J_getR (pc := 50) 1 fF_X3_12 rfl rfl dX3_say_50 ?_
      refine J_getI (pc := 53) fF_X3_78 rfl rfl dX3_say_53 ?_
      refine J_callSz (pc := 56) fC_X3_120 dX3_say_56 (c_X3_beingOf (((listenM (remM c 1) 1 a.toInt).1 1 3).toInt) (by rw [m46, m38]) (by omega)) rfl ⟨Nat.le_of_ble_eq_true rfl, Nat.le_of_ble_eq_true rfl⟩ rfl (Nat.le_of_ble_eq_true rfl) (fun z56 e56 => ?_)
      refine J_iret (pc := 59) dX3_say_59 rfl ?_
      exact Or.inr (Or.inr ⟨by omega, ⟨_, rfl, by rw [e56, hm3, d3]⟩, by rw [m46, m38]⟩)
    · refine J_aload_n (pc := 27) dX3_say_27 rfl ?_
      refine J_bipush (pc := 28) (v := (-3)) dX3_say_28 (by decide) ?_
      refine J_callVim (pc := 30) fC_X3_64 rfl dX3_say_30 (c_X3_refuse3) rfl ⟨Nat.le_of_ble_eq_true rfl, Nat.le_of_ble_eq_true rfl⟩ rfl (Nat.le_of_ble_eq_true rfl) (fun z30 μ30 d30 m30 => ?_)
      refine J_iret (pc := 33) dX3_say_33 rfl ?_
      subst_vars
      first
        | exact Or.inl ⟨by omega, ⟨_, rfl, by first | rfl | omega⟩, by first | rfl | omega⟩
        | exact Or.inr (Or.inl ⟨by omega, ⟨_, rfl, by first | rfl | omega⟩, by first | rfl | omega⟩)
        | exact Or.inr (Or.inr (⟨by omega, ⟨_, rfl, by first | rfl | omega⟩, by first | rfl | omega⟩))
  · refine J_if_ne_F (pc := 4) 14 dX3_say_4 (by decide) (by decide) ?_
    refine J_aload_n (pc := 7) dX3_say_7 rfl ?_
    refine J_bipush (pc := 8) (v := (-2)) dX3_say_8 (by decide) ?_
    refine J_callVim (pc := 10) fC_X3_64 rfl dX3_say_10 (c_X3_refuse2) rfl ⟨Nat.le_of_ble_eq_true rfl, Nat.le_of_ble_eq_true rfl⟩ rfl (Nat.le_of_ble_eq_true rfl) (fun z10 μ10 d10 m10 => ?_)
    refine J_iret (pc := 13) dX3_say_13 rfl ?_
    subst_vars
    first
      | exact Or.inl ⟨by omega, ⟨_, rfl, by first | rfl | omega⟩, by first | rfl | omega⟩
      | exact Or.inr (Or.inl ⟨by omega, ⟨_, rfl, by first | rfl | omega⟩, by first | rfl | omega⟩)
      | exact Or.inr (Or.inr (⟨by omega, ⟨_, rfl, by first | rfl | omega⟩, by first | rfl | omega⟩))
set_option maxRecDepth 100000 in
set_option maxHeartbeats 4000000 in
theorem n_say {N : Int} {c m : JM} (h : Inv N c m) (hN : 150 ≤ N ∧ N < 100000) {a : Int32}  : Con G shM mX4_say [.ref 0, .int a] m (fun v μ' => ((¬(0 ≤ a.toInt ∧ a.toInt ≤ 5)) ∧ IsZ v (-2) ∧ μ' = (jI m 4 0 (m.1 4 0 + 1))) ∨ (((0 ≤ a.toInt ∧ a.toInt ≤ 5) ∧ (m.1 1 6).toInt ≠ 0) ∧ IsZ v (-3) ∧ μ' = (jI m 4 1 (m.1 4 1 + 1))) ∨ (((0 ≤ a.toInt ∧ a.toInt ≤ 5) ∧ (m.1 1 6).toInt = 0) ∧ IsZ v (((listF (remF (m.1 1)) a.toInt) 6).toInt) ∧ eqM (jC m 1 (listF (remF (m.1 1)) a.toInt)) μ')) := by
  obtain ⟨q0, q1, q2, q3, q4, q5, q6⟩ := Inv_q h
  obtain ⟨r0, r1, r2, r3, r4, r5, r6, r15, r40, r9⟩ := Inv_r h
  have hc := h.1
  have qt : (c.1 21 1).toInt = (m.1 0 9).toInt := by rw [h.2.2.2.2.1.1]
  have qs0 : (c.1 0 8).toInt = (m.1 4 0).toInt := by rw [h.2.2.2.2.2.2.1]
  have qs1 : (c.1 0 9).toInt = (m.1 4 1).toInt := by rw [h.2.2.2.2.2.2.2.1]
  have qs2 : (c.1 0 10).toInt = (m.1 4 2).toInt := by rw [h.2.2.2.2.2.2.2.2]
  obtain ⟨-, g1, g2, -, -, g5', -⟩ := wfF_rem h.2.1
  have g5 : 0 ≤ (remF (m.1 1) 5).toInt ∧ (remF (m.1 1) 5).toInt < 1000000 := ⟨g5'.1, by omega⟩
  refine Con_of [some (.ref 0), some (.int a)] (by decide +kernel) (Nat.le_of_ble_eq_true rfl) (fun _ h => h) ?_
  refine J_iload_n (pc := 0) dX4_say_0 rfl ?_
  refine J_i2l (pc := 1) dX4_say_1 rfl ?_
  refine J_lconst (pc := 2) (v := 0) dX4_say_2 (by decide) ?_
  refine J_ldc2 (pc := 3) fK_X4_89 dX4_say_3 ?_
  refine J_callSc (pc := 6) fC_X4_58 dX4_say_6 (c_X4_in a.toInt 0 5 (i2l_z rfl) rfl rfl) rfl ⟨Nat.le_of_ble_eq_true rfl, Nat.le_of_ble_eq_true rfl⟩ rfl (Nat.le_of_ble_eq_true rfl) (fun h6 => ?_) (fun h6 => ?_)
  · refine J_if_ne_T (pc := 9) 19 dX4_say_9 (by decide) (by decide) ?_
    refine J_aload_n (pc := 19) dX4_say_19 rfl ?_
    refine J_getR (pc := 20) 1 fF_X4_7 rfl rfl dX4_say_20 ?_
    refine J_bipush (pc := 23) (v := 6) dX4_say_23 (by decide) ?_
    refine J_ialdW (pc := 25) 6 (rfl) rfl (by decide) dX4_say_25 ?_
    refine J_if_eqW (pc := 26) ((m.1 1 6).toInt) rfl 36 dX4_say_26 (by decide) (fun h26 => ?_) (fun h26 => ?_)
    · refine J_aload_n (pc := 36) dX4_say_36 rfl ?_
      refine J_callVv (pc := 37) fC_X4_168 rfl dX4_say_37 (c_X4_remember (by omega)) rfl ⟨Nat.le_of_ble_eq_true rfl, Nat.le_of_ble_eq_true rfl⟩ rfl (Nat.le_of_ble_eq_true rfl) (fun μ37 m37 => ?_)
      refine J_aload_n (pc := 40) dX4_say_40 rfl ?_
      refine J_callVv (pc := 41) fC_X4_136 rfl dX4_say_41 (c_X4_begin) rfl ⟨Nat.le_of_ble_eq_true rfl, Nat.le_of_ble_eq_true rfl⟩ rfl (Nat.le_of_ble_eq_true rfl) (fun μ41 m41 => ?_)
      refine J_aload_n (pc := 44) dX4_say_44 rfl ?_
      refine J_iload_n (pc := 45) dX4_say_45 rfl ?_
      refine J_iconst (pc := 46) (v := 1) dX4_say_46 (by decide) ?_
      refine J_callVv (pc := 47) fC_X4_139 rfl dX4_say_47 (c_X4_hear1 (by rw [m41, m37]; exact hc) a.toInt rfl (by omega) (by rw [m41, m37]; exact g1) (by rw [m41, m37]; exact g2) (by rw [m41, m37]; exact g5)) rfl ⟨Nat.le_of_ble_eq_true rfl, Nat.le_of_ble_eq_true rfl⟩ rfl (Nat.le_of_ble_eq_true rfl) (fun μ47 m47 => ?_)
      refine J_aload_n (pc := 50) dX4_say_50 rfl ?_
      refine J_callVv (pc := 51) fC_X4_143 rfl dX4_say_51 (c_X4_giveBack) rfl ⟨Nat.le_of_ble_eq_true rfl, Nat.le_of_ble_eq_true rfl⟩ rfl (Nat.le_of_ble_eq_true rfl) (fun μ51 m51 => ?_)
      refine J_aload_n (pc := 54) dX4_say_54 rfl ?_
      refine J_getR (pc := 55) 1 fF_X4_7 rfl rfl dX4_say_55 ?_
      refine J_bipush (pc := 58) (v := 6) dX4_say_58 (by decide) ?_
      refine J_ialdW (pc := 60) 6 (rfl) rfl (by decide) dX4_say_60 ?_
      refine J_iret (pc := 61) dX4_say_61 rfl ?_
      have e : μ51 = giveM (hearM (beginM (jC m 1 (remF (m.1 1)))) a.toInt) := by rw [m51, m47, m41, m37]
      have e2 := sayM_eq (jC m 1 (remF (m.1 1))) a.toInt
      rw [← e, jC_jC, jC_at] at e2
      exact Or.inr (Or.inr ⟨by omega, ⟨_, rfl, by rw [e, sayM_row, jC_at]⟩, e2⟩)
    · refine J_aload_n (pc := 29) dX4_say_29 rfl ?_
      refine J_bipush (pc := 30) (v := (-3)) dX4_say_30 (by decide) ?_
      refine J_callVim (pc := 32) fC_X4_91 rfl dX4_say_32 (c_X4_no3) rfl ⟨Nat.le_of_ble_eq_true rfl, Nat.le_of_ble_eq_true rfl⟩ rfl (Nat.le_of_ble_eq_true rfl) (fun z32 μ32 d32 m32 => ?_)
      refine J_iret (pc := 35) dX4_say_35 rfl ?_
      subst_vars
      first
        | exact Or.inl ⟨by omega, ⟨_, rfl, by first | rfl | omega⟩, by first | rfl | omega⟩
        | exact Or.inr (Or.inl ⟨by omega, ⟨_, rfl, by first | rfl | omega⟩, by first | rfl | omega⟩)
        | exact Or.inr (Or.inr (⟨by omega, ⟨_, rfl, by first | rfl | omega⟩, by first | rfl | omega⟩))
  · refine J_if_ne_F (pc := 9) 19 dX4_say_9 (by decide) (by decide) ?_
    refine J_aload_n (pc := 12) dX4_say_12 rfl ?_
    refine J_bipush (pc := 13) (v := (-2)) dX4_say_13 (by decide) ?_
    refine J_callVim (pc := 15) fC_X4_91 rfl dX4_say_15 (c_X4_no2) rfl ⟨Nat.le_of_ble_eq_true rfl, Nat.le_of_ble_eq_true rfl⟩ rfl (Nat.le_of_ble_eq_true rfl) (fun z15 μ15 d15 m15 => ?_)
    refine J_iret (pc := 18) dX4_say_18 rfl ?_
    subst_vars
    first
      | exact Or.inl ⟨by omega, ⟨_, rfl, by first | rfl | omega⟩, by first | rfl | omega⟩
      | exact Or.inr (Or.inl ⟨by omega, ⟨_, rfl, by first | rfl | omega⟩, by first | rfl | omega⟩)
      | exact Or.inr (Or.inr (⟨by omega, ⟨_, rfl, by first | rfl | omega⟩, by first | rfl | omega⟩))
theorem pr_say {G : JG × JG} {N : Int} {c m : JM} (h : Inv N c m) (hN : 150 ≤ N ∧ N < 100000) {a : Int32} : Pair G N c m mX3_say mX4_say [.int a] := by
  refine ⟨_, _, k_say h hN, n_say h hN, fun v c' w m' hC hM => ?_⟩
  obtain ⟨q0, q1, q2, q3, q4, q5, q6⟩ := Inv_q h
  obtain ⟨r0, r1, r2, r3, r4, r5, r6, r15, r40, r9⟩ := Inv_r h
  have hc := h.1
  have qt : (c.1 21 1).toInt = (m.1 0 9).toInt := by rw [h.2.2.2.2.1.1]
  have qs0 : (c.1 0 8).toInt = (m.1 4 0).toInt := by rw [h.2.2.2.2.2.2.1]
  have qs1 : (c.1 0 9).toInt = (m.1 4 1).toInt := by rw [h.2.2.2.2.2.2.2.1]
  have qs2 : (c.1 0 10).toInt = (m.1 4 2).toInt := by rw [h.2.2.2.2.2.2.2.2]
  rcases hC with ⟨a1, a2, a3⟩ | ⟨a1, a2, a3⟩ | ⟨a1, a2, a3⟩
  · rcases hM with ⟨b1, b2, b3⟩ | ⟨b1, b2, b3⟩ | ⟨b1, b2, b3⟩
    · exact ⟨IsZ_eq a2 b2, by rw [a3, b3]; exact Inv_no (by omega) h 0 (by decide)⟩
    · exfalso; omega
    · exfalso; omega
  · rcases hM with ⟨b1, b2, b3⟩ | ⟨b1, b2, b3⟩ | ⟨b1, b2, b3⟩
    · exfalso; omega
    · exact ⟨IsZ_eq a2 b2, by rw [a3, b3]; exact Inv_no (by omega) h 1 (by decide)⟩
    · exfalso; omega
  · rcases hM with ⟨b1, b2, b3⟩ | ⟨b1, b2, b3⟩ | ⟨b1, b2, b3⟩
    · exfalso; omega
    · exfalso; omega
    · refine ⟨IsZ_eq a2 b2, ?_⟩
      rw [a3]
      have w1 := wfF_rem h.2.1
      refine Inv_row (f := listF (remF (m.1 1)) a.toInt) (by omega) h (fun o ho => ?_) ?_ (by show (remM c 1).2 0 = c.2 0; rw [remM_l]) b3 (jrep_listen w1 (by omega) (jrep_rem h.2.1 h.2.2.1)) (wfF_list w1 (by omega))
      · funext k
        rw [listenM_o (by omega), remM_o (by omega) (by omega) (by omega)]
      · rw [listenM_o (by omega), remM_o (by omega) (by omega) (by omega)]

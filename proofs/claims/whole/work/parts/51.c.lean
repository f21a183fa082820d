/-! ===== read: the class; the model's here, takeNumber ===== -/
abbrev tL (m : JM) : Nat := (m.1 0 9).toInt.toNat
abbrev tT (m : JM) : Nat → Int := fun j => (m.1 5 j).toInt
theorem Inv_TX {N : Int} {c m : JM} (h : Inv N c m) : TX (tL m) (tT m) c := by
  obtain ⟨-, -, -, -, ⟨t1, t2, t3⟩, -⟩ := h
  refine ⟨by rw [t1]; unfold tL; omega, by unfold tL; omega, fun j hj => ?_⟩
  obtain ⟨e1, e2⟩ := t3 j (by unfold tL at hj; omega)
  exact ⟨by rw [e1], e2⟩
noncomputable abbrev parM (m : JM) : (Nat ⊕ (Nat × (Nat → Int32))) := par (tL m) (tT m) 152 0 0 (freR 0 (m.1 1))
def TM (L : Nat) (T : Nat → Int) (ν : JM) : Prop := (ν.1 0 9).toInt = (L : Int) ∧ L ≤ 150 ∧ ∀ j : Nat, j < L → (ν.1 5 j).toInt = T j ∧ 0 ≤ T j ∧ T j ≤ 127
def frH (c μ : JM) : Prop := (∀ k, k ≠ 10 → k ≠ 11 → μ.1 0 k = c.1 0 k) ∧ (∀ o, o ≠ 0 → μ.1 o = c.1 o) ∧ μ.2 = c.2
def frN (c μ : JM) : Prop := (∀ o, o ≠ 0 → μ.1 o = c.1 o) ∧ μ.1 0 9 = c.1 0 9 ∧ μ.2 = c.2
def frR (c μ : JM) : Prop := (∀ o, o ≠ 0 → o ≠ 1 → μ.1 o = c.1 o) ∧ μ.1 0 9 = c.1 0 9 ∧ μ.2 = c.2
theorem frN_tr {a b c : JM} (h : frN a b) (h' : frN b c) : frN a c := ⟨fun o h1 => (h'.1 o h1).trans (h.1 o h1), h'.2.1.trans h.2.1, h'.2.2.trans h.2.2⟩
theorem frR_tr {a b c : JM} (h : frR a b) (h' : frR b c) : frR a c := ⟨fun o h1 h2 => (h'.1 o h1 h2).trans (h.1 o h1 h2), h'.2.1.trans h.2.1, h'.2.2.trans h.2.2⟩
theorem frN_rf (c : JM) : frN c c := ⟨fun _ _ => rfl, rfl, rfl⟩
theorem frR_rf (c : JM) : frR c c := ⟨fun _ _ _ => rfl, rfl, rfl⟩
theorem frR_N {c μ : JM} (h : frN c μ) : frR c μ := ⟨fun o h1 _ => h.1 o h1, h.2⟩
theorem frN_H {c μ : JM} (h : frH c μ) : frN c μ := ⟨h.2.1, h.1 9 (by decide) (by decide), h.2.2⟩
theorem frN_0 {c μ : JM} {k : Nat} {x : Int32} (h : frN c μ) (hk : k ≠ 9) : frN c (jI μ 0 k x) := ⟨fun o h1 => by rw [jI_ne h1]; exact h.1 o h1, by rw [jI_i, if_neg (fun z => hk z.2.symm)]; exact h.2.1, h.2.2⟩
theorem frR_1 {c μ : JM} {k : Nat} {x : Int32} (h : frR c μ) : frR c (jI μ 1 k x) := ⟨fun o h1 h2 => by rw [jI_ne h2]; exact h.1 o h1 h2, by rw [jI_ne (by decide)]; exact h.2.1, h.2.2⟩
theorem TM_R {L : Nat} {T : Nat → Int} {c μ : JM} (h : TM L T c) (hf : frR c μ) : TM L T μ := ⟨by rw [hf.2.1]; exact h.1, h.2.1, fun j hj => by rw [hf.1 5 (by decide) (by decide)]; exact h.2.2 j hj⟩
theorem TM_N {L : Nat} {T : Nat → Int} {c μ : JM} (h : TM L T c) (hf : frN c μ) : TM L T μ := TM_R h (frR_N hf)
variable {G : JG}
set_option maxRecDepth 100000 in
set_option maxHeartbeats 4000000 in
theorem k_read {N : Int} {c m : JM} (h : Inv N c m) (hN : 150 ≤ N ∧ N < 100000)  : Con G shC mX3_read [.ref 0] c (fun v μ' => (∃ q : Nat, parM m = .inl q ∧ IsZ v (-10 - (q : Int)) ∧ frD c μ') ∨ (∃ (k : Nat) (f' : Nat → Int32), parM m = .inr (k, f') ∧ IsZ v (k : Int) ∧ jrep μ' 1 f' ∧ wfF 150 f' ∧ (∀ o, (11 ≤ o ∧ o ≤ 20) ∨ o = 22 ∨ o = 0 → μ'.1 o = c.1 o) ∧ μ'.1 21 1 = c.1 21 1 ∧ μ'.2 = c.2)) := by
  obtain ⟨q0, q1, q2, q3, q4, q5, q6⟩ := Inv_q h
  obtain ⟨r0, r1, r2, r3, r4, r5, r6, r15, r40, r9⟩ := Inv_r h
  have hc := h.1
  have qt : (c.1 21 1).toInt = (m.1 0 9).toInt := by rw [h.2.2.2.2.1.1]
  have qs0 : (c.1 0 8).toInt = (m.1 4 0).toInt := by rw [h.2.2.2.2.2.2.1]
  have qs1 : (c.1 0 9).toInt = (m.1 4 1).toInt := by rw [h.2.2.2.2.2.2.2.1]
  have qs2 : (c.1 0 10).toInt = (m.1 4 2).toInt := by rw [h.2.2.2.2.2.2.2.2]
  refine Con_of [some (.ref 0), none] (by decide +kernel) (Nat.le_of_ble_eq_true rfl) (fun _ h => h) ?_
  refine J_aload_n (pc := 0) dX3_read_0 rfl ?_
  refine J_getR (pc := 1) 21 fF_X3_28 rfl rfl dX3_read_1 ?_
  refine J_aload_n (pc := 4) dX3_read_4 rfl ?_
  refine J_getR (pc := 5) 6 fF_X3_16 rfl rfl dX3_read_5 ?_
  refine J_callSq (pc := 8) fC_X3_105 dX3_read_8 (c_X3_readItems (Inv_TX h) (m.1 1)) rfl ⟨Nat.le_of_ble_eq_true rfl, Nat.le_of_ble_eq_true rfl⟩ rfl (Nat.le_of_ble_eq_true rfl) (fun v8 μ8 q8 => ?_)
  obtain ⟨⟨q, e1, ⟨z8, rfl, e8⟩, e2, e5⟩ | ⟨k, f1, e1, ⟨z8, rfl, e8⟩, e2, e4⟩, e3⟩ := q8
  · refine J_istore_n (pc := 11) (lv' := [some (.ref 0), some (.int z8)]) dX3_read_11 (Nat.le_of_ble_eq_true rfl) rfl rfl ?_
    refine J_iload_n (pc := 12) dX3_read_12 rfl ?_
    refine J_iconst (pc := 13) (v := (-1)) dX3_read_13 (by decide) ?_
    refine J_icmp_ne_F (pc := 14) 28 dX3_read_14 (by decide) (z_eq e8) ?_
    refine J_bipush (pc := 17) (v := (-10)) dX3_read_17 (by decide) ?_
    refine J_aload_n (pc := 19) dX3_read_19 rfl ?_
    refine J_getR (pc := 20) 21 fF_X3_28 rfl rfl dX3_read_20 ?_
    refine J_getI (pc := 23) fF_X3_109 rfl rfl dX3_read_23 ?_
    refine J_isubW (pc := 26) (-10) (q : Int) rfl e2 dX3_read_26 (by omega) (fun z26 e26 => ?_)
    refine J_iret (pc := 27) dX3_read_27 rfl ?_
    exact Or.inl ⟨q, e1, ⟨_, rfl, by omega⟩, e3⟩
  · refine J_istore_n (pc := 11) (lv' := [some (.ref 0), some (.int z8)]) dX3_read_11 (Nat.le_of_ble_eq_true rfl) rfl rfl ?_
    refine J_iload_n (pc := 12) dX3_read_12 rfl ?_
    refine J_iconst (pc := 13) (v := (-1)) dX3_read_13 (by decide) ?_
    refine J_icmp_ne_T (pc := 14) 28 dX3_read_14 (by decide) (fun z => by rw [z] at e8; have t : (-1 : Int32).toInt = -1 := (by decide); omega) ?_
    refine J_aload_n (pc := 28) dX3_read_28 rfl ?_
    refine J_getR (pc := 29) 1 fF_X3_12 rfl rfl dX3_read_29 ?_
    refine J_aload_n (pc := 32) dX3_read_32 rfl ?_
    refine J_getR (pc := 33) 6 fF_X3_16 rfl rfl dX3_read_33 ?_
    refine J_callVv (pc := 36) fC_X3_112 rfl dX3_read_36 (c_X0_take jarAt_1 jarAt_6) rfl ⟨Nat.le_of_ble_eq_true rfl, Nat.le_of_ble_eq_true rfl⟩ rfl (Nat.le_of_ble_eq_true rfl) (fun μ36 m36 => ?_)
    refine J_iload_n (pc := 39) dX3_read_39 rfl ?_
    refine J_iret (pc := 40) dX3_read_40 rfl ?_
    refine Or.inr ⟨k, f1, e1, ⟨_, rfl, e8⟩, ?_, e4, fun o ho => ?_, ?_, ?_⟩
    · rw [m36]; exact jrep_take e4 (by omega) e2
    · rw [m36, takeM_o (by omega) (by omega) (by omega) (by omega) (by omega)]; exact e3.1 o (by omega) (by omega)
    · rw [m36, takeM_o (by omega) (by omega) (by omega) (by omega) (by omega)]; exact e3.2.1
    · rw [m36, takeM_l]; exact e3.2.2
set_option maxRecDepth 100000 in
set_option maxHeartbeats 4000000 in
theorem l_here {c : JM} {L : Nat} {T : Nat → Int} {i0 : Nat} : ∀ d : Nat, ∀ (i : Nat) (μ : JM), L ≤ i + d → i ≤ L → SK L T i0 = skp L T d i → (μ.1 0 10).toInt = (i : Int) → TM L T μ → frH c μ → J G shM mX4_here 0 [some (.ref 0)] [] μ (fun v μ' => IsZ v (byt L T (SK L T i0)) ∧ (μ'.1 0 10).toInt = (SK L T i0 : Nat) ∧ (μ'.1 0 11).toInt = (SK L T i0 : Nat) ∧ frH c μ') := by
  intro d
  induction d with
  | zero =>
    intro i μ hd hi hsk hn hT2 hfr
    have hL150 := hT2.2.1
    refine J_aload_n (pc := 0) dX4_here_0 rfl ?_
    refine J_getI (pc := 1) fF_X4_105 rfl rfl dX4_here_1 ?_
    refine J_aload_n (pc := 4) dX4_here_4 rfl ?_
    refine J_getI (pc := 5) fF_X4_102 rfl rfl dX4_here_5 ?_
    refine J_icmp_geW (pc := 8) (i : Int) (L : Int) hn hT2.1 38 dX4_here_8 (by decide) (fun h8 => ?_) (fun h8 => ?_)
    · have hi0 : SK L T i0 = i := by rw [hsk]; rfl
      rw [hi0]
      refine J_aload_n (pc := 38) dX4_here_38 rfl ?_
      refine J_aload_n (pc := 39) dX4_here_39 rfl ?_
      refine J_getI (pc := 40) fF_X4_105 rfl rfl dX4_here_40 ?_
      refine J_putIW (pc := 43) fF_X4_108 rfl rfl dX4_here_43 (fun μ43 m43 => ?_)
      have hn43 : (μ43.1 0 10).toInt = (i : Int) := by rw [m43, jI_i, if_neg (by decide)]; exact hn
      have hs43 : (μ43.1 0 11).toInt = (i : Int) := by rw [m43, jI_i, if_pos ⟨rfl, rfl⟩]; exact hn
      have hL43 : (μ43.1 0 9).toInt = (L : Int) := by rw [m43, jI_i, if_neg (by decide)]; exact hT2.1
      have ht43 : i < L → (μ43.1 5 i).toInt = T i := fun hl => by rw [m43, jI_ne (by decide)]; exact (hT2.2.2 i hl).1
      have hf43 : frH c μ43 := ⟨fun k h1 h2 => by rw [m43, jI_i, if_neg (fun z => h2 z.2)]; exact hfr.1 k h1 h2, fun o h1 => by rw [m43, jI_ne h1]; exact hfr.2.1 o h1, by rw [m43]; exact hfr.2.2⟩
      refine J_aload_n (pc := 46) dX4_here_46 rfl ?_
      refine J_getI (pc := 47) fF_X4_105 rfl rfl dX4_here_47 ?_
      refine J_aload_n (pc := 50) dX4_here_50 rfl ?_
      refine J_getI (pc := 51) fF_X4_102 rfl rfl dX4_here_51 ?_
      refine J_icmp_geW (pc := 54) (i : Int) (L : Int) hn43 hL43 69 dX4_here_54 (by decide) (fun h54 => ?_) (fun h54 => ?_)
      · refine J_iconst (pc := 69) (v := (-1)) dX4_here_69 (by decide) ?_
        refine J_iret (pc := 70) dX4_here_70 rfl ?_
        exact ⟨⟨_, rfl, by unfold byt; rw [if_neg (by omega)]; rfl⟩, hn43, hs43, hf43⟩
      · refine J_aload_n (pc := 57) dX4_here_57 rfl ?_
        refine J_getR (pc := 58) 5 fF_X4_22 rfl rfl dX4_here_58 ?_
        refine J_aload_n (pc := 61) dX4_here_61 rfl ?_
        refine J_getI (pc := 62) fF_X4_105 rfl rfl dX4_here_62 ?_
        refine J_ialdW (pc := 65) i (by have q := hn43; omega) rfl (by omega) dX4_here_65 ?_
        refine J_goto (pc := 66) 70 dX4_here_66 (by decide) ?_
        refine J_iret (pc := 70) dX4_here_70 rfl ?_
        exact ⟨⟨_, rfl, by unfold byt; rw [if_pos (by omega)]; exact ht43 (by omega)⟩, hn43, hs43, hf43⟩
    · exfalso; omega
  | succ d ih =>
    intro i μ hd hi hsk hn hT2 hfr
    have hL150 := hT2.2.1
    refine J_aload_n (pc := 0) dX4_here_0 rfl ?_
    refine J_getI (pc := 1) fF_X4_105 rfl rfl dX4_here_1 ?_
    refine J_aload_n (pc := 4) dX4_here_4 rfl ?_
    refine J_getI (pc := 5) fF_X4_102 rfl rfl dX4_here_5 ?_
    refine J_icmp_geW (pc := 8) (i : Int) (L : Int) hn hT2.1 38 dX4_here_8 (by decide) (fun h8 => ?_) (fun h8 => ?_)
    · have hi0 : SK L T i0 = i := by rw [hsk, skp, if_neg (by omega)]
      rw [hi0]
      refine J_aload_n (pc := 38) dX4_here_38 rfl ?_
      refine J_aload_n (pc := 39) dX4_here_39 rfl ?_
      refine J_getI (pc := 40) fF_X4_105 rfl rfl dX4_here_40 ?_
      refine J_putIW (pc := 43) fF_X4_108 rfl rfl dX4_here_43 (fun μ43 m43 => ?_)
      have hn43 : (μ43.1 0 10).toInt = (i : Int) := by rw [m43, jI_i, if_neg (by decide)]; exact hn
      have hs43 : (μ43.1 0 11).toInt = (i : Int) := by rw [m43, jI_i, if_pos ⟨rfl, rfl⟩]; exact hn
      have hL43 : (μ43.1 0 9).toInt = (L : Int) := by rw [m43, jI_i, if_neg (by decide)]; exact hT2.1
      have ht43 : i < L → (μ43.1 5 i).toInt = T i := fun hl => by rw [m43, jI_ne (by decide)]; exact (hT2.2.2 i hl).1
      have hf43 : frH c μ43 := ⟨fun k h1 h2 => by rw [m43, jI_i, if_neg (fun z => h2 z.2)]; exact hfr.1 k h1 h2, fun o h1 => by rw [m43, jI_ne h1]; exact hfr.2.1 o h1, by rw [m43]; exact hfr.2.2⟩
      refine J_aload_n (pc := 46) dX4_here_46 rfl ?_
      refine J_getI (pc := 47) fF_X4_105 rfl rfl dX4_here_47 ?_
      refine J_aload_n (pc := 50) dX4_here_50 rfl ?_
      refine J_getI (pc := 51) fF_X4_102 rfl rfl dX4_here_51 ?_
      refine J_icmp_geW (pc := 54) (i : Int) (L : Int) hn43 hL43 69 dX4_here_54 (by decide) (fun h54 => ?_) (fun h54 => ?_)
      · refine J_iconst (pc := 69) (v := (-1)) dX4_here_69 (by decide) ?_
        refine J_iret (pc := 70) dX4_here_70 rfl ?_
        exact ⟨⟨_, rfl, by unfold byt; rw [if_neg (by omega)]; rfl⟩, hn43, hs43, hf43⟩
      · refine J_aload_n (pc := 57) dX4_here_57 rfl ?_
        refine J_getR (pc := 58) 5 fF_X4_22 rfl rfl dX4_here_58 ?_
        refine J_aload_n (pc := 61) dX4_here_61 rfl ?_
        refine J_getI (pc := 62) fF_X4_105 rfl rfl dX4_here_62 ?_
        refine J_ialdW (pc := 65) i (by have q := hn43; omega) rfl (by omega) dX4_here_65 ?_
        refine J_goto (pc := 66) 70 dX4_here_66 (by decide) ?_
        refine J_iret (pc := 70) dX4_here_70 rfl ?_
        exact ⟨⟨_, rfl, by unfold byt; rw [if_pos (by omega)]; exact ht43 (by omega)⟩, hn43, hs43, hf43⟩
    · refine J_aload_n (pc := 11) dX4_here_11 rfl ?_
      refine J_getR (pc := 12) 5 fF_X4_22 rfl rfl dX4_here_12 ?_
      refine J_aload_n (pc := 15) dX4_here_15 rfl ?_
      refine J_getI (pc := 16) fF_X4_105 rfl rfl dX4_here_16 ?_
      refine J_ialdW (pc := 19) i (by have q := hn; omega) rfl (by omega) dX4_here_19 ?_
      refine J_bipush (pc := 20) (v := 32) dX4_here_20 (by decide) ?_
      refine J_icmp_neW (pc := 22) (T i) 32 ((hT2.2.2 i (by omega)).1) rfl 38 dX4_here_22 (by decide) (fun h22 => ?_) (fun h22 => ?_)
      · have hi0 : SK L T i0 = i := by rw [hsk, skp, if_neg (by omega)]
        rw [hi0]
        refine J_aload_n (pc := 38) dX4_here_38 rfl ?_
        refine J_aload_n (pc := 39) dX4_here_39 rfl ?_
        refine J_getI (pc := 40) fF_X4_105 rfl rfl dX4_here_40 ?_
        refine J_putIW (pc := 43) fF_X4_108 rfl rfl dX4_here_43 (fun μ43 m43 => ?_)
        have hn43 : (μ43.1 0 10).toInt = (i : Int) := by rw [m43, jI_i, if_neg (by decide)]; exact hn
        have hs43 : (μ43.1 0 11).toInt = (i : Int) := by rw [m43, jI_i, if_pos ⟨rfl, rfl⟩]; exact hn
        have hL43 : (μ43.1 0 9).toInt = (L : Int) := by rw [m43, jI_i, if_neg (by decide)]; exact hT2.1
        have ht43 : i < L → (μ43.1 5 i).toInt = T i := fun hl => by rw [m43, jI_ne (by decide)]; exact (hT2.2.2 i hl).1
        have hf43 : frH c μ43 := ⟨fun k h1 h2 => by rw [m43, jI_i, if_neg (fun z => h2 z.2)]; exact hfr.1 k h1 h2, fun o h1 => by rw [m43, jI_ne h1]; exact hfr.2.1 o h1, by rw [m43]; exact hfr.2.2⟩
        refine J_aload_n (pc := 46) dX4_here_46 rfl ?_
        refine J_getI (pc := 47) fF_X4_105 rfl rfl dX4_here_47 ?_
        refine J_aload_n (pc := 50) dX4_here_50 rfl ?_
        refine J_getI (pc := 51) fF_X4_102 rfl rfl dX4_here_51 ?_
        refine J_icmp_geW (pc := 54) (i : Int) (L : Int) hn43 hL43 69 dX4_here_54 (by decide) (fun h54 => ?_) (fun h54 => ?_)
        · refine J_iconst (pc := 69) (v := (-1)) dX4_here_69 (by decide) ?_
          refine J_iret (pc := 70) dX4_here_70 rfl ?_
          exact ⟨⟨_, rfl, by unfold byt; rw [if_neg (by omega)]; rfl⟩, hn43, hs43, hf43⟩
        · refine J_aload_n (pc := 57) dX4_here_57 rfl ?_
          refine J_getR (pc := 58) 5 fF_X4_22 rfl rfl dX4_here_58 ?_
          refine J_aload_n (pc := 61) dX4_here_61 rfl ?_
          refine J_getI (pc := 62) fF_X4_105 rfl rfl dX4_here_62 ?_
          refine J_ialdW (pc := 65) i (by have q := hn43; omega) rfl (by omega) dX4_here_65 ?_
          refine J_goto (pc := 66) 70 dX4_here_66 (by decide) ?_
          refine J_iret (pc := 70) dX4_here_70 rfl ?_
          exact ⟨⟨_, rfl, by unfold byt; rw [if_pos (by omega)]; exact ht43 (by omega)⟩, hn43, hs43, hf43⟩
      · refine J_aload_n (pc := 25) dX4_here_25 rfl ?_
        refine J_dup (pc := 26) dX4_here_26 rfl ?_
        refine J_getI (pc := 27) fF_X4_105 rfl rfl dX4_here_27 ?_
        refine J_iconst (pc := 30) (v := 1) dX4_here_30 (by decide) ?_
        refine J_iaddW (pc := 31) (i : Int) 1 hn rfl dX4_here_31 (by omega) (fun z31 e31 => ?_)
        refine J_putIW (pc := 32) fF_X4_105 rfl rfl dX4_here_32 (fun μ32 m32 => ?_)
        refine J_goto (pc := 35) 0 dX4_here_35 (by decide) ?_
        exact ih (i + 1) μ32 (by omega) (by omega) (by rw [hsk, skp, if_pos ⟨by omega, by omega⟩]) (by rw [m32, jI_i, if_pos ⟨rfl, rfl⟩]; omega) (TM_N hT2 (by rw [m32]; exact frN_0 (frN_rf μ) (by decide))) ⟨fun k h1 h2 => by rw [m32, jI_i, if_neg (fun z => h1 z.2)]; exact hfr.1 k h1 h2, fun o h1 => by rw [m32, jI_ne h1]; exact hfr.2.1 o h1, by rw [m32]; exact hfr.2.2⟩
set_option maxRecDepth 100000 in
set_option maxHeartbeats 4000000 in
theorem c_X4_here {c : JM} {L : Nat} {T : Nat → Int} (hT : TM L T c) {i : Nat} (hn : (c.1 0 10).toInt = (i : Int)) (hi : i ≤ L) : Con G shM mX4_here [.ref 0] c (fun v μ' => IsZ v (byt L T (SK L T i)) ∧ (μ'.1 0 10).toInt = (SK L T i : Nat) ∧ (μ'.1 0 11).toInt = (SK L T i : Nat) ∧ frH c μ') := by
  refine Con_of [some (.ref 0)] (by decide +kernel) (Nat.le_of_ble_eq_true rfl) (fun _ h => h) ?_
  exact l_here 151 i c (by have := hT.2.1; omega) hi rfl hn hT ⟨fun _ _ _ => rfl, fun _ _ => rfl, rfl⟩
set_option maxRecDepth 100000 in
set_option maxHeartbeats 4000000 in
theorem c_X4_wrong {c : JM} (h12 : (c.1 0 12).toInt < 0) : Con G shM mX4_wrong [.ref 0] c (j_is none (jI c 0 12 (c.1 0 11))) := by
  refine Con_of [some (.ref 0)] (by decide +kernel) (Nat.le_of_ble_eq_true rfl) (fun _ h => h) ?_
  refine J_aload_n (pc := 0) dX4_wrong_0 rfl ?_
  refine J_aload_n (pc := 1) dX4_wrong_1 rfl ?_
  refine J_getI (pc := 2) fF_X4_111 rfl rfl dX4_wrong_2 ?_
  refine J_if_geW (pc := 5) ((c.1 0 12).toInt) rfl 15 dX4_wrong_5 (by decide) (fun h5 => ?_) (fun h5 => ?_)
  · exfalso; omega
  · refine J_aload_n (pc := 8) dX4_wrong_8 rfl ?_
    refine J_getI (pc := 9) fF_X4_108 rfl rfl dX4_wrong_9 ?_
    refine J_goto (pc := 12) 19 dX4_wrong_12 (by decide) ?_
    refine J_putIW (pc := 19) fF_X4_111 rfl rfl dX4_wrong_19 (fun μ19 m19 => ?_)
    refine J_vret (pc := 22) dX4_wrong_22 rfl ?_
    exact ⟨rfl, m19⟩
def nm (T : Nat → Int) (s i : Nat) : Int := if i ≤ s + 2 then nv0 T s i else 1000
theorem FN_0 {L : Nat} {T : Nat → Int} {i : Nat} (h : ¬ (i < L ∧ (48 ≤ T i ∧ T i ≤ 57))) : FN L T i = i := by unfold FN; rw [frn, if_neg h]
def frK (c μ : JM) : Prop := (∀ k, k ≠ 10 → k ≠ 13 → μ.1 0 k = c.1 0 k) ∧ (∀ o, o ≠ 0 → μ.1 o = c.1 o) ∧ μ.2 = c.2
theorem frN_K {c μ : JM} (h : frK c μ) : frN c μ := ⟨h.2.1, h.1 9 (by decide) (by decide), h.2.2⟩
set_option maxRecDepth 100000 in
set_option maxHeartbeats 4000000 in
theorem l_tn {c : JM} {L : Nat} {T : Nat → Int} {s : Nat} {av bv cv : Int32} {Q : Option Value → JM → Prop} : ∀ d : Nat, ∀ (i : Nat) (fv : Int32) (μ : JM), s ≤ i → L ≤ i + d → i ≤ L → (μ.1 0 10).toInt = (i : Int) → fv.toInt = (i : Int) - (s : Int) → (μ.1 0 13).toInt = nm T s i → (∀ q, s ≤ q → q < i → 48 ≤ T q ∧ T q ≤ 57) → TM L T μ → frK c μ → (∀ (μ' : JM) (fv' : Int32), (μ'.1 0 10).toInt = (frn L T d i : Nat) → fv'.toInt = (frn L T d i : Nat) - (s : Int) → (μ'.1 0 13).toInt = nm T s (frn L T d i) → frK c μ' → J G shM mX4_takeNumber 107 [some (.ref 0), some (.int av), some (.int bv), some (.int cv), some (.int fv')] [] μ' Q) → J G shM mX4_takeNumber 22 [some (.ref 0), some (.int av), some (.int bv), some (.int cv), some (.int fv)] [] μ Q := by
  intro d
  induction d with
  | zero =>
    intro i fv μ hsi hd hi hn hf hx hdg hT2 hfr hk2
    have hL150 := hT2.2.1
    refine J_aload_n (pc := 22) dX4_takeNumber_22 rfl ?_
    refine J_getI (pc := 23) fF_X4_105 rfl rfl dX4_takeNumber_23 ?_
    refine J_aload_n (pc := 26) dX4_takeNumber_26 rfl ?_
    refine J_getI (pc := 27) fF_X4_102 rfl rfl dX4_takeNumber_27 ?_
    refine J_icmp_geW (pc := 30) (i : Int) (L : Int) hn hT2.1 107 dX4_takeNumber_30 (by decide) (fun h30 => ?_) (fun h30 => ?_)
    · have efr : frn L T 0 i = i := by rfl
      rw [efr] at hk2
      exact J_lv' (lv' := [some (.ref 0), some (.int av), some (.int bv), some (.int cv), some (.int fv)]) (by repeat' constructor) (hk2 μ fv hn hf hx hfr)
    · exfalso; omega
  | succ d ih =>
    intro i fv μ hsi hd hi hn hf hx hdg hT2 hfr hk2
    have hL150 := hT2.2.1
    refine J_aload_n (pc := 22) dX4_takeNumber_22 rfl ?_
    refine J_getI (pc := 23) fF_X4_105 rfl rfl dX4_takeNumber_23 ?_
    refine J_aload_n (pc := 26) dX4_takeNumber_26 rfl ?_
    refine J_getI (pc := 27) fF_X4_102 rfl rfl dX4_takeNumber_27 ?_
    refine J_icmp_geW (pc := 30) (i : Int) (L : Int) hn hT2.1 107 dX4_takeNumber_30 (by decide) (fun h30 => ?_) (fun h30 => ?_)
    · have efr : frn L T (d + 1) i = i := by rw [frn, if_neg (by first | omega | (intro h; exact absurd h.2 (by assumption)))]
      rw [efr] at hk2
      exact J_lv' (lv' := [some (.ref 0), some (.int av), some (.int bv), some (.int cv), some (.int fv)]) (by repeat' constructor) (hk2 μ fv hn hf hx hfr)
    · refine J_aload_n (pc := 33) dX4_takeNumber_33 rfl ?_
      refine J_getR (pc := 34) 5 fF_X4_22 rfl rfl dX4_takeNumber_34 ?_
      refine J_aload_n (pc := 37) dX4_takeNumber_37 rfl ?_
      refine J_getI (pc := 38) fF_X4_105 rfl rfl dX4_takeNumber_38 ?_
      refine J_ialdW (pc := 41) i (by have q := hn; omega) rfl (by omega) dX4_takeNumber_41 ?_
      refine J_i2l (pc := 42) dX4_takeNumber_42 rfl ?_
      refine J_ldc2 (pc := 43) fK_X4_121 dX4_takeNumber_43 ?_
      refine J_ldc2 (pc := 46) fK_X4_123 dX4_takeNumber_46 ?_
      refine J_callSc (pc := 49) fC_X4_58 dX4_takeNumber_49 (c_X4_in (T i) 48 57 (i2l_z ((hT2.2.2 i (by omega)).1)) rfl rfl) rfl ⟨Nat.le_of_ble_eq_true rfl, Nat.le_of_ble_eq_true rfl⟩ rfl (Nat.le_of_ble_eq_true rfl) (fun h49 => ?_) (fun h49 => ?_)
      · refine J_if_eq_F (pc := 52) 107 dX4_takeNumber_52 (by decide) (by decide) ?_
        refine J_aload_n (pc := 55) dX4_takeNumber_55 rfl ?_
        refine J_iload (pc := 56) dX4_takeNumber_56 rfl ?_
        refine J_iconst (pc := 58) (v := 2) dX4_takeNumber_58 (by decide) ?_
        refine J_icmp_geW (pc := 59) ((i : Int) - (s : Int)) 2 hf rfl 85 dX4_takeNumber_59 (by decide) (fun h59 => ?_) (fun h59 => ?_)
        · refine J_sipush (pc := 85) (v := 1000) dX4_takeNumber_85 (by decide) ?_
          refine J_putIW (pc := 88) fF_X4_114 rfl rfl dX4_takeNumber_88 (fun μ88 m88 => ?_)
          refine J_iincW' (pc := 91) ((i : Int) - (s : Int)) hf (lv' := fun iq_ => [some (.ref 0), some (.int av), some (.int bv), some (.int cv), some (.int iq_)]) dX4_takeNumber_91 rfl (by omega) (by decide) (Nat.le_of_ble_eq_true rfl) rfl (fun _ => rfl) (fun z91 e91 => ?_)
          refine J_aload_n (pc := 94) dX4_takeNumber_94 rfl ?_
          refine J_dup (pc := 95) dX4_takeNumber_95 rfl ?_
          refine J_getI (pc := 96) fF_X4_105 rfl rfl dX4_takeNumber_96 ?_
          refine J_iconst (pc := 99) (v := 1) dX4_takeNumber_99 (by decide) ?_
          refine J_iaddW (pc := 100) (i : Int) 1 (show (μ88.1 0 10).toInt = (i : Int) by simp [m88, jI_i]; exact hn) rfl dX4_takeNumber_100 (by omega) (fun z100 e100 => ?_)
          refine J_putIW (pc := 101) fF_X4_105 rfl rfl dX4_takeNumber_101 (fun μ101 m101 => ?_)
          refine J_goto (pc := 104) 22 dX4_takeNumber_104 (by decide) ?_
          have hlet : i < L ∧ (48 ≤ T i ∧ T i ≤ 57) := ⟨by omega, by assumption⟩
          have hdg2 : ∀ q, s ≤ q → q ≤ i → 48 ≤ T q ∧ T q ≤ 57 := fun q h1 h2 => by rcases (by omega : q < i ∨ q = i) with h3 | rfl; exact hdg q h1 h3; exact hlet.2
          rw [frn, if_pos hlet] at hk2
          refine J_lv' (lv' := [some (.ref 0), some (.int av), some (.int bv), some (.int cv), some (.int z91)]) (by repeat' constructor) (ih (i + 1) z91 μ101 (by omega) (by omega) (by omega) (by rw [m101, jI_i, if_pos ⟨rfl, rfl⟩]; omega) (by omega) ?_ (fun q h1 h2 => hdg2 q h1 (by omega)) (TM_N hT2 (by rw [m101, m88]; exact frN_0 (frN_0 (frN_rf μ) (by decide)) (by decide))) ⟨fun k h1 h2 => by rw [m101, jI_i, if_neg (fun z => h1 z.2), m88, jI_i, if_neg (fun z => h2 z.2)]; exact hfr.1 k h1 h2, fun o h1 => by rw [m101, jI_ne h1, m88, jI_ne h1]; exact hfr.2.1 o h1, by rw [m101, m88]; exact hfr.2.2⟩ hk2)
          rw [m101, jI_i, if_neg (by decide), m88, jI_i, if_pos ⟨rfl, rfl⟩]
          have t0 := hdg2 s (Nat.le_refl _) hsi
          unfold nm nv0
          first | (show (1000 : Int32).toInt = _; rw [if_neg (by omega)]; rfl) | (rw [if_pos (by omega)]; unfold nm nv0 at *; rcases (by omega : i = s ∨ i = s + 1) with rfl | rfl; omega; omega)
        · refine J_bipush (pc := 62) (v := 10) dX4_takeNumber_62 (by decide) ?_
          refine J_aload_n (pc := 64) dX4_takeNumber_64 rfl ?_
          refine J_getI (pc := 65) fF_X4_114 rfl rfl dX4_takeNumber_65 ?_
          refine J_imulW (pc := 68) 10 (nm T s i) rfl hx dX4_takeNumber_68 (by have t0 := hdg s (Nat.le_refl _); unfold nm nv0; omega) (fun z68 e68 => ?_)
          refine J_aload_n (pc := 69) dX4_takeNumber_69 rfl ?_
          refine J_getR (pc := 70) 5 fF_X4_22 rfl rfl dX4_takeNumber_70 ?_
          refine J_aload_n (pc := 73) dX4_takeNumber_73 rfl ?_
          refine J_getI (pc := 74) fF_X4_105 rfl rfl dX4_takeNumber_74 ?_
          refine J_ialdW (pc := 77) i (by have q := hn; omega) rfl (by omega) dX4_takeNumber_77 ?_
          refine J_iaddW (pc := 78) (10 * (nm T s i)) (T i) e68 ((hT2.2.2 i (by omega)).1) dX4_takeNumber_78 (by have t0 := hdg s (Nat.le_refl _); unfold nm nv0; omega) (fun z78 e78 => ?_)
          refine J_bipush (pc := 79) (v := 48) dX4_takeNumber_79 (by decide) ?_
          refine J_isubW (pc := 81) ((10 * (nm T s i)) + (T i)) 48 e78 rfl dX4_takeNumber_81 (by have t0 := hdg s (Nat.le_refl _); unfold nm nv0; omega) (fun z81 e81 => ?_)
          refine J_goto (pc := 82) 88 dX4_takeNumber_82 (by decide) ?_
          refine J_putIW (pc := 88) fF_X4_114 rfl rfl dX4_takeNumber_88 (fun μ88 m88 => ?_)
          refine J_iincW' (pc := 91) ((i : Int) - (s : Int)) hf (lv' := fun iq_ => [some (.ref 0), some (.int av), some (.int bv), some (.int cv), some (.int iq_)]) dX4_takeNumber_91 rfl (by omega) (by decide) (Nat.le_of_ble_eq_true rfl) rfl (fun _ => rfl) (fun z91 e91 => ?_)
          refine J_aload_n (pc := 94) dX4_takeNumber_94 rfl ?_
          refine J_dup (pc := 95) dX4_takeNumber_95 rfl ?_
          refine J_getI (pc := 96) fF_X4_105 rfl rfl dX4_takeNumber_96 ?_
          refine J_iconst (pc := 99) (v := 1) dX4_takeNumber_99 (by decide) ?_
          refine J_iaddW (pc := 100) (i : Int) 1 (show (μ88.1 0 10).toInt = (i : Int) by simp [m88, jI_i]; exact hn) rfl dX4_takeNumber_100 (by omega) (fun z100 e100 => ?_)
          refine J_putIW (pc := 101) fF_X4_105 rfl rfl dX4_takeNumber_101 (fun μ101 m101 => ?_)
          refine J_goto (pc := 104) 22 dX4_takeNumber_104 (by decide) ?_
          have hlet : i < L ∧ (48 ≤ T i ∧ T i ≤ 57) := ⟨by omega, by assumption⟩
          have hdg2 : ∀ q, s ≤ q → q ≤ i → 48 ≤ T q ∧ T q ≤ 57 := fun q h1 h2 => by rcases (by omega : q < i ∨ q = i) with h3 | rfl; exact hdg q h1 h3; exact hlet.2
          rw [frn, if_pos hlet] at hk2
          refine J_lv' (lv' := [some (.ref 0), some (.int av), some (.int bv), some (.int cv), some (.int z91)]) (by repeat' constructor) (ih (i + 1) z91 μ101 (by omega) (by omega) (by omega) (by rw [m101, jI_i, if_pos ⟨rfl, rfl⟩]; omega) (by omega) ?_ (fun q h1 h2 => hdg2 q h1 (by omega)) (TM_N hT2 (by rw [m101, m88]; exact frN_0 (frN_0 (frN_rf μ) (by decide)) (by decide))) ⟨fun k h1 h2 => by rw [m101, jI_i, if_neg (fun z => h1 z.2), m88, jI_i, if_neg (fun z => h2 z.2)]; exact hfr.1 k h1 h2, fun o h1 => by rw [m101, jI_ne h1, m88, jI_ne h1]; exact hfr.2.1 o h1, by rw [m101, m88]; exact hfr.2.2⟩ hk2)
          rw [m101, jI_i, if_neg (by decide), m88, jI_i, if_pos ⟨rfl, rfl⟩]
          have t0 := hdg2 s (Nat.le_refl _) hsi
          unfold nm nv0
          first | (show (1000 : Int32).toInt = _; rw [if_neg (by omega)]; rfl) | (rw [if_pos (by omega)]; unfold nm nv0 at *; rcases (by omega : i = s ∨ i = s + 1) with rfl | rfl; omega; omega)
      · refine J_if_eq_T (pc := 52) 107 dX4_takeNumber_52 (by decide) (by decide) ?_
        have efr : frn L T (d + 1) i = i := by rw [frn, if_neg (by first | omega | (intro h; exact absurd h.2 (by assumption)))]
        rw [efr] at hk2
        exact J_lv' (lv' := [some (.ref 0), some (.int av), some (.int bv), some (.int cv), some (.int fv)]) (by repeat' constructor) (hk2 μ fv hn hf hx hfr)
set_option maxRecDepth 100000 in
set_option maxHeartbeats 4000000 in
theorem c_X4_takeNumber {c : JM} {L : Nat} {T : Nat → Int} (hT : TM L T c) {i : Nat} (hn : (c.1 0 10).toInt = (i : Int)) (hi0 : i ≤ L) (hφ : (c.1 0 12).toInt = -1) {av bv : Int32} {lo hi : Int} (hlo : av.toInt = lo) (hhi : bv.toInt = hi) (hlo0 : 0 ≤ lo) (hhi9 : hi ≤ 99) : Con G shM mX4_takeNumber [.ref 0, .int av, .int bv] c (fun v μ' => ((PNok L T i lo hi ∧ IsZ v (nvT T (SK L T i) (FN L T (SK L T i))) ∧ (μ'.1 0 10).toInt = (FN L T (SK L T i) : Nat) ∧ (μ'.1 0 12).toInt = -1) ∨ (¬ PNok L T i lo hi ∧ (∃ z : Int32, v = some (.int z)) ∧ (μ'.1 0 12).toInt = (SK L T i : Nat) ∧ (0 ≤ (μ'.1 0 10).toInt ∧ (μ'.1 0 10).toInt ≤ 150))) ∧ frN c μ') := by
  refine Con_of [some (.ref 0), some (.int av), some (.int bv), none, none] (by decide +kernel) (Nat.le_of_ble_eq_true rfl) (fun _ h => h) ?_
  refine J_aload_n (pc := 0) dX4_takeNumber_0 rfl ?_
  refine J_getI (pc := 1) fF_X4_111 rfl rfl dX4_takeNumber_1 ?_
  refine J_if_ltW (pc := 4) (-1) hφ 9 dX4_takeNumber_4 (by decide) (fun h4 => ?_) (fun h4 => ?_)
  · refine J_aload_n (pc := 9) dX4_takeNumber_9 rfl ?_
    refine J_iconst (pc := 10) (v := 0) dX4_takeNumber_10 (by decide) ?_
    refine J_putIW (pc := 11) fF_X4_114 rfl rfl dX4_takeNumber_11 (fun μ11 m11 => ?_)
    refine J_aload_n (pc := 14) dX4_takeNumber_14 rfl ?_
    refine J_callVq (pc := 15) fC_X4_117 rfl dX4_takeNumber_15 (c_X4_here (TM_N hT (by rw [m11]; exact frN_0 (frN_rf c) (by decide))) (by rw [m11, jI_i, if_neg (by decide)]; exact hn) hi0) rfl ⟨Nat.le_of_ble_eq_true rfl, Nat.le_of_ble_eq_true rfl⟩ rfl (Nat.le_of_ble_eq_true rfl) (fun v15 μ15 q15 => ?_)
    obtain ⟨⟨z15, rfl, e15⟩, g10, g11, hH⟩ := q15
    have hsk := SK_r (T := T) hi0 hT.2.1
    have hby : SK L T i < L → byt L T (SK L T i) = T (SK L T i) := fun h => by unfold byt; rw [if_pos h]
    have hbn : ¬ SK L T i < L → byt L T (SK L T i) = -1 := fun h => by unfold byt; rw [if_neg h]
    have hTs := fun h : SK L T i < L => (hT.2.2 (SK L T i) h).2
    have h12 : (μ15.1 0 12).toInt = -1 := by rw [hH.1 12 (by decide) (by decide), m11, jI_i, if_neg (by decide)]; exact hφ
    have hN15 : frN c μ15 := frN_tr (by rw [m11]; exact frN_0 (frN_rf c) (by decide)) (frN_H hH)
    refine J_istore_n (pc := 18) (lv' := [some (.ref 0), some (.int av), some (.int bv), some (.int z15), none]) dX4_takeNumber_18 (Nat.le_of_ble_eq_true rfl) rfl rfl ?_
    refine J_iconst (pc := 19) (v := 0) dX4_takeNumber_19 (by decide) ?_
    refine J_istore (pc := 20) (lv' := [some (.ref 0), some (.int av), some (.int bv), some (.int z15), some (.int 0)]) dX4_takeNumber_20 (Nat.le_of_ble_eq_true rfl) rfl rfl ?_
    refine J_lv' (lv' := [some (.ref 0), some (.int av), some (.int bv), some (.int z15), some (.int 0)]) (by repeat' constructor) (l_tn (s := SK L T i) 151 (SK L T i) 0 μ15 (Nat.le_refl _) (by have := hT.2.1; omega) hsk.2.1 g10 (by show (0 : Int) = _; omega) (by rw [hH.1 13 (by decide) (by decide), m11, jI_i, if_pos ⟨rfl, rfl⟩]; unfold nm nv0; rw [if_pos (by omega), if_pos rfl]; rfl) (fun q h1 h2 => absurd h2 (by omega)) (TM_N hT hN15) ⟨fun _ _ _ => rfl, fun _ _ => rfl, rfl⟩ (fun μ' fv' k10 kf k13 hK => ?_))
    rw [show frn L T 151 (SK L T i) = FN L T (SK L T i) from rfl] at k10 kf k13
    have hFN := FN_r (T := T) hsk.2.1 hT.2.1
    have hL150 := hT.2.1
    have hN := frN_tr hN15 (frN_K hK)
    have h12' : (μ'.1 0 12).toInt = -1 := by rw [hK.1 12 (by decide) (by decide)]; exact h12
    have h11' : (μ'.1 0 11).toInt = (SK L T i : Nat) := by rw [hK.1 11 (by decide) (by decide)]; exact g11
    refine J_iload_n (pc := 107) dX4_takeNumber_107 rfl ?_
    refine J_if_ltW (pc := 108) (byt L T (SK L T i)) e15 131 dX4_takeNumber_108 (by decide) (fun h108 => ?_) (fun h108 => ?_)
    · refine J_aload_n (pc := 131) dX4_takeNumber_131 rfl ?_
      refine J_callVv (pc := 132) fC_X4_125 rfl dX4_takeNumber_132 (c_X4_wrong (by omega)) rfl ⟨Nat.le_of_ble_eq_true rfl, Nat.le_of_ble_eq_true rfl⟩ rfl (Nat.le_of_ble_eq_true rfl) (fun μ132 m132 => ?_)
      refine J_aload_n (pc := 135) dX4_takeNumber_135 rfl ?_
      refine J_getI (pc := 136) fF_X4_114 rfl rfl dX4_takeNumber_136 ?_
      refine J_iret (pc := 139) dX4_takeNumber_139 rfl ?_
      rw [m132]
      exact ⟨Or.inr ⟨fun hh => by obtain ⟨p1, p2, p3⟩ := hh; have e0 := FN_1 p1 hT.2.1; have e1 := hby p1.1; have e2 := hTs p1.1; first | omega | (unfold nm nv0 at *; unfold nvT at *; omega), ⟨_, rfl⟩, by rw [jI_i, if_pos ⟨rfl, rfl⟩]; exact h11', by rw [jI_i, if_neg (by decide)]; omega⟩, frN_0 hN (by decide)⟩
    · refine J_iload (pc := 111) dX4_takeNumber_111 rfl ?_
      refine J_if_eqW (pc := 113) ((FN L T (SK L T i) : Nat) - (SK L T i : Int)) kf 131 dX4_takeNumber_113 (by decide) (fun h113 => ?_) (fun h113 => ?_)
      · refine J_aload_n (pc := 131) dX4_takeNumber_131 rfl ?_
        refine J_callVv (pc := 132) fC_X4_125 rfl dX4_takeNumber_132 (c_X4_wrong (by omega)) rfl ⟨Nat.le_of_ble_eq_true rfl, Nat.le_of_ble_eq_true rfl⟩ rfl (Nat.le_of_ble_eq_true rfl) (fun μ132 m132 => ?_)
        refine J_aload_n (pc := 135) dX4_takeNumber_135 rfl ?_
        refine J_getI (pc := 136) fF_X4_114 rfl rfl dX4_takeNumber_136 ?_
        refine J_iret (pc := 139) dX4_takeNumber_139 rfl ?_
        rw [m132]
        exact ⟨Or.inr ⟨fun hh => by obtain ⟨p1, p2, p3⟩ := hh; have e0 := FN_1 p1 hT.2.1; have e1 := hby p1.1; have e2 := hTs p1.1; first | omega | (unfold nm nv0 at *; unfold nvT at *; omega), ⟨_, rfl⟩, by rw [jI_i, if_pos ⟨rfl, rfl⟩]; exact h11', by rw [jI_i, if_neg (by decide)]; omega⟩, frN_0 hN (by decide)⟩
      · refine J_aload_n (pc := 116) dX4_takeNumber_116 rfl ?_
        refine J_getI (pc := 117) fF_X4_114 rfl rfl dX4_takeNumber_117 ?_
        refine J_i2l (pc := 120) dX4_takeNumber_120 rfl ?_
        refine J_iload_n (pc := 121) dX4_takeNumber_121 rfl ?_
        refine J_i2l (pc := 122) dX4_takeNumber_122 rfl ?_
        refine J_iload_n (pc := 123) dX4_takeNumber_123 rfl ?_
        refine J_i2l (pc := 124) dX4_takeNumber_124 rfl ?_
        refine J_callSc (pc := 125) fC_X4_58 dX4_takeNumber_125 (c_X4_in (nm T (SK L T i) (FN L T (SK L T i))) lo hi (i2l_z k13) (i2l_z hlo) (i2l_z hhi)) rfl ⟨Nat.le_of_ble_eq_true rfl, Nat.le_of_ble_eq_true rfl⟩ rfl (Nat.le_of_ble_eq_true rfl) (fun h125 => ?_) (fun h125 => ?_)
        · refine J_if_ne_T (pc := 128) 135 dX4_takeNumber_128 (by decide) (by decide) ?_
          refine J_aload_n (pc := 135) dX4_takeNumber_135 rfl ?_
          refine J_getI (pc := 136) fF_X4_114 rfl rfl dX4_takeNumber_136 ?_
          refine J_iret (pc := 139) dX4_takeNumber_139 rfl ?_
          have hdg : SK L T i < L ∧ 48 ≤ T (SK L T i) ∧ T (SK L T i) ≤ 57 := by refine Classical.byContradiction (fun hc => ?_); have := FN_0 hc; omega
          have e0 := FN_1 hdg hT.2.1
          have env : nm T (SK L T i) (FN L T (SK L T i)) = nvT T (SK L T i) (FN L T (SK L T i)) := by unfold nm nv0 nvT at *; omega
          exact ⟨Or.inl ⟨⟨hdg, by omega⟩, ⟨_, rfl, by rw [← env]; exact k13⟩, k10, h12'⟩, hN⟩
        · refine J_if_ne_F (pc := 128) 135 dX4_takeNumber_128 (by decide) (by decide) ?_
          refine J_aload_n (pc := 131) dX4_takeNumber_131 rfl ?_
          refine J_callVv (pc := 132) fC_X4_125 rfl dX4_takeNumber_132 (c_X4_wrong (by omega)) rfl ⟨Nat.le_of_ble_eq_true rfl, Nat.le_of_ble_eq_true rfl⟩ rfl (Nat.le_of_ble_eq_true rfl) (fun μ132 m132 => ?_)
          refine J_aload_n (pc := 135) dX4_takeNumber_135 rfl ?_
          refine J_getI (pc := 136) fF_X4_114 rfl rfl dX4_takeNumber_136 ?_
          refine J_iret (pc := 139) dX4_takeNumber_139 rfl ?_
          rw [m132]
          exact ⟨Or.inr ⟨fun hh => by obtain ⟨p1, p2, p3⟩ := hh; have e0 := FN_1 p1 hT.2.1; have e1 := hby p1.1; have e2 := hTs p1.1; first | omega | (unfold nm nv0 at *; unfold nvT at *; omega), ⟨_, rfl⟩, by rw [jI_i, if_pos ⟨rfl, rfl⟩]; exact h11', by rw [jI_i, if_neg (by decide)]; omega⟩, frN_0 hN (by decide)⟩
  · exfalso; omega
set_option maxRecDepth 100000 in
set_option maxHeartbeats 4000000 in
theorem c_X4_takeNumber0 {c : JM} (hφ : 0 ≤ (c.1 0 12).toInt) {av bv : Int32} : Con G shM mX4_takeNumber [.ref 0, .int av, .int bv] c (j_is (some (.int 0)) c) := by
  refine Con_of [some (.ref 0), some (.int av), some (.int bv), none, none] (by decide +kernel) (Nat.le_of_ble_eq_true rfl) (fun _ h => h) ?_
  refine J_aload_n (pc := 0) dX4_takeNumber_0 rfl ?_
  refine J_getI (pc := 1) fF_X4_111 rfl rfl dX4_takeNumber_1 ?_
  refine J_if_ltW (pc := 4) ((c.1 0 12).toInt) rfl 9 dX4_takeNumber_4 (by decide) (fun h4 => ?_) (fun h4 => ?_)
  · exfalso; omega
  · refine J_iconst (pc := 7) (v := 0) dX4_takeNumber_7 (by decide) ?_
    refine J_iret (pc := 8) dX4_takeNumber_8 rfl ?_
    exact ⟨rfl, rfl⟩

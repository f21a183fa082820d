/-! ===== words ===== -/
def wdr (k wr ht : Int) (f : Nat → Int) : Nat → Nat → Int → Int → Int → Int → Int × Int × Int × Nat
  | 0, i, a, p, _, b => (a, p, b, i)
  | d + 1, i, a, p, n, b => if b = 0 then wdr k wr ht f d (i + 1) (hA2 k a n (f i)) (hP2 k p n (f i)) (n + 1) (jZ wr ht (hA2 k a n (f i)) (hP2 k p n (f i)) (f i)) else (a, p, b, i)
def wsel (w : Int) (t : Int × Int × Int × Nat) : Int := if w = 0 then t.1 else if w = 1 then t.2.1 else if w = 2 then t.2.2.1 else (t.2.2.2 : Int)
variable {G : JG}
set_option maxRecDepth 100000 in
set_option maxHeartbeats 4000000 in
theorem l_k_words {c : JM} {k wr ht n0 : Int} (hk : (c.1 1 0).toInt = k) (hwr : (c.1 1 1).toInt = wr) (hht : (c.1 1 2).toInt = ht) (h4 : (c.1 1 4).toInt = n0) (hn0 : 0 ≤ n0 ∧ n0 < 200000) {f : Nat → Int} {L : Nat} {lv : Int32} (hL : lv.toInt = (L : Int)) (hL9 : L ≤ 9) (hf : ∀ j, j < L → (c.1 24 j).toInt = f j ∧ 0 ≤ f j ∧ f j ≤ 5) {z wt : Int32} {Q : Option Value → JM → Prop} : ∀ d : Nat, ∀ (i : Nat) (iv cv mv : Int32) (a p b : Int), i + d = L → iv.toInt = (i : Int) → cv.toInt = (i : Int) → mv.toInt = mZ a p b → (0 ≤ a ∧ a ≤ 99 ∧ 0 ≤ p ∧ p ≤ 99 ∧ 0 ≤ b ∧ b ≤ 2) → (∀ (mv cv : Int32) (a' p' b' : Int) (i' : Nat), (wdr k wr ht f d i a p (n0 + (i : Int)) b) = (a', p', b', i') → (0 ≤ a' ∧ a' ≤ 99 ∧ 0 ≤ p' ∧ p' ≤ 99 ∧ 0 ≤ b' ∧ b' ≤ 2) → mv.toInt = mZ a' p' b' → cv.toInt = (i' : Int) → J G shC mX3_words 103 [some (.ref 0), some (.int z), some (.int wt), some (.int lv), some (.int mv), some (.int cv), none] [] c Q) → J G shC mX3_words 47 [some (.ref 0), some (.int z), some (.int wt), some (.int lv), some (.int mv), some (.int cv), some (.int iv)] [] c Q := by
  intro d
  induction d with
  | zero =>
    intro i iv cv mv a p b hd hi hcv hm hr hk2
    obtain ⟨d1, d2, d3⟩ := mZ_d (b := b) ⟨hr.1, hr.2.1, hr.2.2.1, hr.2.2.2.1⟩
    have hm0 : 0 ≤ mZ a p b := by unfold mZ; omega
    have g1 := hA2_rng k a (n0 + (i : Int)) (f i)
    have g2 := hP2_rng k p (n0 + (i : Int)) (f i)
    have g3 := jZ_rng wr ht (hA2 k a (n0 + (i : Int)) (f i)) (hP2 k p (n0 + (i : Int)) (f i)) (f i)
    have hfi : i < L → 0 ≤ f i ∧ f i ≤ 5 := fun h => (hf i h).2
    refine J_iload (pc := 47) dX3_words_47 rfl ?_
    refine J_iload_n (pc := 49) dX3_words_49 rfl ?_
    refine J_icmp_geW (pc := 50) (i : Int) (L : Int) hi hL 103 dX3_words_50 (by decide) (fun h50 => ?_) (fun h50 => ?_)
    · exact J_lv' (lv' := [some (.ref 0), some (.int z), some (.int wt), some (.int lv), some (.int mv), some (.int cv), none]) (by repeat' constructor) (hk2 mv cv a p b i rfl hr hm hcv)
    · exfalso; omega
  | succ d ih =>
    intro i iv cv mv a p b hd hi hcv hm hr hk2
    obtain ⟨d1, d2, d3⟩ := mZ_d (b := b) ⟨hr.1, hr.2.1, hr.2.2.1, hr.2.2.2.1⟩
    have hm0 : 0 ≤ mZ a p b := by unfold mZ; omega
    have g1 := hA2_rng k a (n0 + (i : Int)) (f i)
    have g2 := hP2_rng k p (n0 + (i : Int)) (f i)
    have g3 := jZ_rng wr ht (hA2 k a (n0 + (i : Int)) (f i)) (hP2 k p (n0 + (i : Int)) (f i)) (f i)
    have hfi : i < L → 0 ≤ f i ∧ f i ≤ 5 := fun h => (hf i h).2
    refine J_iload (pc := 47) dX3_words_47 rfl ?_
    refine J_iload_n (pc := 49) dX3_words_49 rfl ?_
    refine J_icmp_geW (pc := 50) (i : Int) (L : Int) hi hL 103 dX3_words_50 (by decide) (fun h50 => ?_) (fun h50 => ?_)
    · exfalso; omega
    · refine J_iload (pc := 53) dX3_words_53 rfl ?_
      refine J_callSz (pc := 55) fC_X3_120 dX3_words_55 (c_X3_beingOf (mZ a p b) hm (by omega)) rfl ⟨Nat.le_of_ble_eq_true rfl, Nat.le_of_ble_eq_true rfl⟩ rfl (Nat.le_of_ble_eq_true rfl) (fun z55 e55 => ?_)
      have q55 : z55.toInt = b := by rw [e55, d3]
      refine J_if_neW (pc := 58) b q55 103 dX3_words_58 (by decide) (fun h58 => ?_) (fun h58 => ?_)
      · exact J_lv' (lv' := [some (.ref 0), some (.int z), some (.int wt), some (.int lv), some (.int mv), some (.int cv), none]) (by repeat' constructor) (hk2 mv cv a p b i (by rw [wdr, if_neg h58]) hr hm hcv)
      · refine J_aload_n (pc := 61) dX3_words_61 rfl ?_
        refine J_getR (pc := 62) 1 fF_X3_12 rfl rfl dX3_words_62 ?_
        refine J_iload (pc := 65) dX3_words_65 rfl ?_
        refine J_aload_n (pc := 67) dX3_words_67 rfl ?_
        refine J_getR (pc := 68) 1 fF_X3_12 rfl rfl dX3_words_68 ?_
        refine J_getI (pc := 71) fF_X3_68 rfl rfl dX3_words_71 ?_
        refine J_iload (pc := 74) dX3_words_74 rfl ?_
        refine J_iaddW (pc := 76) n0 (i : Int) h4 hi dX3_words_76 (by omega) (fun z76 e76 => ?_)
        refine J_aload_n (pc := 77) dX3_words_77 rfl ?_
        refine J_getR (pc := 78) 23 fF_X3_35 rfl rfl dX3_words_78 ?_
        refine J_getR (pc := 81) 24 fF_X3_157 rfl rfl dX3_words_81 ?_
        refine J_iload (pc := 84) dX3_words_84 rfl ?_
        refine J_callSe (pc := 86) fC_X3_91 dX3_words_86 (c_X3_at rfl i (by omega) (by omega) (by omega)) rfl ⟨Nat.le_of_ble_eq_true rfl, Nat.le_of_ble_eq_true rfl⟩ rfl (Nat.le_of_ble_eq_true rfl) ?_
        refine J_callVz (pc := 89) fC_X3_160 rfl dX3_words_89 (c_X0_hear jarAt_1 (mZ a p b) (n0 + (i : Int)) (f i) hm e76 ((hf i (by omega)).1) (by omega)) rfl ⟨Nat.le_of_ble_eq_true rfl, Nat.le_of_ble_eq_true rfl⟩ rfl (Nat.le_of_ble_eq_true rfl) (fun z89 e89 => ?_)
        have q89 : z89.toInt = (mZ (hA2 k a (n0 + (i : Int)) (f i)) (hP2 k p (n0 + (i : Int)) (f i)) (jZ wr ht (hA2 k a (n0 + (i : Int)) (f i)) (hP2 k p (n0 + (i : Int)) (f i)) (f i))) := by rw [e89, hk, hwr, hht, hM_2 ⟨hr.1, hr.2.1, hr.2.2.1, hr.2.2.2.1⟩]
        refine J_istore (pc := 92) (lv' := [some (.ref 0), some (.int z), some (.int wt), some (.int lv), some (.int z89), some (.int cv), some (.int iv)]) dX3_words_92 (Nat.le_of_ble_eq_true rfl) rfl rfl ?_
        refine J_iincW' (pc := 94) (i : Int) hcv (lv' := fun iq_ => [some (.ref 0), some (.int z), some (.int wt), some (.int lv), some (.int z89), some (.int iq_), some (.int iv)]) dX3_words_94 rfl (by omega) (by decide) (Nat.le_of_ble_eq_true rfl) rfl (fun _ => rfl) (fun z94 e94 => ?_)
        refine J_iincW' (pc := 97) (i : Int) hi (lv' := fun iq_ => [some (.ref 0), some (.int z), some (.int wt), some (.int lv), some (.int z89), some (.int z94), some (.int iq_)]) dX3_words_97 rfl (by omega) (by decide) (Nat.le_of_ble_eq_true rfl) rfl (fun _ => rfl) (fun z97 e97 => ?_)
        refine J_goto (pc := 100) 47 dX3_words_100 (by decide) ?_
        refine ih (i + 1) z97 z94 z89 (hA2 k a (n0 + (i : Int)) (f i)) (hP2 k p (n0 + (i : Int)) (f i)) (jZ wr ht (hA2 k a (n0 + (i : Int)) (f i)) (hP2 k p (n0 + (i : Int)) (f i)) (f i)) (by omega) (by omega) (by omega) q89 (by omega) (fun mv' cv' a' p' b' i' he => hk2 mv' cv' a' p' b' i' ?_)
        rw [wdr, if_pos h58, ← he]
        rw [show (n0 + ((i + 1 : Nat) : Int)) = (n0 + (i : Int)) + 1 by omega]
theorem rowC_eqC {c μ' : JM} {d : Nat} {r : Int} (h : rowC 24 d r c μ') : eqC c μ' ∧ ∀ o, o ≠ 24 → μ'.1 o = c.1 o := ⟨⟨fun o ho => h.1 o (by omega), by rw [h.1 21 (by omega)], by rw [h.2.1]⟩, h.1⟩
theorem eqC_no {c c' : JM} (h : ∀ o, o ≠ 24 → c'.1 o = c.1 o) (h2 : c'.2 = c.2) : eqC (jI c 0 8 (c.1 0 8 + 1)) (jI c' 0 8 (c'.1 0 8 + 1)) := by
  have h0 := h 0 (by omega)
  refine ⟨fun o ho => ?_, ?_, by show c'.2 0 = c.2 0; rw [h2]⟩
  · by_cases e : o = 0
    · subst e; funext k; rw [jI_i, jI_i, h0]
    · rw [jI_ne e, jI_ne e]; exact h o (by omega)
  · rw [jI_ne (by omega), jI_ne (by omega), h 21 (by omega)]
theorem eqM_no {m m' : JM} (h : eqM m m') : eqM (jI m 4 0 (m.1 4 0 + 1)) (jI m' 4 0 (m'.1 4 0 + 1)) := by
  have h4 := h.1 4 (by omega)
  refine ⟨fun o ho => ?_, ?_, h.2.2⟩
  · by_cases e : o = 4
    · subst e; funext k; rw [jI_i, jI_i, h4]
    · rw [jI_ne e, jI_ne e]; exact h.1 o ho
  · rw [jI_ne (by omega), jI_ne (by omega)]; exact h.2.1
set_option maxRecDepth 100000 in
set_option maxHeartbeats 4000000 in
theorem k_words {N : Int} {c m : JM} (h : Inv N c m) (hN : 150 ≤ N ∧ N < 100000) {a b : Int32}  : Con G shC mX3_words [.ref 0, .int a, .int b] c (fun v μ' => (¬(okR a.toInt 9 ∧ 0 ≤ b.toInt ∧ b.toInt ≤ 3) ∧ IsZ v (-2) ∧ eqC (jI c 0 8 (c.1 0 8 + 1)) μ') ∨ ((okR a.toInt 9 ∧ 0 ≤ b.toInt ∧ b.toInt ≤ 3) ∧ IsZ v (wsel b.toInt (wdr (m.1 1 0).toInt (m.1 1 3).toInt (m.1 1 4).toInt (wd (lnD 9 a.toInt) a.toInt) (lnD 9 a.toInt) 0 (m.1 1 1).toInt (m.1 1 2).toInt (m.1 1 5).toInt (m.1 1 6).toInt)) ∧ eqC c μ')) := by
  obtain ⟨q0, q1, q2, q3, q4, q5, q6⟩ := Inv_q h
  obtain ⟨r0, r1, r2, r3, r4, r5, r6, r15, r40, r9⟩ := Inv_r h
  have hc := h.1
  have qt : (c.1 21 1).toInt = (m.1 0 9).toInt := by rw [h.2.2.2.2.1.1]
  have qs0 : (c.1 0 8).toInt = (m.1 4 0).toInt := by rw [h.2.2.2.2.2.2.1]
  have qs1 : (c.1 0 9).toInt = (m.1 4 1).toInt := by rw [h.2.2.2.2.2.2.2.1]
  have qs2 : (c.1 0 10).toInt = (m.1 4 2).toInt := by rw [h.2.2.2.2.2.2.2.2]
  have hln := lnD_le 9 a.toInt
  refine Con_of [some (.ref 0), some (.int a), some (.int b), none, none, none, none] (by decide +kernel) (Nat.le_of_ble_eq_true rfl) (fun _ h => h) ?_
  refine J_aload_n (pc := 0) dX3_words_0 rfl ?_
  refine J_getR (pc := 1) 23 fF_X3_35 rfl rfl dX3_words_1 ?_
  refine J_iload_n (pc := 4) dX3_words_4 rfl ?_
  refine J_bipush (pc := 5) (v := 9) dX3_words_5 (by decide) ?_
  refine J_callVq (pc := 7) fC_X3_153 rfl dX3_words_7 (c_X2_spell9 (z := a) rfl) rfl ⟨Nat.le_of_ble_eq_true rfl, Nat.le_of_ble_eq_true rfl⟩ rfl (Nat.le_of_ble_eq_true rfl) (fun v7 μ7 q7 => ?_)
  rcases q7 with ⟨⟨hok, z10, rfl, e10⟩ | ⟨hok, z10, rfl, e10⟩, hrow⟩ | ⟨hok, ⟨z10, rfl, e10⟩, rfl⟩
  · refine J_istore_n (pc := 10) (lv' := [some (.ref 0), some (.int a), some (.int b), some (.int z10), none, none, none]) dX3_words_10 (Nat.le_of_ble_eq_true rfl) rfl rfl ?_
    refine J_iload_n (pc := 11) dX3_words_11 rfl ?_
    refine J_iconst (pc := 12) (v := (-1)) dX3_words_12 (by decide) ?_
    refine J_icmp_eq_F (pc := 13) 25 dX3_words_13 (by decide) (fun e => by rw [e] at e10; have t : (-1 : Int32).toInt = -1 := (by decide); omega) ?_
    refine J_iload_n (pc := 16) dX3_words_16 rfl ?_
    refine J_iconst (pc := 17) (v := 0) dX3_words_17 (by decide) ?_
    refine J_iconst (pc := 18) (v := 3) dX3_words_18 (by decide) ?_
    refine J_callSc (pc := 19) fC_X3_60 dX3_words_19 (c_X3_within b.toInt 0 3 rfl rfl rfl) rfl ⟨Nat.le_of_ble_eq_true rfl, Nat.le_of_ble_eq_true rfl⟩ rfl (Nat.le_of_ble_eq_true rfl) (fun h19 => ?_) (fun h19 => ?_)
    · refine J_if_ne_T (pc := 22) 32 dX3_words_22 (by decide) (by decide) ?_
      refine J_aload_n (pc := 32) dX3_words_32 rfl ?_
      refine J_getR (pc := 33) 1 fF_X3_12 rfl rfl dX3_words_33 ?_
      refine J_getI (pc := 36) fF_X3_78 rfl rfl dX3_words_36 ?_
      refine J_istore (pc := 39) (lv' := [some (.ref 0), some (.int a), some (.int b), some (.int z10), some (.int (μ7.1 1 3)), none, none]) dX3_words_39 (Nat.le_of_ble_eq_true rfl) rfl rfl ?_
      refine J_iconst (pc := 41) (v := 0) dX3_words_41 (by decide) ?_
      refine J_istore (pc := 42) (lv' := [some (.ref 0), some (.int a), some (.int b), some (.int z10), some (.int (μ7.1 1 3)), some (.int 0), none]) dX3_words_42 (Nat.le_of_ble_eq_true rfl) rfl rfl ?_
      refine J_iconst (pc := 44) (v := 0) dX3_words_44 (by decide) ?_
      refine J_istore (pc := 45) (lv' := [some (.ref 0), some (.int a), some (.int b), some (.int z10), some (.int (μ7.1 1 3)), some (.int 0), some (.int 0)]) dX3_words_45 (Nat.le_of_ble_eq_true rfl) rfl rfl ?_
      refine l_k_words (c := μ7) (k := (m.1 1 0).toInt) (wr := (m.1 1 3).toInt) (ht := (m.1 1 4).toInt) (n0 := (m.1 1 5).toInt) (f := (wd (lnD 9 a.toInt) a.toInt)) (L := (lnD 9 a.toInt)) (by rw [hrow.1 1 (by omega)]; exact q0) (by rw [hrow.1 1 (by omega)]; exact q1) (by rw [hrow.1 1 (by omega)]; exact q2) (by rw [hrow.1 1 (by omega)]; exact q4) (by omega) e10 hln (fun j hj => ⟨hrow.2.2.2 hok.2.2 j hj, wd_rng _ _ hok.2.2 j hj⟩) (lnD 9 a.toInt) 0 0 0 _ (m.1 1 1).toInt (m.1 1 2).toInt (m.1 1 6).toInt (by omega) rfl rfl (by rw [hrow.1 1 (by omega), q3, mZ]) (by omega) (fun mv cv a' p' b' i' he hr hm hcv => ?_)
      rw [show (m.1 1 5).toInt + ((0 : Nat) : Int) = (m.1 1 5).toInt by omega] at he
      obtain ⟨d1, d2, d3⟩ := mZ_d (b := b') ⟨hr.1, hr.2.1, hr.2.2.1, hr.2.2.2.1⟩
      have hm0 : 0 ≤ mZ a' p' b' := by unfold mZ; omega
      refine J_iload_n (pc := 103) dX3_words_103 rfl ?_
      rcases (by omega : b.toInt = 0 ∨ b.toInt = 1 ∨ b.toInt = 2 ∨ (b.toInt < 0 ∨ 2 < b.toInt)) with h104 | h104 | h104 | h104
      · refine J_tsIn (pc := 104) 132 dX3_words_104 (z := 0) (by first | omega | (rw [rfl]; omega)) (by decide) (by decide) rfl (by decide) ?_
        refine J_iload (pc := 132) dX3_words_132 rfl ?_
        refine J_callSz (pc := 134) fC_X3_81 dX3_words_134 (c_X3_angerOf (mZ a' p' b') hm (by omega)) rfl ⟨Nat.le_of_ble_eq_true rfl, Nat.le_of_ble_eq_true rfl⟩ rfl (Nat.le_of_ble_eq_true rfl) (fun z134 e134 => ?_)
        have q134 : z134.toInt = a' := by rw [e134, d1]
        refine J_iret (pc := 137) dX3_words_137 rfl ?_
        exact Or.inr ⟨⟨hok, by omega⟩, ⟨_, rfl, by rw [he, wsel, if_pos h104]; exact q134⟩, (rowC_eqC hrow).1⟩
      · refine J_tsIn (pc := 104) 138 dX3_words_104 (z := 1) (by first | omega | (rw [rfl]; omega)) (by decide) (by decide) rfl (by decide) ?_
        refine J_iload (pc := 138) dX3_words_138 rfl ?_
        refine J_callSz (pc := 140) fC_X3_129 dX3_words_140 (c_X3_prideOf (mZ a' p' b') hm (by omega)) rfl ⟨Nat.le_of_ble_eq_true rfl, Nat.le_of_ble_eq_true rfl⟩ rfl (Nat.le_of_ble_eq_true rfl) (fun z140 e140 => ?_)
        have q140 : z140.toInt = p' := by rw [e140, d2]
        refine J_iret (pc := 143) dX3_words_143 rfl ?_
        exact Or.inr ⟨⟨hok, by omega⟩, ⟨_, rfl, by rw [he, wsel, if_neg (by omega), if_pos h104]; exact q140⟩, (rowC_eqC hrow).1⟩
      · refine J_tsIn (pc := 104) 144 dX3_words_104 (z := 2) (by first | omega | (rw [rfl]; omega)) (by decide) (by decide) rfl (by decide) ?_
        refine J_iload (pc := 144) dX3_words_144 rfl ?_
        refine J_callSz (pc := 146) fC_X3_120 dX3_words_146 (c_X3_beingOf (mZ a' p' b') hm (by omega)) rfl ⟨Nat.le_of_ble_eq_true rfl, Nat.le_of_ble_eq_true rfl⟩ rfl (Nat.le_of_ble_eq_true rfl) (fun z146 e146 => ?_)
        have q146 : z146.toInt = b' := by rw [e146, d3]
        refine J_iret (pc := 149) dX3_words_149 rfl ?_
        exact Or.inr ⟨⟨hok, by omega⟩, ⟨_, rfl, by rw [he, wsel, if_neg (by omega), if_neg (by omega), if_pos h104]; exact q146⟩, (rowC_eqC hrow).1⟩
      · refine J_tsOut (pc := 104) 150 dX3_words_104 (by first | omega | (rw [rfl]; omega)) (by decide) ?_
        refine J_iload (pc := 150) dX3_words_150 rfl ?_
        refine J_iret (pc := 152) dX3_words_152 rfl ?_
        exact Or.inr ⟨⟨hok, by omega⟩, ⟨_, rfl, by rw [he, wsel, if_neg (by omega), if_neg (by omega), if_neg (by omega)]; exact hcv⟩, (rowC_eqC hrow).1⟩
    · refine J_if_ne_F (pc := 22) 32 dX3_words_22 (by decide) (by decide) ?_
      refine J_aload_n (pc := 25) dX3_words_25 rfl ?_
      refine J_bipush (pc := 26) (v := (-2)) dX3_words_26 (by decide) ?_
      refine J_callVim (pc := 28) fC_X3_64 rfl dX3_words_28 (c_X3_refuse2) rfl ⟨Nat.le_of_ble_eq_true rfl, Nat.le_of_ble_eq_true rfl⟩ rfl (Nat.le_of_ble_eq_true rfl) (fun z28 μ28 d28 m28 => ?_)
      refine J_iret (pc := 31) dX3_words_31 rfl ?_
      refine Or.inl ⟨fun h => by omega, ⟨_, rfl, by rw [d28]; rfl⟩, ?_⟩
      rw [m28]
      exact eqC_no hrow.1 hrow.2.1
  · refine J_istore_n (pc := 10) (lv' := [some (.ref 0), some (.int a), some (.int b), some (.int z10), none, none, none]) dX3_words_10 (Nat.le_of_ble_eq_true rfl) rfl rfl ?_
    refine J_iload_n (pc := 11) dX3_words_11 rfl ?_
    refine J_iconst (pc := 12) (v := (-1)) dX3_words_12 (by decide) ?_
    refine J_icmp_eq_T (pc := 13) 25 dX3_words_13 (by decide) (z_eq e10) ?_
    refine J_aload_n (pc := 25) dX3_words_25 rfl ?_
    refine J_bipush (pc := 26) (v := (-2)) dX3_words_26 (by decide) ?_
    refine J_callVim (pc := 28) fC_X3_64 rfl dX3_words_28 (c_X3_refuse2) rfl ⟨Nat.le_of_ble_eq_true rfl, Nat.le_of_ble_eq_true rfl⟩ rfl (Nat.le_of_ble_eq_true rfl) (fun z28 μ28 d28 m28 => ?_)
    refine J_iret (pc := 31) dX3_words_31 rfl ?_
    refine Or.inl ⟨fun h => hok h.1, ⟨_, rfl, by rw [d28]; rfl⟩, ?_⟩
    rw [m28]
    exact eqC_no hrow.1 hrow.2.1
  · refine J_istore_n (pc := 10) (lv' := [some (.ref 0), some (.int a), some (.int b), some (.int z10), none, none, none]) dX3_words_10 (Nat.le_of_ble_eq_true rfl) rfl rfl ?_
    refine J_iload_n (pc := 11) dX3_words_11 rfl ?_
    refine J_iconst (pc := 12) (v := (-1)) dX3_words_12 (by decide) ?_
    refine J_icmp_eq_T (pc := 13) 25 dX3_words_13 (by decide) (z_eq e10) ?_
    refine J_aload_n (pc := 25) dX3_words_25 rfl ?_
    refine J_bipush (pc := 26) (v := (-2)) dX3_words_26 (by decide) ?_
    refine J_callVim (pc := 28) fC_X3_64 rfl dX3_words_28 (c_X3_refuse2) rfl ⟨Nat.le_of_ble_eq_true rfl, Nat.le_of_ble_eq_true rfl⟩ rfl (Nat.le_of_ble_eq_true rfl) (fun z28 μ28 d28 m28 => ?_)
    refine J_iret (pc := 31) dX3_words_31 rfl ?_
    subst_vars
    exact Or.inl ⟨fun h => hok h.1, ⟨_, rfl, rfl⟩, eqC_rf _⟩
set_option maxRecDepth 100000 in
set_option maxHeartbeats 4000000 in
theorem l_n_words {m : JM} (hc : constM m) {f : Nat → Int} {L : Nat} (hL9 : L ≤ 9) {z wt : Int32} {Q : Option Value → JM → Prop} : ∀ d : Nat, ∀ (i : Nat) (iv : Int32) (ν : JM) (a p n b : Int), i + d = L → iv.toInt = (i : Int) → mst m ν a p n b → rwM ν L f → (0 ≤ a ∧ a ≤ 99 ∧ 0 ≤ p ∧ p ≤ 99) → (0 ≤ n ∧ n + (d : Int) < 300000) → (∀ (iv' : Int32) (ν' : JM) (a' p' n' b' : Int) (i' : Nat), (wdr (m.1 1 0).toInt (m.1 1 3).toInt (m.1 1 4).toInt f d i a p n b) = (a', p', b', i') → iv'.toInt = (i' : Int) → mst m ν' a' p' n' b' → J G shM mX4_words 67 [some (.ref 0), some (.int z), some (.int wt), some (.int iv')] [] ν' Q) → J G shM mX4_words 35 [some (.ref 0), some (.int z), some (.int wt), some (.int iv)] [] ν Q := by
  intro d
  induction d with
  | zero =>
    intro i iv ν a p n b hd hi hs hw hr hn hk2
    have g1 := hA2_rng (m.1 1 0).toInt a n (f i)
    have g2 := hP2_rng (m.1 1 0).toInt p n (f i)
    refine J_iload_n (pc := 35) dX4_words_35 rfl ?_
    refine J_aload_n (pc := 36) dX4_words_36 rfl ?_
    refine J_getI (pc := 37) fF_X4_173 rfl rfl dX4_words_37 ?_
    refine J_icmp_geW (pc := 40) (i : Int) (L : Int) hi hw.1 67 dX4_words_40 (by decide) (fun h40 => ?_) (fun h40 => ?_)
    · exact hk2 iv ν a p n b i rfl hi hs
    · exfalso; omega
  | succ d ih =>
    intro i iv ν a p n b hd hi hs hw hr hn hk2
    have g1 := hA2_rng (m.1 1 0).toInt a n (f i)
    have g2 := hP2_rng (m.1 1 0).toInt p n (f i)
    refine J_iload_n (pc := 35) dX4_words_35 rfl ?_
    refine J_aload_n (pc := 36) dX4_words_36 rfl ?_
    refine J_getI (pc := 37) fF_X4_173 rfl rfl dX4_words_37 ?_
    refine J_icmp_geW (pc := 40) (i : Int) (L : Int) hi hw.1 67 dX4_words_40 (by decide) (fun h40 => ?_) (fun h40 => ?_)
    · exfalso; omega
    · refine J_aload_n (pc := 43) dX4_words_43 rfl ?_
      refine J_getI (pc := 44) fF_X4_76 rfl rfl dX4_words_44 ?_
      refine J_if_neW (pc := 47) b hs.2.2.2.2 67 dX4_words_47 (by decide) (fun h47 => ?_) (fun h47 => ?_)
      · exact hk2 iv ν a p n b i (by rw [wdr, if_neg h47]) hi hs
      · refine J_aload_n (pc := 50) dX4_words_50 rfl ?_
        refine J_aload_n (pc := 51) dX4_words_51 rfl ?_
        refine J_getR (pc := 52) 7 fF_X4_28 rfl rfl dX4_words_52 ?_
        refine J_iload_n (pc := 55) dX4_words_55 rfl ?_
        refine J_ialdW (pc := 56) i (hi) rfl (by omega) dX4_words_56 ?_
        refine J_iconst (pc := 57) (v := 1) dX4_words_57 (by decide) ?_
        refine J_callVv (pc := 58) fC_X4_139 rfl dX4_words_58 (c_X4_hear1 (mst_c hs hc) (f i) (hw.2 i (by omega)).1 (hw.2 i (by omega)).2 (by rw [hs.2.1]; omega) (by rw [hs.2.2.1]; omega) (by rw [hs.2.2.2.1]; omega)) rfl ⟨Nat.le_of_ble_eq_true rfl, Nat.le_of_ble_eq_true rfl⟩ rfl (Nat.le_of_ble_eq_true rfl) (fun μ58 m58 => ?_)
        refine J_iincW' (pc := 61) (i : Int) hi (lv' := fun iq_ => [some (.ref 0), some (.int z), some (.int wt), some (.int iq_)]) dX4_words_61 rfl (by omega) (by decide) (Nat.le_of_ble_eq_true rfl) rfl (fun _ => rfl) (fun z61 e61 => ?_)
        refine J_goto (pc := 64) 35 dX4_words_64 (by decide) ?_
        refine ih (i + 1) z61 μ58 (hA2 (m.1 1 0).toInt a n (f i)) (hP2 (m.1 1 0).toInt p n (f i)) (n + 1) (jZ (m.1 1 3).toInt (m.1 1 4).toInt (hA2 (m.1 1 0).toInt a n (f i)) (hP2 (m.1 1 0).toInt p n (f i)) (f i)) (by omega) (by omega) (by rw [m58]; exact mst_hear (w := f i) hs (by omega)) (by rw [m58]; exact rwM_hear hw) (by omega) (by omega) (fun iv' ν' a' p' n' b' i' he => hk2 iv' ν' a' p' n' b' i' ?_)
        rw [wdr, if_pos h47, ← he]
set_option maxRecDepth 100000 in
set_option maxHeartbeats 4000000 in
theorem n_words {N : Int} {c m : JM} (h : Inv N c m) (hN : 150 ≤ N ∧ N < 100000) {a b : Int32}  : Con G shM mX4_words [.ref 0, .int a, .int b] m (fun v μ' => (¬(okR a.toInt 9 ∧ 0 ≤ b.toInt ∧ b.toInt ≤ 3) ∧ IsZ v (-2) ∧ eqM (jI m 4 0 (m.1 4 0 + 1)) μ') ∨ ((okR a.toInt 9 ∧ 0 ≤ b.toInt ∧ b.toInt ≤ 3) ∧ IsZ v (wsel b.toInt (wdr (m.1 1 0).toInt (m.1 1 3).toInt (m.1 1 4).toInt (wd (lnD 9 a.toInt) a.toInt) (lnD 9 a.toInt) 0 (m.1 1 1).toInt (m.1 1 2).toInt (m.1 1 5).toInt (m.1 1 6).toInt)) ∧ eqM m μ')) := by
  obtain ⟨q0, q1, q2, q3, q4, q5, q6⟩ := Inv_q h
  obtain ⟨r0, r1, r2, r3, r4, r5, r6, r15, r40, r9⟩ := Inv_r h
  have hc := h.1
  have qt : (c.1 21 1).toInt = (m.1 0 9).toInt := by rw [h.2.2.2.2.1.1]
  have qs0 : (c.1 0 8).toInt = (m.1 4 0).toInt := by rw [h.2.2.2.2.2.2.1]
  have qs1 : (c.1 0 9).toInt = (m.1 4 1).toInt := by rw [h.2.2.2.2.2.2.2.1]
  have qs2 : (c.1 0 10).toInt = (m.1 4 2).toInt := by rw [h.2.2.2.2.2.2.2.2]
  have hln := lnD_le 9 a.toInt
  refine Con_of [some (.ref 0), some (.int a), some (.int b), none] (by decide +kernel) (Nat.le_of_ble_eq_true rfl) (fun _ h => h) ?_
  refine J_aload_n (pc := 0) dX4_words_0 rfl ?_
  refine J_iload_n (pc := 1) dX4_words_1 rfl ?_
  refine J_bipush (pc := 2) (v := 9) dX4_words_2 (by decide) ?_
  refine J_callVq (pc := 4) fC_X4_176 rfl dX4_words_4 (c_X4_takeRow9 (z := a) rfl) rfl ⟨Nat.le_of_ble_eq_true rfl, Nat.le_of_ble_eq_true rfl⟩ rfl (Nat.le_of_ble_eq_true rfl) (fun v4 μ4 q4 => ?_)
  obtain ⟨q4, hT⟩ := q4
  have hE := eqT_eqM hT
  rcases q4 with ⟨hok, rfl, hw⟩ | ⟨hok, rfl⟩
  · refine J_if_eq_F (pc := 7) 22 dX4_words_7 (by decide) (by decide) ?_
    refine J_iload_n (pc := 10) dX4_words_10 rfl ?_
    refine J_i2l (pc := 11) dX4_words_11 rfl ?_
    refine J_lconst (pc := 12) (v := 0) dX4_words_12 (by decide) ?_
    refine J_ldc2 (pc := 13) fK_X4_180 dX4_words_13 ?_
    refine J_callSc (pc := 16) fC_X4_58 dX4_words_16 (c_X4_in b.toInt 0 3 (i2l_z rfl) rfl rfl) rfl ⟨Nat.le_of_ble_eq_true rfl, Nat.le_of_ble_eq_true rfl⟩ rfl (Nat.le_of_ble_eq_true rfl) (fun h16 => ?_) (fun h16 => ?_)
    · refine J_if_ne_T (pc := 19) 29 dX4_words_19 (by decide) (by decide) ?_
      refine J_aload_n (pc := 29) dX4_words_29 rfl ?_
      refine J_callVv (pc := 30) fC_X4_136 rfl dX4_words_30 (c_X4_begin) rfl ⟨Nat.le_of_ble_eq_true rfl, Nat.le_of_ble_eq_true rfl⟩ rfl (Nat.le_of_ble_eq_true rfl) (fun μ30 m30 => ?_)
      refine J_iconst (pc := 33) (v := 0) dX4_words_33 (by decide) ?_
      refine J_istore_n (pc := 34) (lv' := [some (.ref 0), some (.int a), some (.int b), some (.int 0)]) dX4_words_34 (Nat.le_of_ble_eq_true rfl) rfl rfl ?_
      have hs := mst_begin hE
      rw [← m30] at hs
      have hw2 := rwM_begin hw
      rw [← m30] at hw2
      refine l_n_words hc hln (lnD 9 a.toInt) 0 0 μ30 (m.1 1 1).toInt (m.1 1 2).toInt (m.1 1 5).toInt (m.1 1 6).toInt (by omega) rfl hs hw2 (by omega) (by omega) (fun iv' ν' a' p' n' b' i' he hi' hs' => ?_)
      refine J_iload_n (pc := 67) dX4_words_67 rfl ?_
      refine J_if_neW (pc := 68) b.toInt rfl 78 dX4_words_68 (by decide) (fun h68 => ?_) (fun h68 => ?_)
      · refine J_iload_n (pc := 78) dX4_words_78 rfl ?_
        refine J_iconst (pc := 79) (v := 1) dX4_words_79 (by decide) ?_
        refine J_icmp_neW (pc := 80) b.toInt 1 rfl rfl 90 dX4_words_80 (by decide) (fun h80 => ?_) (fun h80 => ?_)
        · refine J_iload_n (pc := 90) dX4_words_90 rfl ?_
          refine J_iconst (pc := 91) (v := 2) dX4_words_91 (by decide) ?_
          refine J_icmp_neW (pc := 92) b.toInt 2 rfl rfl 102 dX4_words_92 (by decide) (fun h92 => ?_) (fun h92 => ?_)
          · refine J_iload_n (pc := 102) dX4_words_102 rfl ?_
            refine J_iret (pc := 103) dX4_words_103 rfl ?_
            exact Or.inr ⟨⟨hok, by omega⟩, ⟨_, rfl, by rw [he, wsel, if_neg (by omega), if_neg (by omega), if_neg (by omega)]; exact hi'⟩, hs'.1⟩
          · refine J_aload_n (pc := 95) dX4_words_95 rfl ?_
            refine J_getI (pc := 96) fF_X4_76 rfl rfl dX4_words_96 ?_
            refine J_goto (pc := 99) 103 dX4_words_99 (by decide) ?_
            refine J_iret (pc := 103) dX4_words_103 rfl ?_
            exact Or.inr ⟨⟨hok, by omega⟩, ⟨_, rfl, by rw [he, wsel, if_neg (by omega), if_neg (by omega), if_pos (by omega)]; exact hs'.2.2.2.2⟩, hs'.1⟩
        · refine J_aload_n (pc := 83) dX4_words_83 rfl ?_
          refine J_getI (pc := 84) fF_X4_70 rfl rfl dX4_words_84 ?_
          refine J_goto (pc := 87) 103 dX4_words_87 (by decide) ?_
          refine J_iret (pc := 103) dX4_words_103 rfl ?_
          exact Or.inr ⟨⟨hok, by omega⟩, ⟨_, rfl, by rw [he, wsel, if_neg (by omega), if_pos (by omega)]; exact hs'.2.2.1⟩, hs'.1⟩
      · refine J_aload_n (pc := 71) dX4_words_71 rfl ?_
        refine J_getI (pc := 72) fF_X4_66 rfl rfl dX4_words_72 ?_
        refine J_goto (pc := 75) 103 dX4_words_75 (by decide) ?_
        refine J_iret (pc := 103) dX4_words_103 rfl ?_
        exact Or.inr ⟨⟨hok, by omega⟩, ⟨_, rfl, by rw [he, wsel, if_pos h68]; exact hs'.2.1⟩, hs'.1⟩
    · refine J_if_ne_F (pc := 19) 29 dX4_words_19 (by decide) (by decide) ?_
      refine J_aload_n (pc := 22) dX4_words_22 rfl ?_
      refine J_bipush (pc := 23) (v := (-2)) dX4_words_23 (by decide) ?_
      refine J_callVim (pc := 25) fC_X4_91 rfl dX4_words_25 (c_X4_no2) rfl ⟨Nat.le_of_ble_eq_true rfl, Nat.le_of_ble_eq_true rfl⟩ rfl (Nat.le_of_ble_eq_true rfl) (fun z25 μ25 d25 m25 => ?_)
      refine J_iret (pc := 28) dX4_words_28 rfl ?_
      exact Or.inl ⟨fun h => by have h2 := h.2; omega, ⟨_, rfl, by rw [d25]; rfl⟩, by rw [m25]; exact eqM_no hE⟩
  · refine J_if_eq_T (pc := 7) 22 dX4_words_7 (by decide) (by decide) ?_
    refine J_aload_n (pc := 22) dX4_words_22 rfl ?_
    refine J_bipush (pc := 23) (v := (-2)) dX4_words_23 (by decide) ?_
    refine J_callVim (pc := 25) fC_X4_91 rfl dX4_words_25 (c_X4_no2) rfl ⟨Nat.le_of_ble_eq_true rfl, Nat.le_of_ble_eq_true rfl⟩ rfl (Nat.le_of_ble_eq_true rfl) (fun z25 μ25 d25 m25 => ?_)
    refine J_iret (pc := 28) dX4_words_28 rfl ?_
    exact Or.inl ⟨fun h => hok h.1, ⟨_, rfl, by rw [d25]; rfl⟩, by rw [m25]; exact eqM_no hE⟩
theorem pr_words {G : JG × JG} {N : Int} {c m : JM} (h : Inv N c m) (hN : 150 ≤ N ∧ N < 100000) {a b : Int32} : Pair G N c m mX3_words mX4_words [.int a, .int b] := by
  refine ⟨_, _, k_words h hN, n_words h hN, fun v c' w m' hC hM => ?_⟩
  rcases hC with ⟨a1, a2, a3⟩ | ⟨a1, a2, a3⟩
  · rcases hM with ⟨b1, b2, b3⟩ | ⟨b1, b2, b3⟩
    · exact ⟨IsZ_eq a2 b2, Inv_eq (by omega) (Inv_no (Int.le_refl N) h 0 (by decide)) a3 b3⟩
    · exact absurd b1 a1
  · rcases hM with ⟨b1, b2, b3⟩ | ⟨b1, b2, b3⟩
    · exact absurd a1 b1
    · exact ⟨IsZ_eq a2 b2, Inv_eq (by omega) h a3 b3⟩

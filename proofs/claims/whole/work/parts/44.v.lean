/-! ===== the model's fewest ===== -/
def pl (a p n : Int) : Nat := ((100 * a + p) * 2 + n % 2).toNat
theorem pl_i {a p n : Int} (h : 0 ≤ a ∧ a ≤ 99 ∧ 0 ≤ p ∧ p ≤ 99) : ((pl a p n : Nat) : Int) = (100 * a + p) * 2 + n % 2 := by unfold pl; omega
theorem pl_lt {a p n : Int} (h : 0 ≤ a ∧ a ≤ 99 ∧ 0 ≤ p ∧ p ≤ 99) : pl a p n < 20000 := by unfold pl; omega
theorem pl_eq {a p n a' p' n' : Int} (h : 0 ≤ a ∧ a ≤ 99 ∧ 0 ≤ p ∧ p ≤ 99) (h' : 0 ≤ a' ∧ a' ≤ 99 ∧ 0 ≤ p' ∧ p' ≤ 99) (e : pl a p n = pl a' p' n') : a = a' ∧ p = p' ∧ n % 2 = n' % 2 := by unfold pl at e; omega
/-- x tells the fewest words, up to D of them -/
def md (k wr ht : Int) (x : Int) (D : Nat) (a p n : Int) : Prop := (x = 13 ∧ ∀ l : Nat, 1 ≤ l → l ≤ D → ¬ rc k wr ht 1 false l a p n) ∨ (∃ l : Nat, (1 ≤ l ∧ l ≤ D) ∧ x = (l : Int) ∧ rc k wr ht 1 false l a p n ∧ ∀ l' : Nat, 1 ≤ l' → l' < l → ¬ rc k wr ht 1 false l' a p n)
theorem md_par {k wr ht x : Int} {D : Nat} {a p n n' : Int} (e : n % 2 = n' % 2) (h : md k wr ht x D a p n) : md k wr ht x D a p n' := by
  rcases h with ⟨h1, h2⟩ | ⟨l, h1, h2, h3, h4⟩
  · exact Or.inl ⟨h1, fun l a1 a2 hh => h2 l a1 a2 (rc_par _ _ _ _ _ e.symm hh)⟩
  · exact Or.inr ⟨l, h1, h2, rc_par _ _ _ _ _ e h3, fun l' a1 a2 hh => h4 l' a1 a2 (rc_par _ _ _ _ _ e.symm hh)⟩
theorem md_up {k wr ht x : Int} {D : Nat} {a p n : Int} (h : md k wr ht x D a p n) (h13 : x ≠ 13 ∨ ¬ rc k wr ht 1 false (D + 1) a p n) : md k wr ht x (D + 1) a p n := by
  rcases h with ⟨h1, h2⟩ | ⟨l, h1, h2, h3, h4⟩
  · refine Or.inl ⟨h1, fun l a1 a2 => ?_⟩
    rcases h13 with h13 | h13
    · exact absurd h1 h13
    · by_cases e : l = D + 1
      · rw [e]; exact h13
      · exact h2 l a1 (by omega)
  · exact Or.inr ⟨l, ⟨h1.1, by omega⟩, h2, h3, h4⟩
theorem md_x {k wr ht x : Int} {D E : Nat} {a p n : Int} (hD : 1 ≤ D) (hDE : D ≤ E) (h12 : D ≤ 12) (h : md k wr ht x E a p n) : x = (D : Int) ↔ rc k wr ht 1 false D a p n ∧ ∀ l' : Nat, 1 ≤ l' → l' < D → ¬ rc k wr ht 1 false l' a p n := by
  rcases h with ⟨h1, h2⟩ | ⟨l, h1, h2, h3, h4⟩
  · exact ⟨fun e => by omega, fun hh => absurd hh.1 (h2 D hD hDE)⟩
  · constructor
    · intro e
      obtain rfl : l = D := by omega
      exact ⟨h3, h4⟩
    · intro hh
      rcases Nat.lt_trichotomy l D with q | q | q
      · exact absurd h3 (hh.2 l h1.1 q)
      · rw [h2, q]
      · exact absurd hh.1 (h4 D hD q)
theorem cw_md {k wr ht x : Int} {D E : Nat} {a p n : Int} {w : Nat} (hw : w < 6) (hno : ∀ l : Nat, 1 ≤ l → l ≤ D → ¬ rc k wr ht 1 false l a p n) (hDE : D ≤ E) (h12 : D ≤ 12) (h : md k wr ht x E (hA2 k a n w) (hP2 k p n w) (n + 1)) : cw k wr ht 1 false D a p n w ↔ (D = 0 ∧ nB k wr ht a p n w = 1) ∨ (D ≠ 0 ∧ nB k wr ht a p n w = 0 ∧ x = (D : Int)) := by
  constructor
  · rintro ⟨h1, h2 | ⟨h2, h3, h4⟩⟩
    · exact Or.inl h2
    · refine Or.inr ⟨h2, h3, (md_x (by omega) hDE h12 h).2 ⟨h4, fun l' a1 a2 hh => hno (l' + 1) (by omega) (by omega) ⟨w, hw, rfl, Or.inr ⟨by omega, h3, hh⟩⟩⟩⟩
  · rintro (h2 | ⟨h2, h3, h4⟩)
    · exact ⟨rfl, Or.inl h2⟩
    · exact ⟨rfl, Or.inr ⟨h2, h3, ((md_x (by omega) hDE h12 h).1 h4).1⟩⟩
/-- the far row: complete up to D, up to D + 1 below place q -/
def farI (k wr ht : Int) (ν : JM) (D q : Nat) : Prop := ∀ a p n : Int, (0 ≤ a ∧ a ≤ 99 ∧ 0 ≤ p ∧ p ≤ 99) → 0 ≤ n → md k wr ht (ν.1 8 (pl a p n)).toInt (if pl a p n < q then D + 1 else D) a p n
theorem farI_8 {k wr ht : Int} {ν ν' : JM} {D q : Nat} (h : farI k wr ht ν D q) (e : ν'.1 8 = ν.1 8) : farI k wr ht ν' D q := fun a p n h1 h2 => by rw [e]; exact h a p n h1 h2
theorem farI_up {k wr ht : Int} {ν : JM} {D : Nat} (h : farI k wr ht ν D 20000) : farI k wr ht ν (D + 1) 0 := fun a p n h1 h2 => by
  have := h a p n h1 h2
  rw [if_pos (pl_lt h1)] at this
  rw [if_neg (by omega)]; exact this
theorem farI_D {k wr ht : Int} {ν : JM} {D : Nat} {a p n : Int} (h : farI k wr ht ν D 0) (h1 : 0 ≤ a ∧ a ≤ 99 ∧ 0 ≤ p ∧ p ≤ 99) (h2 : 0 ≤ n) : md k wr ht (ν.1 8 (pl a p n)).toInt D a p n := by
  have := h a p n h1 h2
  rw [if_neg (by omega)] at this; exact this
/-- place q done -/
theorem farI_s {k wr ht : Int} {ν ν' : JM} {D : Nat} {a p n : Int} (hr : 0 ≤ a ∧ a ≤ 99 ∧ 0 ≤ p ∧ p ≤ 99) (h : farI k wr ht ν D (pl a p n)) (ho : ∀ j, j ≠ pl a p n → ν'.1 8 j = ν.1 8 j) (hm : md k wr ht (ν'.1 8 (pl a p n)).toInt (D + 1) a p n) : farI k wr ht ν' D (pl a p n + 1) := by
  intro a' p' n' h1 h2
  by_cases e : pl a' p' n' = pl a p n
  · obtain ⟨rfl, rfl, e3⟩ := pl_eq h1 hr e
    rw [e, if_pos (by omega)]; exact md_par e3.symm hm
  · rw [ho _ e]
    have := h a' p' n' h1 h2
    by_cases e2 : pl a' p' n' < pl a p n
    · rw [if_pos e2] at this; rw [if_pos (by omega)]; exact this
    · rw [if_neg e2] at this; rw [if_neg (by omega)]; exact this
theorem eqM_o {m ν ν' : JM} (h : eqM m ν) (ho : ∀ o, (o < 6 ∨ 11 ≤ o) → o ≠ 0 → ν'.1 o = ν.1 o) (h9 : ν'.1 0 9 = ν.1 0 9) (hl : ν'.2 = ν.2) : eqM m ν' := ⟨fun o h1 => by rw [ho o (by omega) (by omega)]; exact h.1 o h1, by rw [h9]; exact h.2.1, by rw [hl]; exact h.2.2⟩
theorem mst_a {m ν : JM} {o j : Nat} {x : Int32} {a p n b : Int} (h : mst m ν a p n b) (ho : 6 ≤ o ∧ o ≤ 10) : mst m (jI ν o j x) a p n b := by
  obtain ⟨h1, h2, h3, h4, h5⟩ := h
  refine ⟨eqM_o h1 (fun q h6 h7 => jI_ne (by omega)) (by rw [jI_ne (by omega)]) rfl, ?_, ?_, ?_, ?_⟩ <;> rw [jI_ne (by omega)] <;> assumption
theorem eqM_0 {m ν : JM} {j : Nat} {x : Int32} (h : eqM m ν) (hj : j ≠ 9) : eqM m (jI ν 0 j x) := eqM_o h (fun q h6 h7 => jI_ne (by omega)) (by rw [jI_i, if_neg (fun z => hj z.2.symm)]) rfl
theorem jI_eq8 {ν : JM} {o j : Nat} {x : Int32} (h : x = ν.1 o j) : (jI ν o j x).1 o = ν.1 o := by
  funext b
  rw [jI_i]
  by_cases e : b = j
  · rw [if_pos ⟨rfl, e⟩, h, e]
  · rw [if_neg (fun z => e z.2)]
variable {G : JG}
set_option maxRecDepth 100000 in
set_option maxHeartbeats 4000000 in
theorem c_X4_standAt {m ν : JM} (hE : eqM m ν) {kv : Int32} {a p n : Int} (hk : kv.toInt = (100 * a + p) * 2 + n) (hr : 0 ≤ a ∧ a ≤ 99 ∧ 0 ≤ p ∧ p ≤ 99) (hn : 0 ≤ n ∧ n ≤ 1) : Con G shM mX4_standAt [.ref 0, .int kv] ν (fun v μ' => v = none ∧ mst m μ' a p n 0 ∧ ∀ o, o ≠ 0 → μ'.1 o = ν.1 o) := by
  refine Con_of [some (.ref 0), some (.int kv)] (by decide +kernel) (Nat.le_of_ble_eq_true rfl) (fun _ h => h) ?_
  refine J_aload_n (pc := 0) dX4_standAt_0 rfl ?_
  refine J_iload_n (pc := 1) dX4_standAt_1 rfl ?_
  refine J_iconst (pc := 2) (v := 2) dX4_standAt_2 (by decide) ?_
  refine J_idivW (pc := 3) ((100 * a + p) * 2 + n) 2 hk rfl dX4_standAt_3 (by omega) (fun z3 e3 => ?_)
  refine J_bipush (pc := 4) (v := 100) dX4_standAt_4 (by decide) ?_
  refine J_idivW (pc := 6) (((100 * a + p) * 2 + n) / 2) 100 e3 rfl dX4_standAt_6 (by omega) (fun z6 e6 => ?_)
  have q6 : z6.toInt = a := by omega
  refine J_putIW (pc := 7) fF_X4_66 rfl rfl dX4_standAt_7 (fun μ7 m7 => ?_)
  refine J_aload_n (pc := 10) dX4_standAt_10 rfl ?_
  refine J_iload_n (pc := 11) dX4_standAt_11 rfl ?_
  refine J_iconst (pc := 12) (v := 2) dX4_standAt_12 (by decide) ?_
  refine J_idivW (pc := 13) ((100 * a + p) * 2 + n) 2 hk rfl dX4_standAt_13 (by omega) (fun z13 e13 => ?_)
  refine J_bipush (pc := 14) (v := 100) dX4_standAt_14 (by decide) ?_
  refine J_iremW (pc := 16) (((100 * a + p) * 2 + n) / 2) 100 e13 rfl dX4_standAt_16 (by omega) (fun z16 e16 => ?_)
  have q16 : z16.toInt = p := by omega
  refine J_putIW (pc := 17) fF_X4_70 rfl rfl dX4_standAt_17 (fun μ17 m17 => ?_)
  refine J_aload_n (pc := 20) dX4_standAt_20 rfl ?_
  refine J_iload_n (pc := 21) dX4_standAt_21 rfl ?_
  refine J_iconst (pc := 22) (v := 2) dX4_standAt_22 (by decide) ?_
  refine J_iremW (pc := 23) ((100 * a + p) * 2 + n) 2 hk rfl dX4_standAt_23 (by omega) (fun z23 e23 => ?_)
  have q23 : z23.toInt = n := by omega
  refine J_putIW (pc := 24) fF_X4_73 rfl rfl dX4_standAt_24 (fun μ24 m24 => ?_)
  refine J_aload_n (pc := 27) dX4_standAt_27 rfl ?_
  refine J_iconst (pc := 28) (v := 0) dX4_standAt_28 (by decide) ?_
  refine J_putIW (pc := 29) fF_X4_76 rfl rfl dX4_standAt_29 (fun μ29 m29 => ?_)
  refine J_vret (pc := 32) dX4_standAt_32 rfl ?_
  refine ⟨rfl, ⟨?_, ?_, ?_, ?_, ?_⟩, fun o ho => by rw [m29, jI_ne ho, m24, jI_ne ho, m17, jI_ne ho, m7, jI_ne ho]⟩
  · rw [m29, m24, m17, m7]; exact eqM_0 (eqM_0 (eqM_0 (eqM_0 hE (by decide)) (by decide)) (by decide)) (by decide)
  · rw [m29, jI_i, if_neg (by decide), m24, jI_i, if_neg (by decide), m17, jI_i, if_neg (by decide), m7, jI_i, if_pos ⟨rfl, rfl⟩]; exact q6
  · rw [m29, jI_i, if_neg (by decide), m24, jI_i, if_neg (by decide), m17, jI_i, if_pos ⟨rfl, rfl⟩]; exact q16
  · rw [m29, jI_i, if_neg (by decide), m24, jI_i, if_pos ⟨rfl, rfl⟩]; exact q23
  · rw [m29, jI_i, if_pos ⟨rfl, rfl⟩]; rfl
set_option maxRecDepth 100000 in
set_option maxHeartbeats 4000000 in
theorem l_n_far3 {m : JM} (hc : constM m) {D : Nat} (hD : D < 12) {dv kv : Int32} (hdv : dv.toInt = (D : Int) + 1) {a p n : Int} (hr : 0 ≤ a ∧ a ≤ 99 ∧ 0 ≤ p ∧ p ≤ 99) (hn01 : 0 ≤ n ∧ n ≤ 1) (hkv : kv.toInt = (pl a p n : Nat)) {ν0 : JM} (hF : farI (m.1 1 0).toInt (m.1 1 3).toInt (m.1 1 4).toInt ν0 D (pl a p n)) {x : Int} (hx0 : (ν0.1 8 (pl a p n)).toInt = x) {Q : Option Value → JM → Prop} : ∀ d : Nat, ∀ (i : Nat) (wv : Int32) (ν : JM), i + d = 6 → wv.toInt = (i : Int) → eqM m ν → ν.1 8 = ν0.1 8 → (∀ w', w' < i → ¬ cw (m.1 1 0).toInt (m.1 1 3).toInt (m.1 1 4).toInt 1 false D a p n w') → (∀ ν', eqM m ν' → farI (m.1 1 0).toInt (m.1 1 3).toInt (m.1 1 4).toInt ν' D (pl a p n + 1) → J G shM mX4_findFar 157 [some (.ref 0), some (.int dv), some (.int kv), none, none] [] ν' Q) → J G shM mX4_findFar 42 [some (.ref 0), some (.int dv), some (.int kv), some (.int wv), none] [] ν Q := by
  intro d
  induction d with
  | zero =>
    intro i wv ν hd hi hE h80 hno hk2
    have g1 := hA2_rng (m.1 1 0).toInt a n (i : Int)
    have g2 := hP2_rng (m.1 1 0).toInt p n (i : Int)
    have hx : (ν.1 8 (pl a p n)).toInt = x := by rw [h80]; exact hx0
    have hmx : md (m.1 1 0).toInt (m.1 1 3).toInt (m.1 1 4).toInt x D a p n := by have := hF a p n hr (by omega); rw [hx0, if_neg (by omega)] at this; exact this
    refine J_iload_n (pc := 42) dX4_findFar_42 rfl ?_
    refine J_bipush (pc := 43) (v := 6) dX4_findFar_43 (by decide) ?_
    refine J_icmp_geW (pc := 45) (i : Int) 6 hi rfl 157 dX4_findFar_45 (by decide) (fun h45 => ?_) (fun h45 => ?_)
    · refine J_lv' (lv' := [some (.ref 0), some (.int dv), some (.int kv), none, none]) (by repeat' constructor) (hk2 ν hE ?_)
      refine farI_s hr hF (fun j _ => by rw [h80]) ?_
      rw [hx]
      exact md_up hmx (by first | exact Or.inr (fun hh => by obtain ⟨w, h1, h2⟩ := hh; exact hno w (by omega) h2) | (left; omega))
    · exfalso; omega
  | succ d ih =>
    intro i wv ν hd hi hE h80 hno hk2
    have g1 := hA2_rng (m.1 1 0).toInt a n (i : Int)
    have g2 := hP2_rng (m.1 1 0).toInt p n (i : Int)
    have hx : (ν.1 8 (pl a p n)).toInt = x := by rw [h80]; exact hx0
    have hmx : md (m.1 1 0).toInt (m.1 1 3).toInt (m.1 1 4).toInt x D a p n := by have := hF a p n hr (by omega); rw [hx0, if_neg (by omega)] at this; exact this
    refine J_iload_n (pc := 42) dX4_findFar_42 rfl ?_
    refine J_bipush (pc := 43) (v := 6) dX4_findFar_43 (by decide) ?_
    refine J_icmp_geW (pc := 45) (i : Int) 6 hi rfl 157 dX4_findFar_45 (by decide) (fun h45 => ?_) (fun h45 => ?_)
    · exfalso; omega
    · refine J_aload_n (pc := 48) dX4_findFar_48 rfl ?_
      refine J_getR (pc := 49) 8 fF_X4_31 rfl rfl dX4_findFar_49 ?_
      refine J_iload_n (pc := 52) dX4_findFar_52 rfl ?_
      refine J_ialdW (pc := 53) (pl a p n) (by omega) rfl (pl_lt hr) dX4_findFar_53 ?_
      refine J_iload_n (pc := 54) dX4_findFar_54 rfl ?_
      refine J_icmp_leW (pc := 55) x ((D : Int) + 1) hx hdv 157 dX4_findFar_55 (by decide) (fun h55 => ?_) (fun h55 => ?_)
      · refine J_lv' (lv' := [some (.ref 0), some (.int dv), some (.int kv), none, none]) (by repeat' constructor) (hk2 ν hE ?_)
        refine farI_s hr hF (fun j _ => by rw [h80]) ?_
        rw [hx]
        exact md_up hmx (by first | exact Or.inr (fun hh => by obtain ⟨w, h1, h2⟩ := hh; exact hno w (by omega) h2) | (left; omega))
      · have hnrc : ∀ l : Nat, 1 ≤ l → l ≤ D → ¬ rc (m.1 1 0).toInt (m.1 1 3).toInt (m.1 1 4).toInt 1 false l a p n := by rcases hmx with ⟨h1, h2⟩ | ⟨l, h1, h2, h3, h4⟩; exact h2; omega
        refine J_aload_n (pc := 58) dX4_findFar_58 rfl ?_
        refine J_iload_n (pc := 59) dX4_findFar_59 rfl ?_
        refine J_callVq (pc := 60) fC_X4_182 rfl dX4_findFar_60 (c_X4_standAt hE (a := a) (p := p) (n := n) (by rw [hkv, pl_i hr]; omega) hr hn01) rfl ⟨Nat.le_of_ble_eq_true rfl, Nat.le_of_ble_eq_true rfl⟩ rfl (Nat.le_of_ble_eq_true rfl) (fun v60 μ60 q60 => ?_)
        obtain ⟨rfl, hs, hso⟩ := q60
        refine J_aload_n (pc := 63) dX4_findFar_63 rfl ?_
        refine J_iload_n (pc := 64) dX4_findFar_64 rfl ?_
        refine J_iconst (pc := 65) (v := 1) dX4_findFar_65 (by decide) ?_
        refine J_callVv (pc := 66) fC_X4_139 rfl dX4_findFar_66 (c_X4_hear1 (mst_c hs hc) (i : Int) hi (by omega) (by rw [hs.2.1]; omega) (by rw [hs.2.2.1]; omega) (by rw [hs.2.2.2.1]; omega)) rfl ⟨Nat.le_of_ble_eq_true rfl, Nat.le_of_ble_eq_true rfl⟩ rfl (Nat.le_of_ble_eq_true rfl) (fun μ66 m66 => ?_)
        have hs2 := mst_hear (w := (i : Int)) hs (by omega)
        rw [← m66] at hs2
        have h8 : μ66.1 8 = ν.1 8 := by rw [m66, (hearM_o).1 8 (by omega), hso 8 (by omega)]
        have hmd : md (m.1 1 0).toInt (m.1 1 3).toInt (m.1 1 4).toInt (μ66.1 8 (pl (hA2 (m.1 1 0).toInt a n (i : Int)) (hP2 (m.1 1 0).toInt p n (i : Int)) (n + 1))).toInt (if (pl (hA2 (m.1 1 0).toInt a n (i : Int)) (hP2 (m.1 1 0).toInt p n (i : Int)) (n + 1)) < pl a p n then D + 1 else D) (hA2 (m.1 1 0).toInt a n (i : Int)) (hP2 (m.1 1 0).toInt p n (i : Int)) (n + 1) := by rw [h8, h80]; exact hF _ _ _ ⟨g1.1, g1.2, g2.1, g2.2⟩ (by omega)
        have hx66 : (μ66.1 8 (pl a p n)).toInt = x := by rw [h8]; exact hx
        have hcw := cw_md (w := i) (by omega) hnrc (by split <;> omega) (by omega) hmd
        have hD0 : (D : Int) + 1 = 1 ↔ D = 0 := by omega
        have hnB : nB (m.1 1 0).toInt (m.1 1 3).toInt (m.1 1 4).toInt a p n i = (jZ (m.1 1 3).toInt (m.1 1 4).toInt (hA2 (m.1 1 0).toInt a n (i : Int)) (hP2 (m.1 1 0).toInt p n (i : Int)) (i : Int)) := rfl
        refine J_iload_n (pc := 69) dX4_findFar_69 rfl ?_
        refine J_iconst (pc := 70) (v := 1) dX4_findFar_70 (by decide) ?_
        refine J_icmp_neW (pc := 71) ((D : Int) + 1) 1 hdv rfl 90 dX4_findFar_71 (by decide) (fun h71 => ?_) (fun h71 => ?_)
        · refine J_aload_n (pc := 90) dX4_findFar_90 rfl ?_
          refine J_getI (pc := 91) fF_X4_76 rfl rfl dX4_findFar_91 ?_
          refine J_if_neW (pc := 94) (jZ (m.1 1 3).toInt (m.1 1 4).toInt (hA2 (m.1 1 0).toInt a n (i : Int)) (hP2 (m.1 1 0).toInt p n (i : Int)) (i : Int)) hs2.2.2.2.2 127 dX4_findFar_94 (by decide) (fun h94 => ?_) (fun h94 => ?_)
          · refine J_iconst (pc := 127) (v := 0) dX4_findFar_127 (by decide) ?_
            refine J_istore (pc := 128) (lv' := [some (.ref 0), some (.int dv), some (.int kv), some (.int wv), some (.int 0)]) dX4_findFar_128 (Nat.le_of_ble_eq_true rfl) rfl rfl ?_
            refine J_aload_n (pc := 130) dX4_findFar_130 rfl ?_
            refine J_getR (pc := 131) 8 fF_X4_31 rfl rfl dX4_findFar_131 ?_
            refine J_iload_n (pc := 134) dX4_findFar_134 rfl ?_
            refine J_iload (pc := 135) dX4_findFar_135 rfl ?_
            refine J_if_eq_T (pc := 137) 144 dX4_findFar_137 (by decide) (by decide) ?_
            refine J_aload_n (pc := 144) dX4_findFar_144 rfl ?_
            refine J_getR (pc := 145) 8 fF_X4_31 rfl rfl dX4_findFar_145 ?_
            refine J_iload_n (pc := 148) dX4_findFar_148 rfl ?_
            refine J_ialdW (pc := 149) (pl a p n) (by omega) rfl (pl_lt hr) dX4_findFar_149 ?_
            refine J_iastW (pc := 150) (pl a p n) (by omega) rfl (pl_lt hr) dX4_findFar_150 (fun μ150 m150 => ?_)
            refine J_iincW' (pc := 151) (i : Int) hi (lv' := fun iq_ => [some (.ref 0), some (.int dv), some (.int kv), some (.int iq_), some (.int 0)]) dX4_findFar_151 rfl (by omega) (by decide) (Nat.le_of_ble_eq_true rfl) rfl (fun _ => rfl) (fun z151 e151 => ?_)
            refine J_goto (pc := 154) 42 dX4_findFar_154 (by decide) ?_
            refine J_lv' (lv' := [some (.ref 0), some (.int dv), some (.int kv), some (.int z151), none]) (by repeat' constructor) (ih (i + 1) z151 μ150 (by omega) (by omega) (by rw [m150]; exact (mst_a hs2 (by omega)).1) (by rw [m150, jI_eq8 rfl, h8, h80]) (fun w' hw' => ?_) hk2)
            rcases (by omega : w' < i ∨ w' = i) with h5 | rfl
            · exact hno w' h5
            · intro hh; have := hcw.1 hh; rcases this with ⟨h1, h2⟩ | ⟨h1, h2, h3⟩ <;> omega
          · refine J_aload_n (pc := 97) dX4_findFar_97 rfl ?_
            refine J_getR (pc := 98) 8 fF_X4_31 rfl rfl dX4_findFar_98 ?_
            refine J_aload_n (pc := 101) dX4_findFar_101 rfl ?_
            refine J_getI (pc := 102) fF_X4_66 rfl rfl dX4_findFar_102 ?_
            refine J_aload_n (pc := 105) dX4_findFar_105 rfl ?_
            refine J_getI (pc := 106) fF_X4_70 rfl rfl dX4_findFar_106 ?_
            refine J_aload_n (pc := 109) dX4_findFar_109 rfl ?_
            refine J_getI (pc := 110) fF_X4_73 rfl rfl dX4_findFar_110 ?_
            refine J_callSz (pc := 113) fC_X4_185 dX4_findFar_113 (c_X4_placeOf (hA2 (m.1 1 0).toInt a n (i : Int)) (hP2 (m.1 1 0).toInt p n (i : Int)) (n + 1) hs2.2.1 hs2.2.2.1 hs2.2.2.2.1 (by omega)) rfl ⟨Nat.le_of_ble_eq_true rfl, Nat.le_of_ble_eq_true rfl⟩ rfl (Nat.le_of_ble_eq_true rfl) (fun z113 e113 => ?_)
            refine J_ialdW (pc := 116) (pl (hA2 (m.1 1 0).toInt a n (i : Int)) (hP2 (m.1 1 0).toInt p n (i : Int)) (n + 1)) (by rw [e113, pl_i ⟨g1.1, g1.2, g2.1, g2.2⟩]) rfl (pl_lt ⟨g1.1, g1.2, g2.1, g2.2⟩) dX4_findFar_116 ?_
            refine J_iload_n (pc := 117) dX4_findFar_117 rfl ?_
            refine J_iconst (pc := 118) (v := 1) dX4_findFar_118 (by decide) ?_
            refine J_isubW (pc := 119) ((D : Int) + 1) 1 hdv rfl dX4_findFar_119 (by omega) (fun z119 e119 => ?_)
            refine J_icmp_neW (pc := 120) ((μ66.1 8 (pl (hA2 (m.1 1 0).toInt a n (i : Int)) (hP2 (m.1 1 0).toInt p n (i : Int)) (n + 1))).toInt) (((D : Int) + 1) - 1) rfl e119 127 dX4_findFar_120 (by decide) (fun h120 => ?_) (fun h120 => ?_)
            · refine J_iconst (pc := 127) (v := 0) dX4_findFar_127 (by decide) ?_
              refine J_istore (pc := 128) (lv' := [some (.ref 0), some (.int dv), some (.int kv), some (.int wv), some (.int 0)]) dX4_findFar_128 (Nat.le_of_ble_eq_true rfl) rfl rfl ?_
              refine J_aload_n (pc := 130) dX4_findFar_130 rfl ?_
              refine J_getR (pc := 131) 8 fF_X4_31 rfl rfl dX4_findFar_131 ?_
              refine J_iload_n (pc := 134) dX4_findFar_134 rfl ?_
              refine J_iload (pc := 135) dX4_findFar_135 rfl ?_
              refine J_if_eq_T (pc := 137) 144 dX4_findFar_137 (by decide) (by decide) ?_
              refine J_aload_n (pc := 144) dX4_findFar_144 rfl ?_
              refine J_getR (pc := 145) 8 fF_X4_31 rfl rfl dX4_findFar_145 ?_
              refine J_iload_n (pc := 148) dX4_findFar_148 rfl ?_
              refine J_ialdW (pc := 149) (pl a p n) (by omega) rfl (pl_lt hr) dX4_findFar_149 ?_
              refine J_iastW (pc := 150) (pl a p n) (by omega) rfl (pl_lt hr) dX4_findFar_150 (fun μ150 m150 => ?_)
              refine J_iincW' (pc := 151) (i : Int) hi (lv' := fun iq_ => [some (.ref 0), some (.int dv), some (.int kv), some (.int iq_), some (.int 0)]) dX4_findFar_151 rfl (by omega) (by decide) (Nat.le_of_ble_eq_true rfl) rfl (fun _ => rfl) (fun z151 e151 => ?_)
              refine J_goto (pc := 154) 42 dX4_findFar_154 (by decide) ?_
              refine J_lv' (lv' := [some (.ref 0), some (.int dv), some (.int kv), some (.int z151), none]) (by repeat' constructor) (ih (i + 1) z151 μ150 (by omega) (by omega) (by rw [m150]; exact (mst_a hs2 (by omega)).1) (by rw [m150, jI_eq8 rfl, h8, h80]) (fun w' hw' => ?_) hk2)
              rcases (by omega : w' < i ∨ w' = i) with h5 | rfl
              · exact hno w' h5
              · intro hh; have := hcw.1 hh; rcases this with ⟨h1, h2⟩ | ⟨h1, h2, h3⟩ <;> omega
            · refine J_iconst (pc := 123) (v := 1) dX4_findFar_123 (by decide) ?_
              refine J_goto (pc := 124) 128 dX4_findFar_124 (by decide) ?_
              refine J_istore (pc := 128) (lv' := [some (.ref 0), some (.int dv), some (.int kv), some (.int wv), some (.int 1)]) dX4_findFar_128 (Nat.le_of_ble_eq_true rfl) rfl rfl ?_
              refine J_aload_n (pc := 130) dX4_findFar_130 rfl ?_
              refine J_getR (pc := 131) 8 fF_X4_31 rfl rfl dX4_findFar_131 ?_
              refine J_iload_n (pc := 134) dX4_findFar_134 rfl ?_
              refine J_iload (pc := 135) dX4_findFar_135 rfl ?_
              refine J_if_eq_F (pc := 137) 144 dX4_findFar_137 (by decide) (by decide) ?_
              refine J_iload_n (pc := 140) dX4_findFar_140 rfl ?_
              refine J_goto (pc := 141) 150 dX4_findFar_141 (by decide) ?_
              refine J_iastW (pc := 150) (pl a p n) (by omega) rfl (pl_lt hr) dX4_findFar_150 (fun μ150 m150 => ?_)
              refine J_iincW' (pc := 151) (i : Int) hi (lv' := fun iq_ => [some (.ref 0), some (.int dv), some (.int kv), some (.int iq_), some (.int 1)]) dX4_findFar_151 rfl (by omega) (by decide) (Nat.le_of_ble_eq_true rfl) rfl (fun _ => rfl) (fun z151 e151 => ?_)
              refine J_goto (pc := 154) 42 dX4_findFar_154 (by decide) ?_
              have hcwi : cw (m.1 1 0).toInt (m.1 1 3).toInt (m.1 1 4).toInt 1 false D a p n i := hcw.2 (by first | exact Or.inl ⟨by omega, h79⟩ | exact Or.inr ⟨by omega, h94, by omega⟩)
              have hfin : farI (m.1 1 0).toInt (m.1 1 3).toInt (m.1 1 4).toInt μ150 D (pl a p n + 1) := by
                refine farI_s hr hF (fun j hj => by rw [m150, jI_i, if_neg (fun z => hj z.2), h8, h80]) ?_
                rw [m150, jI_i, if_pos ⟨rfl, rfl⟩]
                exact Or.inr ⟨D + 1, ⟨by omega, by omega⟩, by omega, ⟨i, by omega, hcwi⟩, fun l' h1 h2 => hnrc l' h1 (by omega)⟩
              have hE2 : eqM m μ150 := by rw [m150]; exact (mst_a hs2 (by omega)).1
              refine J_iload_n (pc := 42) dX4_findFar_42 rfl ?_
              refine J_bipush (pc := 43) (v := 6) dX4_findFar_43 (by decide) ?_
              refine J_icmp_geW (pc := 45) ((i : Int) + 1) 6 e151 rfl 157 dX4_findFar_45 (by decide) (fun h45 => ?_) (fun h45 => ?_)
              · exact J_lv' (lv' := [some (.ref 0), some (.int dv), some (.int kv), none, none]) (by repeat' constructor) (hk2 μ150 hE2 hfin)
              · refine J_aload_n (pc := 48) dX4_findFar_48 rfl ?_
                refine J_getR (pc := 49) 8 fF_X4_31 rfl rfl dX4_findFar_49 ?_
                refine J_iload_n (pc := 52) dX4_findFar_52 rfl ?_
                refine J_ialdW (pc := 53) (pl a p n) (by omega) rfl (pl_lt hr) dX4_findFar_53 ?_
                refine J_iload_n (pc := 54) dX4_findFar_54 rfl ?_
                refine J_icmp_leW (pc := 55) ((D : Int) + 1) ((D : Int) + 1) (by rw [m150, jI_i, if_pos ⟨rfl, rfl⟩]; exact hdv) hdv 157 dX4_findFar_55 (by decide) (fun h55 => ?_) (fun h55 => ?_)
                · exact J_lv' (lv' := [some (.ref 0), some (.int dv), some (.int kv), none, none]) (by repeat' constructor) (hk2 μ150 hE2 hfin)
                · exfalso; omega
        · refine J_aload_n (pc := 74) dX4_findFar_74 rfl ?_
          refine J_getI (pc := 75) fF_X4_76 rfl rfl dX4_findFar_75 ?_
          refine J_iconst (pc := 78) (v := 1) dX4_findFar_78 (by decide) ?_
          refine J_icmp_neW (pc := 79) (jZ (m.1 1 3).toInt (m.1 1 4).toInt (hA2 (m.1 1 0).toInt a n (i : Int)) (hP2 (m.1 1 0).toInt p n (i : Int)) (i : Int)) 1 hs2.2.2.2.2 rfl 86 dX4_findFar_79 (by decide) (fun h79 => ?_) (fun h79 => ?_)
          · refine J_iconst (pc := 86) (v := 0) dX4_findFar_86 (by decide) ?_
            refine J_goto (pc := 87) 128 dX4_findFar_87 (by decide) ?_
            refine J_istore (pc := 128) (lv' := [some (.ref 0), some (.int dv), some (.int kv), some (.int wv), some (.int 0)]) dX4_findFar_128 (Nat.le_of_ble_eq_true rfl) rfl rfl ?_
            refine J_aload_n (pc := 130) dX4_findFar_130 rfl ?_
            refine J_getR (pc := 131) 8 fF_X4_31 rfl rfl dX4_findFar_131 ?_
            refine J_iload_n (pc := 134) dX4_findFar_134 rfl ?_
            refine J_iload (pc := 135) dX4_findFar_135 rfl ?_
            refine J_if_eq_T (pc := 137) 144 dX4_findFar_137 (by decide) (by decide) ?_
            refine J_aload_n (pc := 144) dX4_findFar_144 rfl ?_
            refine J_getR (pc := 145) 8 fF_X4_31 rfl rfl dX4_findFar_145 ?_
            refine J_iload_n (pc := 148) dX4_findFar_148 rfl ?_
            refine J_ialdW (pc := 149) (pl a p n) (by omega) rfl (pl_lt hr) dX4_findFar_149 ?_
            refine J_iastW (pc := 150) (pl a p n) (by omega) rfl (pl_lt hr) dX4_findFar_150 (fun μ150 m150 => ?_)
            refine J_iincW' (pc := 151) (i : Int) hi (lv' := fun iq_ => [some (.ref 0), some (.int dv), some (.int kv), some (.int iq_), some (.int 0)]) dX4_findFar_151 rfl (by omega) (by decide) (Nat.le_of_ble_eq_true rfl) rfl (fun _ => rfl) (fun z151 e151 => ?_)
            refine J_goto (pc := 154) 42 dX4_findFar_154 (by decide) ?_
            refine J_lv' (lv' := [some (.ref 0), some (.int dv), some (.int kv), some (.int z151), none]) (by repeat' constructor) (ih (i + 1) z151 μ150 (by omega) (by omega) (by rw [m150]; exact (mst_a hs2 (by omega)).1) (by rw [m150, jI_eq8 rfl, h8, h80]) (fun w' hw' => ?_) hk2)
            rcases (by omega : w' < i ∨ w' = i) with h5 | rfl
            · exact hno w' h5
            · intro hh; have := hcw.1 hh; rcases this with ⟨h1, h2⟩ | ⟨h1, h2, h3⟩ <;> omega
          · refine J_iconst (pc := 82) (v := 1) dX4_findFar_82 (by decide) ?_
            refine J_goto (pc := 83) 128 dX4_findFar_83 (by decide) ?_
            refine J_istore (pc := 128) (lv' := [some (.ref 0), some (.int dv), some (.int kv), some (.int wv), some (.int 1)]) dX4_findFar_128 (Nat.le_of_ble_eq_true rfl) rfl rfl ?_
            refine J_aload_n (pc := 130) dX4_findFar_130 rfl ?_
            refine J_getR (pc := 131) 8 fF_X4_31 rfl rfl dX4_findFar_131 ?_
            refine J_iload_n (pc := 134) dX4_findFar_134 rfl ?_
            refine J_iload (pc := 135) dX4_findFar_135 rfl ?_
            refine J_if_eq_F (pc := 137) 144 dX4_findFar_137 (by decide) (by decide) ?_
            refine J_iload_n (pc := 140) dX4_findFar_140 rfl ?_
            refine J_goto (pc := 141) 150 dX4_findFar_141 (by decide) ?_
            refine J_iastW (pc := 150) (pl a p n) (by omega) rfl (pl_lt hr) dX4_findFar_150 (fun μ150 m150 => ?_)
            refine J_iincW' (pc := 151) (i : Int) hi (lv' := fun iq_ => [some (.ref 0), some (.int dv), some (.int kv), some (.int iq_), some (.int 1)]) dX4_findFar_151 rfl (by omega) (by decide) (Nat.le_of_ble_eq_true rfl) rfl (fun _ => rfl) (fun z151 e151 => ?_)
            refine J_goto (pc := 154) 42 dX4_findFar_154 (by decide) ?_
            have hcwi : cw (m.1 1 0).toInt (m.1 1 3).toInt (m.1 1 4).toInt 1 false D a p n i := hcw.2 (by first | exact Or.inl ⟨by omega, h79⟩ | exact Or.inr ⟨by omega, h94, by omega⟩)
            have hfin : farI (m.1 1 0).toInt (m.1 1 3).toInt (m.1 1 4).toInt μ150 D (pl a p n + 1) := by
              refine farI_s hr hF (fun j hj => by rw [m150, jI_i, if_neg (fun z => hj z.2), h8, h80]) ?_
              rw [m150, jI_i, if_pos ⟨rfl, rfl⟩]
              exact Or.inr ⟨D + 1, ⟨by omega, by omega⟩, by omega, ⟨i, by omega, hcwi⟩, fun l' h1 h2 => hnrc l' h1 (by omega)⟩
            have hE2 : eqM m μ150 := by rw [m150]; exact (mst_a hs2 (by omega)).1
            refine J_iload_n (pc := 42) dX4_findFar_42 rfl ?_
            refine J_bipush (pc := 43) (v := 6) dX4_findFar_43 (by decide) ?_
            refine J_icmp_geW (pc := 45) ((i : Int) + 1) 6 e151 rfl 157 dX4_findFar_45 (by decide) (fun h45 => ?_) (fun h45 => ?_)
            · exact J_lv' (lv' := [some (.ref 0), some (.int dv), some (.int kv), none, none]) (by repeat' constructor) (hk2 μ150 hE2 hfin)
            · refine J_aload_n (pc := 48) dX4_findFar_48 rfl ?_
              refine J_getR (pc := 49) 8 fF_X4_31 rfl rfl dX4_findFar_49 ?_
              refine J_iload_n (pc := 52) dX4_findFar_52 rfl ?_
              refine J_ialdW (pc := 53) (pl a p n) (by omega) rfl (pl_lt hr) dX4_findFar_53 ?_
              refine J_iload_n (pc := 54) dX4_findFar_54 rfl ?_
              refine J_icmp_leW (pc := 55) ((D : Int) + 1) ((D : Int) + 1) (by rw [m150, jI_i, if_pos ⟨rfl, rfl⟩]; exact hdv) hdv 157 dX4_findFar_55 (by decide) (fun h55 => ?_) (fun h55 => ?_)
              · exact J_lv' (lv' := [some (.ref 0), some (.int dv), some (.int kv), none, none]) (by repeat' constructor) (hk2 μ150 hE2 hfin)
              · exfalso; omega
theorem pl_of (q : Nat) (hq : q < 20000) : ∃ a p n : Int, (0 ≤ a ∧ a ≤ 99 ∧ 0 ≤ p ∧ p ≤ 99) ∧ (0 ≤ n ∧ n ≤ 1) ∧ q = pl a p n :=
  ⟨(q / 2 / 100 : Nat), (q / 2 % 100 : Nat), (q % 2 : Nat), by omega, by omega, by unfold pl; omega⟩
set_option maxRecDepth 100000 in
set_option maxHeartbeats 4000000 in
theorem l_n_far2 {m : JM} (hc : constM m) {D : Nat} (hD : D < 12) {dv : Int32} (hdv : dv.toInt = (D : Int) + 1) {Q : Option Value → JM → Prop} : ∀ d : Nat, ∀ (q : Nat) (kv : Int32) (ν : JM), q + d = 20000 → kv.toInt = (q : Int) → eqM m ν → farI (m.1 1 0).toInt (m.1 1 3).toInt (m.1 1 4).toInt ν D q → (∀ ν', eqM m ν' → farI (m.1 1 0).toInt (m.1 1 3).toInt (m.1 1 4).toInt ν' D 20000 → J G shM mX4_findFar 163 [some (.ref 0), some (.int dv), none, none, none] [] ν' Q) → J G shM mX4_findFar 33 [some (.ref 0), some (.int dv), some (.int kv), none, none] [] ν Q := by
  intro d
  induction d with
  | zero =>
    intro q kv ν hd hq hE hF hk2
    refine J_iload_n (pc := 33) dX4_findFar_33 rfl ?_
    refine J_sipush (pc := 34) (v := 20000) dX4_findFar_34 (by decide) ?_
    refine J_icmp_geW (pc := 37) (q : Int) 20000 hq rfl 163 dX4_findFar_37 (by decide) (fun h37 => ?_) (fun h37 => ?_)
    · exact J_lv' (lv' := [some (.ref 0), some (.int dv), none, none, none]) (by repeat' constructor) (hk2 ν hE (by rw [show q = 20000 by omega] at hF; exact hF))
    · exfalso; omega
  | succ d ih =>
    intro q kv ν hd hq hE hF hk2
    refine J_iload_n (pc := 33) dX4_findFar_33 rfl ?_
    refine J_sipush (pc := 34) (v := 20000) dX4_findFar_34 (by decide) ?_
    refine J_icmp_geW (pc := 37) (q : Int) 20000 hq rfl 163 dX4_findFar_37 (by decide) (fun h37 => ?_) (fun h37 => ?_)
    · exfalso; omega
    · refine J_iconst (pc := 40) (v := 0) dX4_findFar_40 (by decide) ?_
      refine J_istore_n (pc := 41) (lv' := [some (.ref 0), some (.int dv), some (.int kv), some (.int 0), none]) dX4_findFar_41 (Nat.le_of_ble_eq_true rfl) rfl rfl ?_
      obtain ⟨a, p, n, hr, hn01, rfl⟩ := pl_of q (by omega)
      refine l_n_far3 hc hD hdv hr hn01 hq hF rfl 6 0 0 ν (by omega) rfl hE rfl (fun w' hw' => absurd hw' (by omega)) (fun ν' hE' hF' => ?_)
      refine J_iincW' (pc := 157) ((pl a p n) : Int) hq (lv' := fun iq_ => [some (.ref 0), some (.int dv), some (.int iq_), none, none]) dX4_findFar_157 rfl (by omega) (by decide) (Nat.le_of_ble_eq_true rfl) rfl (fun _ => rfl) (fun z157 e157 => ?_)
      refine J_goto (pc := 160) 33 dX4_findFar_160 (by decide) ?_
      exact J_lv' (lv' := [some (.ref 0), some (.int dv), some (.int z157), none, none]) (by repeat' constructor) (ih (pl a p n + 1) z157 ν' (by omega) (by omega) hE' hF' hk2)
set_option maxRecDepth 100000 in
set_option maxHeartbeats 4000000 in
theorem l_n_far1 {m : JM} (hc : constM m) : ∀ d : Nat, ∀ (D : Nat) (dv : Int32) (ν : JM), D + d = 12 → dv.toInt = (D : Int) + 1 → eqM m ν → farI (m.1 1 0).toInt (m.1 1 3).toInt (m.1 1 4).toInt ν D 0 → J G shM mX4_findFar 25 [some (.ref 0), some (.int dv), none, none, none] [] ν (fun v μ' => v = none ∧ eqM m μ' ∧ farI (m.1 1 0).toInt (m.1 1 3).toInt (m.1 1 4).toInt μ' 12 0) := by
  intro d
  induction d with
  | zero =>
    intro D dv ν hd hdv hE hF
    refine J_iload_n (pc := 25) dX4_findFar_25 rfl ?_
    refine J_bipush (pc := 26) (v := 12) dX4_findFar_26 (by decide) ?_
    refine J_icmp_gtW (pc := 28) ((D : Int) + 1) 12 hdv rfl 169 dX4_findFar_28 (by decide) (fun h28 => ?_) (fun h28 => ?_)
    · refine J_vret (pc := 169) dX4_findFar_169 rfl ?_
      exact ⟨rfl, hE, by rw [show 12 = D by omega]; exact hF⟩
    · exfalso; omega
  | succ d ih =>
    intro D dv ν hd hdv hE hF
    refine J_iload_n (pc := 25) dX4_findFar_25 rfl ?_
    refine J_bipush (pc := 26) (v := 12) dX4_findFar_26 (by decide) ?_
    refine J_icmp_gtW (pc := 28) ((D : Int) + 1) 12 hdv rfl 169 dX4_findFar_28 (by decide) (fun h28 => ?_) (fun h28 => ?_)
    · exfalso; omega
    · refine J_iconst (pc := 31) (v := 0) dX4_findFar_31 (by decide) ?_
      refine J_istore_n (pc := 32) (lv' := [some (.ref 0), some (.int dv), some (.int 0), none, none]) dX4_findFar_32 (Nat.le_of_ble_eq_true rfl) rfl rfl ?_
      refine J_lv' (lv' := [some (.ref 0), some (.int dv), some (.int 0), none, none]) (by repeat' constructor) (l_n_far2 hc (by omega) hdv 20000 0 0 ν (by omega) rfl hE hF (fun ν' hE' hF' => ?_))
      refine J_iincW' (pc := 163) ((D : Int) + 1) hdv (lv' := fun iq_ => [some (.ref 0), some (.int iq_), none, none, none]) dX4_findFar_163 rfl (by omega) (by decide) (Nat.le_of_ble_eq_true rfl) rfl (fun _ => rfl) (fun z163 e163 => ?_)
      refine J_goto (pc := 166) 25 dX4_findFar_166 (by decide) ?_
      exact J_lv' (lv' := [some (.ref 0), some (.int z163), none, none, none]) (by repeat' constructor) (ih (D + 1) z163 ν' (by omega) (by omega) hE' (farI_up hF'))
set_option maxRecDepth 100000 in
set_option maxHeartbeats 4000000 in
theorem l_n_far0 {m : JM} (hc : constM m) : ∀ d : Nat, ∀ (i : Nat) (iv : Int32) (ν : JM), i + d = 20000 → iv.toInt = (i : Int) → eqM m ν → (∀ j, j < i → ν.1 8 j = 13) → J G shM mX4_findFar 2 [some (.ref 0), some (.int iv), none, none, none] [] ν (fun v μ' => v = none ∧ eqM m μ' ∧ farI (m.1 1 0).toInt (m.1 1 3).toInt (m.1 1 4).toInt μ' 12 0) := by
  intro d
  induction d with
  | zero =>
    intro i iv ν hd hi hE hj
    refine J_iload_n (pc := 2) dX4_findFar_2 rfl ?_
    refine J_sipush (pc := 3) (v := 20000) dX4_findFar_3 (by decide) ?_
    refine J_icmp_geW (pc := 6) (i : Int) 20000 hi rfl 23 dX4_findFar_6 (by decide) (fun h6 => ?_) (fun h6 => ?_)
    · refine J_iconst (pc := 23) (v := 1) dX4_findFar_23 (by decide) ?_
      refine J_istore_n (pc := 24) (lv' := [some (.ref 0), some (.int 1), none, none, none]) dX4_findFar_24 (Nat.le_of_ble_eq_true rfl) rfl rfl ?_
      refine J_lv' (lv' := [some (.ref 0), some (.int 1), none, none, none]) (by repeat' constructor) (l_n_far1 hc 12 0 1 ν (by omega) rfl hE (fun a p n h1 h2 => ?_))
      rw [hj _ (by have := pl_lt (n := n) h1; omega), if_neg (by omega)]
      exact Or.inl ⟨rfl, fun l h3 h4 => by omega⟩
    · exfalso; omega
  | succ d ih =>
    intro i iv ν hd hi hE hj
    refine J_iload_n (pc := 2) dX4_findFar_2 rfl ?_
    refine J_sipush (pc := 3) (v := 20000) dX4_findFar_3 (by decide) ?_
    refine J_icmp_geW (pc := 6) (i : Int) 20000 hi rfl 23 dX4_findFar_6 (by decide) (fun h6 => ?_) (fun h6 => ?_)
    · exfalso; omega
    · refine J_aload_n (pc := 9) dX4_findFar_9 rfl ?_
      refine J_getR (pc := 10) 8 fF_X4_31 rfl rfl dX4_findFar_10 ?_
      refine J_iload_n (pc := 13) dX4_findFar_13 rfl ?_
      refine J_bipush (pc := 14) (v := 13) dX4_findFar_14 (by decide) ?_
      refine J_iastW (pc := 16) i (by have q := hi; omega) rfl (by omega) dX4_findFar_16 (fun μ16 m16 => ?_)
      refine J_iincW' (pc := 17) (i : Int) hi (lv' := fun iq_ => [some (.ref 0), some (.int iq_), none, none, none]) dX4_findFar_17 rfl (by omega) (by decide) (Nat.le_of_ble_eq_true rfl) rfl (fun _ => rfl) (fun z17 e17 => ?_)
      refine J_goto (pc := 20) 2 dX4_findFar_20 (by decide) ?_
      exact J_lv' (lv' := [some (.ref 0), some (.int z17), none, none, none]) (by repeat' constructor) (ih (i + 1) z17 μ16 (by omega) (by omega) (by rw [m16]; exact eqM_o hE (fun q h6 h7 => jI_ne (by omega)) (by rw [jI_ne (by decide)]) rfl) (fun j hj2 => by rw [m16, jI_i]; by_cases e : j = i; rw [if_pos ⟨rfl, e⟩]; rw [if_neg (fun z => e z.2)]; exact hj j (by omega)))
set_option maxRecDepth 100000 in
set_option maxHeartbeats 4000000 in
theorem c_X4_findFar {m ν : JM} (hc : constM m) (hE : eqM m ν) : Con G shM mX4_findFar [.ref 0] ν (fun v μ' => v = none ∧ eqM m μ' ∧ farI (m.1 1 0).toInt (m.1 1 3).toInt (m.1 1 4).toInt μ' 12 0) := by
  refine Con_of [some (.ref 0), none, none, none, none] (by decide +kernel) (Nat.le_of_ble_eq_true rfl) (fun _ h => h) ?_
  refine J_iconst (pc := 0) (v := 0) dX4_findFar_0 (by decide) ?_
  refine J_istore_n (pc := 1) (lv' := [some (.ref 0), some (.int 0), none, none, none]) dX4_findFar_1 (Nat.le_of_ble_eq_true rfl) rfl rfl ?_
  exact J_lv' (lv' := [some (.ref 0), some (.int 0), none, none, none]) (by repeat' constructor) (l_n_far0 hc 20000 0 0 ν (by omega) rfl hE (fun j hj => absurd hj (by omega)))
theorem mst_set {m ν : JM} {av pv nv : Int32} {a p n : Int} (hE : eqM m ν) (ha : av.toInt = a) (hp : pv.toInt = p) (hn : nv.toInt = n) : mst m (jI (jI (jI ν 0 4 av) 0 5 pv) 0 6 nv) a p n (ν.1 0 7).toInt := by
  refine ⟨eqM_0 (eqM_0 (eqM_0 hE (by decide)) (by decide)) (by decide), ?_, ?_, ?_, ?_⟩
  · rw [jI_i, if_neg (by decide), jI_i, if_neg (by decide), jI_i, if_pos ⟨rfl, rfl⟩]; exact ha
  · rw [jI_i, if_neg (by decide), jI_i, if_pos ⟨rfl, rfl⟩]; exact hp
  · rw [jI_i, if_pos ⟨rfl, rfl⟩]; exact hn
  · rw [jI_i, if_neg (by decide), jI_i, if_neg (by decide), jI_i, if_neg (by decide)]
set_option maxRecDepth 100000 in
set_option maxHeartbeats 4000000 in
theorem l_n_wi2 {m : JM} (hc : constM m) {a p n : Int} (hr : 0 ≤ a ∧ a ≤ 99 ∧ 0 ≤ p ∧ p ≤ 99) (hn0 : 0 ≤ n ∧ n < 300000) {R q : Nat} {rv kv av pv nv : Int32} (hrv : rv.toInt = ((q + (R + 1) : Nat) : Int)) (hkv : kv.toInt = (q : Int)) (hq12 : q + (R + 1) ≤ 12) (ha : av.toInt = a) (hp : pv.toInt = p) (hn : nv.toInt = n) {ν0 : JM} (hF0 : farI (m.1 1 0).toInt (m.1 1 3).toInt (m.1 1 4).toInt ν0 12 0) (hrc : rc (m.1 1 0).toInt (m.1 1 3).toInt (m.1 1 4).toInt 1 false (R + 1) a p n) (hnrc : ∀ l : Nat, 1 ≤ l → l ≤ R → ¬ rc (m.1 1 0).toInt (m.1 1 3).toInt (m.1 1 4).toInt 1 false l a p n) {Q : Option Value → JM → Prop} : ∀ d : Nat, ∀ (i : Nat) (wv : Int32) (ν : JM), i + d = 6 → wv.toInt = (i : Int) → eqM m ν → ν.1 8 = ν0.1 8 → (∀ w', w' < i → ¬ cw (m.1 1 0).toInt (m.1 1 3).toInt (m.1 1 4).toInt 1 false R a p n w') → (∀ j, j < q → ν.1 10 j = ν0.1 10 j) → (∀ (w : Nat) (ν' : JM), w < 6 → cw (m.1 1 0).toInt (m.1 1 3).toInt (m.1 1 4).toInt 1 false R a p n w → (∀ w', w' < w → ¬ cw (m.1 1 0).toInt (m.1 1 3).toInt (m.1 1 4).toInt 1 false R a p n w') → mst m ν' (hA2 (m.1 1 0).toInt a n w) (hP2 (m.1 1 0).toInt p n w) (n + 1) (nB (m.1 1 0).toInt (m.1 1 3).toInt (m.1 1 4).toInt a p n w) → ν'.1 8 = ν0.1 8 → (ν'.1 10 q).toInt = (w : Int) → (∀ j, j < q → ν'.1 10 j = ν0.1 10 j) → J G shM mX4_walkIn 149 [some (.ref 0), some (.int rv), some (.int kv), some (.int av), some (.int pv), some (.int nv), none, none] [] ν' Q) → J G shM mX4_walkIn 34 [some (.ref 0), some (.int rv), some (.int kv), some (.int av), some (.int pv), some (.int nv), some (.int 0), some (.int wv)] [] ν Q := by
  intro d
  induction d with
  | zero =>
    intro i wv ν hd hi hE h80 hno hj10 hk2
    have g1 := hA2_rng (m.1 1 0).toInt a n (i : Int)
    have g2 := hP2_rng (m.1 1 0).toInt p n (i : Int)
    have hF : farI (m.1 1 0).toInt (m.1 1 3).toInt (m.1 1 4).toInt ν 12 0 := farI_8 hF0 h80
    have hR12 : R ≤ 12 := by omega
    refine J_iload (pc := 34) dX4_walkIn_34 rfl ?_
    refine J_bipush (pc := 36) (v := 6) dX4_walkIn_36 (by decide) ?_
    refine J_icmp_geW (pc := 38) (i : Int) 6 hi rfl 149 dX4_walkIn_38 (by decide) (fun h38 => ?_) (fun h38 => ?_)
    · exfalso
      obtain ⟨w, h1, h2⟩ := hrc
      exact hno w (by omega) h2
    · exfalso; omega
  | succ d ih =>
    intro i wv ν hd hi hE h80 hno hj10 hk2
    have g1 := hA2_rng (m.1 1 0).toInt a n (i : Int)
    have g2 := hP2_rng (m.1 1 0).toInt p n (i : Int)
    have hF : farI (m.1 1 0).toInt (m.1 1 3).toInt (m.1 1 4).toInt ν 12 0 := farI_8 hF0 h80
    have hR12 : R ≤ 12 := by omega
    refine J_iload (pc := 34) dX4_walkIn_34 rfl ?_
    refine J_bipush (pc := 36) (v := 6) dX4_walkIn_36 (by decide) ?_
    refine J_icmp_geW (pc := 38) (i : Int) 6 hi rfl 149 dX4_walkIn_38 (by decide) (fun h38 => ?_) (fun h38 => ?_)
    · exfalso; omega
    · refine J_iload (pc := 41) dX4_walkIn_41 rfl ?_
      refine J_if_ne_F (pc := 43) 149 dX4_walkIn_43 (by decide) (by decide) ?_
      refine J_aload_n (pc := 46) dX4_walkIn_46 rfl ?_
      refine J_iload_n (pc := 47) dX4_walkIn_47 rfl ?_
      refine J_putIW (pc := 48) fF_X4_66 rfl rfl dX4_walkIn_48 (fun μ48 m48 => ?_)
      refine J_aload_n (pc := 51) dX4_walkIn_51 rfl ?_
      refine J_iload (pc := 52) dX4_walkIn_52 rfl ?_
      refine J_putIW (pc := 54) fF_X4_70 rfl rfl dX4_walkIn_54 (fun μ54 m54 => ?_)
      refine J_aload_n (pc := 57) dX4_walkIn_57 rfl ?_
      refine J_iload (pc := 58) dX4_walkIn_58 rfl ?_
      refine J_putIW (pc := 60) fF_X4_73 rfl rfl dX4_walkIn_60 (fun μ60 m60 => ?_)
      refine J_aload_n (pc := 63) dX4_walkIn_63 rfl ?_
      refine J_iload (pc := 64) dX4_walkIn_64 rfl ?_
      refine J_iconst (pc := 66) (v := 1) dX4_walkIn_66 (by decide) ?_
      refine J_callVv (pc := 67) fC_X4_139 rfl dX4_walkIn_67 (c_X4_hear1 (mst_c (by rw [m60, m54, m48]; exact mst_set hE ha hp hn : mst m μ60 a p n (ν.1 0 7).toInt) hc) (i : Int) hi (by omega) (by rw [(by rw [m60, m54, m48]; exact mst_set hE ha hp hn : mst m μ60 a p n (ν.1 0 7).toInt).2.1]; omega) (by rw [(by rw [m60, m54, m48]; exact mst_set hE ha hp hn : mst m μ60 a p n (ν.1 0 7).toInt).2.2.1]; omega) (by rw [(by rw [m60, m54, m48]; exact mst_set hE ha hp hn : mst m μ60 a p n (ν.1 0 7).toInt).2.2.2.1]; omega)) rfl ⟨Nat.le_of_ble_eq_true rfl, Nat.le_of_ble_eq_true rfl⟩ rfl (Nat.le_of_ble_eq_true rfl) (fun μ67 m67 => ?_)
      have hs := mst_set hE ha hp hn
      rw [← m48, ← m54, ← m60] at hs
      have hs2 := mst_hear (w := (i : Int)) hs (by omega)
      rw [← m67] at hs2
      have h8 : μ67.1 8 = ν.1 8 := by rw [m67, hearM_o.1 8 (by omega), m60, jI_ne (by omega), m54, jI_ne (by omega), m48, jI_ne (by omega)]
      have h10 : μ67.1 10 = ν.1 10 := by rw [m67, hearM_o.1 10 (by omega), m60, jI_ne (by omega), m54, jI_ne (by omega), m48, jI_ne (by omega)]
      have hmd : md (m.1 1 0).toInt (m.1 1 3).toInt (m.1 1 4).toInt (μ67.1 8 (pl (hA2 (m.1 1 0).toInt a n (i : Int)) (hP2 (m.1 1 0).toInt p n (i : Int)) (n + 1))).toInt 12 (hA2 (m.1 1 0).toInt a n (i : Int)) (hP2 (m.1 1 0).toInt p n (i : Int)) (n + 1) := by rw [h8]; exact farI_D hF ⟨g1.1, g1.2, g2.1, g2.2⟩ (by omega)
      have hcw := cw_md (w := i) (by omega) hnrc hR12 (by omega) hmd
      have hnB : nB (m.1 1 0).toInt (m.1 1 3).toInt (m.1 1 4).toInt a p n i = (jZ (m.1 1 3).toInt (m.1 1 4).toInt (hA2 (m.1 1 0).toInt a n (i : Int)) (hP2 (m.1 1 0).toInt p n (i : Int)) (i : Int)) := rfl
      refine J_aload_n (pc := 70) dX4_walkIn_70 rfl ?_
      refine J_getR (pc := 71) 10 fF_X4_39 rfl rfl dX4_walkIn_71 ?_
      refine J_iload_n (pc := 74) dX4_walkIn_74 rfl ?_
      refine J_iload (pc := 75) dX4_walkIn_75 rfl ?_
      refine J_iastW (pc := 77) q (hkv) rfl (by omega) dX4_walkIn_77 (fun μ77 m77 => ?_)
      have hs3 := mst_a (o := 10) (j := q) (x := wv) hs2 (by omega)
      rw [← m77] at hs3
      refine J_iload_n (pc := 78) dX4_walkIn_78 rfl ?_
      refine J_iload_n (pc := 79) dX4_walkIn_79 rfl ?_
      refine J_iconst (pc := 80) (v := 1) dX4_walkIn_80 (by decide) ?_
      refine J_isubW (pc := 81) ((q + (R + 1) : Nat) : Int) 1 hrv rfl dX4_walkIn_81 (by omega) (fun z81 e81 => ?_)
      refine J_icmp_neW (pc := 82) (q : Int) (((q + (R + 1) : Nat) : Int) - 1) hkv e81 101 dX4_walkIn_82 (by decide) (fun h82 => ?_) (fun h82 => ?_)
      · refine J_aload_n (pc := 101) dX4_walkIn_101 rfl ?_
        refine J_getI (pc := 102) fF_X4_76 rfl rfl dX4_walkIn_102 ?_
        refine J_if_neW (pc := 105) (jZ (m.1 1 3).toInt (m.1 1 4).toInt (hA2 (m.1 1 0).toInt a n (i : Int)) (hP2 (m.1 1 0).toInt p n (i : Int)) (i : Int)) hs3.2.2.2.2 140 dX4_walkIn_105 (by decide) (fun h105 => ?_) (fun h105 => ?_)
        · refine J_iconst (pc := 140) (v := 0) dX4_walkIn_140 (by decide) ?_
          refine J_istore (pc := 141) (lv' := [some (.ref 0), some (.int rv), some (.int kv), some (.int av), some (.int pv), some (.int nv), some (.int 0), some (.int wv)]) dX4_walkIn_141 (Nat.le_of_ble_eq_true rfl) rfl rfl ?_
          refine J_iincW' (pc := 143) (i : Int) hi (lv' := fun iq_ => [some (.ref 0), some (.int rv), some (.int kv), some (.int av), some (.int pv), some (.int nv), some (.int 0), some (.int iq_)]) dX4_walkIn_143 rfl (by omega) (by decide) (Nat.le_of_ble_eq_true rfl) rfl (fun _ => rfl) (fun z143 e143 => ?_)
          refine J_goto (pc := 146) 34 dX4_walkIn_146 (by decide) ?_
          refine J_lv' (lv' := [some (.ref 0), some (.int rv), some (.int kv), some (.int av), some (.int pv), some (.int nv), some (.int 0), some (.int z143)]) (by repeat' constructor) (ih (i + 1) z143 μ77 (by omega) (by omega) hs3.1 (by rw [m77, jI_ne (by decide), h8, h80]) (fun w' hw' => ?_) (fun j hj => by rw [m77, jI_i, if_neg (by omega), h10]; exact hj10 j hj) hk2)
          rcases (by omega : w' < i ∨ w' = i) with h5 | rfl
          · exact hno w' h5
          · intro hh; have := hcw.1 hh; rcases this with ⟨h1, h2⟩ | ⟨h1, h2, h3⟩ <;> omega
        · refine J_aload_n (pc := 108) dX4_walkIn_108 rfl ?_
          refine J_getR (pc := 109) 8 fF_X4_31 rfl rfl dX4_walkIn_109 ?_
          refine J_aload_n (pc := 112) dX4_walkIn_112 rfl ?_
          refine J_getI (pc := 113) fF_X4_66 rfl rfl dX4_walkIn_113 ?_
          refine J_aload_n (pc := 116) dX4_walkIn_116 rfl ?_
          refine J_getI (pc := 117) fF_X4_70 rfl rfl dX4_walkIn_117 ?_
          refine J_aload_n (pc := 120) dX4_walkIn_120 rfl ?_
          refine J_getI (pc := 121) fF_X4_73 rfl rfl dX4_walkIn_121 ?_
          refine J_callSz (pc := 124) fC_X4_185 dX4_walkIn_124 (c_X4_placeOf (hA2 (m.1 1 0).toInt a n (i : Int)) (hP2 (m.1 1 0).toInt p n (i : Int)) (n + 1) hs3.2.1 hs3.2.2.1 hs3.2.2.2.1 (by omega)) rfl ⟨Nat.le_of_ble_eq_true rfl, Nat.le_of_ble_eq_true rfl⟩ rfl (Nat.le_of_ble_eq_true rfl) (fun z124 e124 => ?_)
          refine J_ialdW (pc := 127) (pl (hA2 (m.1 1 0).toInt a n (i : Int)) (hP2 (m.1 1 0).toInt p n (i : Int)) (n + 1)) (by rw [e124, pl_i ⟨g1.1, g1.2, g2.1, g2.2⟩]) rfl (pl_lt ⟨g1.1, g1.2, g2.1, g2.2⟩) dX4_walkIn_127 ?_
          refine J_iload_n (pc := 128) dX4_walkIn_128 rfl ?_
          refine J_iconst (pc := 129) (v := 1) dX4_walkIn_129 (by decide) ?_
          refine J_isubW (pc := 130) ((q + (R + 1) : Nat) : Int) 1 hrv rfl dX4_walkIn_130 (by omega) (fun z130 e130 => ?_)
          refine J_iload_n (pc := 131) dX4_walkIn_131 rfl ?_
          refine J_isubW (pc := 132) (((q + (R + 1) : Nat) : Int) - 1) (q : Int) e130 hkv dX4_walkIn_132 (by omega) (fun z132 e132 => ?_)
          refine J_icmp_neW (pc := 133) ((μ67.1 8 (pl (hA2 (m.1 1 0).toInt a n (i : Int)) (hP2 (m.1 1 0).toInt p n (i : Int)) (n + 1))).toInt) ((((q + (R + 1) : Nat) : Int) - 1) - (q : Int)) (by rw [m77, jI_ne (by decide)]) e132 140 dX4_walkIn_133 (by decide) (fun h133 => ?_) (fun h133 => ?_)
          · refine J_iconst (pc := 140) (v := 0) dX4_walkIn_140 (by decide) ?_
            refine J_istore (pc := 141) (lv' := [some (.ref 0), some (.int rv), some (.int kv), some (.int av), some (.int pv), some (.int nv), some (.int 0), some (.int wv)]) dX4_walkIn_141 (Nat.le_of_ble_eq_true rfl) rfl rfl ?_
            refine J_iincW' (pc := 143) (i : Int) hi (lv' := fun iq_ => [some (.ref 0), some (.int rv), some (.int kv), some (.int av), some (.int pv), some (.int nv), some (.int 0), some (.int iq_)]) dX4_walkIn_143 rfl (by omega) (by decide) (Nat.le_of_ble_eq_true rfl) rfl (fun _ => rfl) (fun z143 e143 => ?_)
            refine J_goto (pc := 146) 34 dX4_walkIn_146 (by decide) ?_
            refine J_lv' (lv' := [some (.ref 0), some (.int rv), some (.int kv), some (.int av), some (.int pv), some (.int nv), some (.int 0), some (.int z143)]) (by repeat' constructor) (ih (i + 1) z143 μ77 (by omega) (by omega) hs3.1 (by rw [m77, jI_ne (by decide), h8, h80]) (fun w' hw' => ?_) (fun j hj => by rw [m77, jI_i, if_neg (by omega), h10]; exact hj10 j hj) hk2)
            rcases (by omega : w' < i ∨ w' = i) with h5 | rfl
            · exact hno w' h5
            · intro hh; have := hcw.1 hh; rcases this with ⟨h1, h2⟩ | ⟨h1, h2, h3⟩ <;> omega
          · refine J_iconst (pc := 136) (v := 1) dX4_walkIn_136 (by decide) ?_
            refine J_goto (pc := 137) 141 dX4_walkIn_137 (by decide) ?_
            refine J_istore (pc := 141) (lv' := [some (.ref 0), some (.int rv), some (.int kv), some (.int av), some (.int pv), some (.int nv), some (.int 1), some (.int wv)]) dX4_walkIn_141 (Nat.le_of_ble_eq_true rfl) rfl rfl ?_
            refine J_iincW' (pc := 143) (i : Int) hi (lv' := fun iq_ => [some (.ref 0), some (.int rv), some (.int kv), some (.int av), some (.int pv), some (.int nv), some (.int 1), some (.int iq_)]) dX4_walkIn_143 rfl (by omega) (by decide) (Nat.le_of_ble_eq_true rfl) rfl (fun _ => rfl) (fun z143 e143 => ?_)
            refine J_goto (pc := 146) 34 dX4_walkIn_146 (by decide) ?_
            have hcwi : cw (m.1 1 0).toInt (m.1 1 3).toInt (m.1 1 4).toInt 1 false R a p n i := hcw.2 (by first | exact Or.inl ⟨by omega, by omega⟩ | exact Or.inr ⟨by omega, by omega, by omega⟩)
            refine J_iload (pc := 34) dX4_walkIn_34 rfl ?_
            refine J_bipush (pc := 36) (v := 6) dX4_walkIn_36 (by decide) ?_
            refine J_icmp_geW (pc := 38) ((i : Int) + 1) 6 e143 rfl 149 dX4_walkIn_38 (by decide) (fun h38 => ?_) (fun h38 => ?_)
            · exact J_lv' (lv' := [some (.ref 0), some (.int rv), some (.int kv), some (.int av), some (.int pv), some (.int nv), none, none]) (by repeat' constructor) (hk2 i μ77 (by omega) hcwi hno hs3 (by rw [m77, jI_ne (by decide), h8]; exact h80) (by rw [m77, jI_i, if_pos ⟨rfl, rfl⟩]; exact hi) (fun j hj => by rw [m77, jI_i, if_neg (by omega), h10]; exact hj10 j hj))
            · refine J_iload (pc := 41) dX4_walkIn_41 rfl ?_
              refine J_if_ne_T (pc := 43) 149 dX4_walkIn_43 (by decide) (by decide) ?_
              exact J_lv' (lv' := [some (.ref 0), some (.int rv), some (.int kv), some (.int av), some (.int pv), some (.int nv), none, none]) (by repeat' constructor) (hk2 i μ77 (by omega) hcwi hno hs3 (by rw [m77, jI_ne (by decide), h8]; exact h80) (by rw [m77, jI_i, if_pos ⟨rfl, rfl⟩]; exact hi) (fun j hj => by rw [m77, jI_i, if_neg (by omega), h10]; exact hj10 j hj))
      · refine J_aload_n (pc := 85) dX4_walkIn_85 rfl ?_
        refine J_getI (pc := 86) fF_X4_76 rfl rfl dX4_walkIn_86 ?_
        refine J_iconst (pc := 89) (v := 1) dX4_walkIn_89 (by decide) ?_
        refine J_icmp_neW (pc := 90) (jZ (m.1 1 3).toInt (m.1 1 4).toInt (hA2 (m.1 1 0).toInt a n (i : Int)) (hP2 (m.1 1 0).toInt p n (i : Int)) (i : Int)) 1 hs3.2.2.2.2 rfl 97 dX4_walkIn_90 (by decide) (fun h90 => ?_) (fun h90 => ?_)
        · refine J_iconst (pc := 97) (v := 0) dX4_walkIn_97 (by decide) ?_
          refine J_goto (pc := 98) 141 dX4_walkIn_98 (by decide) ?_
          refine J_istore (pc := 141) (lv' := [some (.ref 0), some (.int rv), some (.int kv), some (.int av), some (.int pv), some (.int nv), some (.int 0), some (.int wv)]) dX4_walkIn_141 (Nat.le_of_ble_eq_true rfl) rfl rfl ?_
          refine J_iincW' (pc := 143) (i : Int) hi (lv' := fun iq_ => [some (.ref 0), some (.int rv), some (.int kv), some (.int av), some (.int pv), some (.int nv), some (.int 0), some (.int iq_)]) dX4_walkIn_143 rfl (by omega) (by decide) (Nat.le_of_ble_eq_true rfl) rfl (fun _ => rfl) (fun z143 e143 => ?_)
          refine J_goto (pc := 146) 34 dX4_walkIn_146 (by decide) ?_
          refine J_lv' (lv' := [some (.ref 0), some (.int rv), some (.int kv), some (.int av), some (.int pv), some (.int nv), some (.int 0), some (.int z143)]) (by repeat' constructor) (ih (i + 1) z143 μ77 (by omega) (by omega) hs3.1 (by rw [m77, jI_ne (by decide), h8, h80]) (fun w' hw' => ?_) (fun j hj => by rw [m77, jI_i, if_neg (by omega), h10]; exact hj10 j hj) hk2)
          rcases (by omega : w' < i ∨ w' = i) with h5 | rfl
          · exact hno w' h5
          · intro hh; have := hcw.1 hh; rcases this with ⟨h1, h2⟩ | ⟨h1, h2, h3⟩ <;> omega
        · refine J_iconst (pc := 93) (v := 1) dX4_walkIn_93 (by decide) ?_
          refine J_goto (pc := 94) 141 dX4_walkIn_94 (by decide) ?_
          refine J_istore (pc := 141) (lv' := [some (.ref 0), some (.int rv), some (.int kv), some (.int av), some (.int pv), some (.int nv), some (.int 1), some (.int wv)]) dX4_walkIn_141 (Nat.le_of_ble_eq_true rfl) rfl rfl ?_
          refine J_iincW' (pc := 143) (i : Int) hi (lv' := fun iq_ => [some (.ref 0), some (.int rv), some (.int kv), some (.int av), some (.int pv), some (.int nv), some (.int 1), some (.int iq_)]) dX4_walkIn_143 rfl (by omega) (by decide) (Nat.le_of_ble_eq_true rfl) rfl (fun _ => rfl) (fun z143 e143 => ?_)
          refine J_goto (pc := 146) 34 dX4_walkIn_146 (by decide) ?_
          have hcwi : cw (m.1 1 0).toInt (m.1 1 3).toInt (m.1 1 4).toInt 1 false R a p n i := hcw.2 (by first | exact Or.inl ⟨by omega, by omega⟩ | exact Or.inr ⟨by omega, by omega, by omega⟩)
          refine J_iload (pc := 34) dX4_walkIn_34 rfl ?_
          refine J_bipush (pc := 36) (v := 6) dX4_walkIn_36 (by decide) ?_
          refine J_icmp_geW (pc := 38) ((i : Int) + 1) 6 e143 rfl 149 dX4_walkIn_38 (by decide) (fun h38 => ?_) (fun h38 => ?_)
          · exact J_lv' (lv' := [some (.ref 0), some (.int rv), some (.int kv), some (.int av), some (.int pv), some (.int nv), none, none]) (by repeat' constructor) (hk2 i μ77 (by omega) hcwi hno hs3 (by rw [m77, jI_ne (by decide), h8]; exact h80) (by rw [m77, jI_i, if_pos ⟨rfl, rfl⟩]; exact hi) (fun j hj => by rw [m77, jI_i, if_neg (by omega), h10]; exact hj10 j hj))
          · refine J_iload (pc := 41) dX4_walkIn_41 rfl ?_
            refine J_if_ne_T (pc := 43) 149 dX4_walkIn_43 (by decide) (by decide) ?_
            exact J_lv' (lv' := [some (.ref 0), some (.int rv), some (.int kv), some (.int av), some (.int pv), some (.int nv), none, none]) (by repeat' constructor) (hk2 i μ77 (by omega) hcwi hno hs3 (by rw [m77, jI_ne (by decide), h8]; exact h80) (by rw [m77, jI_i, if_pos ⟨rfl, rfl⟩]; exact hi) (fun j hj => by rw [m77, jI_i, if_neg (by omega), h10]; exact hj10 j hj))
set_option maxRecDepth 100000 in
set_option maxHeartbeats 4000000 in
theorem l_n_wi1 {m : JM} (hc : constM m) {rv : Int32} {r : Nat} (hrv : rv.toInt = (r : Int)) (hr12 : r ≤ 12) : ∀ d : Nat, ∀ (q : Nat) (kv : Int32) (ν : JM) (a p n b : Int), q + d = r → kv.toInt = (q : Int) → (0 ≤ n ∧ n + (d : Int) < 300000) → mst m ν a p n b → (0 ≤ a ∧ a ≤ 99 ∧ 0 ≤ p ∧ p ≤ 99) → 0 ≤ n → farI (m.1 1 0).toInt (m.1 1 3).toInt (m.1 1 4).toInt ν 12 0 → ((d ≠ 0 → rc (m.1 1 0).toInt (m.1 1 3).toInt (m.1 1 4).toInt 1 false d a p n) ∧ (∀ l : Nat, 1 ≤ l → l < d → ¬ rc (m.1 1 0).toInt (m.1 1 3).toInt (m.1 1 4).toInt 1 false l a p n)) → J G shM mX4_walkIn 6 [some (.ref 0), some (.int rv), some (.int kv), none, none, none, none, none] [] ν (fun v μ' => v = none ∧ eqM m μ' ∧ rowR (m.1 1 0).toInt (m.1 1 3).toInt (m.1 1 4).toInt 1 false d a p n (fun j => (μ'.1 10 (q + j)).toInt) ∧ (∀ j, j < q → μ'.1 10 j = ν.1 10 j)) := by
  intro d
  induction d with
  | zero =>
    intro q kv ν a p n b hd hkv hnn hs hr hn0 hF hmin
    refine J_iload_n (pc := 6) dX4_walkIn_6 rfl ?_
    refine J_iload_n (pc := 7) dX4_walkIn_7 rfl ?_
    refine J_icmp_geW (pc := 8) (q : Int) (r : Int) hkv hrv 155 dX4_walkIn_8 (by decide) (fun h8 => ?_) (fun h8 => ?_)
    · refine J_vret (pc := 155) dX4_walkIn_155 rfl ?_
      exact ⟨rfl, hs.1, trivial, fun _ _ => rfl⟩
    · exfalso; omega
  | succ d ih =>
    intro q kv ν a p n b hd hkv hnn hs hr hn0 hF hmin
    refine J_iload_n (pc := 6) dX4_walkIn_6 rfl ?_
    refine J_iload_n (pc := 7) dX4_walkIn_7 rfl ?_
    refine J_icmp_geW (pc := 8) (q : Int) (r : Int) hkv hrv 155 dX4_walkIn_8 (by decide) (fun h8 => ?_) (fun h8 => ?_)
    · exfalso; omega
    · refine J_aload_n (pc := 11) dX4_walkIn_11 rfl ?_
      refine J_getI (pc := 12) fF_X4_66 rfl rfl dX4_walkIn_12 ?_
      refine J_istore_n (pc := 15) (lv' := [some (.ref 0), some (.int rv), some (.int kv), some (.int (ν.1 0 4)), none, none, none, none]) dX4_walkIn_15 (Nat.le_of_ble_eq_true rfl) rfl rfl ?_
      refine J_aload_n (pc := 16) dX4_walkIn_16 rfl ?_
      refine J_getI (pc := 17) fF_X4_70 rfl rfl dX4_walkIn_17 ?_
      refine J_istore (pc := 20) (lv' := [some (.ref 0), some (.int rv), some (.int kv), some (.int (ν.1 0 4)), some (.int (ν.1 0 5)), none, none, none]) dX4_walkIn_20 (Nat.le_of_ble_eq_true rfl) rfl rfl ?_
      refine J_aload_n (pc := 22) dX4_walkIn_22 rfl ?_
      refine J_getI (pc := 23) fF_X4_73 rfl rfl dX4_walkIn_23 ?_
      refine J_istore (pc := 26) (lv' := [some (.ref 0), some (.int rv), some (.int kv), some (.int (ν.1 0 4)), some (.int (ν.1 0 5)), some (.int (ν.1 0 6)), none, none]) dX4_walkIn_26 (Nat.le_of_ble_eq_true rfl) rfl rfl ?_
      refine J_iconst (pc := 28) (v := 0) dX4_walkIn_28 (by decide) ?_
      refine J_istore (pc := 29) (lv' := [some (.ref 0), some (.int rv), some (.int kv), some (.int (ν.1 0 4)), some (.int (ν.1 0 5)), some (.int (ν.1 0 6)), some (.int 0), none]) dX4_walkIn_29 (Nat.le_of_ble_eq_true rfl) rfl rfl ?_
      refine J_iconst (pc := 31) (v := 0) dX4_walkIn_31 (by decide) ?_
      refine J_istore (pc := 32) (lv' := [some (.ref 0), some (.int rv), some (.int kv), some (.int (ν.1 0 4)), some (.int (ν.1 0 5)), some (.int (ν.1 0 6)), some (.int 0), some (.int 0)]) dX4_walkIn_32 (Nat.le_of_ble_eq_true rfl) rfl rfl ?_
      have hrc := hmin.1 (by omega)
      have hnrc : ∀ l : Nat, 1 ≤ l → l ≤ d → ¬ rc (m.1 1 0).toInt (m.1 1 3).toInt (m.1 1 4).toInt 1 false l a p n := fun l h1 h2 => hmin.2 l h1 (by omega)
      refine l_n_wi2 hc hr ⟨hn0, by omega⟩ (R := d) (q := q) (by omega) hkv (by omega) hs.2.1 hs.2.2.1 hs.2.2.2.1 hF hrc hnrc 6 0 0 ν (by omega) rfl hs.1 rfl (fun w' hw' => absurd hw' (by omega)) (fun _ _ => rfl) (fun w ν' h1 h2 h3 h4 h5 h6 h7 => ?_)
      have g1 := hA2_rng (m.1 1 0).toInt a n w
      have g2 := hP2_rng (m.1 1 0).toInt p n w
      refine J_iincW' (pc := 149) (q : Int) hkv (lv' := fun iq_ => [some (.ref 0), some (.int rv), some (.int iq_), some (.int (ν.1 0 4)), some (.int (ν.1 0 5)), some (.int (ν.1 0 6)), none, none]) dX4_walkIn_149 rfl (by omega) (by decide) (Nat.le_of_ble_eq_true rfl) rfl (fun _ => rfl) (fun z149 e149 => ?_)
      refine J_goto (pc := 152) 6 dX4_walkIn_152 (by decide) ?_
      refine J_mono (J_lv' (lv' := [some (.ref 0), some (.int rv), some (.int z149), none, none, none, none, none]) (by repeat' constructor) (ih (q + 1) z149 ν' _ _ _ _ (by omega) (by omega) (by omega) h4 ⟨g1.1, g1.2, g2.1, g2.2⟩ (by omega) (farI_8 hF h5) ⟨fun hd0 => ?_, fun l e1 e2 hh => hmin.2 (l + 1) (by omega) (by omega) ⟨w, h1, rfl, Or.inr ⟨by omega, ?_, hh⟩⟩⟩)) (fun v μ' hh => ?_)
      · rcases h2.2 with ⟨e3, -⟩ | ⟨-, -, e3⟩
        · omega
        · obtain ⟨d0, rfl⟩ : ∃ d0, d = d0 + 1 := ⟨d - 1, by omega⟩
          exact e3
      · rcases h2.2 with ⟨e3, -⟩ | ⟨-, e3, -⟩
        · omega
        · exact e3
      · obtain ⟨e1, e2, e3, e4⟩ := hh
        refine ⟨e1, e2, ⟨w, h1, ?_, h2, h3, rowR_congr _ _ _ _ _ _ (fun j hj => ?_) e3⟩, fun j hj => by rw [e4 j (by omega), h7 j hj]⟩
        · show (μ'.1 10 (q + 0)).toInt = _; rw [Nat.add_zero, e4 q (by omega)]; exact h6
        · show (μ'.1 10 (q + 1 + j)).toInt = (μ'.1 10 (q + (j + 1))).toInt; rw [show q + 1 + j = q + (j + 1) by omega]
set_option maxRecDepth 100000 in
set_option maxHeartbeats 4000000 in
theorem c_X4_walkIn {m ν : JM} (hc : constM m) (hE : eqM m ν) (hmr : (0 ≤ (m.1 1 1).toInt ∧ (m.1 1 1).toInt ≤ 99 ∧ 0 ≤ (m.1 1 2).toInt ∧ (m.1 1 2).toInt ≤ 99) ∧ 0 ≤ (m.1 1 5).toInt ∧ (m.1 1 5).toInt < 200000) {rv : Int32} (r : Nat) (hrv : rv.toInt = (r : Int)) (hr12 : r ≤ 12) (hF : r ≠ 0 → farI (m.1 1 0).toInt (m.1 1 3).toInt (m.1 1 4).toInt ν 12 0) (hmin : (r ≠ 0 → rc (m.1 1 0).toInt (m.1 1 3).toInt (m.1 1 4).toInt 1 false r (m.1 1 1).toInt (m.1 1 2).toInt (m.1 1 5).toInt) ∧ (∀ l : Nat, 1 ≤ l → l < r → ¬ rc (m.1 1 0).toInt (m.1 1 3).toInt (m.1 1 4).toInt 1 false l (m.1 1 1).toInt (m.1 1 2).toInt (m.1 1 5).toInt)) : Con G shM mX4_walkIn [.ref 0, .int rv] ν (fun v μ' => v = none ∧ eqM m μ' ∧ rowR (m.1 1 0).toInt (m.1 1 3).toInt (m.1 1 4).toInt 1 false r (m.1 1 1).toInt (m.1 1 2).toInt (m.1 1 5).toInt (fun j => (μ'.1 10 j).toInt)) := by
  refine Con_of [some (.ref 0), some (.int rv), none, none, none, none, none, none] (by decide +kernel) (Nat.le_of_ble_eq_true rfl) (fun _ h => h) ?_
  refine J_aload_n (pc := 0) dX4_walkIn_0 rfl ?_
  refine J_callVv (pc := 1) fC_X4_136 rfl dX4_walkIn_1 (c_X4_begin) rfl ⟨Nat.le_of_ble_eq_true rfl, Nat.le_of_ble_eq_true rfl⟩ rfl (Nat.le_of_ble_eq_true rfl) (fun μ1 m1 => ?_)
  refine J_iconst (pc := 4) (v := 0) dX4_walkIn_4 (by decide) ?_
  refine J_istore_n (pc := 5) (lv' := [some (.ref 0), some (.int rv), some (.int 0), none, none, none, none, none]) dX4_walkIn_5 (Nat.le_of_ble_eq_true rfl) rfl rfl ?_
  have hs := mst_begin hE
  rw [← m1] at hs
  by_cases hr0 : r = 0
  · have hr00 := hr0
    refine J_iload_n (pc := 6) dX4_walkIn_6 rfl ?_
    refine J_iload_n (pc := 7) dX4_walkIn_7 rfl ?_
    refine J_icmp_geW (pc := 8) 0 (r : Int) rfl hrv 155 dX4_walkIn_8 (by decide) (fun h8 => ?_) (fun h8 => ?_)
    · refine J_vret (pc := 155) dX4_walkIn_155 rfl ?_
      exact ⟨rfl, hs.1, by rw [hr0]; trivial⟩
    · exfalso; omega
  · refine J_mono (J_lv' (lv' := [some (.ref 0), some (.int rv), some (.int 0), none, none, none, none, none]) (by repeat' constructor) (l_n_wi1 hc hrv hr12 r 0 0 μ1 _ _ _ _ (by omega) rfl (by omega) hs hmr.1 (by omega) (farI_8 (hF hr0) (by rw [m1, beginM_o.1 8 (by omega)])) hmin)) (fun v μ' hh => ⟨hh.1, hh.2.1, rowR_congr _ _ _ _ _ _ (fun j _ => by rw [Nat.zero_add]) hh.2.2.1⟩)
theorem first_w {P : Nat → Prop} : ∀ (N : Nat), (∃ w, w < N ∧ P w) → ∃ w, w < N ∧ P w ∧ ∀ w', w' < w → ¬ P w'
  | 0, ⟨w, h, _⟩ => absurd h (by omega)
  | N + 1, ⟨w, h, hp⟩ => by
    by_cases e : ∃ w, w < N ∧ P w
    · obtain ⟨v, h1, h2, h3⟩ := first_w N e
      exact ⟨v, by omega, h2, h3⟩
    · exact ⟨w, h, hp, fun w' hw' hp' => e ⟨w', by omega, hp'⟩⟩
theorem cw_first {k wr ht e : Int} {br : Bool} {d : Nat} {a p n : Int} (h : rc k wr ht e br (d + 1) a p n) : ∃ w : Nat, w < 6 ∧ cw k wr ht e br d a p n w ∧ ∀ w', w' < w → ¬ cw k wr ht e br d a p n w' := first_w 6 h
theorem rowR_ex {k wr ht e : Int} {br : Bool} : ∀ (d : Nat) (a p n : Int), rc k wr ht e br (d + 1) a p n → ∃ g, rowR k wr ht e br (d + 1) a p n g := by
  intro d
  induction d with
  | zero =>
    intro a p n h
    obtain ⟨w, h1, h2, h3⟩ := cw_first h
    exact ⟨fun _ => (w : Int), w, h1, rfl, h2, h3, trivial⟩
  | succ d ih =>
    intro a p n h
    obtain ⟨w, h1, h2, h3⟩ := cw_first h
    have h4 := h2.2
    rcases h4 with ⟨h4, -⟩ | ⟨-, -, h5⟩
    · omega
    · obtain ⟨g, hg⟩ := ih _ _ _ h5
      exact ⟨fun j => match j with | 0 => (w : Int) | j + 1 => g j, w, h1, rfl, h2, h3, hg⟩
set_option maxRecDepth 100000 in
set_option maxHeartbeats 4000000 in
theorem n_fewest {N : Int} {c m : JM} (h : Inv N c m) (hN : 150 ≤ N ∧ N < 100000) {a : Int32}  : Con G shM mX4_fewest [.ref 0, .int a] m (fun v μ' => (a.toInt < -1 ∧ IsZ v (-10) ∧ μ' = (jI m 4 0 (m.1 4 0 + 1))) ∨ (-1 ≤ a.toInt ∧ fwR (m.1 1 0).toInt (m.1 1 3).toInt (m.1 1 4).toInt (m.1 1 1).toInt (m.1 1 2).toInt (m.1 1 5).toInt (m.1 1 6).toInt a.toInt v ∧ eqM m μ')) := by
  obtain ⟨q0, q1, q2, q3, q4, q5, q6⟩ := Inv_q h
  obtain ⟨r0, r1, r2, r3, r4, r5, r6, r15, r40, r9⟩ := Inv_r h
  have hc := h.1
  have qt : (c.1 21 1).toInt = (m.1 0 9).toInt := by rw [h.2.2.2.2.1.1]
  have qs0 : (c.1 0 8).toInt = (m.1 4 0).toInt := by rw [h.2.2.2.2.2.2.1]
  have qs1 : (c.1 0 9).toInt = (m.1 4 1).toInt := by rw [h.2.2.2.2.2.2.2.1]
  have qs2 : (c.1 0 10).toInt = (m.1 4 2).toInt := by rw [h.2.2.2.2.2.2.2.2]
  refine Con_of [some (.ref 0), some (.int a), none] (by decide +kernel) (Nat.le_of_ble_eq_true rfl) (fun _ h => h) ?_
  refine J_iload_n (pc := 0) dX4_fewest_0 rfl ?_
  refine J_iconst (pc := 1) (v := (-1)) dX4_fewest_1 (by decide) ?_
  refine J_icmp_geW (pc := 2) a.toInt (-1) rfl rfl 12 dX4_fewest_2 (by decide) (fun h2 => ?_) (fun h2 => ?_)
  · refine J_aload_n (pc := 12) dX4_fewest_12 rfl ?_
    refine J_getR (pc := 13) 1 fF_X4_7 rfl rfl dX4_fewest_13 ?_
    refine J_bipush (pc := 16) (v := 6) dX4_fewest_16 (by decide) ?_
    refine J_ialdW (pc := 18) 6 (rfl) rfl (by decide) dX4_fewest_18 ?_
    refine J_iconst (pc := 19) (v := 2) dX4_fewest_19 (by decide) ?_
    refine J_icmp_neW (pc := 20) ((m.1 1 6).toInt) 2 rfl rfl 25 dX4_fewest_20 (by decide) (fun h20 => ?_) (fun h20 => ?_)
    · refine J_iconst (pc := 25) (v := 0) dX4_fewest_25 (by decide) ?_
      refine J_istore_n (pc := 26) (lv' := [some (.ref 0), some (.int a), some (.int 0)]) dX4_fewest_26 (Nat.le_of_ble_eq_true rfl) rfl rfl ?_
      refine J_aload_n (pc := 27) dX4_fewest_27 rfl ?_
      refine J_getR (pc := 28) 1 fF_X4_7 rfl rfl dX4_fewest_28 ?_
      refine J_bipush (pc := 31) (v := 6) dX4_fewest_31 (by decide) ?_
      refine J_ialdW (pc := 33) 6 (rfl) rfl (by decide) dX4_fewest_33 ?_
      refine J_if_neW (pc := 34) ((m.1 1 6).toInt) rfl 68 dX4_fewest_34 (by decide) (fun h34 => ?_) (fun h34 => ?_)
      · refine J_iload_n (pc := 68) dX4_fewest_68 rfl ?_
        refine J_bipush (pc := 69) (v := 12) dX4_fewest_69 (by decide) ?_
        refine J_icmp_le_T (pc := 71) 76 dX4_fewest_71 (by decide) (by decide) ?_
        refine J_iload_n (pc := 76) dX4_fewest_76 rfl ?_
        refine J_iconst (pc := 77) (v := (-1)) dX4_fewest_77 (by decide) ?_
        refine J_icmp_neW (pc := 78) a.toInt (-1) rfl rfl 83 dX4_fewest_78 (by decide) (fun h78 => ?_) (fun h78 => ?_)
        · refine J_aload_n (pc := 83) dX4_fewest_83 rfl ?_
          refine J_iload_n (pc := 84) dX4_fewest_84 rfl ?_
          refine J_callVq (pc := 85) fC_X4_191 rfl dX4_fewest_85 (c_X4_walkIn hc (eqM_rf m) (by omega) 0 rfl (by omega) (fun z => absurd rfl z) ⟨fun z => absurd rfl z, fun l h1 h2 => absurd h2 (by omega)⟩) rfl ⟨Nat.le_of_ble_eq_true rfl, Nat.le_of_ble_eq_true rfl⟩ rfl (Nat.le_of_ble_eq_true rfl) (fun v85 μ85 q85 => ?_)
          obtain ⟨rfl, hE85, hrow⟩ := q85
          refine J_iload_n (pc := 88) dX4_fewest_88 rfl ?_
          refine J_iload_n (pc := 89) dX4_fewest_89 rfl ?_
          refine J_icmp_geW (pc := 90) a.toInt 0 rfl rfl 102 dX4_fewest_90 (by decide) (fun h90 => ?_) (fun h90 => ?_)
          · refine J_bipush (pc := 102) (v := (-5)) dX4_fewest_102 (by decide) ?_
            refine J_iret (pc := 104) dX4_fewest_104 rfl ?_
            exact Or.inr ⟨by omega, Or.inr (Or.inl ⟨by omega, ⟨_, rfl, by rw [if_neg (by omega)]; rfl⟩⟩), hE85⟩
          · exfalso; omega
        · refine J_iload_n (pc := 81) dX4_fewest_81 rfl ?_
          refine J_iret (pc := 82) dX4_fewest_82 rfl ?_
          exact Or.inr ⟨by omega, Or.inr (Or.inl ⟨by omega, ⟨_, rfl, by rw [if_pos (by omega)]; rfl⟩⟩), eqM_rf m⟩
      · refine J_aload_n (pc := 37) dX4_fewest_37 rfl ?_
        refine J_callVq (pc := 38) fC_X4_188 rfl dX4_fewest_38 (c_X4_findFar hc (eqM_rf m)) rfl ⟨Nat.le_of_ble_eq_true rfl, Nat.le_of_ble_eq_true rfl⟩ rfl (Nat.le_of_ble_eq_true rfl) (fun v38 μ38 q38 => ?_)
        obtain ⟨rfl, hE38, hF38⟩ := q38
        have f1 : μ38.1 1 = m.1 1 := hE38.1 1 (by omega)
        refine J_aload_n (pc := 41) dX4_fewest_41 rfl ?_
        refine J_getR (pc := 42) 8 fF_X4_31 rfl rfl dX4_fewest_42 ?_
        refine J_aload_n (pc := 45) dX4_fewest_45 rfl ?_
        refine J_getR (pc := 46) 1 fF_X4_7 rfl rfl dX4_fewest_46 ?_
        refine J_iconst (pc := 49) (v := 1) dX4_fewest_49 (by decide) ?_
        refine J_ialdW (pc := 50) 1 (rfl) rfl (by decide) dX4_fewest_50 ?_
        refine J_aload_n (pc := 51) dX4_fewest_51 rfl ?_
        refine J_getR (pc := 52) 1 fF_X4_7 rfl rfl dX4_fewest_52 ?_
        refine J_iconst (pc := 55) (v := 2) dX4_fewest_55 (by decide) ?_
        refine J_ialdW (pc := 56) 2 (rfl) rfl (by decide) dX4_fewest_56 ?_
        refine J_aload_n (pc := 57) dX4_fewest_57 rfl ?_
        refine J_getR (pc := 58) 1 fF_X4_7 rfl rfl dX4_fewest_58 ?_
        refine J_iconst (pc := 61) (v := 5) dX4_fewest_61 (by decide) ?_
        refine J_ialdW (pc := 62) 5 (rfl) rfl (by decide) dX4_fewest_62 ?_
        refine J_callSz (pc := 63) fC_X4_185 dX4_fewest_63 (c_X4_placeOf ((m.1 1 1).toInt) ((m.1 1 2).toInt) ((m.1 1 5).toInt) (by rw [f1]) (by rw [f1]) (by rw [f1]) (by omega)) rfl ⟨Nat.le_of_ble_eq_true rfl, Nat.le_of_ble_eq_true rfl⟩ rfl (Nat.le_of_ble_eq_true rfl) (fun z63 e63 => ?_)
        refine J_ialdW (pc := 66) (pl (m.1 1 1).toInt (m.1 1 2).toInt (m.1 1 5).toInt) (by rw [e63, pl_i (by omega)]) rfl (pl_lt (by omega)) dX4_fewest_66 ?_
        refine J_istore_n (pc := 67) (lv' := [some (.ref 0), some (.int a), some (.int (μ38.1 8 (pl (m.1 1 1).toInt (m.1 1 2).toInt (m.1 1 5).toInt)))]) dX4_fewest_67 (Nat.le_of_ble_eq_true rfl) rfl rfl ?_
        have hmd := farI_D (a := (m.1 1 1).toInt) (p := (m.1 1 2).toInt) (n := (m.1 1 5).toInt) hF38 (by omega) (by omega)
        have hb : (m.1 1 6).toInt = 0 := h34
        rcases hmd with ⟨hx, hno⟩ | ⟨l, hl, hx, hrc, hmn⟩
        · refine J_iload_n (pc := 68) dX4_fewest_68 rfl ?_
          refine J_bipush (pc := 69) (v := 12) dX4_fewest_69 (by decide) ?_
          refine J_icmp_leW (pc := 71) 13 12 hx rfl 76 dX4_fewest_71 (by decide) (fun h71 => ?_) (fun h71 => ?_)
          · exfalso; omega
          · refine J_iconst (pc := 74) (v := (-1)) dX4_fewest_74 (by decide) ?_
            refine J_iret (pc := 75) dX4_fewest_75 rfl ?_
            exact Or.inr ⟨by omega, Or.inr (Or.inr (Or.inl ⟨hb, hno, ⟨_, rfl, rfl⟩⟩)), hE38⟩
        · refine J_iload_n (pc := 68) dX4_fewest_68 rfl ?_
          refine J_bipush (pc := 69) (v := 12) dX4_fewest_69 (by decide) ?_
          refine J_icmp_leW (pc := 71) (l : Int) 12 hx rfl 76 dX4_fewest_71 (by decide) (fun h71 => ?_) (fun h71 => ?_)
          · refine J_iload_n (pc := 76) dX4_fewest_76 rfl ?_
            refine J_iconst (pc := 77) (v := (-1)) dX4_fewest_77 (by decide) ?_
            refine J_icmp_neW (pc := 78) a.toInt (-1) rfl rfl 83 dX4_fewest_78 (by decide) (fun h78 => ?_) (fun h78 => ?_)
            · refine J_aload_n (pc := 83) dX4_fewest_83 rfl ?_
              refine J_iload_n (pc := 84) dX4_fewest_84 rfl ?_
              refine J_callVq (pc := 85) fC_X4_191 rfl dX4_fewest_85 (c_X4_walkIn hc hE38 (by omega) l hx (by omega) (fun _ => hF38) ⟨fun _ => hrc, hmn⟩) rfl ⟨Nat.le_of_ble_eq_true rfl, Nat.le_of_ble_eq_true rfl⟩ rfl (Nat.le_of_ble_eq_true rfl) (fun v85 μ85 q85 => ?_)
              obtain ⟨rfl, hE85, hrow⟩ := q85
              refine J_iload_n (pc := 88) dX4_fewest_88 rfl ?_
              refine J_iload_n (pc := 89) dX4_fewest_89 rfl ?_
              refine J_icmp_geW (pc := 90) a.toInt (l : Int) rfl hx 102 dX4_fewest_90 (by decide) (fun h90 => ?_) (fun h90 => ?_)
              · refine J_bipush (pc := 102) (v := (-5)) dX4_fewest_102 (by decide) ?_
                refine J_iret (pc := 104) dX4_fewest_104 rfl ?_
                exact Or.inr ⟨by omega, Or.inr (Or.inr (Or.inr ⟨hb, l, _, hl, hrc, hmn, hrow, ⟨_, rfl, by rw [if_neg (by omega), if_pos (by omega)]; rfl⟩⟩)), hE85⟩
              · refine J_aload_n (pc := 93) dX4_fewest_93 rfl ?_
                refine J_getR (pc := 94) 10 fF_X4_39 rfl rfl dX4_fewest_94 ?_
                refine J_iload_n (pc := 97) dX4_fewest_97 rfl ?_
                refine J_ialdW (pc := 98) a.toInt.toNat (by omega) rfl (by omega) dX4_fewest_98 ?_
                refine J_goto (pc := 99) 104 dX4_fewest_99 (by decide) ?_
                refine J_iret (pc := 104) dX4_fewest_104 rfl ?_
                exact Or.inr ⟨by omega, Or.inr (Or.inr (Or.inr ⟨hb, l, _, hl, hrc, hmn, hrow, ⟨_, rfl, by rw [if_neg (by omega), if_neg (by omega)]⟩⟩)), hE85⟩
            · refine J_iload_n (pc := 81) dX4_fewest_81 rfl ?_
              refine J_iret (pc := 82) dX4_fewest_82 rfl ?_
              obtain ⟨g, hg⟩ : ∃ g, rowR (m.1 1 0).toInt (m.1 1 3).toInt (m.1 1 4).toInt 1 false l (m.1 1 1).toInt (m.1 1 2).toInt (m.1 1 5).toInt g := by obtain ⟨l0, rfl⟩ : ∃ l0, l = l0 + 1 := ⟨l - 1, by omega⟩; exact rowR_ex _ _ _ _ hrc
              exact Or.inr ⟨by omega, Or.inr (Or.inr (Or.inr ⟨hb, l, g, hl, hrc, hmn, hg, ⟨_, rfl, by rw [if_pos (by omega)]; exact hx⟩⟩)), hE38⟩
          · exfalso; omega
    · refine J_iconst (pc := 23) (v := (-1)) dX4_fewest_23 (by decide) ?_
      refine J_iret (pc := 24) dX4_fewest_24 rfl ?_
      exact Or.inr ⟨by omega, Or.inl ⟨by omega, ⟨_, rfl, rfl⟩⟩, eqM_rf m⟩
  · refine J_aload_n (pc := 5) dX4_fewest_5 rfl ?_
    refine J_bipush (pc := 6) (v := (-10)) dX4_fewest_6 (by decide) ?_
    refine J_callVim (pc := 8) fC_X4_62 rfl dX4_fewest_8 (c_X4_noAs) rfl ⟨Nat.le_of_ble_eq_true rfl, Nat.le_of_ble_eq_true rfl⟩ rfl (Nat.le_of_ble_eq_true rfl) (fun z8 μ8 d8 m8 => ?_)
    refine J_iret (pc := 11) dX4_fewest_11 rfl ?_
    subst_vars
    exact Or.inl ⟨by omega, ⟨_, rfl, rfl⟩, rfl⟩
theorem pr_fewest {G : JG × JG} {N : Int} {c m : JM} (h : Inv N c m) (hN : 150 ≤ N ∧ N < 100000) {a : Int32} : Pair G N c m mX3_fewest mX4_fewest [.int a] := by
  refine ⟨_, _, k_fewest h hN, n_fewest h hN, fun v c' w m' hC hM => ?_⟩
  rcases hC with ⟨a1, a2, a3⟩ | ⟨a1, a2, a3⟩
  · rcases hM with ⟨b1, b2, b3⟩ | ⟨b1, b2, b3⟩
    · exact ⟨IsZ_eq a2 b2, by rw [a3, b3]; exact Inv_no (by omega) h 0 (by decide)⟩
    · exfalso; omega
  · rcases hM with ⟨b1, b2, b3⟩ | ⟨b1, b2, b3⟩
    · exfalso; omega
    · exact ⟨fwR_eq a1 a2 b2, Inv_eq (by omega) h a3 b3⟩

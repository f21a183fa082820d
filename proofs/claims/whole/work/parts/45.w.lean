/-! ===== the model's delay ===== -/
def stV (k wr ht : Int) (br : Bool) (x : Int32) (l : Nat) (a p n : Int) : Prop := (x = 1 ∧ (l = 0 ∨ rc k wr ht 0 br l a p n)) ∨ (x = 0 ∧ l ≠ 0 ∧ ¬ rc k wr ht 0 br l a p n)
theorem stV_par {k wr ht : Int} {br : Bool} {x : Int32} {l : Nat} {a p n n' : Int} (e : n % 2 = n' % 2) (h : stV k wr ht br x l a p n) : stV k wr ht br x l a p n' := by
  rcases h with ⟨h1, h2⟩ | ⟨h1, h2, h3⟩
  · refine Or.inl ⟨h1, ?_⟩
    rcases h2 with h2 | h2
    · exact Or.inl h2
    · exact Or.inr (rc_par _ _ _ _ _ e h2)
  · exact Or.inr ⟨h1, h2, fun hh => h3 (rc_par _ _ _ _ _ e.symm hh)⟩
/-- levels below L complete, level L below place q -/
def stI (k wr ht : Int) (br : Bool) (ν : JM) (L q : Nat) : Prop := ∀ (l : Nat) (a p n : Int), (0 ≤ a ∧ a ≤ 99 ∧ 0 ≤ p ∧ p ≤ 99) → 0 ≤ n → l ≤ 12 → (l < L ∨ (l = L ∧ pl a p n < q)) → stV k wr ht br (ν.1 9 (20000 * l + pl a p n)) l a p n
theorem stI_9 {k wr ht : Int} {br : Bool} {ν ν' : JM} {L q : Nat} (h : stI k wr ht br ν L q) (e : ν'.1 9 = ν.1 9) : stI k wr ht br ν' L q := fun l a p n h1 h2 h3 h4 => by rw [e]; exact h l a p n h1 h2 h3 h4
theorem stI_up {k wr ht : Int} {br : Bool} {ν : JM} {L : Nat} (h : stI k wr ht br ν L 20000) : stI k wr ht br ν (L + 1) 0 := fun l a p n h1 h2 h3 h4 => h l a p n h1 h2 h3 (by have := pl_lt (n := n) h1; omega)
theorem stI_s {k wr ht : Int} {br : Bool} {ν ν' : JM} {L : Nat} {a p n : Int} {x : Int32} (hr : 0 ≤ a ∧ a ≤ 99 ∧ 0 ≤ p ∧ p ≤ 99) (h : stI k wr ht br ν L (pl a p n)) (hm : ν'.1 9 = (jI ν 9 (20000 * L + pl a p n) x).1 9) (hx : stV k wr ht br x L a p n) : stI k wr ht br ν' L (pl a p n + 1) := by
  intro l a' p' n' h1 h2 h3 h4
  have hl := pl_lt (n := n) hr
  have hl' := pl_lt (n := n') h1
  rw [hm, jI_i]
  by_cases e : l = L ∧ pl a' p' n' = pl a p n
  · obtain ⟨e1, e2⟩ := e
    obtain ⟨rfl, rfl, e3⟩ := pl_eq h1 hr e2
    rw [if_pos ⟨rfl, by rw [e1, e2]⟩, e1]; exact stV_par e3.symm hx
  · have hne : ¬ (20000 * l + pl a' p' n' = 20000 * L + pl a p n) := fun z => e (by constructor <;> omega)
    rw [if_neg (fun z => hne z.2)]
    exact h l a' p' n' h1 h2 h3 (by rcases h4 with h4 | ⟨h4, h5⟩; exact Or.inl h4; exact Or.inr ⟨h4, by omega⟩)
theorem cw_st {k wr ht : Int} {br : Bool} {D : Nat} {a p n : Int} {w : Nat} {x : Int32} (h : stV k wr ht br x D (hA2 k a n w) (hP2 k p n w) (n + 1)) : cw k wr ht 0 br D a p n w ↔ sayB br w = true ∧ nB k wr ht a p n w = 0 ∧ x = 1 := by
  constructor
  · rintro ⟨h1, ⟨h2, h3⟩ | ⟨h2, h3, h4⟩⟩
    · rcases h with ⟨g1, g2⟩ | ⟨g1, g2, g3⟩
      · exact ⟨h1, h3, g1⟩
      · exact absurd h2 g2
    · rcases h with ⟨g1, g2⟩ | ⟨g1, g2, g3⟩
      · exact ⟨h1, h3, g1⟩
      · exact absurd h4 g3
  · rintro ⟨h1, h2, h3⟩
    rcases h with ⟨g1, g2⟩ | ⟨g1, g2, g3⟩
    · refine ⟨h1, ?_⟩
      by_cases e : D = 0
      · exact Or.inl ⟨e, h2⟩
      · rcases g2 with g2 | g2
        · exact absurd g2 e
        · exact Or.inr ⟨e, h2, g2⟩
    · rw [g1] at h3; exact absurd h3 (by decide)
theorem say_q {br : Bool} {q : Int} {w : Nat} (hq : br = decide (q = 1)) (h01 : 0 ≤ q ∧ q ≤ 1) : (q = 0 ∨ ((w : Int) ≠ 3 ∧ (w : Int) ≠ 4)) ↔ sayB br w = true := by
  rw [hq]
  by_cases e : q = 1
  · rw [decide_eq_true e]
    constructor
    · intro h
      have h1 : w ≠ 3 ∧ w ≠ 4 := by omega
      simp [sayB, h1.1, h1.2]
    · intro h
      simp [sayB] at h
      omega
  · rw [decide_eq_false e]
    exact ⟨fun _ => rfl, fun _ => by omega⟩
variable {G : JG}
theorem pl_i_cast {a p n : Int} {D : Nat} (h : 0 ≤ a ∧ a ≤ 99 ∧ 0 ≤ p ∧ p ≤ 99) : 20000 * (D : Int) + ((100 * a + p) * 2 + n % 2) = ((20000 * D + pl a p n : Nat) : Int) := by have := pl_i (n := n) h; omega
set_option maxRecDepth 100000 in
set_option maxHeartbeats 4000000 in
theorem l_n_can {m : JM} (hc : constM m) {br : Bool} {qv : Int32} {q : Int} (hqv : qv.toInt = q) (hq : br = decide (q = 1)) (hq01 : 0 ≤ q ∧ q ≤ 1) {D : Nat} (hD : D < 12) {kv ev : Int32} (hev : ev.toInt = (D : Int) + 1) {a p n : Int} (hr : 0 ≤ a ∧ a ≤ 99 ∧ 0 ≤ p ∧ p ≤ 99) (hn01 : 0 ≤ n ∧ n ≤ 1) (hkv : kv.toInt = (pl a p n : Nat)) {ν0 : JM} {qq : Nat} (hS : stI (m.1 1 0).toInt (m.1 1 3).toInt (m.1 1 4).toInt br ν0 (D + 1) qq) : ∀ d : Nat, ∀ (i : Nat) (wv : Int32) (ν : JM), i + d = 6 → wv.toInt = (i : Int) → eqM m ν → (∀ o, o ≠ 0 → ν.1 o = ν0.1 o) → (∀ w', w' < i → ¬ cw (m.1 1 0).toInt (m.1 1 3).toInt (m.1 1 4).toInt 0 br D a p n w') → J G shM mX4_canStay 6 [some (.ref 0), some (.int qv), some (.int kv), some (.int ev), some (.int 0), some (.int wv)] [] ν (fun v μ' => ((v = some (.int 1) ∧ rc (m.1 1 0).toInt (m.1 1 3).toInt (m.1 1 4).toInt 0 br (D + 1) a p n) ∨ (v = some (.int 0) ∧ ¬ rc (m.1 1 0).toInt (m.1 1 3).toInt (m.1 1 4).toInt 0 br (D + 1) a p n)) ∧ eqM m μ' ∧ ∀ o, o ≠ 0 → μ'.1 o = ν0.1 o) := by
  intro d
  induction d with
  | zero =>
    intro i wv ν hd hi hE hno0 hno
    have g1 := hA2_rng (m.1 1 0).toInt a n (i : Int)
    have g2 := hP2_rng (m.1 1 0).toInt p n (i : Int)
    refine J_iload (pc := 6) dX4_canStay_6 rfl ?_
    refine J_bipush (pc := 8) (v := 6) dX4_canStay_8 (by decide) ?_
    refine J_icmp_geW (pc := 10) (i : Int) 6 hi rfl 90 dX4_canStay_10 (by decide) (fun h10 => ?_) (fun h10 => ?_)
    · refine J_iload (pc := 90) dX4_canStay_90 rfl ?_
      refine J_zret (pc := 92) dX4_canStay_92 rfl (by decide) ?_
      exact ⟨Or.inr ⟨rfl, fun hh => by obtain ⟨w, h1, h2⟩ := hh; exact hno w (by omega) h2⟩, hE, hno0⟩
    · exfalso; omega
  | succ d ih =>
    intro i wv ν hd hi hE hno0 hno
    have g1 := hA2_rng (m.1 1 0).toInt a n (i : Int)
    have g2 := hP2_rng (m.1 1 0).toInt p n (i : Int)
    refine J_iload (pc := 6) dX4_canStay_6 rfl ?_
    refine J_bipush (pc := 8) (v := 6) dX4_canStay_8 (by decide) ?_
    refine J_icmp_geW (pc := 10) (i : Int) 6 hi rfl 90 dX4_canStay_10 (by decide) (fun h10 => ?_) (fun h10 => ?_)
    · exfalso; omega
    · refine J_iload (pc := 13) dX4_canStay_13 rfl ?_
      refine J_if_ne_F (pc := 15) 90 dX4_canStay_15 (by decide) (by decide) ?_
      refine J_aload_n (pc := 18) dX4_canStay_18 rfl ?_
      refine J_iload_n (pc := 19) dX4_canStay_19 rfl ?_
      refine J_callVq (pc := 20) fC_X4_182 rfl dX4_canStay_20 (c_X4_standAt hE (a := a) (p := p) (n := n) (by rw [hkv, pl_i hr]; omega) hr hn01) rfl ⟨Nat.le_of_ble_eq_true rfl, Nat.le_of_ble_eq_true rfl⟩ rfl (Nat.le_of_ble_eq_true rfl) (fun v20 μ20 q20 => ?_)
      obtain ⟨rfl, hs, hso⟩ := q20
      refine J_aload_n (pc := 23) dX4_canStay_23 rfl ?_
      refine J_iload (pc := 24) dX4_canStay_24 rfl ?_
      refine J_iconst (pc := 26) (v := 1) dX4_canStay_26 (by decide) ?_
      refine J_callVv (pc := 27) fC_X4_139 rfl dX4_canStay_27 (c_X4_hear1 (mst_c hs hc) (i : Int) hi (by omega) (by rw [hs.2.1]; omega) (by rw [hs.2.2.1]; omega) (by rw [hs.2.2.2.1]; omega)) rfl ⟨Nat.le_of_ble_eq_true rfl, Nat.le_of_ble_eq_true rfl⟩ rfl (Nat.le_of_ble_eq_true rfl) (fun μ27 m27 => ?_)
      have hs2 := mst_hear (w := (i : Int)) hs (by omega)
      rw [← m27] at hs2
      have hall : ∀ o, o ≠ 0 → μ27.1 o = ν0.1 o := fun o ho => by rw [m27, (hearM_o).1 o ho, hso o ho, hno0 o ho]
      have hsv : stV (m.1 1 0).toInt (m.1 1 3).toInt (m.1 1 4).toInt br (μ27.1 9 (20000 * D + (pl (hA2 (m.1 1 0).toInt a n (i : Int)) (hP2 (m.1 1 0).toInt p n (i : Int)) (n + 1)))) D (hA2 (m.1 1 0).toInt a n (i : Int)) (hP2 (m.1 1 0).toInt p n (i : Int)) (n + 1) := by rw [hall 9 (by omega)]; exact hS D _ _ _ ⟨g1.1, g1.2, g2.1, g2.2⟩ (by omega) (by omega) (Or.inl (by omega))
      have hcw := cw_st (w := i) hsv
      have hnB : nB (m.1 1 0).toInt (m.1 1 3).toInt (m.1 1 4).toInt a p n i = (jZ (m.1 1 3).toInt (m.1 1 4).toInt (hA2 (m.1 1 0).toInt a n (i : Int)) (hP2 (m.1 1 0).toInt p n (i : Int)) (i : Int)) := rfl
      have hsay := say_q (w := i) hq hq01
      refine J_aload_n (pc := 30) dX4_canStay_30 rfl ?_
      refine J_getI (pc := 31) fF_X4_76 rfl rfl dX4_canStay_31 ?_
      refine J_if_neW (pc := 34) (jZ (m.1 1 3).toInt (m.1 1 4).toInt (hA2 (m.1 1 0).toInt a n (i : Int)) (hP2 (m.1 1 0).toInt p n (i : Int)) (i : Int)) hs2.2.2.2.2 81 dX4_canStay_34 (by decide) (fun h34 => ?_) (fun h34 => ?_)
      · refine J_iconst (pc := 81) (v := 0) dX4_canStay_81 (by decide) ?_
        refine J_istore (pc := 82) (lv' := [some (.ref 0), some (.int qv), some (.int kv), some (.int ev), some (.int 0), some (.int wv)]) dX4_canStay_82 (Nat.le_of_ble_eq_true rfl) rfl rfl ?_
        refine J_iincW' (pc := 84) (i : Int) hi (lv' := fun iq_ => [some (.ref 0), some (.int qv), some (.int kv), some (.int ev), some (.int 0), some (.int iq_)]) dX4_canStay_84 rfl (by omega) (by decide) (Nat.le_of_ble_eq_true rfl) rfl (fun _ => rfl) (fun z84 e84 => ?_)
        refine J_goto (pc := 87) 6 dX4_canStay_87 (by decide) ?_
        refine J_lv' (lv' := [some (.ref 0), some (.int qv), some (.int kv), some (.int ev), some (.int 0), some (.int z84)]) (by repeat' constructor) (ih (i + 1) z84 μ27 (by omega) (by omega) hs2.1 hall (fun w' hw' => ?_))
        rcases (by omega : w' < i ∨ w' = i) with h5 | rfl
        · exact hno w' h5
        · intro hh; obtain ⟨e1, e2, e3⟩ := hcw.1 hh; first | omega | exact h40 (hsay.2 e1) | (rw [e3] at h74; exact absurd h74 (by decide))
      · refine J_iload_n (pc := 37) dX4_canStay_37 rfl ?_
        refine J_iload (pc := 38) dX4_canStay_38 rfl ?_
        refine J_callSc (pc := 40) fC_X4_194 dX4_canStay_40 (c_X4_isSaid q (i : Int) hqv hi) rfl ⟨Nat.le_of_ble_eq_true rfl, Nat.le_of_ble_eq_true rfl⟩ rfl (Nat.le_of_ble_eq_true rfl) (fun h40 => ?_) (fun h40 => ?_)
        · refine J_if_eq_F (pc := 43) 81 dX4_canStay_43 (by decide) (by decide) ?_
          refine J_aload_n (pc := 46) dX4_canStay_46 rfl ?_
          refine J_getR (pc := 47) 9 fF_X4_35 rfl rfl dX4_canStay_47 ?_
          refine J_sipush (pc := 50) (v := 20000) dX4_canStay_50 (by decide) ?_
          refine J_iload_n (pc := 53) dX4_canStay_53 rfl ?_
          refine J_iconst (pc := 54) (v := 1) dX4_canStay_54 (by decide) ?_
          refine J_isubW (pc := 55) ((D : Int) + 1) 1 hev rfl dX4_canStay_55 (by omega) (fun z55 e55 => ?_)
          have q55 : z55.toInt = (D : Int) := by omega
          refine J_imulW (pc := 56) 20000 (D : Int) rfl q55 dX4_canStay_56 (by omega) (fun z56 e56 => ?_)
          refine J_aload_n (pc := 57) dX4_canStay_57 rfl ?_
          refine J_getI (pc := 58) fF_X4_66 rfl rfl dX4_canStay_58 ?_
          refine J_aload_n (pc := 61) dX4_canStay_61 rfl ?_
          refine J_getI (pc := 62) fF_X4_70 rfl rfl dX4_canStay_62 ?_
          refine J_aload_n (pc := 65) dX4_canStay_65 rfl ?_
          refine J_getI (pc := 66) fF_X4_73 rfl rfl dX4_canStay_66 ?_
          refine J_callSz (pc := 69) fC_X4_185 dX4_canStay_69 (c_X4_placeOf (hA2 (m.1 1 0).toInt a n (i : Int)) (hP2 (m.1 1 0).toInt p n (i : Int)) (n + 1) hs2.2.1 hs2.2.2.1 hs2.2.2.2.1 (by omega)) rfl ⟨Nat.le_of_ble_eq_true rfl, Nat.le_of_ble_eq_true rfl⟩ rfl (Nat.le_of_ble_eq_true rfl) (fun z69 e69 => ?_)
          refine J_iaddW (pc := 72) (20000 * (D : Int)) ((100 * (hA2 (m.1 1 0).toInt a n (i : Int)) + (hP2 (m.1 1 0).toInt p n (i : Int))) * 2 + (n + 1) % 2) e56 e69 dX4_canStay_72 (by omega) (fun z72 e72 => ?_)
          refine J_zaldW (pc := 73) (20000 * D + (pl (hA2 (m.1 1 0).toInt a n (i : Int)) (hP2 (m.1 1 0).toInt p n (i : Int)) (n + 1))) (by rw [e72, pl_i_cast ⟨g1.1, g1.2, g2.1, g2.2⟩]) rfl (by have := pl_lt (n := n + 1) ⟨g1.1, g1.2, g2.1, g2.2⟩; omega) dX4_canStay_73 ?_
          refine J_if_eqW (pc := 74) ((μ27.1 9 (20000 * D + (pl (hA2 (m.1 1 0).toInt a n (i : Int)) (hP2 (m.1 1 0).toInt p n (i : Int)) (n + 1)))).toInt) rfl 81 dX4_canStay_74 (by decide) (fun h74 => ?_) (fun h74 => ?_)
          · refine J_iconst (pc := 81) (v := 0) dX4_canStay_81 (by decide) ?_
            refine J_istore (pc := 82) (lv' := [some (.ref 0), some (.int qv), some (.int kv), some (.int ev), some (.int 0), some (.int wv)]) dX4_canStay_82 (Nat.le_of_ble_eq_true rfl) rfl rfl ?_
            refine J_iincW' (pc := 84) (i : Int) hi (lv' := fun iq_ => [some (.ref 0), some (.int qv), some (.int kv), some (.int ev), some (.int 0), some (.int iq_)]) dX4_canStay_84 rfl (by omega) (by decide) (Nat.le_of_ble_eq_true rfl) rfl (fun _ => rfl) (fun z84 e84 => ?_)
            refine J_goto (pc := 87) 6 dX4_canStay_87 (by decide) ?_
            refine J_lv' (lv' := [some (.ref 0), some (.int qv), some (.int kv), some (.int ev), some (.int 0), some (.int z84)]) (by repeat' constructor) (ih (i + 1) z84 μ27 (by omega) (by omega) hs2.1 hall (fun w' hw' => ?_))
            rcases (by omega : w' < i ∨ w' = i) with h5 | rfl
            · exact hno w' h5
            · intro hh; obtain ⟨e1, e2, e3⟩ := hcw.1 hh; first | omega | exact h40 (hsay.2 e1) | (rw [e3] at h74; exact absurd h74 (by decide))
          · refine J_iconst (pc := 77) (v := 1) dX4_canStay_77 (by decide) ?_
            refine J_goto (pc := 78) 82 dX4_canStay_78 (by decide) ?_
            refine J_istore (pc := 82) (lv' := [some (.ref 0), some (.int qv), some (.int kv), some (.int ev), some (.int 1), some (.int wv)]) dX4_canStay_82 (Nat.le_of_ble_eq_true rfl) rfl rfl ?_
            refine J_iincW' (pc := 84) (i : Int) hi (lv' := fun iq_ => [some (.ref 0), some (.int qv), some (.int kv), some (.int ev), some (.int 1), some (.int iq_)]) dX4_canStay_84 rfl (by omega) (by decide) (Nat.le_of_ble_eq_true rfl) rfl (fun _ => rfl) (fun z84 e84 => ?_)
            refine J_goto (pc := 87) 6 dX4_canStay_87 (by decide) ?_
            have hx1 : μ27.1 9 (20000 * D + (pl (hA2 (m.1 1 0).toInt a n (i : Int)) (hP2 (m.1 1 0).toInt p n (i : Int)) (n + 1))) = 1 := by rcases hsv with ⟨g, -⟩ | ⟨g, -, -⟩; exact g; rw [g] at h74; exact absurd rfl h74
            have hcwi : cw (m.1 1 0).toInt (m.1 1 3).toInt (m.1 1 4).toInt 0 br D a p n i := hcw.2 ⟨hsay.1 h40, by omega, hx1⟩
            refine J_iload (pc := 6) dX4_canStay_6 rfl ?_
            refine J_bipush (pc := 8) (v := 6) dX4_canStay_8 (by decide) ?_
            refine J_icmp_geW (pc := 10) ((i : Int) + 1) 6 e84 rfl 90 dX4_canStay_10 (by decide) (fun h10 => ?_) (fun h10 => ?_)
            · refine J_iload (pc := 90) dX4_canStay_90 rfl ?_
              refine J_zret (pc := 92) dX4_canStay_92 rfl (by decide) ?_
              exact ⟨Or.inl ⟨rfl, i, by omega, hcwi⟩, hs2.1, hall⟩
            · refine J_iload (pc := 13) dX4_canStay_13 rfl ?_
              refine J_if_ne_T (pc := 15) 90 dX4_canStay_15 (by decide) (by decide) ?_
              refine J_iload (pc := 90) dX4_canStay_90 rfl ?_
              refine J_zret (pc := 92) dX4_canStay_92 rfl (by decide) ?_
              exact ⟨Or.inl ⟨rfl, i, by omega, hcwi⟩, hs2.1, hall⟩
        · refine J_if_eq_T (pc := 43) 81 dX4_canStay_43 (by decide) (by decide) ?_
          refine J_iconst (pc := 81) (v := 0) dX4_canStay_81 (by decide) ?_
          refine J_istore (pc := 82) (lv' := [some (.ref 0), some (.int qv), some (.int kv), some (.int ev), some (.int 0), some (.int wv)]) dX4_canStay_82 (Nat.le_of_ble_eq_true rfl) rfl rfl ?_
          refine J_iincW' (pc := 84) (i : Int) hi (lv' := fun iq_ => [some (.ref 0), some (.int qv), some (.int kv), some (.int ev), some (.int 0), some (.int iq_)]) dX4_canStay_84 rfl (by omega) (by decide) (Nat.le_of_ble_eq_true rfl) rfl (fun _ => rfl) (fun z84 e84 => ?_)
          refine J_goto (pc := 87) 6 dX4_canStay_87 (by decide) ?_
          refine J_lv' (lv' := [some (.ref 0), some (.int qv), some (.int kv), some (.int ev), some (.int 0), some (.int z84)]) (by repeat' constructor) (ih (i + 1) z84 μ27 (by omega) (by omega) hs2.1 hall (fun w' hw' => ?_))
          rcases (by omega : w' < i ∨ w' = i) with h5 | rfl
          · exact hno w' h5
          · intro hh; obtain ⟨e1, e2, e3⟩ := hcw.1 hh; first | omega | exact h40 (hsay.2 e1) | (rw [e3] at h74; exact absurd h74 (by decide))
set_option maxRecDepth 100000 in
set_option maxHeartbeats 4000000 in
theorem c_X4_canStay {m ν0 : JM} (hc : constM m) (hE : eqM m ν0) {br : Bool} {qv : Int32} {q : Int} (hqv : qv.toInt = q) (hq : br = decide (q = 1)) (hq01 : 0 ≤ q ∧ q ≤ 1) {D : Nat} (hD : D < 12) {kv ev : Int32} (hev : ev.toInt = (D : Int) + 1) {a p n : Int} (hr : 0 ≤ a ∧ a ≤ 99 ∧ 0 ≤ p ∧ p ≤ 99) (hn01 : 0 ≤ n ∧ n ≤ 1) (hkv : kv.toInt = (pl a p n : Nat)) {qq : Nat} (hS : stI (m.1 1 0).toInt (m.1 1 3).toInt (m.1 1 4).toInt br ν0 (D + 1) qq) : Con G shM mX4_canStay [.ref 0, .int qv, .int kv, .int ev] ν0 (fun v μ' => ((v = some (.int 1) ∧ rc (m.1 1 0).toInt (m.1 1 3).toInt (m.1 1 4).toInt 0 br (D + 1) a p n) ∨ (v = some (.int 0) ∧ ¬ rc (m.1 1 0).toInt (m.1 1 3).toInt (m.1 1 4).toInt 0 br (D + 1) a p n)) ∧ eqM m μ' ∧ ∀ o, o ≠ 0 → μ'.1 o = ν0.1 o) := by
  refine Con_of [some (.ref 0), some (.int qv), some (.int kv), some (.int ev), none, none] (by decide +kernel) (Nat.le_of_ble_eq_true rfl) (fun _ h => h) ?_
  refine J_iconst (pc := 0) (v := 0) dX4_canStay_0 (by decide) ?_
  refine J_istore (pc := 1) (lv' := [some (.ref 0), some (.int qv), some (.int kv), some (.int ev), some (.int 0), none]) dX4_canStay_1 (Nat.le_of_ble_eq_true rfl) rfl rfl ?_
  refine J_iconst (pc := 3) (v := 0) dX4_canStay_3 (by decide) ?_
  refine J_istore (pc := 4) (lv' := [some (.ref 0), some (.int qv), some (.int kv), some (.int ev), some (.int 0), some (.int 0)]) dX4_canStay_4 (Nat.le_of_ble_eq_true rfl) rfl rfl ?_
  exact l_n_can hc hqv hq hq01 hD hev hr hn01 hkv hS 6 0 0 ν0 (by omega) rfl hE (fun _ _ => rfl) (fun w' hw' => absurd hw' (by omega))
set_option maxRecDepth 100000 in
set_option maxHeartbeats 4000000 in
theorem l_n_st2 {m : JM} (hc : constM m) {br : Bool} {qv : Int32} {q : Int} (hqv : qv.toInt = q) (hq : br = decide (q = 1)) (hq01 : 0 ≤ q ∧ q ≤ 1) {D : Nat} (hD : D < 12) {ev : Int32} (hev : ev.toInt = (D : Int) + 1) {Q : Option Value → JM → Prop} : ∀ d : Nat, ∀ (g : Nat) (kv : Int32) (ν : JM), g + d = 20000 → kv.toInt = (g : Int) → eqM m ν → stI (m.1 1 0).toInt (m.1 1 3).toInt (m.1 1 4).toInt br ν (D + 1) g → (∀ ν', eqM m ν' → stI (m.1 1 0).toInt (m.1 1 3).toInt (m.1 1 4).toInt br ν' (D + 1) 20000 → J G shM mX4_findStays 64 [some (.ref 0), some (.int qv), some (.int ev), none] [] ν' Q) → J G shM mX4_findStays 32 [some (.ref 0), some (.int qv), some (.int ev), some (.int kv)] [] ν Q := by
  intro d
  induction d with
  | zero =>
    intro g kv ν hd hg hE hS hk2
    refine J_iload_n (pc := 32) dX4_findStays_32 rfl ?_
    refine J_sipush (pc := 33) (v := 20000) dX4_findStays_33 (by decide) ?_
    refine J_icmp_geW (pc := 36) (g : Int) 20000 hg rfl 64 dX4_findStays_36 (by decide) (fun h36 => ?_) (fun h36 => ?_)
    · exact J_lv' (lv' := [some (.ref 0), some (.int qv), some (.int ev), none]) (by repeat' constructor) (hk2 ν hE (by rw [show g = 20000 by omega] at hS; exact hS))
    · exfalso; omega
  | succ d ih =>
    intro g kv ν hd hg hE hS hk2
    refine J_iload_n (pc := 32) dX4_findStays_32 rfl ?_
    refine J_sipush (pc := 33) (v := 20000) dX4_findStays_33 (by decide) ?_
    refine J_icmp_geW (pc := 36) (g : Int) 20000 hg rfl 64 dX4_findStays_36 (by decide) (fun h36 => ?_) (fun h36 => ?_)
    · exfalso; omega
    · obtain ⟨a, p, n, hr, hn01, rfl⟩ := pl_of g (by omega)
      refine J_aload_n (pc := 39) dX4_findStays_39 rfl ?_
      refine J_getR (pc := 40) 9 fF_X4_35 rfl rfl dX4_findStays_40 ?_
      refine J_sipush (pc := 43) (v := 20000) dX4_findStays_43 (by decide) ?_
      refine J_iload_n (pc := 46) dX4_findStays_46 rfl ?_
      refine J_imulW (pc := 47) 20000 ((D : Int) + 1) rfl hev dX4_findStays_47 (by omega) (fun z47 e47 => ?_)
      refine J_iload_n (pc := 48) dX4_findStays_48 rfl ?_
      refine J_iaddW (pc := 49) (20000 * ((D : Int) + 1)) ((pl a p n) : Int) e47 hg dX4_findStays_49 (by omega) (fun z49 e49 => ?_)
      refine J_aload_n (pc := 50) dX4_findStays_50 rfl ?_
      refine J_iload_n (pc := 51) dX4_findStays_51 rfl ?_
      refine J_iload_n (pc := 52) dX4_findStays_52 rfl ?_
      refine J_iload_n (pc := 53) dX4_findStays_53 rfl ?_
      refine J_callVq (pc := 54) fC_X4_197 rfl dX4_findStays_54 (c_X4_canStay hc hE hqv hq hq01 hD hev hr hn01 hg hS) rfl ⟨Nat.le_of_ble_eq_true rfl, Nat.le_of_ble_eq_true rfl⟩ rfl (Nat.le_of_ble_eq_true rfl) (fun v54 μ54 q54 => ?_)
      obtain ⟨hcan, hE54, h54⟩ := q54
      rcases hcan with ⟨rfl, hrc⟩ | ⟨rfl, hrc⟩
      · refine J_zastW (pc := 57) (20000 * (D + 1) + pl a p n) (by rw [e49]; omega) rfl (by have := pl_lt (n := n) hr; omega) (by decide) dX4_findStays_57 (fun μ57 m57 => ?_)
        refine J_iincW' (pc := 58) ((pl a p n) : Int) hg (lv' := fun iq_ => [some (.ref 0), some (.int qv), some (.int ev), some (.int iq_)]) dX4_findStays_58 rfl (by omega) (by decide) (Nat.le_of_ble_eq_true rfl) rfl (fun _ => rfl) (fun z58 e58 => ?_)
        refine J_goto (pc := 61) 32 dX4_findStays_61 (by decide) ?_
        exact J_lv' (lv' := [some (.ref 0), some (.int qv), some (.int ev), some (.int z58)]) (by repeat' constructor) (ih (pl a p n + 1) z58 μ57 (by omega) (by omega) (by rw [m57]; exact eqM_o hE54 (fun q h6 h7 => jI_ne (by omega)) (by rw [jI_ne (by decide)]) rfl) (stI_s hr hS (by rw [m57]; funext j; rw [jI_i, jI_i, h54 9 (by omega)]) (Or.inl ⟨rfl, Or.inr hrc⟩)) hk2)
      · refine J_zastW (pc := 57) (20000 * (D + 1) + pl a p n) (by rw [e49]; omega) rfl (by have := pl_lt (n := n) hr; omega) (by decide) dX4_findStays_57 (fun μ57 m57 => ?_)
        refine J_iincW' (pc := 58) ((pl a p n) : Int) hg (lv' := fun iq_ => [some (.ref 0), some (.int qv), some (.int ev), some (.int iq_)]) dX4_findStays_58 rfl (by omega) (by decide) (Nat.le_of_ble_eq_true rfl) rfl (fun _ => rfl) (fun z58 e58 => ?_)
        refine J_goto (pc := 61) 32 dX4_findStays_61 (by decide) ?_
        exact J_lv' (lv' := [some (.ref 0), some (.int qv), some (.int ev), some (.int z58)]) (by repeat' constructor) (ih (pl a p n + 1) z58 μ57 (by omega) (by omega) (by rw [m57]; exact eqM_o hE54 (fun q h6 h7 => jI_ne (by omega)) (by rw [jI_ne (by decide)]) rfl) (stI_s hr hS (by rw [m57]; funext j; rw [jI_i, jI_i, h54 9 (by omega)]) (Or.inr ⟨rfl, by omega, hrc⟩)) hk2)
set_option maxRecDepth 100000 in
set_option maxHeartbeats 4000000 in
theorem l_n_st1 {m : JM} (hc : constM m) {br : Bool} {qv : Int32} {q : Int} (hqv : qv.toInt = q) (hq : br = decide (q = 1)) (hq01 : 0 ≤ q ∧ q ≤ 1)  : ∀ d : Nat, ∀ (D : Nat) (ev : Int32) (ν : JM), D + d = 12 → ev.toInt = (D : Int) + 1 → eqM m ν → stI (m.1 1 0).toInt (m.1 1 3).toInt (m.1 1 4).toInt br ν (D + 1) 0 → J G shM mX4_findStays 24 [some (.ref 0), some (.int qv), some (.int ev), none] [] ν (fun v μ' => v = none ∧ eqM m μ' ∧ stI (m.1 1 0).toInt (m.1 1 3).toInt (m.1 1 4).toInt br μ' 13 0) := by
  intro d
  induction d with
  | zero =>
    intro D ev ν hd hev hE hS
    refine J_iload_n (pc := 24) dX4_findStays_24 rfl ?_
    refine J_bipush (pc := 25) (v := 12) dX4_findStays_25 (by decide) ?_
    refine J_icmp_gtW (pc := 27) ((D : Int) + 1) 12 hev rfl 70 dX4_findStays_27 (by decide) (fun h27 => ?_) (fun h27 => ?_)
    · refine J_vret (pc := 70) dX4_findStays_70 rfl ?_
      exact ⟨rfl, hE, by rw [show 13 = D + 1 by omega]; exact hS⟩
    · exfalso; omega
  | succ d ih =>
    intro D ev ν hd hev hE hS
    refine J_iload_n (pc := 24) dX4_findStays_24 rfl ?_
    refine J_bipush (pc := 25) (v := 12) dX4_findStays_25 (by decide) ?_
    refine J_icmp_gtW (pc := 27) ((D : Int) + 1) 12 hev rfl 70 dX4_findStays_27 (by decide) (fun h27 => ?_) (fun h27 => ?_)
    · exfalso; omega
    · refine J_iconst (pc := 30) (v := 0) dX4_findStays_30 (by decide) ?_
      refine J_istore_n (pc := 31) (lv' := [some (.ref 0), some (.int qv), some (.int ev), some (.int 0)]) dX4_findStays_31 (Nat.le_of_ble_eq_true rfl) rfl rfl ?_
      refine J_lv' (lv' := [some (.ref 0), some (.int qv), some (.int ev), some (.int 0)]) (by repeat' constructor) (l_n_st2 hc hqv hq hq01 (by omega) hev 20000 0 0 ν (by omega) rfl hE hS (fun ν' hE' hS' => ?_))
      refine J_iincW' (pc := 64) ((D : Int) + 1) hev (lv' := fun iq_ => [some (.ref 0), some (.int qv), some (.int iq_), none]) dX4_findStays_64 rfl (by omega) (by decide) (Nat.le_of_ble_eq_true rfl) rfl (fun _ => rfl) (fun z64 e64 => ?_)
      refine J_goto (pc := 67) 24 dX4_findStays_67 (by decide) ?_
      exact J_lv' (lv' := [some (.ref 0), some (.int qv), some (.int z64), none]) (by repeat' constructor) (ih (D + 1) z64 ν' (by omega) (by omega) hE' (stI_up hS'))
set_option maxRecDepth 100000 in
set_option maxHeartbeats 4000000 in
theorem l_n_st0 {m : JM} (hc : constM m) {br : Bool} {qv : Int32} {q : Int} (hqv : qv.toInt = q) (hq : br = decide (q = 1)) (hq01 : 0 ≤ q ∧ q ≤ 1)  : ∀ d : Nat, ∀ (i : Nat) (iv : Int32) (ν : JM), i + d = 20000 → iv.toInt = (i : Int) → eqM m ν → (∀ j, j < i → ν.1 9 j = 1) → J G shM mX4_findStays 2 [some (.ref 0), some (.int qv), some (.int iv), none] [] ν (fun v μ' => v = none ∧ eqM m μ' ∧ stI (m.1 1 0).toInt (m.1 1 3).toInt (m.1 1 4).toInt br μ' 13 0) := by
  intro d
  induction d with
  | zero =>
    intro i iv ν hd hi hE hj
    refine J_iload_n (pc := 2) dX4_findStays_2 rfl ?_
    refine J_sipush (pc := 3) (v := 20000) dX4_findStays_3 (by decide) ?_
    refine J_icmp_geW (pc := 6) (i : Int) 20000 hi rfl 22 dX4_findStays_6 (by decide) (fun h6 => ?_) (fun h6 => ?_)
    · refine J_iconst (pc := 22) (v := 1) dX4_findStays_22 (by decide) ?_
      refine J_istore_n (pc := 23) (lv' := [some (.ref 0), some (.int qv), some (.int 1), none]) dX4_findStays_23 (Nat.le_of_ble_eq_true rfl) rfl rfl ?_
      refine J_lv' (lv' := [some (.ref 0), some (.int qv), some (.int 1), none]) (by repeat' constructor) (l_n_st1 hc hqv hq hq01 12 0 1 ν (by omega) rfl hE (fun l a p n h1 h2 h3 h4 => ?_))
      obtain rfl : l = 0 := by omega
      rw [hj _ (by have := pl_lt (n := n) h1; omega)]
      exact Or.inl ⟨rfl, Or.inl rfl⟩
    · exfalso; omega
  | succ d ih =>
    intro i iv ν hd hi hE hj
    refine J_iload_n (pc := 2) dX4_findStays_2 rfl ?_
    refine J_sipush (pc := 3) (v := 20000) dX4_findStays_3 (by decide) ?_
    refine J_icmp_geW (pc := 6) (i : Int) 20000 hi rfl 22 dX4_findStays_6 (by decide) (fun h6 => ?_) (fun h6 => ?_)
    · exfalso; omega
    · refine J_aload_n (pc := 9) dX4_findStays_9 rfl ?_
      refine J_getR (pc := 10) 9 fF_X4_35 rfl rfl dX4_findStays_10 ?_
      refine J_iload_n (pc := 13) dX4_findStays_13 rfl ?_
      refine J_iconst (pc := 14) (v := 1) dX4_findStays_14 (by decide) ?_
      refine J_zastW (pc := 15) i (by have q := hi; omega) rfl (by omega) (by decide) dX4_findStays_15 (fun μ15 m15 => ?_)
      refine J_iincW' (pc := 16) (i : Int) hi (lv' := fun iq_ => [some (.ref 0), some (.int qv), some (.int iq_), none]) dX4_findStays_16 rfl (by omega) (by decide) (Nat.le_of_ble_eq_true rfl) rfl (fun _ => rfl) (fun z16 e16 => ?_)
      refine J_goto (pc := 19) 2 dX4_findStays_19 (by decide) ?_
      exact J_lv' (lv' := [some (.ref 0), some (.int qv), some (.int z16), none]) (by repeat' constructor) (ih (i + 1) z16 μ15 (by omega) (by omega) (by rw [m15]; exact eqM_o hE (fun q h6 h7 => jI_ne (by omega)) (by rw [jI_ne (by decide)]) rfl) (fun j hj2 => by rw [m15, jI_i]; by_cases e : j = i; rw [if_pos ⟨rfl, e⟩]; rw [if_neg (fun z => e z.2)]; exact hj j (by omega)))
set_option maxRecDepth 100000 in
set_option maxHeartbeats 4000000 in
theorem c_X4_findStays {m ν : JM} (hc : constM m) (hE : eqM m ν) {br : Bool} {qv : Int32} {q : Int} (hqv : qv.toInt = q) (hq : br = decide (q = 1)) (hq01 : 0 ≤ q ∧ q ≤ 1)  : Con G shM mX4_findStays [.ref 0, .int qv] ν (fun v μ' => v = none ∧ eqM m μ' ∧ stI (m.1 1 0).toInt (m.1 1 3).toInt (m.1 1 4).toInt br μ' 13 0) := by
  refine Con_of [some (.ref 0), some (.int qv), none, none] (by decide +kernel) (Nat.le_of_ble_eq_true rfl) (fun _ h => h) ?_
  refine J_iconst (pc := 0) (v := 0) dX4_findStays_0 (by decide) ?_
  refine J_istore_n (pc := 1) (lv' := [some (.ref 0), some (.int qv), some (.int 0), none]) dX4_findStays_1 (Nat.le_of_ble_eq_true rfl) rfl rfl ?_
  exact J_lv' (lv' := [some (.ref 0), some (.int qv), some (.int 0), none]) (by repeat' constructor) (l_n_st0 hc hqv hq hq01 20000 0 0 ν (by omega) rfl hE (fun j hj => absurd hj (by omega)))
set_option maxRecDepth 100000 in
set_option maxHeartbeats 4000000 in
theorem l_n_long {m ν : JM} {br : Bool} (hmr : (0 ≤ (m.1 1 1).toInt ∧ (m.1 1 1).toInt ≤ 99 ∧ 0 ≤ (m.1 1 2).toInt ∧ (m.1 1 2).toInt ≤ 99) ∧ 0 ≤ (m.1 1 5).toInt) (hS : stI (m.1 1 0).toInt (m.1 1 3).toInt (m.1 1 4).toInt br ν 13 0) {pv : Int32} (hpv : pv.toInt = ((pl (m.1 1 1).toInt (m.1 1 2).toInt (m.1 1 5).toInt) : Nat)) : ∀ d : Nat, ∀ (l : Nat) (iv mv : Int32) (mo : Nat), l + d = 12 → iv.toInt = (l : Int) + 1 → mv.toInt = (mo : Int) → ((mo = 0 ∧ ∀ y : Nat, 1 ≤ y → y ≤ l → ¬ rc (m.1 1 0).toInt (m.1 1 3).toInt (m.1 1 4).toInt 0 br y (m.1 1 1).toInt (m.1 1 2).toInt (m.1 1 5).toInt) ∨ ((1 ≤ mo ∧ mo ≤ l) ∧ rc (m.1 1 0).toInt (m.1 1 3).toInt (m.1 1 4).toInt 0 br mo (m.1 1 1).toInt (m.1 1 2).toInt (m.1 1 5).toInt ∧ ∀ y : Nat, mo < y → y ≤ l → ¬ rc (m.1 1 0).toInt (m.1 1 3).toInt (m.1 1 4).toInt 0 br y (m.1 1 1).toInt (m.1 1 2).toInt (m.1 1 5).toInt)) → J G shM mX4_longestStay 26 [some (.ref 0), some (.int pv), some (.int mv), some (.int iv)] [] ν (fun v μ' => (∃ mo : Nat, ((mo = 0 ∧ ∀ y : Nat, 1 ≤ y → y ≤ 12 → ¬ rc (m.1 1 0).toInt (m.1 1 3).toInt (m.1 1 4).toInt 0 br y (m.1 1 1).toInt (m.1 1 2).toInt (m.1 1 5).toInt) ∨ ((1 ≤ mo ∧ mo ≤ 12) ∧ rc (m.1 1 0).toInt (m.1 1 3).toInt (m.1 1 4).toInt 0 br mo (m.1 1 1).toInt (m.1 1 2).toInt (m.1 1 5).toInt ∧ ∀ y : Nat, mo < y → y ≤ 12 → ¬ rc (m.1 1 0).toInt (m.1 1 3).toInt (m.1 1 4).toInt 0 br y (m.1 1 1).toInt (m.1 1 2).toInt (m.1 1 5).toInt)) ∧ IsZ v (mo : Int)) ∧ μ' = ν) := by
  intro d
  induction d with
  | zero =>
    intro l iv mv mo hd hi hmv hmo
    have hplt := pl_lt (n := (m.1 1 5).toInt) hmr.1
    refine J_iload_n (pc := 26) dX4_longestStay_26 rfl ?_
    refine J_bipush (pc := 27) (v := 12) dX4_longestStay_27 (by decide) ?_
    refine J_icmp_gtW (pc := 29) ((l : Int) + 1) 12 hi rfl 59 dX4_longestStay_29 (by decide) (fun h29 => ?_) (fun h29 => ?_)
    · refine J_iload_n (pc := 59) dX4_longestStay_59 rfl ?_
      refine J_iret (pc := 60) dX4_longestStay_60 rfl ?_
      exact ⟨⟨mo, by rw [show l = 12 by omega] at hmo; exact hmo, _, rfl, hmv⟩, rfl⟩
    · exfalso; omega
  | succ d ih =>
    intro l iv mv mo hd hi hmv hmo
    have hplt := pl_lt (n := (m.1 1 5).toInt) hmr.1
    refine J_iload_n (pc := 26) dX4_longestStay_26 rfl ?_
    refine J_bipush (pc := 27) (v := 12) dX4_longestStay_27 (by decide) ?_
    refine J_icmp_gtW (pc := 29) ((l : Int) + 1) 12 hi rfl 59 dX4_longestStay_29 (by decide) (fun h29 => ?_) (fun h29 => ?_)
    · exfalso; omega
    · refine J_aload_n (pc := 32) dX4_longestStay_32 rfl ?_
      refine J_getR (pc := 33) 9 fF_X4_35 rfl rfl dX4_longestStay_33 ?_
      refine J_sipush (pc := 36) (v := 20000) dX4_longestStay_36 (by decide) ?_
      refine J_iload_n (pc := 39) dX4_longestStay_39 rfl ?_
      refine J_imulW (pc := 40) 20000 ((l : Int) + 1) rfl hi dX4_longestStay_40 (by omega) (fun z40 e40 => ?_)
      refine J_iload_n (pc := 41) dX4_longestStay_41 rfl ?_
      refine J_iaddW (pc := 42) (20000 * ((l : Int) + 1)) (((pl (m.1 1 1).toInt (m.1 1 2).toInt (m.1 1 5).toInt) : Nat) : Int) e40 hpv dX4_longestStay_42 (by omega) (fun z42 e42 => ?_)
      have hsv := hS (l + 1) (m.1 1 1).toInt (m.1 1 2).toInt (m.1 1 5).toInt hmr.1 hmr.2 (by omega) (Or.inl (by omega))
      refine J_zaldW (pc := 43) (20000 * (l + 1) + (pl (m.1 1 1).toInt (m.1 1 2).toInt (m.1 1 5).toInt)) (by rw [e42]; omega) rfl (by omega) dX4_longestStay_43 ?_
      refine J_if_eqW (pc := 44) ((ν.1 9 (20000 * (l + 1) + (pl (m.1 1 1).toInt (m.1 1 2).toInt (m.1 1 5).toInt))).toInt) rfl 51 dX4_longestStay_44 (by decide) (fun h44 => ?_) (fun h44 => ?_)
      · refine J_iload_n (pc := 51) dX4_longestStay_51 rfl ?_
        refine J_istore_n (pc := 52) (lv' := [some (.ref 0), some (.int pv), some (.int mv), some (.int iv)]) dX4_longestStay_52 (Nat.le_of_ble_eq_true rfl) rfl rfl ?_
        refine J_iincW' (pc := 53) ((l : Int) + 1) hi (lv' := fun iq_ => [some (.ref 0), some (.int pv), some (.int mv), some (.int iq_)]) dX4_longestStay_53 rfl (by omega) (by decide) (Nat.le_of_ble_eq_true rfl) rfl (fun _ => rfl) (fun z53 e53 => ?_)
        refine J_goto (pc := 56) 26 dX4_longestStay_56 (by decide) ?_
        refine J_lv' (lv' := [some (.ref 0), some (.int pv), some (.int mv), some (.int z53)]) (by repeat' constructor) (ih (l + 1) z53 mv mo (by omega) (by omega) hmv ?_)
        have hnx : ¬ rc (m.1 1 0).toInt (m.1 1 3).toInt (m.1 1 4).toInt 0 br (l + 1) (m.1 1 1).toInt (m.1 1 2).toInt (m.1 1 5).toInt := by rcases hsv with ⟨g1, g2⟩ | ⟨g1, g2, g3⟩; rw [g1] at h44; exact absurd h44 (by decide); exact g3
        have hstep : ∀ l' : Nat, l' ≤ l + 1 → l' ≤ l ∨ l' = l + 1 := fun l' h => by omega
        rcases hmo with ⟨e1, e2⟩ | ⟨e1, e2, e3⟩
        · refine Or.inl ⟨e1, fun l' h1 h2 => ?_⟩
          rcases hstep l' h2 with h5 | rfl
          · exact e2 l' h1 h5
          · exact hnx
        · refine Or.inr ⟨by omega, e2, fun l' h1 h2 => ?_⟩
          rcases hstep l' h2 with h5 | rfl
          · exact e3 l' h1 h5
          · exact hnx
      · refine J_iload_n (pc := 47) dX4_longestStay_47 rfl ?_
        refine J_goto (pc := 48) 52 dX4_longestStay_48 (by decide) ?_
        refine J_istore_n (pc := 52) (lv' := [some (.ref 0), some (.int pv), some (.int iv), some (.int iv)]) dX4_longestStay_52 (Nat.le_of_ble_eq_true rfl) rfl rfl ?_
        refine J_iincW' (pc := 53) ((l : Int) + 1) hi (lv' := fun iq_ => [some (.ref 0), some (.int pv), some (.int iv), some (.int iq_)]) dX4_longestStay_53 rfl (by omega) (by decide) (Nat.le_of_ble_eq_true rfl) rfl (fun _ => rfl) (fun z53 e53 => ?_)
        refine J_goto (pc := 56) 26 dX4_longestStay_56 (by decide) ?_
        refine J_lv' (lv' := [some (.ref 0), some (.int pv), some (.int iv), some (.int z53)]) (by repeat' constructor) (ih (l + 1) z53 iv (l + 1) (by omega) (by omega) (by omega) (Or.inr ⟨by omega, ?_, fun l' h1 h2 => absurd h1 (by omega)⟩))
        rcases hsv with ⟨g1, g2⟩ | ⟨g1, g2, g3⟩
        · rcases g2 with g2 | g2; omega; exact g2
        · rw [g1] at h44; exact absurd rfl h44
set_option maxRecDepth 100000 in
set_option maxHeartbeats 4000000 in
theorem c_X4_longestStay {m ν : JM} (hE : eqM m ν) {br : Bool} (hmr : (0 ≤ (m.1 1 1).toInt ∧ (m.1 1 1).toInt ≤ 99 ∧ 0 ≤ (m.1 1 2).toInt ∧ (m.1 1 2).toInt ≤ 99) ∧ 0 ≤ (m.1 1 5).toInt) (hS : stI (m.1 1 0).toInt (m.1 1 3).toInt (m.1 1 4).toInt br ν 13 0) : Con G shM mX4_longestStay [.ref 0] ν (fun v μ' => (∃ mo : Nat, ((mo = 0 ∧ ∀ y : Nat, 1 ≤ y → y ≤ 12 → ¬ rc (m.1 1 0).toInt (m.1 1 3).toInt (m.1 1 4).toInt 0 br y (m.1 1 1).toInt (m.1 1 2).toInt (m.1 1 5).toInt) ∨ ((1 ≤ mo ∧ mo ≤ 12) ∧ rc (m.1 1 0).toInt (m.1 1 3).toInt (m.1 1 4).toInt 0 br mo (m.1 1 1).toInt (m.1 1 2).toInt (m.1 1 5).toInt ∧ ∀ y : Nat, mo < y → y ≤ 12 → ¬ rc (m.1 1 0).toInt (m.1 1 3).toInt (m.1 1 4).toInt 0 br y (m.1 1 1).toInt (m.1 1 2).toInt (m.1 1 5).toInt)) ∧ IsZ v (mo : Int)) ∧ μ' = ν) := by
  have f1 : ν.1 1 = m.1 1 := hE.1 1 (by omega)
  refine Con_of [some (.ref 0), none, none, none] (by decide +kernel) (Nat.le_of_ble_eq_true rfl) (fun _ h => h) ?_
  refine J_aload_n (pc := 0) dX4_longestStay_0 rfl ?_
  refine J_getR (pc := 1) 1 fF_X4_7 rfl rfl dX4_longestStay_1 ?_
  refine J_iconst (pc := 4) (v := 1) dX4_longestStay_4 (by decide) ?_
  refine J_ialdW (pc := 5) 1 (rfl) rfl (by decide) dX4_longestStay_5 ?_
  refine J_aload_n (pc := 6) dX4_longestStay_6 rfl ?_
  refine J_getR (pc := 7) 1 fF_X4_7 rfl rfl dX4_longestStay_7 ?_
  refine J_iconst (pc := 10) (v := 2) dX4_longestStay_10 (by decide) ?_
  refine J_ialdW (pc := 11) 2 (rfl) rfl (by decide) dX4_longestStay_11 ?_
  refine J_aload_n (pc := 12) dX4_longestStay_12 rfl ?_
  refine J_getR (pc := 13) 1 fF_X4_7 rfl rfl dX4_longestStay_13 ?_
  refine J_iconst (pc := 16) (v := 5) dX4_longestStay_16 (by decide) ?_
  refine J_ialdW (pc := 17) 5 (rfl) rfl (by decide) dX4_longestStay_17 ?_
  refine J_callSz (pc := 18) fC_X4_185 dX4_longestStay_18 (c_X4_placeOf ((m.1 1 1).toInt) ((m.1 1 2).toInt) ((m.1 1 5).toInt) (by rw [f1]) (by rw [f1]) (by rw [f1]) (by omega)) rfl ⟨Nat.le_of_ble_eq_true rfl, Nat.le_of_ble_eq_true rfl⟩ rfl (Nat.le_of_ble_eq_true rfl) (fun z18 e18 => ?_)
  refine J_istore_n (pc := 21) (lv' := [some (.ref 0), some (.int z18), none, none]) dX4_longestStay_21 (Nat.le_of_ble_eq_true rfl) rfl rfl ?_
  refine J_iconst (pc := 22) (v := 0) dX4_longestStay_22 (by decide) ?_
  refine J_istore_n (pc := 23) (lv' := [some (.ref 0), some (.int z18), some (.int 0), none]) dX4_longestStay_23 (Nat.le_of_ble_eq_true rfl) rfl rfl ?_
  refine J_iconst (pc := 24) (v := 1) dX4_longestStay_24 (by decide) ?_
  refine J_istore_n (pc := 25) (lv' := [some (.ref 0), some (.int z18), some (.int 0), some (.int 1)]) dX4_longestStay_25 (Nat.le_of_ble_eq_true rfl) rfl rfl ?_
  refine J_lv' (lv' := [some (.ref 0), some (.int z18), some (.int 0), some (.int 1)]) (by repeat' constructor) (l_n_long hmr hS (by rw [e18, pl_i hmr.1]) 12 0 1 0 0 (by omega) rfl rfl (Or.inl ⟨rfl, fun l h1 h2 => absurd h1 (by omega)⟩))
set_option maxRecDepth 100000 in
set_option maxHeartbeats 4000000 in
theorem l_n_wo2 {m : JM} (hc : constM m) {br : Bool} {qv : Int32} {qq : Int} (hqv : qv.toInt = qq) (hq : br = decide (qq = 1)) (hq01 : 0 ≤ qq ∧ qq ≤ 1) {a p n : Int} (hr : 0 ≤ a ∧ a ≤ 99 ∧ 0 ≤ p ∧ p ≤ 99) (hn0 : 0 ≤ n ∧ n < 300000) {R q : Nat} {rv kv av pv nv : Int32} (hrv : rv.toInt = ((q + (R + 1) : Nat) : Int)) (hkv : kv.toInt = (q : Int)) (hq12 : q + (R + 1) ≤ 12) (ha : av.toInt = a) (hp : pv.toInt = p) (hn : nv.toInt = n) {ν0 : JM} (hF0 : stI (m.1 1 0).toInt (m.1 1 3).toInt (m.1 1 4).toInt br ν0 13 0) (hrc : rc (m.1 1 0).toInt (m.1 1 3).toInt (m.1 1 4).toInt 0 br (R + 1) a p n) {Q : Option Value → JM → Prop} : ∀ d : Nat, ∀ (i : Nat) (wv : Int32) (ν : JM), i + d = 6 → wv.toInt = (i : Int) → eqM m ν → ν.1 9 = ν0.1 9 → (∀ w', w' < i → ¬ cw (m.1 1 0).toInt (m.1 1 3).toInt (m.1 1 4).toInt 0 br R a p n w') → (∀ j, j < q → ν.1 10 j = ν0.1 10 j) → (∀ (w : Nat) (ν' : JM), w < 6 → cw (m.1 1 0).toInt (m.1 1 3).toInt (m.1 1 4).toInt 0 br R a p n w → (∀ w', w' < w → ¬ cw (m.1 1 0).toInt (m.1 1 3).toInt (m.1 1 4).toInt 0 br R a p n w') → mst m ν' (hA2 (m.1 1 0).toInt a n w) (hP2 (m.1 1 0).toInt p n w) (n + 1) (nB (m.1 1 0).toInt (m.1 1 3).toInt (m.1 1 4).toInt a p n w) → ν'.1 9 = ν0.1 9 → (ν'.1 10 q).toInt = (w : Int) → (∀ j, j < q → ν'.1 10 j = ν0.1 10 j) → J G shM mX4_walkOut 142 [some (.ref 0), some (.int qv), some (.int rv), some (.int kv), some (.int av), some (.int pv), some (.int nv), none, none] [] ν' Q) → J G shM mX4_walkOut 35 [some (.ref 0), some (.int qv), some (.int rv), some (.int kv), some (.int av), some (.int pv), some (.int nv), some (.int 0), some (.int wv)] [] ν Q := by
  intro d
  induction d with
  | zero =>
    intro i wv ν hd hi hE h90 hno hj10 hk2
    have g1 := hA2_rng (m.1 1 0).toInt a n (i : Int)
    have g2 := hP2_rng (m.1 1 0).toInt p n (i : Int)
    have hF : stI (m.1 1 0).toInt (m.1 1 3).toInt (m.1 1 4).toInt br ν 13 0 := stI_9 hF0 h90
    refine J_iload (pc := 35) dX4_walkOut_35 rfl ?_
    refine J_bipush (pc := 37) (v := 6) dX4_walkOut_37 (by decide) ?_
    refine J_icmp_geW (pc := 39) (i : Int) 6 hi rfl 142 dX4_walkOut_39 (by decide) (fun h39 => ?_) (fun h39 => ?_)
    · exfalso
      obtain ⟨w, h1, h2⟩ := hrc
      exact hno w (by omega) h2
    · exfalso; omega
  | succ d ih =>
    intro i wv ν hd hi hE h90 hno hj10 hk2
    have g1 := hA2_rng (m.1 1 0).toInt a n (i : Int)
    have g2 := hP2_rng (m.1 1 0).toInt p n (i : Int)
    have hF : stI (m.1 1 0).toInt (m.1 1 3).toInt (m.1 1 4).toInt br ν 13 0 := stI_9 hF0 h90
    refine J_iload (pc := 35) dX4_walkOut_35 rfl ?_
    refine J_bipush (pc := 37) (v := 6) dX4_walkOut_37 (by decide) ?_
    refine J_icmp_geW (pc := 39) (i : Int) 6 hi rfl 142 dX4_walkOut_39 (by decide) (fun h39 => ?_) (fun h39 => ?_)
    · exfalso; omega
    · refine J_iload (pc := 42) dX4_walkOut_42 rfl ?_
      refine J_if_ne_F (pc := 44) 142 dX4_walkOut_44 (by decide) (by decide) ?_
      refine J_aload_n (pc := 47) dX4_walkOut_47 rfl ?_
      refine J_iload (pc := 48) dX4_walkOut_48 rfl ?_
      refine J_putIW (pc := 50) fF_X4_66 rfl rfl dX4_walkOut_50 (fun μ50 m50 => ?_)
      refine J_aload_n (pc := 53) dX4_walkOut_53 rfl ?_
      refine J_iload (pc := 54) dX4_walkOut_54 rfl ?_
      refine J_putIW (pc := 56) fF_X4_70 rfl rfl dX4_walkOut_56 (fun μ56 m56 => ?_)
      refine J_aload_n (pc := 59) dX4_walkOut_59 rfl ?_
      refine J_iload (pc := 60) dX4_walkOut_60 rfl ?_
      refine J_putIW (pc := 62) fF_X4_73 rfl rfl dX4_walkOut_62 (fun μ62 m62 => ?_)
      refine J_aload_n (pc := 65) dX4_walkOut_65 rfl ?_
      refine J_iload (pc := 66) dX4_walkOut_66 rfl ?_
      refine J_iconst (pc := 68) (v := 1) dX4_walkOut_68 (by decide) ?_
      refine J_callVv (pc := 69) fC_X4_139 rfl dX4_walkOut_69 (c_X4_hear1 (mst_c (by rw [m62, m56, m50]; exact mst_set hE ha hp hn : mst m μ62 a p n (ν.1 0 7).toInt) hc) (i : Int) hi (by omega) (by rw [(by rw [m62, m56, m50]; exact mst_set hE ha hp hn : mst m μ62 a p n (ν.1 0 7).toInt).2.1]; omega) (by rw [(by rw [m62, m56, m50]; exact mst_set hE ha hp hn : mst m μ62 a p n (ν.1 0 7).toInt).2.2.1]; omega) (by rw [(by rw [m62, m56, m50]; exact mst_set hE ha hp hn : mst m μ62 a p n (ν.1 0 7).toInt).2.2.2.1]; omega)) rfl ⟨Nat.le_of_ble_eq_true rfl, Nat.le_of_ble_eq_true rfl⟩ rfl (Nat.le_of_ble_eq_true rfl) (fun μ69 m69 => ?_)
      have hs := mst_set hE ha hp hn
      rw [← m50, ← m56, ← m62] at hs
      have hs2 := mst_hear (w := (i : Int)) hs (by omega)
      rw [← m69] at hs2
      have h9 : μ69.1 9 = ν.1 9 := by rw [m69, hearM_o.1 9 (by omega), m62, jI_ne (by omega), m56, jI_ne (by omega), m50, jI_ne (by omega)]
      have h10 : μ69.1 10 = ν.1 10 := by rw [m69, hearM_o.1 10 (by omega), m62, jI_ne (by omega), m56, jI_ne (by omega), m50, jI_ne (by omega)]
      have hsv : stV (m.1 1 0).toInt (m.1 1 3).toInt (m.1 1 4).toInt br (μ69.1 9 (20000 * R + (pl (hA2 (m.1 1 0).toInt a n (i : Int)) (hP2 (m.1 1 0).toInt p n (i : Int)) (n + 1)))) R (hA2 (m.1 1 0).toInt a n (i : Int)) (hP2 (m.1 1 0).toInt p n (i : Int)) (n + 1) := by rw [h9]; exact hF R _ _ _ ⟨g1.1, g1.2, g2.1, g2.2⟩ (by omega) (by omega) (Or.inl (by omega))
      have hcw := cw_st (w := i) hsv
      have hnB : nB (m.1 1 0).toInt (m.1 1 3).toInt (m.1 1 4).toInt a p n i = (jZ (m.1 1 3).toInt (m.1 1 4).toInt (hA2 (m.1 1 0).toInt a n (i : Int)) (hP2 (m.1 1 0).toInt p n (i : Int)) (i : Int)) := rfl
      have hsay := say_q (w := i) hq hq01
      refine J_aload_n (pc := 72) dX4_walkOut_72 rfl ?_
      refine J_getR (pc := 73) 10 fF_X4_39 rfl rfl dX4_walkOut_73 ?_
      refine J_iload_n (pc := 76) dX4_walkOut_76 rfl ?_
      refine J_iload (pc := 77) dX4_walkOut_77 rfl ?_
      refine J_iastW (pc := 79) q (hkv) rfl (by omega) dX4_walkOut_79 (fun μ79 m79 => ?_)
      have hs3 := mst_a (o := 10) (j := q) (x := wv) hs2 (by omega)
      rw [← m79] at hs3
      refine J_iload_n (pc := 80) dX4_walkOut_80 rfl ?_
      refine J_iload (pc := 81) dX4_walkOut_81 rfl ?_
      refine J_callSc (pc := 83) fC_X4_194 dX4_walkOut_83 (c_X4_isSaid qq (i : Int) hqv hi) rfl ⟨Nat.le_of_ble_eq_true rfl, Nat.le_of_ble_eq_true rfl⟩ rfl (Nat.le_of_ble_eq_true rfl) (fun h83 => ?_) (fun h83 => ?_)
      · refine J_if_eq_F (pc := 86) 133 dX4_walkOut_86 (by decide) (by decide) ?_
        refine J_aload_n (pc := 89) dX4_walkOut_89 rfl ?_
        refine J_getI (pc := 90) fF_X4_76 rfl rfl dX4_walkOut_90 ?_
        refine J_if_neW (pc := 93) (jZ (m.1 1 3).toInt (m.1 1 4).toInt (hA2 (m.1 1 0).toInt a n (i : Int)) (hP2 (m.1 1 0).toInt p n (i : Int)) (i : Int)) hs3.2.2.2.2 133 dX4_walkOut_93 (by decide) (fun h93 => ?_) (fun h93 => ?_)
        · refine J_iconst (pc := 133) (v := 0) dX4_walkOut_133 (by decide) ?_
          refine J_istore (pc := 134) (lv' := [some (.ref 0), some (.int qv), some (.int rv), some (.int kv), some (.int av), some (.int pv), some (.int nv), some (.int 0), some (.int wv)]) dX4_walkOut_134 (Nat.le_of_ble_eq_true rfl) rfl rfl ?_
          refine J_iincW' (pc := 136) (i : Int) hi (lv' := fun iq_ => [some (.ref 0), some (.int qv), some (.int rv), some (.int kv), some (.int av), some (.int pv), some (.int nv), some (.int 0), some (.int iq_)]) dX4_walkOut_136 rfl (by omega) (by decide) (Nat.le_of_ble_eq_true rfl) rfl (fun _ => rfl) (fun z136 e136 => ?_)
          refine J_goto (pc := 139) 35 dX4_walkOut_139 (by decide) ?_
          refine J_lv' (lv' := [some (.ref 0), some (.int qv), some (.int rv), some (.int kv), some (.int av), some (.int pv), some (.int nv), some (.int 0), some (.int z136)]) (by repeat' constructor) (ih (i + 1) z136 μ79 (by omega) (by omega) hs3.1 (by rw [m79, jI_ne (by decide), h9, h90]) (fun w' hw' => ?_) (fun j hj => by rw [m79, jI_i, if_neg (by omega), h10]; exact hj10 j hj) hk2)
          rcases (by omega : w' < i ∨ w' = i) with h5 | rfl
          · exact hno w' h5
          · intro hh; obtain ⟨e1, e2, e3⟩ := hcw.1 hh; first | omega | exact h83 (hsay.2 e1) | (rw [e3] at h126; exact absurd h126 (by decide))
        · refine J_aload_n (pc := 96) dX4_walkOut_96 rfl ?_
          refine J_getR (pc := 97) 9 fF_X4_35 rfl rfl dX4_walkOut_97 ?_
          refine J_sipush (pc := 100) (v := 20000) dX4_walkOut_100 (by decide) ?_
          refine J_iload_n (pc := 103) dX4_walkOut_103 rfl ?_
          refine J_iconst (pc := 104) (v := 1) dX4_walkOut_104 (by decide) ?_
          refine J_isubW (pc := 105) ((q + (R + 1) : Nat) : Int) 1 hrv rfl dX4_walkOut_105 (by omega) (fun z105 e105 => ?_)
          refine J_iload_n (pc := 106) dX4_walkOut_106 rfl ?_
          refine J_isubW (pc := 107) (((q + (R + 1) : Nat) : Int) - 1) (q : Int) e105 hkv dX4_walkOut_107 (by omega) (fun z107 e107 => ?_)
          have q107 : z107.toInt = (R : Int) := by omega
          refine J_imulW (pc := 108) 20000 (R : Int) rfl q107 dX4_walkOut_108 (by omega) (fun z108 e108 => ?_)
          refine J_aload_n (pc := 109) dX4_walkOut_109 rfl ?_
          refine J_getI (pc := 110) fF_X4_66 rfl rfl dX4_walkOut_110 ?_
          refine J_aload_n (pc := 113) dX4_walkOut_113 rfl ?_
          refine J_getI (pc := 114) fF_X4_70 rfl rfl dX4_walkOut_114 ?_
          refine J_aload_n (pc := 117) dX4_walkOut_117 rfl ?_
          refine J_getI (pc := 118) fF_X4_73 rfl rfl dX4_walkOut_118 ?_
          refine J_callSz (pc := 121) fC_X4_185 dX4_walkOut_121 (c_X4_placeOf (hA2 (m.1 1 0).toInt a n (i : Int)) (hP2 (m.1 1 0).toInt p n (i : Int)) (n + 1) hs3.2.1 hs3.2.2.1 hs3.2.2.2.1 (by omega)) rfl ⟨Nat.le_of_ble_eq_true rfl, Nat.le_of_ble_eq_true rfl⟩ rfl (Nat.le_of_ble_eq_true rfl) (fun z121 e121 => ?_)
          refine J_iaddW (pc := 124) (20000 * (R : Int)) ((100 * (hA2 (m.1 1 0).toInt a n (i : Int)) + (hP2 (m.1 1 0).toInt p n (i : Int))) * 2 + (n + 1) % 2) e108 e121 dX4_walkOut_124 (by omega) (fun z124 e124 => ?_)
          refine J_zaldW (pc := 125) (20000 * R + (pl (hA2 (m.1 1 0).toInt a n (i : Int)) (hP2 (m.1 1 0).toInt p n (i : Int)) (n + 1))) (by rw [e124, pl_i_cast ⟨g1.1, g1.2, g2.1, g2.2⟩]) rfl (by have := pl_lt (n := n + 1) ⟨g1.1, g1.2, g2.1, g2.2⟩; omega) dX4_walkOut_125 ?_
          refine J_if_eqW (pc := 126) ((μ69.1 9 (20000 * R + (pl (hA2 (m.1 1 0).toInt a n (i : Int)) (hP2 (m.1 1 0).toInt p n (i : Int)) (n + 1)))).toInt) (by rw [m79, jI_ne (by decide)]) 133 dX4_walkOut_126 (by decide) (fun h126 => ?_) (fun h126 => ?_)
          · refine J_iconst (pc := 133) (v := 0) dX4_walkOut_133 (by decide) ?_
            refine J_istore (pc := 134) (lv' := [some (.ref 0), some (.int qv), some (.int rv), some (.int kv), some (.int av), some (.int pv), some (.int nv), some (.int 0), some (.int wv)]) dX4_walkOut_134 (Nat.le_of_ble_eq_true rfl) rfl rfl ?_
            refine J_iincW' (pc := 136) (i : Int) hi (lv' := fun iq_ => [some (.ref 0), some (.int qv), some (.int rv), some (.int kv), some (.int av), some (.int pv), some (.int nv), some (.int 0), some (.int iq_)]) dX4_walkOut_136 rfl (by omega) (by decide) (Nat.le_of_ble_eq_true rfl) rfl (fun _ => rfl) (fun z136 e136 => ?_)
            refine J_goto (pc := 139) 35 dX4_walkOut_139 (by decide) ?_
            refine J_lv' (lv' := [some (.ref 0), some (.int qv), some (.int rv), some (.int kv), some (.int av), some (.int pv), some (.int nv), some (.int 0), some (.int z136)]) (by repeat' constructor) (ih (i + 1) z136 μ79 (by omega) (by omega) hs3.1 (by rw [m79, jI_ne (by decide), h9, h90]) (fun w' hw' => ?_) (fun j hj => by rw [m79, jI_i, if_neg (by omega), h10]; exact hj10 j hj) hk2)
            rcases (by omega : w' < i ∨ w' = i) with h5 | rfl
            · exact hno w' h5
            · intro hh; obtain ⟨e1, e2, e3⟩ := hcw.1 hh; first | omega | exact h83 (hsay.2 e1) | (rw [e3] at h126; exact absurd h126 (by decide))
          · refine J_iconst (pc := 129) (v := 1) dX4_walkOut_129 (by decide) ?_
            refine J_goto (pc := 130) 134 dX4_walkOut_130 (by decide) ?_
            refine J_istore (pc := 134) (lv' := [some (.ref 0), some (.int qv), some (.int rv), some (.int kv), some (.int av), some (.int pv), some (.int nv), some (.int 1), some (.int wv)]) dX4_walkOut_134 (Nat.le_of_ble_eq_true rfl) rfl rfl ?_
            refine J_iincW' (pc := 136) (i : Int) hi (lv' := fun iq_ => [some (.ref 0), some (.int qv), some (.int rv), some (.int kv), some (.int av), some (.int pv), some (.int nv), some (.int 1), some (.int iq_)]) dX4_walkOut_136 rfl (by omega) (by decide) (Nat.le_of_ble_eq_true rfl) rfl (fun _ => rfl) (fun z136 e136 => ?_)
            refine J_goto (pc := 139) 35 dX4_walkOut_139 (by decide) ?_
            have hx1 : μ69.1 9 (20000 * R + (pl (hA2 (m.1 1 0).toInt a n (i : Int)) (hP2 (m.1 1 0).toInt p n (i : Int)) (n + 1))) = 1 := by rcases hsv with ⟨g, -⟩ | ⟨g, -, -⟩; exact g; rw [g] at h126; exact absurd rfl h126
            have hcwi : cw (m.1 1 0).toInt (m.1 1 3).toInt (m.1 1 4).toInt 0 br R a p n i := hcw.2 ⟨hsay.1 h83, by omega, hx1⟩
            refine J_iload (pc := 35) dX4_walkOut_35 rfl ?_
            refine J_bipush (pc := 37) (v := 6) dX4_walkOut_37 (by decide) ?_
            refine J_icmp_geW (pc := 39) ((i : Int) + 1) 6 e136 rfl 142 dX4_walkOut_39 (by decide) (fun h39 => ?_) (fun h39 => ?_)
            · exact J_lv' (lv' := [some (.ref 0), some (.int qv), some (.int rv), some (.int kv), some (.int av), some (.int pv), some (.int nv), none, none]) (by repeat' constructor) (hk2 i μ79 (by omega) hcwi hno hs3 (by rw [m79, jI_ne (by decide), h9]; exact h90) (by rw [m79, jI_i, if_pos ⟨rfl, rfl⟩]; exact hi) (fun j hj => by rw [m79, jI_i, if_neg (by omega), h10]; exact hj10 j hj))
            · refine J_iload (pc := 42) dX4_walkOut_42 rfl ?_
              refine J_if_ne_T (pc := 44) 142 dX4_walkOut_44 (by decide) (by decide) ?_
              exact J_lv' (lv' := [some (.ref 0), some (.int qv), some (.int rv), some (.int kv), some (.int av), some (.int pv), some (.int nv), none, none]) (by repeat' constructor) (hk2 i μ79 (by omega) hcwi hno hs3 (by rw [m79, jI_ne (by decide), h9]; exact h90) (by rw [m79, jI_i, if_pos ⟨rfl, rfl⟩]; exact hi) (fun j hj => by rw [m79, jI_i, if_neg (by omega), h10]; exact hj10 j hj))
      · refine J_if_eq_T (pc := 86) 133 dX4_walkOut_86 (by decide) (by decide) ?_
        refine J_iconst (pc := 133) (v := 0) dX4_walkOut_133 (by decide) ?_
        refine J_istore (pc := 134) (lv' := [some (.ref 0), some (.int qv), some (.int rv), some (.int kv), some (.int av), some (.int pv), some (.int nv), some (.int 0), some (.int wv)]) dX4_walkOut_134 (Nat.le_of_ble_eq_true rfl) rfl rfl ?_
        refine J_iincW' (pc := 136) (i : Int) hi (lv' := fun iq_ => [some (.ref 0), some (.int qv), some (.int rv), some (.int kv), some (.int av), some (.int pv), some (.int nv), some (.int 0), some (.int iq_)]) dX4_walkOut_136 rfl (by omega) (by decide) (Nat.le_of_ble_eq_true rfl) rfl (fun _ => rfl) (fun z136 e136 => ?_)
        refine J_goto (pc := 139) 35 dX4_walkOut_139 (by decide) ?_
        refine J_lv' (lv' := [some (.ref 0), some (.int qv), some (.int rv), some (.int kv), some (.int av), some (.int pv), some (.int nv), some (.int 0), some (.int z136)]) (by repeat' constructor) (ih (i + 1) z136 μ79 (by omega) (by omega) hs3.1 (by rw [m79, jI_ne (by decide), h9, h90]) (fun w' hw' => ?_) (fun j hj => by rw [m79, jI_i, if_neg (by omega), h10]; exact hj10 j hj) hk2)
        rcases (by omega : w' < i ∨ w' = i) with h5 | rfl
        · exact hno w' h5
        · intro hh; obtain ⟨e1, e2, e3⟩ := hcw.1 hh; first | omega | exact h83 (hsay.2 e1) | (rw [e3] at h126; exact absurd h126 (by decide))
set_option maxRecDepth 100000 in
set_option maxHeartbeats 4000000 in
theorem l_n_wo1 {m : JM} (hc : constM m) {br : Bool} {qv : Int32} {qq : Int} (hqv : qv.toInt = qq) (hq : br = decide (qq = 1)) (hq01 : 0 ≤ qq ∧ qq ≤ 1) {rv : Int32} {r : Nat} (hrv : rv.toInt = (r : Int)) (hr12 : r ≤ 12) : ∀ d : Nat, ∀ (q : Nat) (kv : Int32) (ν : JM) (a p n b : Int), q + d = r → kv.toInt = (q : Int) → (0 ≤ n ∧ n + (d : Int) < 300000) → mst m ν a p n b → (0 ≤ a ∧ a ≤ 99 ∧ 0 ≤ p ∧ p ≤ 99) → 0 ≤ n → stI (m.1 1 0).toInt (m.1 1 3).toInt (m.1 1 4).toInt br ν 13 0 → (d ≠ 0 → rc (m.1 1 0).toInt (m.1 1 3).toInt (m.1 1 4).toInt 0 br d a p n) → J G shM mX4_walkOut 6 [some (.ref 0), some (.int qv), some (.int rv), some (.int kv), none, none, none, none, none] [] ν (fun v μ' => v = none ∧ eqM m μ' ∧ rowR (m.1 1 0).toInt (m.1 1 3).toInt (m.1 1 4).toInt 0 br d a p n (fun j => (μ'.1 10 (q + j)).toInt) ∧ (∀ j, j < q → μ'.1 10 j = ν.1 10 j)) := by
  intro d
  induction d with
  | zero =>
    intro q kv ν a p n b hd hkv hnn hs hr hn0 hF hmin
    refine J_iload_n (pc := 6) dX4_walkOut_6 rfl ?_
    refine J_iload_n (pc := 7) dX4_walkOut_7 rfl ?_
    refine J_icmp_geW (pc := 8) (q : Int) (r : Int) hkv hrv 148 dX4_walkOut_8 (by decide) (fun h8 => ?_) (fun h8 => ?_)
    · refine J_vret (pc := 148) dX4_walkOut_148 rfl ?_
      exact ⟨rfl, hs.1, trivial, fun _ _ => rfl⟩
    · exfalso; omega
  | succ d ih =>
    intro q kv ν a p n b hd hkv hnn hs hr hn0 hF hmin
    refine J_iload_n (pc := 6) dX4_walkOut_6 rfl ?_
    refine J_iload_n (pc := 7) dX4_walkOut_7 rfl ?_
    refine J_icmp_geW (pc := 8) (q : Int) (r : Int) hkv hrv 148 dX4_walkOut_8 (by decide) (fun h8 => ?_) (fun h8 => ?_)
    · exfalso; omega
    · refine J_aload_n (pc := 11) dX4_walkOut_11 rfl ?_
      refine J_getI (pc := 12) fF_X4_66 rfl rfl dX4_walkOut_12 ?_
      refine J_istore (pc := 15) (lv' := [some (.ref 0), some (.int qv), some (.int rv), some (.int kv), some (.int (ν.1 0 4)), none, none, none, none]) dX4_walkOut_15 (Nat.le_of_ble_eq_true rfl) rfl rfl ?_
      refine J_aload_n (pc := 17) dX4_walkOut_17 rfl ?_
      refine J_getI (pc := 18) fF_X4_70 rfl rfl dX4_walkOut_18 ?_
      refine J_istore (pc := 21) (lv' := [some (.ref 0), some (.int qv), some (.int rv), some (.int kv), some (.int (ν.1 0 4)), some (.int (ν.1 0 5)), none, none, none]) dX4_walkOut_21 (Nat.le_of_ble_eq_true rfl) rfl rfl ?_
      refine J_aload_n (pc := 23) dX4_walkOut_23 rfl ?_
      refine J_getI (pc := 24) fF_X4_73 rfl rfl dX4_walkOut_24 ?_
      refine J_istore (pc := 27) (lv' := [some (.ref 0), some (.int qv), some (.int rv), some (.int kv), some (.int (ν.1 0 4)), some (.int (ν.1 0 5)), some (.int (ν.1 0 6)), none, none]) dX4_walkOut_27 (Nat.le_of_ble_eq_true rfl) rfl rfl ?_
      refine J_iconst (pc := 29) (v := 0) dX4_walkOut_29 (by decide) ?_
      refine J_istore (pc := 30) (lv' := [some (.ref 0), some (.int qv), some (.int rv), some (.int kv), some (.int (ν.1 0 4)), some (.int (ν.1 0 5)), some (.int (ν.1 0 6)), some (.int 0), none]) dX4_walkOut_30 (Nat.le_of_ble_eq_true rfl) rfl rfl ?_
      refine J_iconst (pc := 32) (v := 0) dX4_walkOut_32 (by decide) ?_
      refine J_istore (pc := 33) (lv' := [some (.ref 0), some (.int qv), some (.int rv), some (.int kv), some (.int (ν.1 0 4)), some (.int (ν.1 0 5)), some (.int (ν.1 0 6)), some (.int 0), some (.int 0)]) dX4_walkOut_33 (Nat.le_of_ble_eq_true rfl) rfl rfl ?_
      have hrc := hmin (by omega)
      refine l_n_wo2 hc hqv hq hq01 hr ⟨hn0, by omega⟩ (R := d) (q := q) (by omega) hkv (by omega) hs.2.1 hs.2.2.1 hs.2.2.2.1 hF hrc 6 0 0 ν (by omega) rfl hs.1 rfl (fun w' hw' => absurd hw' (by omega)) (fun _ _ => rfl) (fun w ν' h1 h2 h3 h4 h5 h6 h7 => ?_)
      have g1 := hA2_rng (m.1 1 0).toInt a n w
      have g2 := hP2_rng (m.1 1 0).toInt p n w
      refine J_iincW' (pc := 142) (q : Int) hkv (lv' := fun iq_ => [some (.ref 0), some (.int qv), some (.int rv), some (.int iq_), some (.int (ν.1 0 4)), some (.int (ν.1 0 5)), some (.int (ν.1 0 6)), none, none]) dX4_walkOut_142 rfl (by omega) (by decide) (Nat.le_of_ble_eq_true rfl) rfl (fun _ => rfl) (fun z142 e142 => ?_)
      refine J_goto (pc := 145) 6 dX4_walkOut_145 (by decide) ?_
      refine J_mono (J_lv' (lv' := [some (.ref 0), some (.int qv), some (.int rv), some (.int z142), none, none, none, none, none]) (by repeat' constructor) (ih (q + 1) z142 ν' _ _ _ _ (by omega) (by omega) (by omega) h4 ⟨g1.1, g1.2, g2.1, g2.2⟩ (by omega) (stI_9 hF h5) (fun hd0 => ?_))) (fun v μ' hh => ?_)
      · rcases h2.2 with ⟨e3, -⟩ | ⟨-, -, e3⟩
        · omega
        · exact e3
      · obtain ⟨e1, e2, e3, e4⟩ := hh
        refine ⟨e1, e2, ⟨w, h1, ?_, h2, h3, rowR_congr _ _ _ _ _ _ (fun j hj => ?_) e3⟩, fun j hj => by rw [e4 j (by omega), h7 j hj]⟩
        · show (μ'.1 10 (q + 0)).toInt = _; rw [Nat.add_zero, e4 q (by omega)]; exact h6
        · show (μ'.1 10 (q + 1 + j)).toInt = (μ'.1 10 (q + (j + 1))).toInt; rw [show q + 1 + j = q + (j + 1) by omega]
set_option maxRecDepth 100000 in
set_option maxHeartbeats 4000000 in
theorem c_X4_walkOut {m ν : JM} (hc : constM m) (hE : eqM m ν) {br : Bool} {qv : Int32} {qq : Int} (hqv : qv.toInt = qq) (hq : br = decide (qq = 1)) (hq01 : 0 ≤ qq ∧ qq ≤ 1) (hmr : (0 ≤ (m.1 1 1).toInt ∧ (m.1 1 1).toInt ≤ 99 ∧ 0 ≤ (m.1 1 2).toInt ∧ (m.1 1 2).toInt ≤ 99) ∧ 0 ≤ (m.1 1 5).toInt ∧ (m.1 1 5).toInt < 200000) {rv : Int32} (r : Nat) (hrv : rv.toInt = (r : Int)) (hr12 : r ≤ 12) (hF : stI (m.1 1 0).toInt (m.1 1 3).toInt (m.1 1 4).toInt br ν 13 0) (hmin : r ≠ 0 → rc (m.1 1 0).toInt (m.1 1 3).toInt (m.1 1 4).toInt 0 br r (m.1 1 1).toInt (m.1 1 2).toInt (m.1 1 5).toInt) : Con G shM mX4_walkOut [.ref 0, .int qv, .int rv] ν (fun v μ' => v = none ∧ eqM m μ' ∧ rowR (m.1 1 0).toInt (m.1 1 3).toInt (m.1 1 4).toInt 0 br r (m.1 1 1).toInt (m.1 1 2).toInt (m.1 1 5).toInt (fun j => (μ'.1 10 j).toInt)) := by
  refine Con_of [some (.ref 0), some (.int qv), some (.int rv), none, none, none, none, none, none] (by decide +kernel) (Nat.le_of_ble_eq_true rfl) (fun _ h => h) ?_
  refine J_aload_n (pc := 0) dX4_walkOut_0 rfl ?_
  refine J_callVv (pc := 1) fC_X4_136 rfl dX4_walkOut_1 (c_X4_begin) rfl ⟨Nat.le_of_ble_eq_true rfl, Nat.le_of_ble_eq_true rfl⟩ rfl (Nat.le_of_ble_eq_true rfl) (fun μ1 m1 => ?_)
  refine J_iconst (pc := 4) (v := 0) dX4_walkOut_4 (by decide) ?_
  refine J_istore_n (pc := 5) (lv' := [some (.ref 0), some (.int qv), some (.int rv), some (.int 0), none, none, none, none, none]) dX4_walkOut_5 (Nat.le_of_ble_eq_true rfl) rfl rfl ?_
  have hs := mst_begin hE
  rw [← m1] at hs
  refine J_mono (J_lv' (lv' := [some (.ref 0), some (.int qv), some (.int rv), some (.int 0), none, none, none, none, none]) (by repeat' constructor) (l_n_wo1 hc hqv hq hq01 hrv hr12 r 0 0 μ1 _ _ _ _ (by omega) rfl (by omega) hs hmr.1 (by omega) (stI_9 hF (by rw [m1, beginM_o.1 9 (by omega)])) hmin)) (fun v μ' hh => ⟨hh.1, hh.2.1, rowR_congr _ _ _ _ _ _ (fun j _ => by rw [Nat.zero_add]) hh.2.2.1⟩)
set_option maxRecDepth 100000 in
set_option maxHeartbeats 4000000 in
theorem n_delay {N : Int} {c m : JM} (h : Inv N c m) (hN : 150 ≤ N ∧ N < 100000) {a b : Int32}  : Con G shM mX4_delay [.ref 0, .int a, .int b] m (fun v μ' => (¬((0 ≤ a.toInt ∧ a.toInt ≤ 1) ∧ -1 ≤ b.toInt) ∧ IsZ v (-10) ∧ μ' = (jI m 4 0 (m.1 4 0 + 1))) ∨ (((0 ≤ a.toInt ∧ a.toInt ≤ 1) ∧ -1 ≤ b.toInt) ∧ dlR (m.1 1 0).toInt (m.1 1 3).toInt (m.1 1 4).toInt (m.1 1 1).toInt (m.1 1 2).toInt (m.1 1 5).toInt (m.1 1 6).toInt (decide (a.toInt = 1)) b.toInt v ∧ eqM m μ')) := by
  obtain ⟨q0, q1, q2, q3, q4, q5, q6⟩ := Inv_q h
  obtain ⟨r0, r1, r2, r3, r4, r5, r6, r15, r40, r9⟩ := Inv_r h
  have hc := h.1
  have qt : (c.1 21 1).toInt = (m.1 0 9).toInt := by rw [h.2.2.2.2.1.1]
  have qs0 : (c.1 0 8).toInt = (m.1 4 0).toInt := by rw [h.2.2.2.2.2.2.1]
  have qs1 : (c.1 0 9).toInt = (m.1 4 1).toInt := by rw [h.2.2.2.2.2.2.2.1]
  have qs2 : (c.1 0 10).toInt = (m.1 4 2).toInt := by rw [h.2.2.2.2.2.2.2.2]
  refine Con_of [some (.ref 0), some (.int a), some (.int b), none] (by decide +kernel) (Nat.le_of_ble_eq_true rfl) (fun _ h => h) ?_
  refine J_iload_n (pc := 0) dX4_delay_0 rfl ?_
  refine J_i2l (pc := 1) dX4_delay_1 rfl ?_
  refine J_lconst (pc := 2) (v := 0) dX4_delay_2 (by decide) ?_
  refine J_lconst (pc := 3) (v := 1) dX4_delay_3 (by decide) ?_
  refine J_callSc (pc := 4) fC_X4_58 dX4_delay_4 (c_X4_in a.toInt 0 1 (i2l_z rfl) rfl rfl) rfl ⟨Nat.le_of_ble_eq_true rfl, Nat.le_of_ble_eq_true rfl⟩ rfl (Nat.le_of_ble_eq_true rfl) (fun h4 => ?_) (fun h4 => ?_)
  · refine J_if_eq_F (pc := 7) 15 dX4_delay_7 (by decide) (by decide) ?_
    refine J_iload_n (pc := 10) dX4_delay_10 rfl ?_
    refine J_iconst (pc := 11) (v := (-1)) dX4_delay_11 (by decide) ?_
    refine J_icmp_geW (pc := 12) b.toInt (-1) rfl rfl 22 dX4_delay_12 (by decide) (fun h12 => ?_) (fun h12 => ?_)
    · refine J_iconst (pc := 22) (v := 0) dX4_delay_22 (by decide) ?_
      refine J_istore_n (pc := 23) (lv' := [some (.ref 0), some (.int a), some (.int b), some (.int 0)]) dX4_delay_23 (Nat.le_of_ble_eq_true rfl) rfl rfl ?_
      refine J_aload_n (pc := 24) dX4_delay_24 rfl ?_
      refine J_getR (pc := 25) 1 fF_X4_7 rfl rfl dX4_delay_25 ?_
      refine J_bipush (pc := 28) (v := 6) dX4_delay_28 (by decide) ?_
      refine J_ialdW (pc := 30) 6 (rfl) rfl (by decide) dX4_delay_30 ?_
      refine J_if_neW (pc := 31) ((m.1 1 6).toInt) rfl 44 dX4_delay_31 (by decide) (fun h31 => ?_) (fun h31 => ?_)
      · refine J_iload_n (pc := 44) dX4_delay_44 rfl ?_
        refine J_iconst (pc := 45) (v := (-1)) dX4_delay_45 (by decide) ?_
        refine J_icmp_neW (pc := 46) b.toInt (-1) rfl rfl 51 dX4_delay_46 (by decide) (fun h46 => ?_) (fun h46 => ?_)
        · refine J_iload_n (pc := 51) dX4_delay_51 rfl ?_
          refine J_iload_n (pc := 52) dX4_delay_52 rfl ?_
          refine J_icmp_ltW (pc := 53) b.toInt 0 rfl rfl 59 dX4_delay_53 (by decide) (fun h53 => ?_) (fun h53 => ?_)
          · exfalso; omega
          · refine J_bipush (pc := 56) (v := (-5)) dX4_delay_56 (by decide) ?_
            refine J_iret (pc := 58) dX4_delay_58 rfl ?_
            exact Or.inr ⟨⟨by omega, by omega⟩, Or.inl ⟨by omega, ⟨_, rfl, by rw [if_neg (by omega)]; rfl⟩⟩, eqM_rf m⟩
        · refine J_iload_n (pc := 49) dX4_delay_49 rfl ?_
          refine J_iret (pc := 50) dX4_delay_50 rfl ?_
          exact Or.inr ⟨⟨by omega, by omega⟩, Or.inl ⟨by omega, ⟨_, rfl, by rw [if_pos (by omega)]; rfl⟩⟩, eqM_rf m⟩
      · refine J_aload_n (pc := 34) dX4_delay_34 rfl ?_
        refine J_iload_n (pc := 35) dX4_delay_35 rfl ?_
        refine J_callVq (pc := 36) fC_X4_201 rfl dX4_delay_36 (c_X4_findStays hc (eqM_rf m) (br := (decide (a.toInt = 1))) rfl rfl (by omega)) rfl ⟨Nat.le_of_ble_eq_true rfl, Nat.le_of_ble_eq_true rfl⟩ rfl (Nat.le_of_ble_eq_true rfl) (fun v36 μ36 q36 => ?_)
        obtain ⟨rfl, hE36, hS36⟩ := q36
        refine J_aload_n (pc := 39) dX4_delay_39 rfl ?_
        refine J_callVq (pc := 40) fC_X4_204 rfl dX4_delay_40 (c_X4_longestStay hE36 (by omega) hS36) rfl ⟨Nat.le_of_ble_eq_true rfl, Nat.le_of_ble_eq_true rfl⟩ rfl (Nat.le_of_ble_eq_true rfl) (fun v40 μ40 q40 => ?_)
        obtain ⟨⟨mo, hmo, z40, rfl, e40⟩, rfl⟩ := q40
        refine J_istore_n (pc := 43) (lv' := [some (.ref 0), some (.int a), some (.int b), some (.int z40)]) dX4_delay_43 (Nat.le_of_ble_eq_true rfl) rfl rfl ?_
        rcases hmo with ⟨hm0, hno⟩ | ⟨hm1, hrc, hno⟩
        · refine J_iload_n (pc := 44) dX4_delay_44 rfl ?_
          refine J_iconst (pc := 45) (v := (-1)) dX4_delay_45 (by decide) ?_
          refine J_icmp_neW (pc := 46) b.toInt (-1) rfl rfl 51 dX4_delay_46 (by decide) (fun h46 => ?_) (fun h46 => ?_)
          · refine J_iload_n (pc := 51) dX4_delay_51 rfl ?_
            refine J_iload_n (pc := 52) dX4_delay_52 rfl ?_
            refine J_icmp_ltW (pc := 53) b.toInt (mo : Int) rfl e40 59 dX4_delay_53 (by decide) (fun h53 => ?_) (fun h53 => ?_)
            · exfalso; omega
            · refine J_bipush (pc := 56) (v := (-5)) dX4_delay_56 (by decide) ?_
              refine J_iret (pc := 58) dX4_delay_58 rfl ?_
              exact Or.inr ⟨⟨by omega, by omega⟩, Or.inr (Or.inl ⟨by omega, hno, ⟨_, rfl, by rw [if_neg (by omega)]; rfl⟩⟩), hE36⟩
          · refine J_iload_n (pc := 49) dX4_delay_49 rfl ?_
            refine J_iret (pc := 50) dX4_delay_50 rfl ?_
            exact Or.inr ⟨⟨by omega, by omega⟩, Or.inr (Or.inl ⟨by omega, hno, ⟨_, rfl, by rw [if_pos (by omega)]; omega⟩⟩), hE36⟩
        · obtain ⟨g, hg⟩ : ∃ g, rowR (m.1 1 0).toInt (m.1 1 3).toInt (m.1 1 4).toInt 0 (decide (a.toInt = 1)) mo (m.1 1 1).toInt (m.1 1 2).toInt (m.1 1 5).toInt g := by obtain ⟨l0, rfl⟩ : ∃ l0, mo = l0 + 1 := ⟨mo - 1, by omega⟩; exact rowR_ex _ _ _ _ hrc
          refine J_iload_n (pc := 44) dX4_delay_44 rfl ?_
          refine J_iconst (pc := 45) (v := (-1)) dX4_delay_45 (by decide) ?_
          refine J_icmp_neW (pc := 46) b.toInt (-1) rfl rfl 51 dX4_delay_46 (by decide) (fun h46 => ?_) (fun h46 => ?_)
          · refine J_iload_n (pc := 51) dX4_delay_51 rfl ?_
            refine J_iload_n (pc := 52) dX4_delay_52 rfl ?_
            refine J_icmp_ltW (pc := 53) b.toInt (mo : Int) rfl e40 59 dX4_delay_53 (by decide) (fun h53 => ?_) (fun h53 => ?_)
            · refine J_aload_n (pc := 59) dX4_delay_59 rfl ?_
              refine J_iload_n (pc := 60) dX4_delay_60 rfl ?_
              refine J_iload_n (pc := 61) dX4_delay_61 rfl ?_
              refine J_callVq (pc := 62) fC_X4_207 rfl dX4_delay_62 (c_X4_walkOut hc hE36 (br := (decide (a.toInt = 1))) rfl rfl (by omega) (by omega) mo e40 (by omega) hS36 (fun _ => hrc)) rfl ⟨Nat.le_of_ble_eq_true rfl, Nat.le_of_ble_eq_true rfl⟩ rfl (Nat.le_of_ble_eq_true rfl) (fun v62 μ62 q62 => ?_)
              obtain ⟨rfl, hE62, hrow⟩ := q62
              refine J_aload_n (pc := 65) dX4_delay_65 rfl ?_
              refine J_getR (pc := 66) 10 fF_X4_39 rfl rfl dX4_delay_66 ?_
              refine J_iload_n (pc := 69) dX4_delay_69 rfl ?_
              refine J_ialdW (pc := 70) b.toInt.toNat (by omega) rfl (by omega) dX4_delay_70 ?_
              refine J_iret (pc := 71) dX4_delay_71 rfl ?_
              exact Or.inr ⟨⟨by omega, by omega⟩, Or.inr (Or.inr ⟨by omega, mo, _, hm1, hrc, hno, hrow, ⟨_, rfl, by rw [if_neg (by omega), if_neg (by omega)]⟩⟩), hE62⟩
            · refine J_bipush (pc := 56) (v := (-5)) dX4_delay_56 (by decide) ?_
              refine J_iret (pc := 58) dX4_delay_58 rfl ?_
              exact Or.inr ⟨⟨by omega, by omega⟩, Or.inr (Or.inr ⟨by omega, mo, g, hm1, hrc, hno, hg, ⟨_, rfl, by rw [if_neg (by omega), if_pos (by omega)]; rfl⟩⟩), hE36⟩
          · refine J_iload_n (pc := 49) dX4_delay_49 rfl ?_
            refine J_iret (pc := 50) dX4_delay_50 rfl ?_
            exact Or.inr ⟨⟨by omega, by omega⟩, Or.inr (Or.inr ⟨by omega, mo, g, hm1, hrc, hno, hg, ⟨_, rfl, by rw [if_pos (by omega)]; omega⟩⟩), hE36⟩
    · refine J_aload_n (pc := 15) dX4_delay_15 rfl ?_
      refine J_bipush (pc := 16) (v := (-10)) dX4_delay_16 (by decide) ?_
      refine J_callVim (pc := 18) fC_X4_62 rfl dX4_delay_18 (c_X4_noAs) rfl ⟨Nat.le_of_ble_eq_true rfl, Nat.le_of_ble_eq_true rfl⟩ rfl (Nat.le_of_ble_eq_true rfl) (fun z18 μ18 d18 m18 => ?_)
      refine J_iret (pc := 21) dX4_delay_21 rfl ?_
      subst_vars
      exact Or.inl ⟨by omega, ⟨_, rfl, rfl⟩, rfl⟩
  · refine J_if_eq_T (pc := 7) 15 dX4_delay_7 (by decide) (by decide) ?_
    refine J_aload_n (pc := 15) dX4_delay_15 rfl ?_
    refine J_bipush (pc := 16) (v := (-10)) dX4_delay_16 (by decide) ?_
    refine J_callVim (pc := 18) fC_X4_62 rfl dX4_delay_18 (c_X4_noAs) rfl ⟨Nat.le_of_ble_eq_true rfl, Nat.le_of_ble_eq_true rfl⟩ rfl (Nat.le_of_ble_eq_true rfl) (fun z18 μ18 d18 m18 => ?_)
    refine J_iret (pc := 21) dX4_delay_21 rfl ?_
    subst_vars
    exact Or.inl ⟨by omega, ⟨_, rfl, rfl⟩, rfl⟩
theorem pr_delay {G : JG × JG} {N : Int} {c m : JM} (h : Inv N c m) (hN : 150 ≤ N ∧ N < 100000) {a b : Int32} : Pair G N c m mX3_delay mX4_delay [.int a, .int b] := by
  refine ⟨_, _, k_delay h hN, n_delay h hN, fun v c' w m' hC hM => ?_⟩
  rcases hC with ⟨a1, a2, a3⟩ | ⟨a1, a2, a3⟩
  · rcases hM with ⟨b1, b2, b3⟩ | ⟨b1, b2, b3⟩
    · exact ⟨IsZ_eq a2 b2, by rw [a3, b3]; exact Inv_no (by omega) h 0 (by decide)⟩
    · exact absurd b1 a1
  · rcases hM with ⟨b1, b2, b3⟩ | ⟨b1, b2, b3⟩
    · exact absurd a1 b1
    · exact ⟨dlR_eq a1.2 a2 b2, Inv_eq (by omega) h a3 b3⟩

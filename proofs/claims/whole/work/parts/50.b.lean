/-! ===== the class reads ===== -/
theorem pn_inr {L : Nat} {T : Nat → Int} {i : Nat} {lo hi : Int} {k : Nat → Int → (Nat ⊕ (Nat × (Nat → Int32)))} {x : Nat × (Nat → Int32)} (h : pn L T i lo hi k = .inr x) : PNok L T i lo hi ∧ k (FN L T (SK L T i)) (nvT T (SK L T i) (FN L T (SK L T i))) = .inr x := by
  by_cases e : PNok L T i lo hi
  · exact ⟨e, (pn_ok e).symm.trans h⟩
  · rw [pn_no e] at h; cases h
theorem two_ge {L : Nat} {T : Nat → Int} {i : Nat} {lo hi lo2 hi2 : Int} {g : Int → Int → Nat → Int32} {e : Nat} {f' : Nat → Int32} (hi0 : i ≤ L) (hL : L ≤ 150) (h : pn L T i lo hi (fun e1 a => pn L T e1 lo2 hi2 (fun e2 p => .inr (e2, g a p))) = .inr (e, f')) : i ≤ e := by
  obtain ⟨h1, h2⟩ := pn_inr h
  obtain ⟨h3, h4⟩ := pn_inr h2
  have e1 := FS_gt h1 hi0 hL
  have e2 := FS_gt h3 (FS_le hi0 hL) hL
  cases h4
  omega
theorem one_ge {L : Nat} {T : Nat → Int} {i : Nat} {lo hi : Int} {g : Int → Nat → Int32} {e : Nat} {f' : Nat → Int32} (hi0 : i ≤ L) (hL : L ≤ 150) (h : pn L T i lo hi (fun e1 a => .inr (e1, g a)) = .inr (e, f')) : i ≤ e := by
  obtain ⟨h1, h2⟩ := pn_inr h
  have e1 := FS_gt h1 hi0 hL
  cases h2
  omega
theorem item_ge {L : Nat} {T : Nat → Int} {n s e : Nat} {f f' : Nat → Int32} (hs : s ≤ L) (hL : L ≤ 150) (h : itemP L T n s f = .inr (e, f')) : s ≤ e := by
  have hl := LN_r (T := T) hs hL
  unfold itemP at h
  by_cases h0 : n = 0
  · rw [cif_pos h0] at h
    by_cases h1 : SPL L T s 0
    · rw [cif_pos h1] at h; have := one_ge hl.2.1 hL h; omega
    · rw [cif_neg h1] at h; cases h
  · rw [cif_neg h0] at h
    by_cases h1 : SPL L T s 1
    · rw [cif_pos h1] at h; have := two_ge hl.2.1 hL h; omega
    · rw [cif_neg h1] at h
      by_cases h2 : SPL L T s 2
      · rw [cif_pos h2] at h; have := two_ge hl.2.1 hL h; omega
      · rw [cif_neg h2] at h
        by_cases h3 : SPL L T s 3
        · rw [cif_pos h3] at h; have := two_ge (g := fun c v => upd f (7 + c.toNat) (iZ v)) hl.2.1 hL h; omega
        · rw [cif_neg h3] at h
          by_cases h4 : SPL L T s 4
          · rw [cif_pos h4] at h
            unfold sayP at h
            by_cases h5 : (f 6).toInt = 0
            · rw [cif_pos h5] at h; have := one_ge hl.2.1 hL h; omega
            · rw [cif_neg h5] at h; cases h
          · rw [cif_neg h4] at h; cases h
def rQ (r : (Nat ⊕ (Nat × (Nat → Int32)))) (c : JM) : Option Value → JM → Prop := fun v μ' => ((∃ q, r = .inl q ∧ IsZ v (-1) ∧ (μ'.1 21 3).toInt = (q : Int) ∧ q ≤ 150) ∨ (∃ k f', r = .inr (k, f') ∧ IsZ v (k : Int) ∧ jrep μ' 6 f' ∧ wfF 150 f')) ∧ frD c μ'
theorem par_e {L : Nat} {T : Nat → Int} {d i n : Nat} {f : Nat → Int32} (h : ¬ (SK L T i = L ∧ 0 < n)) : par L T (d + 1) i n f = stopP L T (itemP L T n (SK L T i) f) (fun e f' => par L T d e (n + 1) f') := cif_neg h
theorem par_0 {L : Nat} {T : Nat → Int} {d i n q : Nat} {f : Nat → Int32} (h : ¬ (SK L T i = L ∧ 0 < n)) (hi : itemP L T n (SK L T i) f = .inl q) : par L T (d + 1) i n f = .inl q := by rw [par_e h, hi]; rfl
theorem par_1 {L : Nat} {T : Nat → Int} {d i n e : Nat} {f f' : Nat → Int32} (h : ¬ (SK L T i = L ∧ 0 < n)) (hi : itemP L T n (SK L T i) f = .inr (e, f')) (hs : ¬ (SK L T e < L ∧ T (SK L T e) = 59)) : par L T (d + 1) i n f = .inl (SK L T e) := by rw [par_e h, hi]; exact cif_neg hs
theorem par_2 {L : Nat} {T : Nat → Int} {d i n e : Nat} {f f' : Nat → Int32} (h : ¬ (SK L T i = L ∧ 0 < n)) (hi : itemP L T n (SK L T i) f = .inr (e, f')) (hs : SK L T e < L ∧ T (SK L T e) = 59) : par L T (d + 1) i n f = par L T d (SK L T e + 1) (n + 1) f' := by rw [par_e h, hi]; exact cif_pos hs
theorem rQ_eq {r r' : (Nat ⊕ (Nat × (Nat → Int32)))} {c : JM} {v : Option Value} {μ' : JM} (e : r' = r) (h : rQ r c v μ') : rQ r' c v μ' := by rw [e]; exact h
variable {G : JG}
theorem pn_le {L : Nat} {T : Nat → Int} {i : Nat} {lo hi : Int} {k : Nat → Int → (Nat ⊕ (Nat × (Nat → Int32)))} {q : Nat} (hi0 : i ≤ L) (hL : L ≤ 150) (h : pn L T i lo hi k = .inl q) : q ≤ L ∨ k (FN L T (SK L T i)) (nvT T (SK L T i) (FN L T (SK L T i))) = .inl q := by
  by_cases e : PNok L T i lo hi
  · exact Or.inr ((pn_ok e).symm.trans h)
  · rw [pn_no e] at h; cases h; exact Or.inl (SK_r hi0 hL).2.1
theorem two_le {L : Nat} {T : Nat → Int} {i q : Nat} {lo hi lo2 hi2 : Int} {g : Int → Int → Nat → Int32} (hi0 : i ≤ L) (hL : L ≤ 150) (h : pn L T i lo hi (fun e1 a => pn L T e1 lo2 hi2 (fun e2 p => .inr (e2, g a p))) = .inl q) : q ≤ L := by
  rcases pn_le hi0 hL h with h1 | h1
  · exact h1
  · rcases pn_le (FS_le hi0 hL) hL h1 with h2 | h2
    · exact h2
    · cases h2
theorem one_le {L : Nat} {T : Nat → Int} {i q : Nat} {lo hi : Int} {g : Int → Nat → Int32} (hi0 : i ≤ L) (hL : L ≤ 150) (h : pn L T i lo hi (fun e1 a => .inr (e1, g a)) = .inl q) : q ≤ L := by
  rcases pn_le hi0 hL h with h1 | h1
  · exact h1
  · cases h1
theorem item_le {L : Nat} {T : Nat → Int} {n s q : Nat} {f : Nat → Int32} (hs : s ≤ L) (hL : L ≤ 150) (h : itemP L T n s f = .inl q) : q ≤ L := by
  have hl := LN_r (T := T) hs hL
  unfold itemP at h
  by_cases h0 : n = 0
  · rw [cif_pos h0] at h
    by_cases h1 : SPL L T s 0
    · rw [cif_pos h1] at h; exact one_le hl.2.1 hL h
    · rw [cif_neg h1] at h; cases h; exact hs
  · rw [cif_neg h0] at h
    by_cases h1 : SPL L T s 1
    · rw [cif_pos h1] at h; exact two_le hl.2.1 hL h
    · rw [cif_neg h1] at h
      by_cases h2 : SPL L T s 2
      · rw [cif_pos h2] at h; exact two_le hl.2.1 hL h
      · rw [cif_neg h2] at h
        by_cases h3 : SPL L T s 3
        · rw [cif_pos h3] at h; exact two_le (g := fun c v => upd f (7 + c.toNat) (iZ v)) hl.2.1 hL h
        · rw [cif_neg h3] at h
          by_cases h4 : SPL L T s 4
          · rw [cif_pos h4] at h
            unfold sayP at h
            by_cases h5 : (f 6).toInt = 0
            · rw [cif_pos h5] at h; exact one_le hl.2.1 hL h
            · rw [cif_neg h5] at h; cases h; exact (SK_r hl.2.1 hL).2.1
          · rw [cif_neg h4] at h; cases h; exact hs
set_option maxRecDepth 100000 in
set_option maxHeartbeats 4000000 in
theorem l_items {c : JM} {L : Nat} {T : Nat → Int} : ∀ d : Nat, ∀ (i n : Nat) (nv : Int32) (μ : JM) (f : Nat → Int32), L < i + d → i ≤ L → n ≤ i → nv.toInt = (n : Int) → (μ.1 21 2).toInt = (i : Int) → TX L T μ → jrep μ 6 f → wfF n f → frD c μ → J G shC mX3_readItems 12 [some (.ref 21), some (.ref 6), some (.int nv), none] [] μ (rQ (par L T d i n f) c) := by
  intro d
  induction d with
  | zero =>
    intro i n nv μ f hd hi hni hnv hnx hT2 hj hw hfr
    have hL150 := hT2.2.1
    refine J_iload_n (pc := 12) dX3_readItems_12 rfl ?_
    refine J_sipush (pc := 13) (v := 150) dX3_readItems_13 (by decide) ?_
    refine J_icmp_gtW (pc := 16) (n : Int) 150 hnv rfl 80 dX3_readItems_16 (by decide) (fun h16 => ?_) (fun h16 => ?_)
    · exfalso; omega
    · exfalso; omega
  | succ d ih =>
    intro i n nv μ f hd hi hni hnv hnx hT2 hj hw hfr
    have hL150 := hT2.2.1
    refine J_iload_n (pc := 12) dX3_readItems_12 rfl ?_
    refine J_sipush (pc := 13) (v := 150) dX3_readItems_13 (by decide) ?_
    refine J_icmp_gtW (pc := 16) (n : Int) 150 hnv rfl 80 dX3_readItems_16 (by decide) (fun h16 => ?_) (fun h16 => ?_)
    · exfalso; omega
    · refine J_aload_n (pc := 19) dX3_readItems_19 rfl ?_
      refine J_callVq (pc := 20) fC_X3_272 rfl dX3_readItems_20 (c_X1_advance hT2 hnx hi) rfl ⟨Nat.le_of_ble_eq_true rfl, Nat.le_of_ble_eq_true rfl⟩ rfl (Nat.le_of_ble_eq_true rfl) (fun v20 μ20 q20 => ?_)
      obtain ⟨rfl, hk, hfr20⟩ := q20
      have hT20 := TX_fr hT2 hfr20
      have hj20 := jrep_21 hj hfr20
      have hF20 := frD_tr hfr (frD_21 hfr20)
      have hsk := SK_r (T := T) hi hT2.2.1
      have hk0 := hk
      rcases hk.2 with ⟨g1, g2, g3⟩ | ⟨g1, g2, g3⟩ | ⟨g1, g2, g3, g4⟩ | ⟨g1, g2, g3⟩ | ⟨g1, g2, g3⟩
      · refine J_aload_n (pc := 23) dX3_readItems_23 rfl ?_
        refine J_getI (pc := 24) fF_X3_275 rfl rfl dX3_readItems_24 ?_
        refine J_if_neW (pc := 27) 0 g2 36 dX3_readItems_27 (by decide) (fun h27 => ?_) (fun h27 => ?_)
        · exfalso; omega
        · refine J_iload_n (pc := 30) dX3_readItems_30 rfl ?_
          refine J_if_leW (pc := 31) (n : Int) hnv 36 dX3_readItems_31 (by decide) (fun h31 => ?_) (fun h31 => ?_)
          · have hnE : ¬ (SK L T i = L ∧ 0 < n) := by omega
            refine J_iload_n (pc := 36) dX3_readItems_36 rfl ?_
            refine J_if_neW (pc := 37) (n : Int) hnv 48 dX3_readItems_37 (by decide) (fun h37 => ?_) (fun h37 => ?_)
            · refine J_aload_n (pc := 48) dX3_readItems_48 rfl ?_
              refine J_aload_n (pc := 49) dX3_readItems_49 rfl ?_
              refine J_callSq (pc := 50) fC_X3_282 dX3_readItems_50 (c_X3_readItem hT20 (N := (n : Int)) (by omega) hk0 hsk.2.1 hj20 hw) rfl ⟨Nat.le_of_ble_eq_true rfl, Nat.le_of_ble_eq_true rfl⟩ rfl (Nat.le_of_ble_eq_true rfl) (fun v50 μ50 q50 => ?_)
              have hit : itemP L T n (SK L T i) f = _ := cif_neg (by omega)
              obtain ⟨⟨q1, e1, rfl, e2⟩ | ⟨q1, f1, e1, rfl, e2, e4, e5, e6⟩, e3⟩ := q50
              · rw [e1] at hit
                refine J_istore_n (pc := 53) (lv' := [some (.ref 21), some (.ref 6), some (.int nv), some (.int 0)]) dX3_readItems_53 (Nat.le_of_ble_eq_true rfl) rfl rfl ?_
                refine J_iload_n (pc := 54) dX3_readItems_54 rfl ?_
                refine J_if_ne_F (pc := 55) 60 dX3_readItems_55 (by decide) (by decide) ?_
                refine J_iconst (pc := 58) (v := (-1)) dX3_readItems_58 (by decide) ?_
                refine J_iret (pc := 59) dX3_readItems_59 rfl ?_
                exact rQ_eq (par_0 hnE hit) ⟨Or.inl ⟨_, rfl, ⟨_, rfl, rfl⟩, e2, by have := item_le hsk.2.1 hT2.2.1 hit; omega⟩, frD_tr hF20 e3⟩
              · rw [e1] at hit
                have hge := item_ge hsk.2.1 hT2.2.1 hit
                have hTX := TX_frD hT20 e3
                refine J_istore_n (pc := 53) (lv' := [some (.ref 21), some (.ref 6), some (.int nv), some (.int 1)]) dX3_readItems_53 (Nat.le_of_ble_eq_true rfl) rfl rfl ?_
                refine J_iload_n (pc := 54) dX3_readItems_54 rfl ?_
                refine J_if_ne_T (pc := 55) 60 dX3_readItems_55 (by decide) (by decide) ?_
                refine J_aload_n (pc := 60) dX3_readItems_60 rfl ?_
                refine J_callVq (pc := 61) fC_X3_272 rfl dX3_readItems_61 (c_X1_advance hTX e2 e4) rfl ⟨Nat.le_of_ble_eq_true rfl, Nat.le_of_ble_eq_true rfl⟩ rfl (Nat.le_of_ble_eq_true rfl) (fun v61 μ61 q61 => ?_)
                obtain ⟨rfl, hk2, hfr61⟩ := q61
                have hF61 := frD_tr (frD_tr hF20 e3) (frD_21 hfr61)
                have hsk2 := SK_r (T := T) e4 hT2.2.1
                have hk20 := hk2
                rcases hk2.2 with ⟨g1, g2, g3⟩ | ⟨g1, g2, g3⟩ | ⟨g1, g2, g3, g4⟩ | ⟨g1, g2, g3⟩ | ⟨g1, g2, g3⟩
                · refine J_aload_n (pc := 64) dX3_readItems_64 rfl ?_
                  refine J_getI (pc := 65) fF_X3_275 rfl rfl dX3_readItems_65 ?_
                  refine J_iconst (pc := 68) (v := 3) dX3_readItems_68 (by decide) ?_
                  refine J_icmp_eqW (pc := 69) 0 3 g2 rfl 74 dX3_readItems_69 (by decide) (fun h69 => ?_) (fun h69 => ?_)
                  · exfalso; omega
                  · refine J_iconst (pc := 72) (v := (-1)) dX3_readItems_72 (by decide) ?_
                    refine J_iret (pc := 73) dX3_readItems_73 rfl ?_
                    exact rQ_eq (par_1 hnE hit (by omega)) ⟨Or.inl ⟨_, rfl, ⟨_, rfl, rfl⟩, hk20.1, by omega⟩, hF61⟩
                · refine J_aload_n (pc := 64) dX3_readItems_64 rfl ?_
                  refine J_getI (pc := 65) fF_X3_275 rfl rfl dX3_readItems_65 ?_
                  refine J_iconst (pc := 68) (v := 3) dX3_readItems_68 (by decide) ?_
                  refine J_icmp_eqW (pc := 69) 1 3 g2 rfl 74 dX3_readItems_69 (by decide) (fun h69 => ?_) (fun h69 => ?_)
                  · exfalso; omega
                  · refine J_iconst (pc := 72) (v := (-1)) dX3_readItems_72 (by decide) ?_
                    refine J_iret (pc := 73) dX3_readItems_73 rfl ?_
                    exact rQ_eq (par_1 hnE hit (by omega)) ⟨Or.inl ⟨_, rfl, ⟨_, rfl, rfl⟩, hk20.1, by omega⟩, hF61⟩
                · refine J_aload_n (pc := 64) dX3_readItems_64 rfl ?_
                  refine J_getI (pc := 65) fF_X3_275 rfl rfl dX3_readItems_65 ?_
                  refine J_iconst (pc := 68) (v := 3) dX3_readItems_68 (by decide) ?_
                  refine J_icmp_eqW (pc := 69) 2 3 g2 rfl 74 dX3_readItems_69 (by decide) (fun h69 => ?_) (fun h69 => ?_)
                  · exfalso; omega
                  · refine J_iconst (pc := 72) (v := (-1)) dX3_readItems_72 (by decide) ?_
                    refine J_iret (pc := 73) dX3_readItems_73 rfl ?_
                    exact rQ_eq (par_1 hnE hit (by omega)) ⟨Or.inl ⟨_, rfl, ⟨_, rfl, rfl⟩, hk20.1, by omega⟩, hF61⟩
                · refine J_aload_n (pc := 64) dX3_readItems_64 rfl ?_
                  refine J_getI (pc := 65) fF_X3_275 rfl rfl dX3_readItems_65 ?_
                  refine J_iconst (pc := 68) (v := 3) dX3_readItems_68 (by decide) ?_
                  refine J_icmp_eqW (pc := 69) 3 3 g2 rfl 74 dX3_readItems_69 (by decide) (fun h69 => ?_) (fun h69 => ?_)
                  · refine J_iincW' (pc := 74) (n : Int) hnv (lv' := fun iq_ => [some (.ref 21), some (.ref 6), some (.int iq_), some (.int 1)]) dX3_readItems_74 rfl (by omega) (by decide) (Nat.le_of_ble_eq_true rfl) rfl (fun _ => rfl) (fun z74 e74 => ?_)
                    refine J_goto (pc := 77) 12 dX3_readItems_77 (by decide) ?_
                    exact J_mono (J_lv' (lv' := [some (.ref 21), some (.ref 6), some (.int z74), none]) (by repeat' constructor) (ih (SK L T q1 + 1) (n + 1) z74 μ61 f1 (by omega) (by omega) (by omega) (by omega) (by omega) (TX_fr hTX hfr61) (jrep_21 e5 hfr61) e6 hF61)) (fun v μ' hh => rQ_eq (par_2 hnE hit g1) hh)
                  · exfalso; omega
                · refine J_aload_n (pc := 64) dX3_readItems_64 rfl ?_
                  refine J_getI (pc := 65) fF_X3_275 rfl rfl dX3_readItems_65 ?_
                  refine J_iconst (pc := 68) (v := 3) dX3_readItems_68 (by decide) ?_
                  refine J_icmp_eqW (pc := 69) 4 3 g2 rfl 74 dX3_readItems_69 (by decide) (fun h69 => ?_) (fun h69 => ?_)
                  · exfalso; omega
                  · refine J_iconst (pc := 72) (v := (-1)) dX3_readItems_72 (by decide) ?_
                    refine J_iret (pc := 73) dX3_readItems_73 rfl ?_
                    exact rQ_eq (par_1 hnE hit (by omega)) ⟨Or.inl ⟨_, rfl, ⟨_, rfl, rfl⟩, hk20.1, by omega⟩, hF61⟩
            · refine J_aload_n (pc := 40) dX3_readItems_40 rfl ?_
              refine J_aload_n (pc := 41) dX3_readItems_41 rfl ?_
              refine J_callSq (pc := 42) fC_X3_278 dX3_readItems_42 (c_X3_readFirst hT20 (N := (n : Int)) (by omega) hk0 hsk.2.1 hj20 hw) rfl ⟨Nat.le_of_ble_eq_true rfl, Nat.le_of_ble_eq_true rfl⟩ rfl (Nat.le_of_ble_eq_true rfl) (fun v42 μ42 q42 => ?_)
              have hit : itemP L T n (SK L T i) f = _ := cif_pos (by omega)
              have q42 := rdQ_mono (M := (n : Int) + 1) (by omega) q42
              obtain ⟨⟨q1, e1, rfl, e2⟩ | ⟨q1, f1, e1, rfl, e2, e4, e5, e6⟩, e3⟩ := q42
              · rw [e1] at hit
                refine J_goto (pc := 45) 53 dX3_readItems_45 (by decide) ?_
                refine J_istore_n (pc := 53) (lv' := [some (.ref 21), some (.ref 6), some (.int nv), some (.int 0)]) dX3_readItems_53 (Nat.le_of_ble_eq_true rfl) rfl rfl ?_
                refine J_iload_n (pc := 54) dX3_readItems_54 rfl ?_
                refine J_if_ne_F (pc := 55) 60 dX3_readItems_55 (by decide) (by decide) ?_
                refine J_iconst (pc := 58) (v := (-1)) dX3_readItems_58 (by decide) ?_
                refine J_iret (pc := 59) dX3_readItems_59 rfl ?_
                exact rQ_eq (par_0 hnE hit) ⟨Or.inl ⟨_, rfl, ⟨_, rfl, rfl⟩, e2, by have := item_le hsk.2.1 hT2.2.1 hit; omega⟩, frD_tr hF20 e3⟩
              · rw [e1] at hit
                have hge := item_ge hsk.2.1 hT2.2.1 hit
                have hTX := TX_frD hT20 e3
                refine J_goto (pc := 45) 53 dX3_readItems_45 (by decide) ?_
                refine J_istore_n (pc := 53) (lv' := [some (.ref 21), some (.ref 6), some (.int nv), some (.int 1)]) dX3_readItems_53 (Nat.le_of_ble_eq_true rfl) rfl rfl ?_
                refine J_iload_n (pc := 54) dX3_readItems_54 rfl ?_
                refine J_if_ne_T (pc := 55) 60 dX3_readItems_55 (by decide) (by decide) ?_
                refine J_aload_n (pc := 60) dX3_readItems_60 rfl ?_
                refine J_callVq (pc := 61) fC_X3_272 rfl dX3_readItems_61 (c_X1_advance hTX e2 e4) rfl ⟨Nat.le_of_ble_eq_true rfl, Nat.le_of_ble_eq_true rfl⟩ rfl (Nat.le_of_ble_eq_true rfl) (fun v61 μ61 q61 => ?_)
                obtain ⟨rfl, hk2, hfr61⟩ := q61
                have hF61 := frD_tr (frD_tr hF20 e3) (frD_21 hfr61)
                have hsk2 := SK_r (T := T) e4 hT2.2.1
                have hk20 := hk2
                rcases hk2.2 with ⟨g1, g2, g3⟩ | ⟨g1, g2, g3⟩ | ⟨g1, g2, g3, g4⟩ | ⟨g1, g2, g3⟩ | ⟨g1, g2, g3⟩
                · refine J_aload_n (pc := 64) dX3_readItems_64 rfl ?_
                  refine J_getI (pc := 65) fF_X3_275 rfl rfl dX3_readItems_65 ?_
                  refine J_iconst (pc := 68) (v := 3) dX3_readItems_68 (by decide) ?_
                  refine J_icmp_eqW (pc := 69) 0 3 g2 rfl 74 dX3_readItems_69 (by decide) (fun h69 => ?_) (fun h69 => ?_)
                  · exfalso; omega
                  · refine J_iconst (pc := 72) (v := (-1)) dX3_readItems_72 (by decide) ?_
                    refine J_iret (pc := 73) dX3_readItems_73 rfl ?_
                    exact rQ_eq (par_1 hnE hit (by omega)) ⟨Or.inl ⟨_, rfl, ⟨_, rfl, rfl⟩, hk20.1, by omega⟩, hF61⟩
                · refine J_aload_n (pc := 64) dX3_readItems_64 rfl ?_
                  refine J_getI (pc := 65) fF_X3_275 rfl rfl dX3_readItems_65 ?_
                  refine J_iconst (pc := 68) (v := 3) dX3_readItems_68 (by decide) ?_
                  refine J_icmp_eqW (pc := 69) 1 3 g2 rfl 74 dX3_readItems_69 (by decide) (fun h69 => ?_) (fun h69 => ?_)
                  · exfalso; omega
                  · refine J_iconst (pc := 72) (v := (-1)) dX3_readItems_72 (by decide) ?_
                    refine J_iret (pc := 73) dX3_readItems_73 rfl ?_
                    exact rQ_eq (par_1 hnE hit (by omega)) ⟨Or.inl ⟨_, rfl, ⟨_, rfl, rfl⟩, hk20.1, by omega⟩, hF61⟩
                · refine J_aload_n (pc := 64) dX3_readItems_64 rfl ?_
                  refine J_getI (pc := 65) fF_X3_275 rfl rfl dX3_readItems_65 ?_
                  refine J_iconst (pc := 68) (v := 3) dX3_readItems_68 (by decide) ?_
                  refine J_icmp_eqW (pc := 69) 2 3 g2 rfl 74 dX3_readItems_69 (by decide) (fun h69 => ?_) (fun h69 => ?_)
                  · exfalso; omega
                  · refine J_iconst (pc := 72) (v := (-1)) dX3_readItems_72 (by decide) ?_
                    refine J_iret (pc := 73) dX3_readItems_73 rfl ?_
                    exact rQ_eq (par_1 hnE hit (by omega)) ⟨Or.inl ⟨_, rfl, ⟨_, rfl, rfl⟩, hk20.1, by omega⟩, hF61⟩
                · refine J_aload_n (pc := 64) dX3_readItems_64 rfl ?_
                  refine J_getI (pc := 65) fF_X3_275 rfl rfl dX3_readItems_65 ?_
                  refine J_iconst (pc := 68) (v := 3) dX3_readItems_68 (by decide) ?_
                  refine J_icmp_eqW (pc := 69) 3 3 g2 rfl 74 dX3_readItems_69 (by decide) (fun h69 => ?_) (fun h69 => ?_)
                  · refine J_iincW' (pc := 74) (n : Int) hnv (lv' := fun iq_ => [some (.ref 21), some (.ref 6), some (.int iq_), some (.int 1)]) dX3_readItems_74 rfl (by omega) (by decide) (Nat.le_of_ble_eq_true rfl) rfl (fun _ => rfl) (fun z74 e74 => ?_)
                    refine J_goto (pc := 77) 12 dX3_readItems_77 (by decide) ?_
                    exact J_mono (J_lv' (lv' := [some (.ref 21), some (.ref 6), some (.int z74), none]) (by repeat' constructor) (ih (SK L T q1 + 1) (n + 1) z74 μ61 f1 (by omega) (by omega) (by omega) (by omega) (by omega) (TX_fr hTX hfr61) (jrep_21 e5 hfr61) e6 hF61)) (fun v μ' hh => rQ_eq (par_2 hnE hit g1) hh)
                  · exfalso; omega
                · refine J_aload_n (pc := 64) dX3_readItems_64 rfl ?_
                  refine J_getI (pc := 65) fF_X3_275 rfl rfl dX3_readItems_65 ?_
                  refine J_iconst (pc := 68) (v := 3) dX3_readItems_68 (by decide) ?_
                  refine J_icmp_eqW (pc := 69) 4 3 g2 rfl 74 dX3_readItems_69 (by decide) (fun h69 => ?_) (fun h69 => ?_)
                  · exfalso; omega
                  · refine J_iconst (pc := 72) (v := (-1)) dX3_readItems_72 (by decide) ?_
                    refine J_iret (pc := 73) dX3_readItems_73 rfl ?_
                    exact rQ_eq (par_1 hnE hit (by omega)) ⟨Or.inl ⟨_, rfl, ⟨_, rfl, rfl⟩, hk20.1, by omega⟩, hF61⟩
          · refine J_iload_n (pc := 34) dX3_readItems_34 rfl ?_
            refine J_iret (pc := 35) dX3_readItems_35 rfl ?_
            exact rQ_eq (cif_pos ⟨g1, by omega⟩) ⟨Or.inr ⟨n, f, rfl, ⟨_, rfl, hnv⟩, hj20, wfF_mono (by omega) hw⟩, hF20⟩
      · refine J_aload_n (pc := 23) dX3_readItems_23 rfl ?_
        refine J_getI (pc := 24) fF_X3_275 rfl rfl dX3_readItems_24 ?_
        refine J_if_neW (pc := 27) 1 g2 36 dX3_readItems_27 (by decide) (fun h27 => ?_) (fun h27 => ?_)
        · have hnE : ¬ (SK L T i = L ∧ 0 < n) := by omega
          refine J_iload_n (pc := 36) dX3_readItems_36 rfl ?_
          refine J_if_neW (pc := 37) (n : Int) hnv 48 dX3_readItems_37 (by decide) (fun h37 => ?_) (fun h37 => ?_)
          · refine J_aload_n (pc := 48) dX3_readItems_48 rfl ?_
            refine J_aload_n (pc := 49) dX3_readItems_49 rfl ?_
            refine J_callSq (pc := 50) fC_X3_282 dX3_readItems_50 (c_X3_readItem hT20 (N := (n : Int)) (by omega) hk0 hsk.2.1 hj20 hw) rfl ⟨Nat.le_of_ble_eq_true rfl, Nat.le_of_ble_eq_true rfl⟩ rfl (Nat.le_of_ble_eq_true rfl) (fun v50 μ50 q50 => ?_)
            have hit : itemP L T n (SK L T i) f = _ := cif_neg (by omega)
            obtain ⟨⟨q1, e1, rfl, e2⟩ | ⟨q1, f1, e1, rfl, e2, e4, e5, e6⟩, e3⟩ := q50
            · rw [e1] at hit
              refine J_istore_n (pc := 53) (lv' := [some (.ref 21), some (.ref 6), some (.int nv), some (.int 0)]) dX3_readItems_53 (Nat.le_of_ble_eq_true rfl) rfl rfl ?_
              refine J_iload_n (pc := 54) dX3_readItems_54 rfl ?_
              refine J_if_ne_F (pc := 55) 60 dX3_readItems_55 (by decide) (by decide) ?_
              refine J_iconst (pc := 58) (v := (-1)) dX3_readItems_58 (by decide) ?_
              refine J_iret (pc := 59) dX3_readItems_59 rfl ?_
              exact rQ_eq (par_0 hnE hit) ⟨Or.inl ⟨_, rfl, ⟨_, rfl, rfl⟩, e2, by have := item_le hsk.2.1 hT2.2.1 hit; omega⟩, frD_tr hF20 e3⟩
            · rw [e1] at hit
              have hge := item_ge hsk.2.1 hT2.2.1 hit
              have hTX := TX_frD hT20 e3
              refine J_istore_n (pc := 53) (lv' := [some (.ref 21), some (.ref 6), some (.int nv), some (.int 1)]) dX3_readItems_53 (Nat.le_of_ble_eq_true rfl) rfl rfl ?_
              refine J_iload_n (pc := 54) dX3_readItems_54 rfl ?_
              refine J_if_ne_T (pc := 55) 60 dX3_readItems_55 (by decide) (by decide) ?_
              refine J_aload_n (pc := 60) dX3_readItems_60 rfl ?_
              refine J_callVq (pc := 61) fC_X3_272 rfl dX3_readItems_61 (c_X1_advance hTX e2 e4) rfl ⟨Nat.le_of_ble_eq_true rfl, Nat.le_of_ble_eq_true rfl⟩ rfl (Nat.le_of_ble_eq_true rfl) (fun v61 μ61 q61 => ?_)
              obtain ⟨rfl, hk2, hfr61⟩ := q61
              have hF61 := frD_tr (frD_tr hF20 e3) (frD_21 hfr61)
              have hsk2 := SK_r (T := T) e4 hT2.2.1
              have hk20 := hk2
              rcases hk2.2 with ⟨g1, g2, g3⟩ | ⟨g1, g2, g3⟩ | ⟨g1, g2, g3, g4⟩ | ⟨g1, g2, g3⟩ | ⟨g1, g2, g3⟩
              · refine J_aload_n (pc := 64) dX3_readItems_64 rfl ?_
                refine J_getI (pc := 65) fF_X3_275 rfl rfl dX3_readItems_65 ?_
                refine J_iconst (pc := 68) (v := 3) dX3_readItems_68 (by decide) ?_
                refine J_icmp_eqW (pc := 69) 0 3 g2 rfl 74 dX3_readItems_69 (by decide) (fun h69 => ?_) (fun h69 => ?_)
                · exfalso; omega
                · refine J_iconst (pc := 72) (v := (-1)) dX3_readItems_72 (by decide) ?_
                  refine J_iret (pc := 73) dX3_readItems_73 rfl ?_
                  exact rQ_eq (par_1 hnE hit (by omega)) ⟨Or.inl ⟨_, rfl, ⟨_, rfl, rfl⟩, hk20.1, by omega⟩, hF61⟩
              · refine J_aload_n (pc := 64) dX3_readItems_64 rfl ?_
                refine J_getI (pc := 65) fF_X3_275 rfl rfl dX3_readItems_65 ?_
                refine J_iconst (pc := 68) (v := 3) dX3_readItems_68 (by decide) ?_
                refine J_icmp_eqW (pc := 69) 1 3 g2 rfl 74 dX3_readItems_69 (by decide) (fun h69 => ?_) (fun h69 => ?_)
                · exfalso; omega
                · refine J_iconst (pc := 72) (v := (-1)) dX3_readItems_72 (by decide) ?_
                  refine J_iret (pc := 73) dX3_readItems_73 rfl ?_
                  exact rQ_eq (par_1 hnE hit (by omega)) ⟨Or.inl ⟨_, rfl, ⟨_, rfl, rfl⟩, hk20.1, by omega⟩, hF61⟩
              · refine J_aload_n (pc := 64) dX3_readItems_64 rfl ?_
                refine J_getI (pc := 65) fF_X3_275 rfl rfl dX3_readItems_65 ?_
                refine J_iconst (pc := 68) (v := 3) dX3_readItems_68 (by decide) ?_
                refine J_icmp_eqW (pc := 69) 2 3 g2 rfl 74 dX3_readItems_69 (by decide) (fun h69 => ?_) (fun h69 => ?_)
                · exfalso; omega
                · refine J_iconst (pc := 72) (v := (-1)) dX3_readItems_72 (by decide) ?_
                  refine J_iret (pc := 73) dX3_readItems_73 rfl ?_
                  exact rQ_eq (par_1 hnE hit (by omega)) ⟨Or.inl ⟨_, rfl, ⟨_, rfl, rfl⟩, hk20.1, by omega⟩, hF61⟩
              · refine J_aload_n (pc := 64) dX3_readItems_64 rfl ?_
                refine J_getI (pc := 65) fF_X3_275 rfl rfl dX3_readItems_65 ?_
                refine J_iconst (pc := 68) (v := 3) dX3_readItems_68 (by decide) ?_
                refine J_icmp_eqW (pc := 69) 3 3 g2 rfl 74 dX3_readItems_69 (by decide) (fun h69 => ?_) (fun h69 => ?_)
                · refine J_iincW' (pc := 74) (n : Int) hnv (lv' := fun iq_ => [some (.ref 21), some (.ref 6), some (.int iq_), some (.int 1)]) dX3_readItems_74 rfl (by omega) (by decide) (Nat.le_of_ble_eq_true rfl) rfl (fun _ => rfl) (fun z74 e74 => ?_)
                  refine J_goto (pc := 77) 12 dX3_readItems_77 (by decide) ?_
                  exact J_mono (J_lv' (lv' := [some (.ref 21), some (.ref 6), some (.int z74), none]) (by repeat' constructor) (ih (SK L T q1 + 1) (n + 1) z74 μ61 f1 (by omega) (by omega) (by omega) (by omega) (by omega) (TX_fr hTX hfr61) (jrep_21 e5 hfr61) e6 hF61)) (fun v μ' hh => rQ_eq (par_2 hnE hit g1) hh)
                · exfalso; omega
              · refine J_aload_n (pc := 64) dX3_readItems_64 rfl ?_
                refine J_getI (pc := 65) fF_X3_275 rfl rfl dX3_readItems_65 ?_
                refine J_iconst (pc := 68) (v := 3) dX3_readItems_68 (by decide) ?_
                refine J_icmp_eqW (pc := 69) 4 3 g2 rfl 74 dX3_readItems_69 (by decide) (fun h69 => ?_) (fun h69 => ?_)
                · exfalso; omega
                · refine J_iconst (pc := 72) (v := (-1)) dX3_readItems_72 (by decide) ?_
                  refine J_iret (pc := 73) dX3_readItems_73 rfl ?_
                  exact rQ_eq (par_1 hnE hit (by omega)) ⟨Or.inl ⟨_, rfl, ⟨_, rfl, rfl⟩, hk20.1, by omega⟩, hF61⟩
          · refine J_aload_n (pc := 40) dX3_readItems_40 rfl ?_
            refine J_aload_n (pc := 41) dX3_readItems_41 rfl ?_
            refine J_callSq (pc := 42) fC_X3_278 dX3_readItems_42 (c_X3_readFirst hT20 (N := (n : Int)) (by omega) hk0 hsk.2.1 hj20 hw) rfl ⟨Nat.le_of_ble_eq_true rfl, Nat.le_of_ble_eq_true rfl⟩ rfl (Nat.le_of_ble_eq_true rfl) (fun v42 μ42 q42 => ?_)
            have hit : itemP L T n (SK L T i) f = _ := cif_pos (by omega)
            have q42 := rdQ_mono (M := (n : Int) + 1) (by omega) q42
            obtain ⟨⟨q1, e1, rfl, e2⟩ | ⟨q1, f1, e1, rfl, e2, e4, e5, e6⟩, e3⟩ := q42
            · rw [e1] at hit
              refine J_goto (pc := 45) 53 dX3_readItems_45 (by decide) ?_
              refine J_istore_n (pc := 53) (lv' := [some (.ref 21), some (.ref 6), some (.int nv), some (.int 0)]) dX3_readItems_53 (Nat.le_of_ble_eq_true rfl) rfl rfl ?_
              refine J_iload_n (pc := 54) dX3_readItems_54 rfl ?_
              refine J_if_ne_F (pc := 55) 60 dX3_readItems_55 (by decide) (by decide) ?_
              refine J_iconst (pc := 58) (v := (-1)) dX3_readItems_58 (by decide) ?_
              refine J_iret (pc := 59) dX3_readItems_59 rfl ?_
              exact rQ_eq (par_0 hnE hit) ⟨Or.inl ⟨_, rfl, ⟨_, rfl, rfl⟩, e2, by have := item_le hsk.2.1 hT2.2.1 hit; omega⟩, frD_tr hF20 e3⟩
            · rw [e1] at hit
              have hge := item_ge hsk.2.1 hT2.2.1 hit
              have hTX := TX_frD hT20 e3
              refine J_goto (pc := 45) 53 dX3_readItems_45 (by decide) ?_
              refine J_istore_n (pc := 53) (lv' := [some (.ref 21), some (.ref 6), some (.int nv), some (.int 1)]) dX3_readItems_53 (Nat.le_of_ble_eq_true rfl) rfl rfl ?_
              refine J_iload_n (pc := 54) dX3_readItems_54 rfl ?_
              refine J_if_ne_T (pc := 55) 60 dX3_readItems_55 (by decide) (by decide) ?_
              refine J_aload_n (pc := 60) dX3_readItems_60 rfl ?_
              refine J_callVq (pc := 61) fC_X3_272 rfl dX3_readItems_61 (c_X1_advance hTX e2 e4) rfl ⟨Nat.le_of_ble_eq_true rfl, Nat.le_of_ble_eq_true rfl⟩ rfl (Nat.le_of_ble_eq_true rfl) (fun v61 μ61 q61 => ?_)
              obtain ⟨rfl, hk2, hfr61⟩ := q61
              have hF61 := frD_tr (frD_tr hF20 e3) (frD_21 hfr61)
              have hsk2 := SK_r (T := T) e4 hT2.2.1
              have hk20 := hk2
              rcases hk2.2 with ⟨g1, g2, g3⟩ | ⟨g1, g2, g3⟩ | ⟨g1, g2, g3, g4⟩ | ⟨g1, g2, g3⟩ | ⟨g1, g2, g3⟩
              · refine J_aload_n (pc := 64) dX3_readItems_64 rfl ?_
                refine J_getI (pc := 65) fF_X3_275 rfl rfl dX3_readItems_65 ?_
                refine J_iconst (pc := 68) (v := 3) dX3_readItems_68 (by decide) ?_
                refine J_icmp_eqW (pc := 69) 0 3 g2 rfl 74 dX3_readItems_69 (by decide) (fun h69 => ?_) (fun h69 => ?_)
                · exfalso; omega
                · refine J_iconst (pc := 72) (v := (-1)) dX3_readItems_72 (by decide) ?_
                  refine J_iret (pc := 73) dX3_readItems_73 rfl ?_
                  exact rQ_eq (par_1 hnE hit (by omega)) ⟨Or.inl ⟨_, rfl, ⟨_, rfl, rfl⟩, hk20.1, by omega⟩, hF61⟩
              · refine J_aload_n (pc := 64) dX3_readItems_64 rfl ?_
                refine J_getI (pc := 65) fF_X3_275 rfl rfl dX3_readItems_65 ?_
                refine J_iconst (pc := 68) (v := 3) dX3_readItems_68 (by decide) ?_
                refine J_icmp_eqW (pc := 69) 1 3 g2 rfl 74 dX3_readItems_69 (by decide) (fun h69 => ?_) (fun h69 => ?_)
                · exfalso; omega
                · refine J_iconst (pc := 72) (v := (-1)) dX3_readItems_72 (by decide) ?_
                  refine J_iret (pc := 73) dX3_readItems_73 rfl ?_
                  exact rQ_eq (par_1 hnE hit (by omega)) ⟨Or.inl ⟨_, rfl, ⟨_, rfl, rfl⟩, hk20.1, by omega⟩, hF61⟩
              · refine J_aload_n (pc := 64) dX3_readItems_64 rfl ?_
                refine J_getI (pc := 65) fF_X3_275 rfl rfl dX3_readItems_65 ?_
                refine J_iconst (pc := 68) (v := 3) dX3_readItems_68 (by decide) ?_
                refine J_icmp_eqW (pc := 69) 2 3 g2 rfl 74 dX3_readItems_69 (by decide) (fun h69 => ?_) (fun h69 => ?_)
                · exfalso; omega
                · refine J_iconst (pc := 72) (v := (-1)) dX3_readItems_72 (by decide) ?_
                  refine J_iret (pc := 73) dX3_readItems_73 rfl ?_
                  exact rQ_eq (par_1 hnE hit (by omega)) ⟨Or.inl ⟨_, rfl, ⟨_, rfl, rfl⟩, hk20.1, by omega⟩, hF61⟩
              · refine J_aload_n (pc := 64) dX3_readItems_64 rfl ?_
                refine J_getI (pc := 65) fF_X3_275 rfl rfl dX3_readItems_65 ?_
                refine J_iconst (pc := 68) (v := 3) dX3_readItems_68 (by decide) ?_
                refine J_icmp_eqW (pc := 69) 3 3 g2 rfl 74 dX3_readItems_69 (by decide) (fun h69 => ?_) (fun h69 => ?_)
                · refine J_iincW' (pc := 74) (n : Int) hnv (lv' := fun iq_ => [some (.ref 21), some (.ref 6), some (.int iq_), some (.int 1)]) dX3_readItems_74 rfl (by omega) (by decide) (Nat.le_of_ble_eq_true rfl) rfl (fun _ => rfl) (fun z74 e74 => ?_)
                  refine J_goto (pc := 77) 12 dX3_readItems_77 (by decide) ?_
                  exact J_mono (J_lv' (lv' := [some (.ref 21), some (.ref 6), some (.int z74), none]) (by repeat' constructor) (ih (SK L T q1 + 1) (n + 1) z74 μ61 f1 (by omega) (by omega) (by omega) (by omega) (by omega) (TX_fr hTX hfr61) (jrep_21 e5 hfr61) e6 hF61)) (fun v μ' hh => rQ_eq (par_2 hnE hit g1) hh)
                · exfalso; omega
              · refine J_aload_n (pc := 64) dX3_readItems_64 rfl ?_
                refine J_getI (pc := 65) fF_X3_275 rfl rfl dX3_readItems_65 ?_
                refine J_iconst (pc := 68) (v := 3) dX3_readItems_68 (by decide) ?_
                refine J_icmp_eqW (pc := 69) 4 3 g2 rfl 74 dX3_readItems_69 (by decide) (fun h69 => ?_) (fun h69 => ?_)
                · exfalso; omega
                · refine J_iconst (pc := 72) (v := (-1)) dX3_readItems_72 (by decide) ?_
                  refine J_iret (pc := 73) dX3_readItems_73 rfl ?_
                  exact rQ_eq (par_1 hnE hit (by omega)) ⟨Or.inl ⟨_, rfl, ⟨_, rfl, rfl⟩, hk20.1, by omega⟩, hF61⟩
        · exfalso; omega
      · refine J_aload_n (pc := 23) dX3_readItems_23 rfl ?_
        refine J_getI (pc := 24) fF_X3_275 rfl rfl dX3_readItems_24 ?_
        refine J_if_neW (pc := 27) 2 g2 36 dX3_readItems_27 (by decide) (fun h27 => ?_) (fun h27 => ?_)
        · have hnE : ¬ (SK L T i = L ∧ 0 < n) := by omega
          refine J_iload_n (pc := 36) dX3_readItems_36 rfl ?_
          refine J_if_neW (pc := 37) (n : Int) hnv 48 dX3_readItems_37 (by decide) (fun h37 => ?_) (fun h37 => ?_)
          · refine J_aload_n (pc := 48) dX3_readItems_48 rfl ?_
            refine J_aload_n (pc := 49) dX3_readItems_49 rfl ?_
            refine J_callSq (pc := 50) fC_X3_282 dX3_readItems_50 (c_X3_readItem hT20 (N := (n : Int)) (by omega) hk0 hsk.2.1 hj20 hw) rfl ⟨Nat.le_of_ble_eq_true rfl, Nat.le_of_ble_eq_true rfl⟩ rfl (Nat.le_of_ble_eq_true rfl) (fun v50 μ50 q50 => ?_)
            have hit : itemP L T n (SK L T i) f = _ := cif_neg (by omega)
            obtain ⟨⟨q1, e1, rfl, e2⟩ | ⟨q1, f1, e1, rfl, e2, e4, e5, e6⟩, e3⟩ := q50
            · rw [e1] at hit
              refine J_istore_n (pc := 53) (lv' := [some (.ref 21), some (.ref 6), some (.int nv), some (.int 0)]) dX3_readItems_53 (Nat.le_of_ble_eq_true rfl) rfl rfl ?_
              refine J_iload_n (pc := 54) dX3_readItems_54 rfl ?_
              refine J_if_ne_F (pc := 55) 60 dX3_readItems_55 (by decide) (by decide) ?_
              refine J_iconst (pc := 58) (v := (-1)) dX3_readItems_58 (by decide) ?_
              refine J_iret (pc := 59) dX3_readItems_59 rfl ?_
              exact rQ_eq (par_0 hnE hit) ⟨Or.inl ⟨_, rfl, ⟨_, rfl, rfl⟩, e2, by have := item_le hsk.2.1 hT2.2.1 hit; omega⟩, frD_tr hF20 e3⟩
            · rw [e1] at hit
              have hge := item_ge hsk.2.1 hT2.2.1 hit
              have hTX := TX_frD hT20 e3
              refine J_istore_n (pc := 53) (lv' := [some (.ref 21), some (.ref 6), some (.int nv), some (.int 1)]) dX3_readItems_53 (Nat.le_of_ble_eq_true rfl) rfl rfl ?_
              refine J_iload_n (pc := 54) dX3_readItems_54 rfl ?_
              refine J_if_ne_T (pc := 55) 60 dX3_readItems_55 (by decide) (by decide) ?_
              refine J_aload_n (pc := 60) dX3_readItems_60 rfl ?_
              refine J_callVq (pc := 61) fC_X3_272 rfl dX3_readItems_61 (c_X1_advance hTX e2 e4) rfl ⟨Nat.le_of_ble_eq_true rfl, Nat.le_of_ble_eq_true rfl⟩ rfl (Nat.le_of_ble_eq_true rfl) (fun v61 μ61 q61 => ?_)
              obtain ⟨rfl, hk2, hfr61⟩ := q61
              have hF61 := frD_tr (frD_tr hF20 e3) (frD_21 hfr61)
              have hsk2 := SK_r (T := T) e4 hT2.2.1
              have hk20 := hk2
              rcases hk2.2 with ⟨g1, g2, g3⟩ | ⟨g1, g2, g3⟩ | ⟨g1, g2, g3, g4⟩ | ⟨g1, g2, g3⟩ | ⟨g1, g2, g3⟩
              · refine J_aload_n (pc := 64) dX3_readItems_64 rfl ?_
                refine J_getI (pc := 65) fF_X3_275 rfl rfl dX3_readItems_65 ?_
                refine J_iconst (pc := 68) (v := 3) dX3_readItems_68 (by decide) ?_
                refine J_icmp_eqW (pc := 69) 0 3 g2 rfl 74 dX3_readItems_69 (by decide) (fun h69 => ?_) (fun h69 => ?_)
                · exfalso; omega
                · refine J_iconst (pc := 72) (v := (-1)) dX3_readItems_72 (by decide) ?_
                  refine J_iret (pc := 73) dX3_readItems_73 rfl ?_
                  exact rQ_eq (par_1 hnE hit (by omega)) ⟨Or.inl ⟨_, rfl, ⟨_, rfl, rfl⟩, hk20.1, by omega⟩, hF61⟩
              · refine J_aload_n (pc := 64) dX3_readItems_64 rfl ?_
                refine J_getI (pc := 65) fF_X3_275 rfl rfl dX3_readItems_65 ?_
                refine J_iconst (pc := 68) (v := 3) dX3_readItems_68 (by decide) ?_
                refine J_icmp_eqW (pc := 69) 1 3 g2 rfl 74 dX3_readItems_69 (by decide) (fun h69 => ?_) (fun h69 => ?_)
                · exfalso; omega
                · refine J_iconst (pc := 72) (v := (-1)) dX3_readItems_72 (by decide) ?_
                  refine J_iret (pc := 73) dX3_readItems_73 rfl ?_
                  exact rQ_eq (par_1 hnE hit (by omega)) ⟨Or.inl ⟨_, rfl, ⟨_, rfl, rfl⟩, hk20.1, by omega⟩, hF61⟩
              · refine J_aload_n (pc := 64) dX3_readItems_64 rfl ?_
                refine J_getI (pc := 65) fF_X3_275 rfl rfl dX3_readItems_65 ?_
                refine J_iconst (pc := 68) (v := 3) dX3_readItems_68 (by decide) ?_
                refine J_icmp_eqW (pc := 69) 2 3 g2 rfl 74 dX3_readItems_69 (by decide) (fun h69 => ?_) (fun h69 => ?_)
                · exfalso; omega
                · refine J_iconst (pc := 72) (v := (-1)) dX3_readItems_72 (by decide) ?_
                  refine J_iret (pc := 73) dX3_readItems_73 rfl ?_
                  exact rQ_eq (par_1 hnE hit (by omega)) ⟨Or.inl ⟨_, rfl, ⟨_, rfl, rfl⟩, hk20.1, by omega⟩, hF61⟩
              · refine J_aload_n (pc := 64) dX3_readItems_64 rfl ?_
                refine J_getI (pc := 65) fF_X3_275 rfl rfl dX3_readItems_65 ?_
                refine J_iconst (pc := 68) (v := 3) dX3_readItems_68 (by decide) ?_
                refine J_icmp_eqW (pc := 69) 3 3 g2 rfl 74 dX3_readItems_69 (by decide) (fun h69 => ?_) (fun h69 => ?_)
                · refine J_iincW' (pc := 74) (n : Int) hnv (lv' := fun iq_ => [some (.ref 21), some (.ref 6), some (.int iq_), some (.int 1)]) dX3_readItems_74 rfl (by omega) (by decide) (Nat.le_of_ble_eq_true rfl) rfl (fun _ => rfl) (fun z74 e74 => ?_)
                  refine J_goto (pc := 77) 12 dX3_readItems_77 (by decide) ?_
                  exact J_mono (J_lv' (lv' := [some (.ref 21), some (.ref 6), some (.int z74), none]) (by repeat' constructor) (ih (SK L T q1 + 1) (n + 1) z74 μ61 f1 (by omega) (by omega) (by omega) (by omega) (by omega) (TX_fr hTX hfr61) (jrep_21 e5 hfr61) e6 hF61)) (fun v μ' hh => rQ_eq (par_2 hnE hit g1) hh)
                · exfalso; omega
              · refine J_aload_n (pc := 64) dX3_readItems_64 rfl ?_
                refine J_getI (pc := 65) fF_X3_275 rfl rfl dX3_readItems_65 ?_
                refine J_iconst (pc := 68) (v := 3) dX3_readItems_68 (by decide) ?_
                refine J_icmp_eqW (pc := 69) 4 3 g2 rfl 74 dX3_readItems_69 (by decide) (fun h69 => ?_) (fun h69 => ?_)
                · exfalso; omega
                · refine J_iconst (pc := 72) (v := (-1)) dX3_readItems_72 (by decide) ?_
                  refine J_iret (pc := 73) dX3_readItems_73 rfl ?_
                  exact rQ_eq (par_1 hnE hit (by omega)) ⟨Or.inl ⟨_, rfl, ⟨_, rfl, rfl⟩, hk20.1, by omega⟩, hF61⟩
          · refine J_aload_n (pc := 40) dX3_readItems_40 rfl ?_
            refine J_aload_n (pc := 41) dX3_readItems_41 rfl ?_
            refine J_callSq (pc := 42) fC_X3_278 dX3_readItems_42 (c_X3_readFirst hT20 (N := (n : Int)) (by omega) hk0 hsk.2.1 hj20 hw) rfl ⟨Nat.le_of_ble_eq_true rfl, Nat.le_of_ble_eq_true rfl⟩ rfl (Nat.le_of_ble_eq_true rfl) (fun v42 μ42 q42 => ?_)
            have hit : itemP L T n (SK L T i) f = _ := cif_pos (by omega)
            have q42 := rdQ_mono (M := (n : Int) + 1) (by omega) q42
            obtain ⟨⟨q1, e1, rfl, e2⟩ | ⟨q1, f1, e1, rfl, e2, e4, e5, e6⟩, e3⟩ := q42
            · rw [e1] at hit
              refine J_goto (pc := 45) 53 dX3_readItems_45 (by decide) ?_
              refine J_istore_n (pc := 53) (lv' := [some (.ref 21), some (.ref 6), some (.int nv), some (.int 0)]) dX3_readItems_53 (Nat.le_of_ble_eq_true rfl) rfl rfl ?_
              refine J_iload_n (pc := 54) dX3_readItems_54 rfl ?_
              refine J_if_ne_F (pc := 55) 60 dX3_readItems_55 (by decide) (by decide) ?_
              refine J_iconst (pc := 58) (v := (-1)) dX3_readItems_58 (by decide) ?_
              refine J_iret (pc := 59) dX3_readItems_59 rfl ?_
              exact rQ_eq (par_0 hnE hit) ⟨Or.inl ⟨_, rfl, ⟨_, rfl, rfl⟩, e2, by have := item_le hsk.2.1 hT2.2.1 hit; omega⟩, frD_tr hF20 e3⟩
            · rw [e1] at hit
              have hge := item_ge hsk.2.1 hT2.2.1 hit
              have hTX := TX_frD hT20 e3
              refine J_goto (pc := 45) 53 dX3_readItems_45 (by decide) ?_
              refine J_istore_n (pc := 53) (lv' := [some (.ref 21), some (.ref 6), some (.int nv), some (.int 1)]) dX3_readItems_53 (Nat.le_of_ble_eq_true rfl) rfl rfl ?_
              refine J_iload_n (pc := 54) dX3_readItems_54 rfl ?_
              refine J_if_ne_T (pc := 55) 60 dX3_readItems_55 (by decide) (by decide) ?_
              refine J_aload_n (pc := 60) dX3_readItems_60 rfl ?_
              refine J_callVq (pc := 61) fC_X3_272 rfl dX3_readItems_61 (c_X1_advance hTX e2 e4) rfl ⟨Nat.le_of_ble_eq_true rfl, Nat.le_of_ble_eq_true rfl⟩ rfl (Nat.le_of_ble_eq_true rfl) (fun v61 μ61 q61 => ?_)
              obtain ⟨rfl, hk2, hfr61⟩ := q61
              have hF61 := frD_tr (frD_tr hF20 e3) (frD_21 hfr61)
              have hsk2 := SK_r (T := T) e4 hT2.2.1
              have hk20 := hk2
              rcases hk2.2 with ⟨g1, g2, g3⟩ | ⟨g1, g2, g3⟩ | ⟨g1, g2, g3, g4⟩ | ⟨g1, g2, g3⟩ | ⟨g1, g2, g3⟩
              · refine J_aload_n (pc := 64) dX3_readItems_64 rfl ?_
                refine J_getI (pc := 65) fF_X3_275 rfl rfl dX3_readItems_65 ?_
                refine J_iconst (pc := 68) (v := 3) dX3_readItems_68 (by decide) ?_
                refine J_icmp_eqW (pc := 69) 0 3 g2 rfl 74 dX3_readItems_69 (by decide) (fun h69 => ?_) (fun h69 => ?_)
                · exfalso; omega
                · refine J_iconst (pc := 72) (v := (-1)) dX3_readItems_72 (by decide) ?_
                  refine J_iret (pc := 73) dX3_readItems_73 rfl ?_
                  exact rQ_eq (par_1 hnE hit (by omega)) ⟨Or.inl ⟨_, rfl, ⟨_, rfl, rfl⟩, hk20.1, by omega⟩, hF61⟩
              · refine J_aload_n (pc := 64) dX3_readItems_64 rfl ?_
                refine J_getI (pc := 65) fF_X3_275 rfl rfl dX3_readItems_65 ?_
                refine J_iconst (pc := 68) (v := 3) dX3_readItems_68 (by decide) ?_
                refine J_icmp_eqW (pc := 69) 1 3 g2 rfl 74 dX3_readItems_69 (by decide) (fun h69 => ?_) (fun h69 => ?_)
                · exfalso; omega
                · refine J_iconst (pc := 72) (v := (-1)) dX3_readItems_72 (by decide) ?_
                  refine J_iret (pc := 73) dX3_readItems_73 rfl ?_
                  exact rQ_eq (par_1 hnE hit (by omega)) ⟨Or.inl ⟨_, rfl, ⟨_, rfl, rfl⟩, hk20.1, by omega⟩, hF61⟩
              · refine J_aload_n (pc := 64) dX3_readItems_64 rfl ?_
                refine J_getI (pc := 65) fF_X3_275 rfl rfl dX3_readItems_65 ?_
                refine J_iconst (pc := 68) (v := 3) dX3_readItems_68 (by decide) ?_
                refine J_icmp_eqW (pc := 69) 2 3 g2 rfl 74 dX3_readItems_69 (by decide) (fun h69 => ?_) (fun h69 => ?_)
                · exfalso; omega
                · refine J_iconst (pc := 72) (v := (-1)) dX3_readItems_72 (by decide) ?_
                  refine J_iret (pc := 73) dX3_readItems_73 rfl ?_
                  exact rQ_eq (par_1 hnE hit (by omega)) ⟨Or.inl ⟨_, rfl, ⟨_, rfl, rfl⟩, hk20.1, by omega⟩, hF61⟩
              · refine J_aload_n (pc := 64) dX3_readItems_64 rfl ?_
                refine J_getI (pc := 65) fF_X3_275 rfl rfl dX3_readItems_65 ?_
                refine J_iconst (pc := 68) (v := 3) dX3_readItems_68 (by decide) ?_
                refine J_icmp_eqW (pc := 69) 3 3 g2 rfl 74 dX3_readItems_69 (by decide) (fun h69 => ?_) (fun h69 => ?_)
                · refine J_iincW' (pc := 74) (n : Int) hnv (lv' := fun iq_ => [some (.ref 21), some (.ref 6), some (.int iq_), some (.int 1)]) dX3_readItems_74 rfl (by omega) (by decide) (Nat.le_of_ble_eq_true rfl) rfl (fun _ => rfl) (fun z74 e74 => ?_)
                  refine J_goto (pc := 77) 12 dX3_readItems_77 (by decide) ?_
                  exact J_mono (J_lv' (lv' := [some (.ref 21), some (.ref 6), some (.int z74), none]) (by repeat' constructor) (ih (SK L T q1 + 1) (n + 1) z74 μ61 f1 (by omega) (by omega) (by omega) (by omega) (by omega) (TX_fr hTX hfr61) (jrep_21 e5 hfr61) e6 hF61)) (fun v μ' hh => rQ_eq (par_2 hnE hit g1) hh)
                · exfalso; omega
              · refine J_aload_n (pc := 64) dX3_readItems_64 rfl ?_
                refine J_getI (pc := 65) fF_X3_275 rfl rfl dX3_readItems_65 ?_
                refine J_iconst (pc := 68) (v := 3) dX3_readItems_68 (by decide) ?_
                refine J_icmp_eqW (pc := 69) 4 3 g2 rfl 74 dX3_readItems_69 (by decide) (fun h69 => ?_) (fun h69 => ?_)
                · exfalso; omega
                · refine J_iconst (pc := 72) (v := (-1)) dX3_readItems_72 (by decide) ?_
                  refine J_iret (pc := 73) dX3_readItems_73 rfl ?_
                  exact rQ_eq (par_1 hnE hit (by omega)) ⟨Or.inl ⟨_, rfl, ⟨_, rfl, rfl⟩, hk20.1, by omega⟩, hF61⟩
        · exfalso; omega
      · refine J_aload_n (pc := 23) dX3_readItems_23 rfl ?_
        refine J_getI (pc := 24) fF_X3_275 rfl rfl dX3_readItems_24 ?_
        refine J_if_neW (pc := 27) 3 g2 36 dX3_readItems_27 (by decide) (fun h27 => ?_) (fun h27 => ?_)
        · have hnE : ¬ (SK L T i = L ∧ 0 < n) := by omega
          refine J_iload_n (pc := 36) dX3_readItems_36 rfl ?_
          refine J_if_neW (pc := 37) (n : Int) hnv 48 dX3_readItems_37 (by decide) (fun h37 => ?_) (fun h37 => ?_)
          · refine J_aload_n (pc := 48) dX3_readItems_48 rfl ?_
            refine J_aload_n (pc := 49) dX3_readItems_49 rfl ?_
            refine J_callSq (pc := 50) fC_X3_282 dX3_readItems_50 (c_X3_readItem hT20 (N := (n : Int)) (by omega) hk0 hsk.2.1 hj20 hw) rfl ⟨Nat.le_of_ble_eq_true rfl, Nat.le_of_ble_eq_true rfl⟩ rfl (Nat.le_of_ble_eq_true rfl) (fun v50 μ50 q50 => ?_)
            have hit : itemP L T n (SK L T i) f = _ := cif_neg (by omega)
            obtain ⟨⟨q1, e1, rfl, e2⟩ | ⟨q1, f1, e1, rfl, e2, e4, e5, e6⟩, e3⟩ := q50
            · rw [e1] at hit
              refine J_istore_n (pc := 53) (lv' := [some (.ref 21), some (.ref 6), some (.int nv), some (.int 0)]) dX3_readItems_53 (Nat.le_of_ble_eq_true rfl) rfl rfl ?_
              refine J_iload_n (pc := 54) dX3_readItems_54 rfl ?_
              refine J_if_ne_F (pc := 55) 60 dX3_readItems_55 (by decide) (by decide) ?_
              refine J_iconst (pc := 58) (v := (-1)) dX3_readItems_58 (by decide) ?_
              refine J_iret (pc := 59) dX3_readItems_59 rfl ?_
              exact rQ_eq (par_0 hnE hit) ⟨Or.inl ⟨_, rfl, ⟨_, rfl, rfl⟩, e2, by have := item_le hsk.2.1 hT2.2.1 hit; omega⟩, frD_tr hF20 e3⟩
            · rw [e1] at hit
              have hge := item_ge hsk.2.1 hT2.2.1 hit
              have hTX := TX_frD hT20 e3
              refine J_istore_n (pc := 53) (lv' := [some (.ref 21), some (.ref 6), some (.int nv), some (.int 1)]) dX3_readItems_53 (Nat.le_of_ble_eq_true rfl) rfl rfl ?_
              refine J_iload_n (pc := 54) dX3_readItems_54 rfl ?_
              refine J_if_ne_T (pc := 55) 60 dX3_readItems_55 (by decide) (by decide) ?_
              refine J_aload_n (pc := 60) dX3_readItems_60 rfl ?_
              refine J_callVq (pc := 61) fC_X3_272 rfl dX3_readItems_61 (c_X1_advance hTX e2 e4) rfl ⟨Nat.le_of_ble_eq_true rfl, Nat.le_of_ble_eq_true rfl⟩ rfl (Nat.le_of_ble_eq_true rfl) (fun v61 μ61 q61 => ?_)
              obtain ⟨rfl, hk2, hfr61⟩ := q61
              have hF61 := frD_tr (frD_tr hF20 e3) (frD_21 hfr61)
              have hsk2 := SK_r (T := T) e4 hT2.2.1
              have hk20 := hk2
              rcases hk2.2 with ⟨g1, g2, g3⟩ | ⟨g1, g2, g3⟩ | ⟨g1, g2, g3, g4⟩ | ⟨g1, g2, g3⟩ | ⟨g1, g2, g3⟩
              · refine J_aload_n (pc := 64) dX3_readItems_64 rfl ?_
                refine J_getI (pc := 65) fF_X3_275 rfl rfl dX3_readItems_65 ?_
                refine J_iconst (pc := 68) (v := 3) dX3_readItems_68 (by decide) ?_
                refine J_icmp_eqW (pc := 69) 0 3 g2 rfl 74 dX3_readItems_69 (by decide) (fun h69 => ?_) (fun h69 => ?_)
                · exfalso; omega
                · refine J_iconst (pc := 72) (v := (-1)) dX3_readItems_72 (by decide) ?_
                  refine J_iret (pc := 73) dX3_readItems_73 rfl ?_
                  exact rQ_eq (par_1 hnE hit (by omega)) ⟨Or.inl ⟨_, rfl, ⟨_, rfl, rfl⟩, hk20.1, by omega⟩, hF61⟩
              · refine J_aload_n (pc := 64) dX3_readItems_64 rfl ?_
                refine J_getI (pc := 65) fF_X3_275 rfl rfl dX3_readItems_65 ?_
                refine J_iconst (pc := 68) (v := 3) dX3_readItems_68 (by decide) ?_
                refine J_icmp_eqW (pc := 69) 1 3 g2 rfl 74 dX3_readItems_69 (by decide) (fun h69 => ?_) (fun h69 => ?_)
                · exfalso; omega
                · refine J_iconst (pc := 72) (v := (-1)) dX3_readItems_72 (by decide) ?_
                  refine J_iret (pc := 73) dX3_readItems_73 rfl ?_
                  exact rQ_eq (par_1 hnE hit (by omega)) ⟨Or.inl ⟨_, rfl, ⟨_, rfl, rfl⟩, hk20.1, by omega⟩, hF61⟩
              · refine J_aload_n (pc := 64) dX3_readItems_64 rfl ?_
                refine J_getI (pc := 65) fF_X3_275 rfl rfl dX3_readItems_65 ?_
                refine J_iconst (pc := 68) (v := 3) dX3_readItems_68 (by decide) ?_
                refine J_icmp_eqW (pc := 69) 2 3 g2 rfl 74 dX3_readItems_69 (by decide) (fun h69 => ?_) (fun h69 => ?_)
                · exfalso; omega
                · refine J_iconst (pc := 72) (v := (-1)) dX3_readItems_72 (by decide) ?_
                  refine J_iret (pc := 73) dX3_readItems_73 rfl ?_
                  exact rQ_eq (par_1 hnE hit (by omega)) ⟨Or.inl ⟨_, rfl, ⟨_, rfl, rfl⟩, hk20.1, by omega⟩, hF61⟩
              · refine J_aload_n (pc := 64) dX3_readItems_64 rfl ?_
                refine J_getI (pc := 65) fF_X3_275 rfl rfl dX3_readItems_65 ?_
                refine J_iconst (pc := 68) (v := 3) dX3_readItems_68 (by decide) ?_
                refine J_icmp_eqW (pc := 69) 3 3 g2 rfl 74 dX3_readItems_69 (by decide) (fun h69 => ?_) (fun h69 => ?_)
                · refine J_iincW' (pc := 74) (n : Int) hnv (lv' := fun iq_ => [some (.ref 21), some (.ref 6), some (.int iq_), some (.int 1)]) dX3_readItems_74 rfl (by omega) (by decide) (Nat.le_of_ble_eq_true rfl) rfl (fun _ => rfl) (fun z74 e74 => ?_)
                  refine J_goto (pc := 77) 12 dX3_readItems_77 (by decide) ?_
                  exact J_mono (J_lv' (lv' := [some (.ref 21), some (.ref 6), some (.int z74), none]) (by repeat' constructor) (ih (SK L T q1 + 1) (n + 1) z74 μ61 f1 (by omega) (by omega) (by omega) (by omega) (by omega) (TX_fr hTX hfr61) (jrep_21 e5 hfr61) e6 hF61)) (fun v μ' hh => rQ_eq (par_2 hnE hit g1) hh)
                · exfalso; omega
              · refine J_aload_n (pc := 64) dX3_readItems_64 rfl ?_
                refine J_getI (pc := 65) fF_X3_275 rfl rfl dX3_readItems_65 ?_
                refine J_iconst (pc := 68) (v := 3) dX3_readItems_68 (by decide) ?_
                refine J_icmp_eqW (pc := 69) 4 3 g2 rfl 74 dX3_readItems_69 (by decide) (fun h69 => ?_) (fun h69 => ?_)
                · exfalso; omega
                · refine J_iconst (pc := 72) (v := (-1)) dX3_readItems_72 (by decide) ?_
                  refine J_iret (pc := 73) dX3_readItems_73 rfl ?_
                  exact rQ_eq (par_1 hnE hit (by omega)) ⟨Or.inl ⟨_, rfl, ⟨_, rfl, rfl⟩, hk20.1, by omega⟩, hF61⟩
          · refine J_aload_n (pc := 40) dX3_readItems_40 rfl ?_
            refine J_aload_n (pc := 41) dX3_readItems_41 rfl ?_
            refine J_callSq (pc := 42) fC_X3_278 dX3_readItems_42 (c_X3_readFirst hT20 (N := (n : Int)) (by omega) hk0 hsk.2.1 hj20 hw) rfl ⟨Nat.le_of_ble_eq_true rfl, Nat.le_of_ble_eq_true rfl⟩ rfl (Nat.le_of_ble_eq_true rfl) (fun v42 μ42 q42 => ?_)
            have hit : itemP L T n (SK L T i) f = _ := cif_pos (by omega)
            have q42 := rdQ_mono (M := (n : Int) + 1) (by omega) q42
            obtain ⟨⟨q1, e1, rfl, e2⟩ | ⟨q1, f1, e1, rfl, e2, e4, e5, e6⟩, e3⟩ := q42
            · rw [e1] at hit
              refine J_goto (pc := 45) 53 dX3_readItems_45 (by decide) ?_
              refine J_istore_n (pc := 53) (lv' := [some (.ref 21), some (.ref 6), some (.int nv), some (.int 0)]) dX3_readItems_53 (Nat.le_of_ble_eq_true rfl) rfl rfl ?_
              refine J_iload_n (pc := 54) dX3_readItems_54 rfl ?_
              refine J_if_ne_F (pc := 55) 60 dX3_readItems_55 (by decide) (by decide) ?_
              refine J_iconst (pc := 58) (v := (-1)) dX3_readItems_58 (by decide) ?_
              refine J_iret (pc := 59) dX3_readItems_59 rfl ?_
              exact rQ_eq (par_0 hnE hit) ⟨Or.inl ⟨_, rfl, ⟨_, rfl, rfl⟩, e2, by have := item_le hsk.2.1 hT2.2.1 hit; omega⟩, frD_tr hF20 e3⟩
            · rw [e1] at hit
              have hge := item_ge hsk.2.1 hT2.2.1 hit
              have hTX := TX_frD hT20 e3
              refine J_goto (pc := 45) 53 dX3_readItems_45 (by decide) ?_
              refine J_istore_n (pc := 53) (lv' := [some (.ref 21), some (.ref 6), some (.int nv), some (.int 1)]) dX3_readItems_53 (Nat.le_of_ble_eq_true rfl) rfl rfl ?_
              refine J_iload_n (pc := 54) dX3_readItems_54 rfl ?_
              refine J_if_ne_T (pc := 55) 60 dX3_readItems_55 (by decide) (by decide) ?_
              refine J_aload_n (pc := 60) dX3_readItems_60 rfl ?_
              refine J_callVq (pc := 61) fC_X3_272 rfl dX3_readItems_61 (c_X1_advance hTX e2 e4) rfl ⟨Nat.le_of_ble_eq_true rfl, Nat.le_of_ble_eq_true rfl⟩ rfl (Nat.le_of_ble_eq_true rfl) (fun v61 μ61 q61 => ?_)
              obtain ⟨rfl, hk2, hfr61⟩ := q61
              have hF61 := frD_tr (frD_tr hF20 e3) (frD_21 hfr61)
              have hsk2 := SK_r (T := T) e4 hT2.2.1
              have hk20 := hk2
              rcases hk2.2 with ⟨g1, g2, g3⟩ | ⟨g1, g2, g3⟩ | ⟨g1, g2, g3, g4⟩ | ⟨g1, g2, g3⟩ | ⟨g1, g2, g3⟩
              · refine J_aload_n (pc := 64) dX3_readItems_64 rfl ?_
                refine J_getI (pc := 65) fF_X3_275 rfl rfl dX3_readItems_65 ?_
                refine J_iconst (pc := 68) (v := 3) dX3_readItems_68 (by decide) ?_
                refine J_icmp_eqW (pc := 69) 0 3 g2 rfl 74 dX3_readItems_69 (by decide) (fun h69 => ?_) (fun h69 => ?_)
                · exfalso; omega
                · refine J_iconst (pc := 72) (v := (-1)) dX3_readItems_72 (by decide) ?_
                  refine J_iret (pc := 73) dX3_readItems_73 rfl ?_
                  exact rQ_eq (par_1 hnE hit (by omega)) ⟨Or.inl ⟨_, rfl, ⟨_, rfl, rfl⟩, hk20.1, by omega⟩, hF61⟩
              · refine J_aload_n (pc := 64) dX3_readItems_64 rfl ?_
                refine J_getI (pc := 65) fF_X3_275 rfl rfl dX3_readItems_65 ?_
                refine J_iconst (pc := 68) (v := 3) dX3_readItems_68 (by decide) ?_
                refine J_icmp_eqW (pc := 69) 1 3 g2 rfl 74 dX3_readItems_69 (by decide) (fun h69 => ?_) (fun h69 => ?_)
                · exfalso; omega
                · refine J_iconst (pc := 72) (v := (-1)) dX3_readItems_72 (by decide) ?_
                  refine J_iret (pc := 73) dX3_readItems_73 rfl ?_
                  exact rQ_eq (par_1 hnE hit (by omega)) ⟨Or.inl ⟨_, rfl, ⟨_, rfl, rfl⟩, hk20.1, by omega⟩, hF61⟩
              · refine J_aload_n (pc := 64) dX3_readItems_64 rfl ?_
                refine J_getI (pc := 65) fF_X3_275 rfl rfl dX3_readItems_65 ?_
                refine J_iconst (pc := 68) (v := 3) dX3_readItems_68 (by decide) ?_
                refine J_icmp_eqW (pc := 69) 2 3 g2 rfl 74 dX3_readItems_69 (by decide) (fun h69 => ?_) (fun h69 => ?_)
                · exfalso; omega
                · refine J_iconst (pc := 72) (v := (-1)) dX3_readItems_72 (by decide) ?_
                  refine J_iret (pc := 73) dX3_readItems_73 rfl ?_
                  exact rQ_eq (par_1 hnE hit (by omega)) ⟨Or.inl ⟨_, rfl, ⟨_, rfl, rfl⟩, hk20.1, by omega⟩, hF61⟩
              · refine J_aload_n (pc := 64) dX3_readItems_64 rfl ?_
                refine J_getI (pc := 65) fF_X3_275 rfl rfl dX3_readItems_65 ?_
                refine J_iconst (pc := 68) (v := 3) dX3_readItems_68 (by decide) ?_
                refine J_icmp_eqW (pc := 69) 3 3 g2 rfl 74 dX3_readItems_69 (by decide) (fun h69 => ?_) (fun h69 => ?_)
                · refine J_iincW' (pc := 74) (n : Int) hnv (lv' := fun iq_ => [some (.ref 21), some (.ref 6), some (.int iq_), some (.int 1)]) dX3_readItems_74 rfl (by omega) (by decide) (Nat.le_of_ble_eq_true rfl) rfl (fun _ => rfl) (fun z74 e74 => ?_)
                  refine J_goto (pc := 77) 12 dX3_readItems_77 (by decide) ?_
                  exact J_mono (J_lv' (lv' := [some (.ref 21), some (.ref 6), some (.int z74), none]) (by repeat' constructor) (ih (SK L T q1 + 1) (n + 1) z74 μ61 f1 (by omega) (by omega) (by omega) (by omega) (by omega) (TX_fr hTX hfr61) (jrep_21 e5 hfr61) e6 hF61)) (fun v μ' hh => rQ_eq (par_2 hnE hit g1) hh)
                · exfalso; omega
              · refine J_aload_n (pc := 64) dX3_readItems_64 rfl ?_
                refine J_getI (pc := 65) fF_X3_275 rfl rfl dX3_readItems_65 ?_
                refine J_iconst (pc := 68) (v := 3) dX3_readItems_68 (by decide) ?_
                refine J_icmp_eqW (pc := 69) 4 3 g2 rfl 74 dX3_readItems_69 (by decide) (fun h69 => ?_) (fun h69 => ?_)
                · exfalso; omega
                · refine J_iconst (pc := 72) (v := (-1)) dX3_readItems_72 (by decide) ?_
                  refine J_iret (pc := 73) dX3_readItems_73 rfl ?_
                  exact rQ_eq (par_1 hnE hit (by omega)) ⟨Or.inl ⟨_, rfl, ⟨_, rfl, rfl⟩, hk20.1, by omega⟩, hF61⟩
        · exfalso; omega
      · refine J_aload_n (pc := 23) dX3_readItems_23 rfl ?_
        refine J_getI (pc := 24) fF_X3_275 rfl rfl dX3_readItems_24 ?_
        refine J_if_neW (pc := 27) 4 g2 36 dX3_readItems_27 (by decide) (fun h27 => ?_) (fun h27 => ?_)
        · have hnE : ¬ (SK L T i = L ∧ 0 < n) := by omega
          refine J_iload_n (pc := 36) dX3_readItems_36 rfl ?_
          refine J_if_neW (pc := 37) (n : Int) hnv 48 dX3_readItems_37 (by decide) (fun h37 => ?_) (fun h37 => ?_)
          · refine J_aload_n (pc := 48) dX3_readItems_48 rfl ?_
            refine J_aload_n (pc := 49) dX3_readItems_49 rfl ?_
            refine J_callSq (pc := 50) fC_X3_282 dX3_readItems_50 (c_X3_readItem hT20 (N := (n : Int)) (by omega) hk0 hsk.2.1 hj20 hw) rfl ⟨Nat.le_of_ble_eq_true rfl, Nat.le_of_ble_eq_true rfl⟩ rfl (Nat.le_of_ble_eq_true rfl) (fun v50 μ50 q50 => ?_)
            have hit : itemP L T n (SK L T i) f = _ := cif_neg (by omega)
            obtain ⟨⟨q1, e1, rfl, e2⟩ | ⟨q1, f1, e1, rfl, e2, e4, e5, e6⟩, e3⟩ := q50
            · rw [e1] at hit
              refine J_istore_n (pc := 53) (lv' := [some (.ref 21), some (.ref 6), some (.int nv), some (.int 0)]) dX3_readItems_53 (Nat.le_of_ble_eq_true rfl) rfl rfl ?_
              refine J_iload_n (pc := 54) dX3_readItems_54 rfl ?_
              refine J_if_ne_F (pc := 55) 60 dX3_readItems_55 (by decide) (by decide) ?_
              refine J_iconst (pc := 58) (v := (-1)) dX3_readItems_58 (by decide) ?_
              refine J_iret (pc := 59) dX3_readItems_59 rfl ?_
              exact rQ_eq (par_0 hnE hit) ⟨Or.inl ⟨_, rfl, ⟨_, rfl, rfl⟩, e2, by have := item_le hsk.2.1 hT2.2.1 hit; omega⟩, frD_tr hF20 e3⟩
            · rw [e1] at hit
              have hge := item_ge hsk.2.1 hT2.2.1 hit
              have hTX := TX_frD hT20 e3
              refine J_istore_n (pc := 53) (lv' := [some (.ref 21), some (.ref 6), some (.int nv), some (.int 1)]) dX3_readItems_53 (Nat.le_of_ble_eq_true rfl) rfl rfl ?_
              refine J_iload_n (pc := 54) dX3_readItems_54 rfl ?_
              refine J_if_ne_T (pc := 55) 60 dX3_readItems_55 (by decide) (by decide) ?_
              refine J_aload_n (pc := 60) dX3_readItems_60 rfl ?_
              refine J_callVq (pc := 61) fC_X3_272 rfl dX3_readItems_61 (c_X1_advance hTX e2 e4) rfl ⟨Nat.le_of_ble_eq_true rfl, Nat.le_of_ble_eq_true rfl⟩ rfl (Nat.le_of_ble_eq_true rfl) (fun v61 μ61 q61 => ?_)
              obtain ⟨rfl, hk2, hfr61⟩ := q61
              have hF61 := frD_tr (frD_tr hF20 e3) (frD_21 hfr61)
              have hsk2 := SK_r (T := T) e4 hT2.2.1
              have hk20 := hk2
              rcases hk2.2 with ⟨g1, g2, g3⟩ | ⟨g1, g2, g3⟩ | ⟨g1, g2, g3, g4⟩ | ⟨g1, g2, g3⟩ | ⟨g1, g2, g3⟩
              · refine J_aload_n (pc := 64) dX3_readItems_64 rfl ?_
                refine J_getI (pc := 65) fF_X3_275 rfl rfl dX3_readItems_65 ?_
                refine J_iconst (pc := 68) (v := 3) dX3_readItems_68 (by decide) ?_
                refine J_icmp_eqW (pc := 69) 0 3 g2 rfl 74 dX3_readItems_69 (by decide) (fun h69 => ?_) (fun h69 => ?_)
                · exfalso; omega
                · refine J_iconst (pc := 72) (v := (-1)) dX3_readItems_72 (by decide) ?_
                  refine J_iret (pc := 73) dX3_readItems_73 rfl ?_
                  exact rQ_eq (par_1 hnE hit (by omega)) ⟨Or.inl ⟨_, rfl, ⟨_, rfl, rfl⟩, hk20.1, by omega⟩, hF61⟩
              · refine J_aload_n (pc := 64) dX3_readItems_64 rfl ?_
                refine J_getI (pc := 65) fF_X3_275 rfl rfl dX3_readItems_65 ?_
                refine J_iconst (pc := 68) (v := 3) dX3_readItems_68 (by decide) ?_
                refine J_icmp_eqW (pc := 69) 1 3 g2 rfl 74 dX3_readItems_69 (by decide) (fun h69 => ?_) (fun h69 => ?_)
                · exfalso; omega
                · refine J_iconst (pc := 72) (v := (-1)) dX3_readItems_72 (by decide) ?_
                  refine J_iret (pc := 73) dX3_readItems_73 rfl ?_
                  exact rQ_eq (par_1 hnE hit (by omega)) ⟨Or.inl ⟨_, rfl, ⟨_, rfl, rfl⟩, hk20.1, by omega⟩, hF61⟩
              · refine J_aload_n (pc := 64) dX3_readItems_64 rfl ?_
                refine J_getI (pc := 65) fF_X3_275 rfl rfl dX3_readItems_65 ?_
                refine J_iconst (pc := 68) (v := 3) dX3_readItems_68 (by decide) ?_
                refine J_icmp_eqW (pc := 69) 2 3 g2 rfl 74 dX3_readItems_69 (by decide) (fun h69 => ?_) (fun h69 => ?_)
                · exfalso; omega
                · refine J_iconst (pc := 72) (v := (-1)) dX3_readItems_72 (by decide) ?_
                  refine J_iret (pc := 73) dX3_readItems_73 rfl ?_
                  exact rQ_eq (par_1 hnE hit (by omega)) ⟨Or.inl ⟨_, rfl, ⟨_, rfl, rfl⟩, hk20.1, by omega⟩, hF61⟩
              · refine J_aload_n (pc := 64) dX3_readItems_64 rfl ?_
                refine J_getI (pc := 65) fF_X3_275 rfl rfl dX3_readItems_65 ?_
                refine J_iconst (pc := 68) (v := 3) dX3_readItems_68 (by decide) ?_
                refine J_icmp_eqW (pc := 69) 3 3 g2 rfl 74 dX3_readItems_69 (by decide) (fun h69 => ?_) (fun h69 => ?_)
                · refine J_iincW' (pc := 74) (n : Int) hnv (lv' := fun iq_ => [some (.ref 21), some (.ref 6), some (.int iq_), some (.int 1)]) dX3_readItems_74 rfl (by omega) (by decide) (Nat.le_of_ble_eq_true rfl) rfl (fun _ => rfl) (fun z74 e74 => ?_)
                  refine J_goto (pc := 77) 12 dX3_readItems_77 (by decide) ?_
                  exact J_mono (J_lv' (lv' := [some (.ref 21), some (.ref 6), some (.int z74), none]) (by repeat' constructor) (ih (SK L T q1 + 1) (n + 1) z74 μ61 f1 (by omega) (by omega) (by omega) (by omega) (by omega) (TX_fr hTX hfr61) (jrep_21 e5 hfr61) e6 hF61)) (fun v μ' hh => rQ_eq (par_2 hnE hit g1) hh)
                · exfalso; omega
              · refine J_aload_n (pc := 64) dX3_readItems_64 rfl ?_
                refine J_getI (pc := 65) fF_X3_275 rfl rfl dX3_readItems_65 ?_
                refine J_iconst (pc := 68) (v := 3) dX3_readItems_68 (by decide) ?_
                refine J_icmp_eqW (pc := 69) 4 3 g2 rfl 74 dX3_readItems_69 (by decide) (fun h69 => ?_) (fun h69 => ?_)
                · exfalso; omega
                · refine J_iconst (pc := 72) (v := (-1)) dX3_readItems_72 (by decide) ?_
                  refine J_iret (pc := 73) dX3_readItems_73 rfl ?_
                  exact rQ_eq (par_1 hnE hit (by omega)) ⟨Or.inl ⟨_, rfl, ⟨_, rfl, rfl⟩, hk20.1, by omega⟩, hF61⟩
          · refine J_aload_n (pc := 40) dX3_readItems_40 rfl ?_
            refine J_aload_n (pc := 41) dX3_readItems_41 rfl ?_
            refine J_callSq (pc := 42) fC_X3_278 dX3_readItems_42 (c_X3_readFirst hT20 (N := (n : Int)) (by omega) hk0 hsk.2.1 hj20 hw) rfl ⟨Nat.le_of_ble_eq_true rfl, Nat.le_of_ble_eq_true rfl⟩ rfl (Nat.le_of_ble_eq_true rfl) (fun v42 μ42 q42 => ?_)
            have hit : itemP L T n (SK L T i) f = _ := cif_pos (by omega)
            have q42 := rdQ_mono (M := (n : Int) + 1) (by omega) q42
            obtain ⟨⟨q1, e1, rfl, e2⟩ | ⟨q1, f1, e1, rfl, e2, e4, e5, e6⟩, e3⟩ := q42
            · rw [e1] at hit
              refine J_goto (pc := 45) 53 dX3_readItems_45 (by decide) ?_
              refine J_istore_n (pc := 53) (lv' := [some (.ref 21), some (.ref 6), some (.int nv), some (.int 0)]) dX3_readItems_53 (Nat.le_of_ble_eq_true rfl) rfl rfl ?_
              refine J_iload_n (pc := 54) dX3_readItems_54 rfl ?_
              refine J_if_ne_F (pc := 55) 60 dX3_readItems_55 (by decide) (by decide) ?_
              refine J_iconst (pc := 58) (v := (-1)) dX3_readItems_58 (by decide) ?_
              refine J_iret (pc := 59) dX3_readItems_59 rfl ?_
              exact rQ_eq (par_0 hnE hit) ⟨Or.inl ⟨_, rfl, ⟨_, rfl, rfl⟩, e2, by have := item_le hsk.2.1 hT2.2.1 hit; omega⟩, frD_tr hF20 e3⟩
            · rw [e1] at hit
              have hge := item_ge hsk.2.1 hT2.2.1 hit
              have hTX := TX_frD hT20 e3
              refine J_goto (pc := 45) 53 dX3_readItems_45 (by decide) ?_
              refine J_istore_n (pc := 53) (lv' := [some (.ref 21), some (.ref 6), some (.int nv), some (.int 1)]) dX3_readItems_53 (Nat.le_of_ble_eq_true rfl) rfl rfl ?_
              refine J_iload_n (pc := 54) dX3_readItems_54 rfl ?_
              refine J_if_ne_T (pc := 55) 60 dX3_readItems_55 (by decide) (by decide) ?_
              refine J_aload_n (pc := 60) dX3_readItems_60 rfl ?_
              refine J_callVq (pc := 61) fC_X3_272 rfl dX3_readItems_61 (c_X1_advance hTX e2 e4) rfl ⟨Nat.le_of_ble_eq_true rfl, Nat.le_of_ble_eq_true rfl⟩ rfl (Nat.le_of_ble_eq_true rfl) (fun v61 μ61 q61 => ?_)
              obtain ⟨rfl, hk2, hfr61⟩ := q61
              have hF61 := frD_tr (frD_tr hF20 e3) (frD_21 hfr61)
              have hsk2 := SK_r (T := T) e4 hT2.2.1
              have hk20 := hk2
              rcases hk2.2 with ⟨g1, g2, g3⟩ | ⟨g1, g2, g3⟩ | ⟨g1, g2, g3, g4⟩ | ⟨g1, g2, g3⟩ | ⟨g1, g2, g3⟩
              · refine J_aload_n (pc := 64) dX3_readItems_64 rfl ?_
                refine J_getI (pc := 65) fF_X3_275 rfl rfl dX3_readItems_65 ?_
                refine J_iconst (pc := 68) (v := 3) dX3_readItems_68 (by decide) ?_
                refine J_icmp_eqW (pc := 69) 0 3 g2 rfl 74 dX3_readItems_69 (by decide) (fun h69 => ?_) (fun h69 => ?_)
                · exfalso; omega
                · refine J_iconst (pc := 72) (v := (-1)) dX3_readItems_72 (by decide) ?_
                  refine J_iret (pc := 73) dX3_readItems_73 rfl ?_
                  exact rQ_eq (par_1 hnE hit (by omega)) ⟨Or.inl ⟨_, rfl, ⟨_, rfl, rfl⟩, hk20.1, by omega⟩, hF61⟩
              · refine J_aload_n (pc := 64) dX3_readItems_64 rfl ?_
                refine J_getI (pc := 65) fF_X3_275 rfl rfl dX3_readItems_65 ?_
                refine J_iconst (pc := 68) (v := 3) dX3_readItems_68 (by decide) ?_
                refine J_icmp_eqW (pc := 69) 1 3 g2 rfl 74 dX3_readItems_69 (by decide) (fun h69 => ?_) (fun h69 => ?_)
                · exfalso; omega
                · refine J_iconst (pc := 72) (v := (-1)) dX3_readItems_72 (by decide) ?_
                  refine J_iret (pc := 73) dX3_readItems_73 rfl ?_
                  exact rQ_eq (par_1 hnE hit (by omega)) ⟨Or.inl ⟨_, rfl, ⟨_, rfl, rfl⟩, hk20.1, by omega⟩, hF61⟩
              · refine J_aload_n (pc := 64) dX3_readItems_64 rfl ?_
                refine J_getI (pc := 65) fF_X3_275 rfl rfl dX3_readItems_65 ?_
                refine J_iconst (pc := 68) (v := 3) dX3_readItems_68 (by decide) ?_
                refine J_icmp_eqW (pc := 69) 2 3 g2 rfl 74 dX3_readItems_69 (by decide) (fun h69 => ?_) (fun h69 => ?_)
                · exfalso; omega
                · refine J_iconst (pc := 72) (v := (-1)) dX3_readItems_72 (by decide) ?_
                  refine J_iret (pc := 73) dX3_readItems_73 rfl ?_
                  exact rQ_eq (par_1 hnE hit (by omega)) ⟨Or.inl ⟨_, rfl, ⟨_, rfl, rfl⟩, hk20.1, by omega⟩, hF61⟩
              · refine J_aload_n (pc := 64) dX3_readItems_64 rfl ?_
                refine J_getI (pc := 65) fF_X3_275 rfl rfl dX3_readItems_65 ?_
                refine J_iconst (pc := 68) (v := 3) dX3_readItems_68 (by decide) ?_
                refine J_icmp_eqW (pc := 69) 3 3 g2 rfl 74 dX3_readItems_69 (by decide) (fun h69 => ?_) (fun h69 => ?_)
                · refine J_iincW' (pc := 74) (n : Int) hnv (lv' := fun iq_ => [some (.ref 21), some (.ref 6), some (.int iq_), some (.int 1)]) dX3_readItems_74 rfl (by omega) (by decide) (Nat.le_of_ble_eq_true rfl) rfl (fun _ => rfl) (fun z74 e74 => ?_)
                  refine J_goto (pc := 77) 12 dX3_readItems_77 (by decide) ?_
                  exact J_mono (J_lv' (lv' := [some (.ref 21), some (.ref 6), some (.int z74), none]) (by repeat' constructor) (ih (SK L T q1 + 1) (n + 1) z74 μ61 f1 (by omega) (by omega) (by omega) (by omega) (by omega) (TX_fr hTX hfr61) (jrep_21 e5 hfr61) e6 hF61)) (fun v μ' hh => rQ_eq (par_2 hnE hit g1) hh)
                · exfalso; omega
              · refine J_aload_n (pc := 64) dX3_readItems_64 rfl ?_
                refine J_getI (pc := 65) fF_X3_275 rfl rfl dX3_readItems_65 ?_
                refine J_iconst (pc := 68) (v := 3) dX3_readItems_68 (by decide) ?_
                refine J_icmp_eqW (pc := 69) 4 3 g2 rfl 74 dX3_readItems_69 (by decide) (fun h69 => ?_) (fun h69 => ?_)
                · exfalso; omega
                · refine J_iconst (pc := 72) (v := (-1)) dX3_readItems_72 (by decide) ?_
                  refine J_iret (pc := 73) dX3_readItems_73 rfl ?_
                  exact rQ_eq (par_1 hnE hit (by omega)) ⟨Or.inl ⟨_, rfl, ⟨_, rfl, rfl⟩, hk20.1, by omega⟩, hF61⟩
        · exfalso; omega
set_option maxRecDepth 100000 in
set_option maxHeartbeats 4000000 in
theorem c_X3_readItems {c : JM} {L : Nat} {T : Nat → Int} (hT : TX L T c) (g : Nat → Int32) : Con G shC mX3_readItems [.ref 21, .ref 6] c (rQ (par L T 152 0 0 (freR 0 g)) c) := by
  refine Con_of [some (.ref 21), some (.ref 6), none, none] (by decide +kernel) (Nat.le_of_ble_eq_true rfl) (fun _ h => h) ?_
  refine J_aload_n (pc := 0) dX3_readItems_0 rfl ?_
  refine J_iconst (pc := 1) (v := 0) dX3_readItems_1 (by decide) ?_
  refine J_callVv (pc := 2) fC_X3_56 rfl dX3_readItems_2 (c_X0_begin jarAt_6) rfl ⟨Nat.le_of_ble_eq_true rfl, Nat.le_of_ble_eq_true rfl⟩ rfl (Nat.le_of_ble_eq_true rfl) (fun μ2 m2 => ?_)
  refine J_aload_n (pc := 5) dX3_readItems_5 rfl ?_
  refine J_iconst (pc := 6) (v := 0) dX3_readItems_6 (by decide) ?_
  refine J_putIW (pc := 7) fF_X3_269 rfl rfl dX3_readItems_7 (fun μ7 m7 => ?_)
  refine J_iconst (pc := 10) (v := 0) dX3_readItems_10 (by decide) ?_
  refine J_istore_n (pc := 11) (lv' := [some (.ref 21), some (.ref 6), some (.int 0), none]) dX3_readItems_11 (Nat.le_of_ble_eq_true rfl) rfl rfl ?_
  have hF := frD_beg (c := c) (μ := c) (k := 0) (frD_21 (fr21_rf c))
  rw [← m2] at hF
  have h7 : fr21 μ2 μ7 := by rw [m7]; exact fr21_s (fr21_rf μ2) (by decide)
  exact J_lv' (lv' := [some (.ref 21), some (.ref 6), some (.int 0), none]) (by repeat' constructor) (l_items 152 0 0 0 μ7 (freR 0 g) (by have := hT.2.1; omega) (by omega) (by omega) rfl (by rw [m7, jI_i, if_pos ⟨rfl, rfl⟩]; rfl) (TX_fr (TX_frD hT hF) h7) (jrep_21 (by rw [m2]; exact jrep_begin) h7) (wfF_fresh (by decide) (by decide)) (frD_tr hF (frD_21 h7)))

/-! ===== the class reads an item ===== -/
noncomputable def cif {α : Type} (c : Prop) (a b : α) : α := @ite α c (Classical.propDecidable c) a b
theorem cif_pos {α : Type} {c : Prop} {a b : α} (h : c) : cif c a b = a := @if_pos c (Classical.propDecidable c) h α a b
theorem cif_neg {α : Type} {c : Prop} {a b : α} (h : ¬ c) : cif c a b = b := @if_neg c (Classical.propDecidable c) h α a b
def PNok (L : Nat) (T : Nat → Int) (i : Nat) (lo hi : Int) : Prop := (SK L T i < L ∧ 48 ≤ T (SK L T i) ∧ T (SK L T i) ≤ 57) ∧ lo ≤ nvT T (SK L T i) (FN L T (SK L T i)) ∧ nvT T (SK L T i) (FN L T (SK L T i)) ≤ hi
noncomputable def pn (L : Nat) (T : Nat → Int) (i : Nat) (lo hi : Int) (k : Nat → Int → (Nat ⊕ (Nat × (Nat → Int32)))) : (Nat ⊕ (Nat × (Nat → Int32))) := cif (PNok L T i lo hi) (k (FN L T (SK L T i)) (nvT T (SK L T i) (FN L T (SK L T i)))) (.inl (SK L T i))
def freR (k : Int32) (f : Nat → Int32) : Nat → Int32 := fun j => if j < 73 then freF k j else f j
noncomputable def moodP (L : Nat) (T : Nat → Int) (e : Nat) (f : Nat → Int32) : (Nat ⊕ (Nat × (Nat → Int32))) := pn L T e 0 ((f 3).toInt - 1) (fun e1 a => pn L T e1 0 99 (fun e2 p => .inr (e2, upd (upd f 1 (iZ a)) 2 (iZ p))))
noncomputable def boundP (L : Nat) (T : Nat → Int) (e : Nat) (f : Nat → Int32) : (Nat ⊕ (Nat × (Nat → Int32))) := pn L T e ((f 1).toInt + 1) 99 (fun e1 w => pn L T e1 1 99 (fun e2 h => .inr (e2, upd (upd f 3 (iZ w)) 4 (iZ h))))
noncomputable def vowP (L : Nat) (T : Nat → Int) (e : Nat) (f : Nat → Int32) : (Nat ⊕ (Nat × (Nat → Int32))) := pn L T e 0 7 (fun e1 c => pn L T e1 0 4 (fun e2 v => .inr (e2, upd f (7 + c.toNat) (iZ v))))
noncomputable def sayP (L : Nat) (T : Nat → Int) (e : Nat) (f : Nat → Int32) : (Nat ⊕ (Nat × (Nat → Int32))) := cif ((f 6).toInt = 0) (pn L T e 0 5 (fun e1 w => .inr (e1, listF f w))) (.inl (SK L T e))
noncomputable def jarP (L : Nat) (T : Nat → Int) (e : Nat) (f : Nat → Int32) : (Nat ⊕ (Nat × (Nat → Int32))) := pn L T e 0 5 (fun e1 k => .inr (e1, freR (iZ k) f))
def SPL (L : Nat) (T : Nat → Int) (s i : Nat) : Prop := (s < L ∧ 97 ≤ T s ∧ T s ≤ 122) ∧ LN L T s = s + slZ i ∧ ∀ j, j < slZ i → T (s + j) = chZ i j
noncomputable def itemP (L : Nat) (T : Nat → Int) (items s : Nat) (f : Nat → Int32) : (Nat ⊕ (Nat × (Nat → Int32))) :=
  cif (items = 0) (cif (SPL L T s 0) (jarP L T (LN L T s) f) (.inl s)) (cif (SPL L T s 1) (moodP L T (LN L T s) f) (cif (SPL L T s 2) (boundP L T (LN L T s) f) (cif (SPL L T s 3) (vowP L T (LN L T s) f) (cif (SPL L T s 4) (sayP L T (LN L T s) f) (.inl s)))))
noncomputable def stopP (L : Nat) (T : Nat → Int) (r : (Nat ⊕ (Nat × (Nat → Int32)))) (k : Nat → (Nat → Int32) → (Nat ⊕ (Nat × (Nat → Int32)))) : (Nat ⊕ (Nat × (Nat → Int32))) := match r with
  | .inl q => .inl q
  | .inr (e, f) => cif (SK L T e < L ∧ T (SK L T e) = 59) (k (SK L T e + 1) f) (.inl (SK L T e))
noncomputable def par (L : Nat) (T : Nat → Int) : Nat → Nat → Nat → (Nat → Int32) → (Nat ⊕ (Nat × (Nat → Int32)))
  | 0, _, _, _ => .inl 0
  | d + 1, i, n, f => cif (SK L T i = L ∧ 0 < n) (.inr (n, f)) (stopP L T (itemP L T n (SK L T i) f) (fun e f' => par L T d e (n + 1) f'))
theorem SK_r {L : Nat} {T : Nat → Int} {i : Nat} (hi : i ≤ L) (hL : L ≤ 150) : i ≤ SK L T i ∧ SK L T i ≤ L ∧ (SK L T i < L → T (SK L T i) ≠ 32) := skp_r 151 i hi (by omega)
theorem FN_r {L : Nat} {T : Nat → Int} {i : Nat} (hi : i ≤ L) (hL : L ≤ 150) : i ≤ FN L T i ∧ FN L T i ≤ L := frn_r 151 i hi (by omega)
theorem LN_r {L : Nat} {T : Nat → Int} {i : Nat} (hi : i ≤ L) (hL : L ≤ 150) : i ≤ LN L T i ∧ LN L T i ≤ L ∧ (∀ x, i ≤ x → x < LN L T i → 97 ≤ T x ∧ T x ≤ 122) ∧ (LN L T i < L → ¬ (97 ≤ T (LN L T i) ∧ T (LN L T i) ≤ 122)) := lrn_r 151 i hi (by omega)
/-- all but the scroll and the draft as it was -/
def frD (c μ : JM) : Prop := (∀ o, o ≠ 21 → ¬ (6 ≤ o ∧ o ≤ 10) → μ.1 o = c.1 o) ∧ μ.1 21 1 = c.1 21 1 ∧ μ.2 = c.2
theorem frD_21 {c μ : JM} (h : fr21 c μ) : frD c μ := ⟨fun o h1 _ => h.1 o h1, h.2.1, h.2.2⟩
theorem frD_tr {a b c : JM} (h : frD a b) (h' : frD b c) : frD a c := ⟨fun o h1 h2 => (h'.1 o h1 h2).trans (h.1 o h1 h2), h'.2.1.trans h.2.1, h'.2.2.trans h.2.2⟩
theorem TX_frD {L : Nat} {T : Nat → Int} {c μ : JM} (h : TX L T c) (hf : frD c μ) : TX L T μ := ⟨by rw [hf.2.1]; exact h.1, h.2.1, fun j hj => by rw [hf.1 22 (by decide) (by decide)]; exact h.2.2 j hj⟩
theorem jrep_21 {c μ : JM} {f : Nat → Int32} (hj : jrep c 6 f) (h : fr21 c μ) : jrep μ 6 f := by
  unfold jrep at *
  rw [h.1 6 (by decide), h.1 (6 + 1) (by decide), h.1 (6 + 2) (by decide), h.1 (6 + 3) (by decide), h.1 (6 + 4) (by decide)]
  exact hj
def rdQ (r : (Nat ⊕ (Nat × (Nat → Int32)))) (L : Nat) (N : Int) (c : JM) : Option Value → JM → Prop := fun v μ' => ((∃ q, r = .inl q ∧ v = some (.int 0) ∧ (μ'.1 21 3).toInt = (q : Int)) ∨ (∃ e f', r = .inr (e, f') ∧ v = some (.int 1) ∧ (μ'.1 21 2).toInt = (e : Int) ∧ e ≤ L ∧ jrep μ' 6 f' ∧ wfF N f')) ∧ frD c μ'
variable {G : JG}
set_option maxRecDepth 100000 in
set_option maxHeartbeats 4000000 in
theorem c_X1_numberComes {c : JM} {L : Nat} {T : Nat → Int} (hT : TX L T c) {i : Nat} (hn : (c.1 21 2).toInt = (i : Int)) (hi0 : i ≤ L) {av bv : Int32} {lo hi : Int} (hlo : av.toInt = lo) (hhi : bv.toInt = hi) : Con G shC mX1_numberComes [.ref 21, .int av, .int bv] c (fun v μ' => ((v = some (.int 1) ∧ PNok L T i lo hi ∧ (μ'.1 21 2).toInt = (FN L T (SK L T i) : Nat) ∧ (μ'.1 21 5).toInt = nvT T (SK L T i) (FN L T (SK L T i))) ∨ (v = some (.int 0) ∧ ¬ PNok L T i lo hi)) ∧ (μ'.1 21 3).toInt = (SK L T i : Nat) ∧ fr21 c μ') := by
  refine Con_of [some (.ref 21), some (.int av), some (.int bv)] (by decide +kernel) (Nat.le_of_ble_eq_true rfl) (fun _ h => h) ?_
  refine J_aload_n (pc := 0) dX1_numberComes_0 rfl ?_
  refine J_callVq (pc := 1) fC_X1_57 rfl dX1_numberComes_1 (c_X1_advance hT hn hi0) rfl ⟨Nat.le_of_ble_eq_true rfl, Nat.le_of_ble_eq_true rfl⟩ rfl (Nat.le_of_ble_eq_true rfl) (fun v1 μ1 q1 => ?_)
  obtain ⟨rfl, ⟨hs3, htk⟩, hfr⟩ := q1
  rcases htk with ⟨g1, g2, g3⟩ | ⟨g1, g2, g3⟩ | ⟨g1, g2, g3, g4⟩ | ⟨g1, g2, g3⟩ | ⟨g1, g2, g3⟩
  · refine J_aload_n (pc := 4) dX1_numberComes_4 rfl ?_
    refine J_getI (pc := 5) fF_X1_25 rfl rfl dX1_numberComes_5 ?_
    refine J_iconst (pc := 8) (v := 2) dX1_numberComes_8 (by decide) ?_
    refine J_icmp_neW (pc := 9) 0 2 g2 rfl 28 dX1_numberComes_9 (by decide) (fun h9 => ?_) (fun h9 => ?_)
    · refine J_iconst (pc := 28) (v := 0) dX1_numberComes_28 (by decide) ?_
      refine J_zret (pc := 29) dX1_numberComes_29 rfl (by decide) ?_
      exact ⟨Or.inr ⟨rfl, fun hh => by have h1 := hh.1; omega⟩, hs3, hfr⟩
    · exfalso; omega
  · refine J_aload_n (pc := 4) dX1_numberComes_4 rfl ?_
    refine J_getI (pc := 5) fF_X1_25 rfl rfl dX1_numberComes_5 ?_
    refine J_iconst (pc := 8) (v := 2) dX1_numberComes_8 (by decide) ?_
    refine J_icmp_neW (pc := 9) 1 2 g2 rfl 28 dX1_numberComes_9 (by decide) (fun h9 => ?_) (fun h9 => ?_)
    · refine J_iconst (pc := 28) (v := 0) dX1_numberComes_28 (by decide) ?_
      refine J_zret (pc := 29) dX1_numberComes_29 rfl (by decide) ?_
      exact ⟨Or.inr ⟨rfl, fun hh => by have h1 := hh.1; omega⟩, hs3, hfr⟩
    · exfalso; omega
  · refine J_aload_n (pc := 4) dX1_numberComes_4 rfl ?_
    refine J_getI (pc := 5) fF_X1_25 rfl rfl dX1_numberComes_5 ?_
    refine J_iconst (pc := 8) (v := 2) dX1_numberComes_8 (by decide) ?_
    refine J_icmp_neW (pc := 9) 2 2 g2 rfl 28 dX1_numberComes_9 (by decide) (fun h9 => ?_) (fun h9 => ?_)
    · exfalso; omega
    · refine J_aload_n (pc := 12) dX1_numberComes_12 rfl ?_
      refine J_getI (pc := 13) fF_X1_28 rfl rfl dX1_numberComes_13 ?_
      refine J_iload_n (pc := 16) dX1_numberComes_16 rfl ?_
      refine J_iload_n (pc := 17) dX1_numberComes_17 rfl ?_
      refine J_callSc (pc := 18) fC_X1_60 dX1_numberComes_18 (c_X3_within (nvT T (SK L T i) (FN L T (SK L T i))) lo hi g4 hlo hhi) rfl ⟨Nat.le_of_ble_eq_true rfl, Nat.le_of_ble_eq_true rfl⟩ rfl (Nat.le_of_ble_eq_true rfl) (fun h18 => ?_) (fun h18 => ?_)
      · refine J_if_eq_F (pc := 21) 28 dX1_numberComes_21 (by decide) (by decide) ?_
        refine J_iconst (pc := 24) (v := 1) dX1_numberComes_24 (by decide) ?_
        refine J_goto (pc := 25) 29 dX1_numberComes_25 (by decide) ?_
        refine J_zret (pc := 29) dX1_numberComes_29 rfl (by decide) ?_
        exact ⟨Or.inl ⟨rfl, ⟨⟨g1.1, g1.2⟩, h18.1, h18.2⟩, g3, g4⟩, hs3, hfr⟩
      · refine J_if_eq_T (pc := 21) 28 dX1_numberComes_21 (by decide) (by decide) ?_
        refine J_iconst (pc := 28) (v := 0) dX1_numberComes_28 (by decide) ?_
        refine J_zret (pc := 29) dX1_numberComes_29 rfl (by decide) ?_
        exact ⟨Or.inr ⟨rfl, fun hh => h18 hh.2⟩, hs3, hfr⟩
  · refine J_aload_n (pc := 4) dX1_numberComes_4 rfl ?_
    refine J_getI (pc := 5) fF_X1_25 rfl rfl dX1_numberComes_5 ?_
    refine J_iconst (pc := 8) (v := 2) dX1_numberComes_8 (by decide) ?_
    refine J_icmp_neW (pc := 9) 3 2 g2 rfl 28 dX1_numberComes_9 (by decide) (fun h9 => ?_) (fun h9 => ?_)
    · refine J_iconst (pc := 28) (v := 0) dX1_numberComes_28 (by decide) ?_
      refine J_zret (pc := 29) dX1_numberComes_29 rfl (by decide) ?_
      exact ⟨Or.inr ⟨rfl, fun hh => by have h1 := hh.1; omega⟩, hs3, hfr⟩
    · exfalso; omega
  · refine J_aload_n (pc := 4) dX1_numberComes_4 rfl ?_
    refine J_getI (pc := 5) fF_X1_25 rfl rfl dX1_numberComes_5 ?_
    refine J_iconst (pc := 8) (v := 2) dX1_numberComes_8 (by decide) ?_
    refine J_icmp_neW (pc := 9) 4 2 g2 rfl 28 dX1_numberComes_9 (by decide) (fun h9 => ?_) (fun h9 => ?_)
    · refine J_iconst (pc := 28) (v := 0) dX1_numberComes_28 (by decide) ?_
      refine J_zret (pc := 29) dX1_numberComes_29 rfl (by decide) ?_
      exact ⟨Or.inr ⟨rfl, fun hh => by have h1 := hh.1; omega⟩, hs3, hfr⟩
    · exfalso; omega
set_option maxRecDepth 100000 in
set_option maxHeartbeats 4000000 in
theorem l_spells {c : JM} {L : Nat} {T : Nat → Int} (hT : TX L T c) {i s : Nat} (hi : i < 5) (hs3 : (c.1 21 3).toInt = (s : Int)) (h1 : s < L ∧ 97 ≤ T s ∧ T s ≤ 122) (h2 : LN L T s = s + slZ i) (h2L : s + slZ i ≤ L) : ∀ d : Nat, ∀ (j : Nat) (jv : Int32), j + d = slZ i → jv.toInt = (j : Int) → (∀ x, x < j → T (s + x) = chZ i x) → J G shC mX1_spells 28 [some (.ref 21), some (.ref (1010 + i)), some (.int jv)] [] c (j_b (SPL L T s i) c c) := by
  intro d
  induction d with
  | zero =>
    intro j jv hd hjv hx
    have h5 := sl_5 ⟨i, hi⟩
    simp only at h5
    have hL150 := hT.2.1
    have hby : j < slZ i → byt L T (s + j) = T (s + j) := fun h => by unfold byt; rw [if_pos (by omega)]
    refine J_iload_n (pc := 28) dX1_spells_28 rfl ?_
    refine J_aload_n (pc := 29) dX1_spells_29 rfl ?_
    refine J_callR (pc := 30) (o := 1010 + i) (as := []) (st := [.int jv]) fC_X1_48 (fun s H locs sz _ _ hS hE => vk_recv (adK := fun i => j_ad G (1010 + i)) (i := i) hE.2.2.1.1 hi hS) dX1_spells_30 (c_length hi) rfl ⟨Nat.le_of_ble_eq_true rfl, Nat.le_of_ble_eq_true rfl⟩ rfl (Nat.le_of_ble_eq_true rfl) (fun v30 μ30 q30 => ?_)
    obtain ⟨⟨z30, rfl, e30⟩, rfl⟩ := q30
    refine J_icmp_geW (pc := 33) (j : Int) ((slZ i) : Int) hjv e30 62 dX1_spells_33 (by decide) (fun h33 => ?_) (fun h33 => ?_)
    · refine J_iconst (pc := 62) (v := 1) dX1_spells_62 (by decide) ?_
      refine J_zret (pc := 63) dX1_spells_63 rfl (by decide) ?_
      exact Or.inl ⟨⟨h1, h2, fun x hxl => hx x (by omega)⟩, rfl, rfl⟩
    · exfalso; omega
  | succ d ih =>
    intro j jv hd hjv hx
    have h5 := sl_5 ⟨i, hi⟩
    simp only at h5
    have hL150 := hT.2.1
    have hby : j < slZ i → byt L T (s + j) = T (s + j) := fun h => by unfold byt; rw [if_pos (by omega)]
    refine J_iload_n (pc := 28) dX1_spells_28 rfl ?_
    refine J_aload_n (pc := 29) dX1_spells_29 rfl ?_
    refine J_callR (pc := 30) (o := 1010 + i) (as := []) (st := [.int jv]) fC_X1_48 (fun s H locs sz _ _ hS hE => vk_recv (adK := fun i => j_ad G (1010 + i)) (i := i) hE.2.2.1.1 hi hS) dX1_spells_30 (c_length hi) rfl ⟨Nat.le_of_ble_eq_true rfl, Nat.le_of_ble_eq_true rfl⟩ rfl (Nat.le_of_ble_eq_true rfl) (fun v30 μ30 q30 => ?_)
    obtain ⟨⟨z30, rfl, e30⟩, rfl⟩ := q30
    refine J_icmp_geW (pc := 33) (j : Int) ((slZ i) : Int) hjv e30 62 dX1_spells_33 (by decide) (fun h33 => ?_) (fun h33 => ?_)
    · exfalso; omega
    · refine J_aload_n (pc := 36) dX1_spells_36 rfl ?_
      refine J_aload_n (pc := 37) dX1_spells_37 rfl ?_
      refine J_getI (pc := 38) fF_X1_22 rfl rfl dX1_spells_38 ?_
      refine J_iload_n (pc := 41) dX1_spells_41 rfl ?_
      refine J_iaddW (pc := 42) (s : Int) (j : Int) hs3 hjv dX1_spells_42 (by omega) (fun z42 e42 => ?_)
      refine J_callVz (pc := 43) fC_X1_31 rfl dX1_spells_43 (c_X1_byteAt hT (s + j) (by rw [e42]; omega)) rfl ⟨Nat.le_of_ble_eq_true rfl, Nat.le_of_ble_eq_true rfl⟩ rfl (Nat.le_of_ble_eq_true rfl) (fun z43 e43 => ?_)
      refine J_aload_n (pc := 46) dX1_spells_46 rfl ?_
      refine J_iload_n (pc := 47) dX1_spells_47 rfl ?_
      refine J_callR (pc := 48) (o := 1010 + i) (as := [.int jv]) (st := [.int z43]) fC_X1_53 (fun s H locs sz _ _ hS hE => vk_recv (adK := fun i => j_ad G (1010 + i)) (i := i) hE.2.2.1.1 hi hS) dX1_spells_48 (c_charAt (k := j) hi hjv (by omega)) rfl ⟨Nat.le_of_ble_eq_true rfl, Nat.le_of_ble_eq_true rfl⟩ rfl (Nat.le_of_ble_eq_true rfl) (fun v48 μ48 q48 => ?_)
      obtain ⟨⟨z48, rfl, e48⟩, rfl⟩ := q48
      refine J_icmp_eqW (pc := 51) (byt L T (s + j)) (chZ i j) e43 e48 56 dX1_spells_51 (by decide) (fun h51 => ?_) (fun h51 => ?_)
      · refine J_iincW' (pc := 56) (j : Int) hjv (lv' := fun iq_ => [some (.ref 21), some (.ref (1010 + i)), some (.int iq_)]) dX1_spells_56 rfl (by omega) (by decide) (Nat.le_of_ble_eq_true rfl) rfl (fun _ => rfl) (fun z56 e56 => ?_)
        refine J_goto (pc := 59) 28 dX1_spells_59 (by decide) ?_
        exact J_lv' (lv' := [some (.ref 21), some (.ref (1010 + i)), some (.int z56)]) (by repeat' constructor) (ih (j + 1) z56 (by omega) (by omega) (fun x hxl => by rcases (by omega : x < j ∨ x = j) with h3 | rfl; exact hx x h3; rw [← hby (by omega)]; exact h51))
      · refine J_iconst (pc := 54) (v := 0) dX1_spells_54 (by decide) ?_
        refine J_zret (pc := 55) dX1_spells_55 rfl (by decide) ?_
        exact Or.inr ⟨fun hh => h51 (by rw [← hh.2.2 j (by omega), ← hby (by omega)]), rfl, rfl⟩
set_option maxRecDepth 100000 in
set_option maxHeartbeats 4000000 in
theorem c_X1_spells {c : JM} {L : Nat} {T : Nat → Int} (hT : TX L T c) {s i : Nat} (hi : i < 5) (hk : tkR L T s c) : Con G shC mX1_spells [.ref 21, .ref (1010 + i)] c (j_b (SPL L T s i) c c) := by
  refine Con_of [some (.ref 21), some (.ref (1010 + i)), none] (by decide +kernel) (Nat.le_of_ble_eq_true rfl) (fun _ h => h) ?_
  obtain ⟨hs3, htk⟩ := hk
  rcases htk with ⟨g1, g2, g3⟩ | ⟨g1, g2, g3⟩ | ⟨g1, g2, g3, g4⟩ | ⟨g1, g2, g3⟩ | ⟨g1, g2, g3⟩
  · refine J_aload_n (pc := 0) dX1_spells_0 rfl ?_
    refine J_getI (pc := 1) fF_X1_25 rfl rfl dX1_spells_1 ?_
    refine J_iconst (pc := 4) (v := 1) dX1_spells_4 (by decide) ?_
    refine J_icmp_neW (pc := 5) 0 1 g2 rfl 24 dX1_spells_5 (by decide) (fun h5 => ?_) (fun h5 => ?_)
    · refine J_iconst (pc := 24) (v := 0) dX1_spells_24 (by decide) ?_
      refine J_zret (pc := 25) dX1_spells_25 rfl (by decide) ?_
      exact Or.inr ⟨fun hh => by have h1 := hh.1; omega, rfl, rfl⟩
    · exfalso; omega
  · have hL150 := hT.2.1
    have hln := LN_r (T := T) (i := s) (by omega) hT.2.1
    refine J_aload_n (pc := 0) dX1_spells_0 rfl ?_
    refine J_getI (pc := 1) fF_X1_25 rfl rfl dX1_spells_1 ?_
    refine J_iconst (pc := 4) (v := 1) dX1_spells_4 (by decide) ?_
    refine J_icmp_neW (pc := 5) 1 1 g2 rfl 24 dX1_spells_5 (by decide) (fun h5 => ?_) (fun h5 => ?_)
    · exfalso; omega
    · refine J_aload_n (pc := 8) dX1_spells_8 rfl ?_
      refine J_getI (pc := 9) fF_X1_19 rfl rfl dX1_spells_9 ?_
      refine J_aload_n (pc := 12) dX1_spells_12 rfl ?_
      refine J_getI (pc := 13) fF_X1_22 rfl rfl dX1_spells_13 ?_
      refine J_isubW (pc := 16) (LN L T s : Int) (s : Int) g3 hs3 dX1_spells_16 (by omega) (fun z16 e16 => ?_)
      refine J_aload_n (pc := 17) dX1_spells_17 rfl ?_
      refine J_callR (pc := 18) (o := 1010 + i) (as := []) (st := [.int z16]) fC_X1_48 (fun s H locs sz _ _ hS hE => vk_recv (adK := fun i => j_ad G (1010 + i)) (i := i) hE.2.2.1.1 hi hS) dX1_spells_18 (c_length hi) rfl ⟨Nat.le_of_ble_eq_true rfl, Nat.le_of_ble_eq_true rfl⟩ rfl (Nat.le_of_ble_eq_true rfl) (fun v18 μ18 q18 => ?_)
      obtain ⟨⟨z18, rfl, e18⟩, rfl⟩ := q18
      refine J_icmp_eqW (pc := 21) ((LN L T s : Int) - (s : Int)) ((slZ i) : Int) e16 e18 26 dX1_spells_21 (by decide) (fun h21 => ?_) (fun h21 => ?_)
      · refine J_iconst (pc := 26) (v := 0) dX1_spells_26 (by decide) ?_
        refine J_istore_n (pc := 27) (lv' := [some (.ref 21), some (.ref (1010 + i)), some (.int 0)]) dX1_spells_27 (Nat.le_of_ble_eq_true rfl) rfl rfl ?_
        exact l_spells hT hi hs3 g1 (by omega) (by omega) (slZ i) 0 0 (by omega) rfl (fun x hx => absurd hx (by omega))
      · refine J_iconst (pc := 24) (v := 0) dX1_spells_24 (by decide) ?_
        refine J_zret (pc := 25) dX1_spells_25 rfl (by decide) ?_
        exact Or.inr ⟨fun hh => by have h1 := hh.2.1; omega, rfl, rfl⟩
  · refine J_aload_n (pc := 0) dX1_spells_0 rfl ?_
    refine J_getI (pc := 1) fF_X1_25 rfl rfl dX1_spells_1 ?_
    refine J_iconst (pc := 4) (v := 1) dX1_spells_4 (by decide) ?_
    refine J_icmp_neW (pc := 5) 2 1 g2 rfl 24 dX1_spells_5 (by decide) (fun h5 => ?_) (fun h5 => ?_)
    · refine J_iconst (pc := 24) (v := 0) dX1_spells_24 (by decide) ?_
      refine J_zret (pc := 25) dX1_spells_25 rfl (by decide) ?_
      exact Or.inr ⟨fun hh => by have h1 := hh.1; omega, rfl, rfl⟩
    · exfalso; omega
  · refine J_aload_n (pc := 0) dX1_spells_0 rfl ?_
    refine J_getI (pc := 1) fF_X1_25 rfl rfl dX1_spells_1 ?_
    refine J_iconst (pc := 4) (v := 1) dX1_spells_4 (by decide) ?_
    refine J_icmp_neW (pc := 5) 3 1 g2 rfl 24 dX1_spells_5 (by decide) (fun h5 => ?_) (fun h5 => ?_)
    · refine J_iconst (pc := 24) (v := 0) dX1_spells_24 (by decide) ?_
      refine J_zret (pc := 25) dX1_spells_25 rfl (by decide) ?_
      exact Or.inr ⟨fun hh => by have h1 := hh.1; omega, rfl, rfl⟩
    · exfalso; omega
  · refine J_aload_n (pc := 0) dX1_spells_0 rfl ?_
    refine J_getI (pc := 1) fF_X1_25 rfl rfl dX1_spells_1 ?_
    refine J_iconst (pc := 4) (v := 1) dX1_spells_4 (by decide) ?_
    refine J_icmp_neW (pc := 5) 4 1 g2 rfl 24 dX1_spells_5 (by decide) (fun h5 => ?_) (fun h5 => ?_)
    · refine J_iconst (pc := 24) (v := 0) dX1_spells_24 (by decide) ?_
      refine J_zret (pc := 25) dX1_spells_25 rfl (by decide) ?_
      exact Or.inr ⟨fun hh => by have h1 := hh.1; omega, rfl, rfl⟩
    · exfalso; omega

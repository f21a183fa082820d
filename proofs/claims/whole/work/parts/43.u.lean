/-! ===== talks: seek, shortestIn, longestOut, fewest, delay ===== -/
def fwR (k wr ht a p n b : Int) (i : Int) (v : Option Value) : Prop :=
  (b = 2 ∧ IsZ v (-1)) ∨ (b = 1 ∧ IsZ v (if i = -1 then 0 else -5)) ∨ (b = 0 ∧ (∀ l : Nat, 1 ≤ l → l ≤ 12 → ¬ rc k wr ht 1 false l a p n) ∧ IsZ v (-1)) ∨
  (b = 0 ∧ ∃ (l : Nat) (g : Nat → Int), (1 ≤ l ∧ l ≤ 12) ∧ rc k wr ht 1 false l a p n ∧ (∀ l', 1 ≤ l' → l' < l → ¬ rc k wr ht 1 false l' a p n) ∧ rowR k wr ht 1 false l a p n g ∧ IsZ v (if i = -1 then (l : Int) else if (l : Int) ≤ i then -5 else g i.toNat))
theorem fwR_eq {k wr ht a p n b i : Int} {v w : Option Value} (hi : -1 ≤ i) (h : fwR k wr ht a p n b i v) (h' : fwR k wr ht a p n b i w) : v = w ∧ ∃ z : Int32, v = some (.int z) := by
  rcases h with ⟨h1, h2⟩ | ⟨h1, h2⟩ | ⟨h1, h2, h3⟩ | ⟨h1, l, g, h2, h3, h4, h5, h6⟩
  · rcases h' with ⟨g1, g2⟩ | ⟨g1, g2⟩ | ⟨g1, g2, g3⟩ | ⟨g1, l', g', g2, g3, g4, g5, g6⟩
    · exact IsZ_eq h2 g2
    all_goals omega
  · rcases h' with ⟨g1, g2⟩ | ⟨g1, g2⟩ | ⟨g1, g2, g3⟩ | ⟨g1, l', g', g2, g3, g4, g5, g6⟩
    · omega
    · exact IsZ_eq h2 g2
    all_goals omega
  · rcases h' with ⟨g1, g2⟩ | ⟨g1, g2⟩ | ⟨g1, g2, g3⟩ | ⟨g1, l', g', g2, g3, g4, g5, g6⟩
    · omega
    · omega
    · exact IsZ_eq h3 g3
    · exact absurd g3 (h2 l' g2.1 g2.2)
  · rcases h' with ⟨g1, g2⟩ | ⟨g1, g2⟩ | ⟨g1, g2, g3⟩ | ⟨g1, l', g', g2, g3, g4, g5, g6⟩
    · omega
    · omega
    · exact absurd h3 (g2 l h2.1 h2.2)
    · have e : l = l' := by
        rcases Nat.lt_trichotomy l l' with q | q | q
        · exact absurd h3 (g4 l h2.1 q)
        · exact q
        · exact absurd g3 (h4 l' g2.1 q)
      subst e
      refine IsZ_eq h6 ?_
      by_cases e1 : i = -1
      · rw [if_pos e1] at g6 ⊢; exact g6
      · by_cases e2 : (l : Int) ≤ i
        · rw [if_neg e1, if_pos e2] at g6 ⊢; exact g6
        · rw [if_neg e1, if_neg e2] at g6 ⊢; rw [rowR_eq l a p n g g' h5 g5 i.toNat (by omega)]; exact g6
def dlR (k wr ht a p n b : Int) (br : Bool) (i : Int) (v : Option Value) : Prop :=
  (b ≠ 0 ∧ IsZ v (if i = -1 then 0 else -5)) ∨ (b = 0 ∧ (∀ l : Nat, 1 ≤ l → l ≤ 12 → ¬ rc k wr ht 0 br l a p n) ∧ IsZ v (if i = -1 then 0 else -5)) ∨
  (b = 0 ∧ ∃ (l : Nat) (g : Nat → Int), (1 ≤ l ∧ l ≤ 12) ∧ rc k wr ht 0 br l a p n ∧ (∀ l', l < l' → l' ≤ 12 → ¬ rc k wr ht 0 br l' a p n) ∧ rowR k wr ht 0 br l a p n g ∧ IsZ v (if i = -1 then (l : Int) else if (l : Int) ≤ i then -5 else g i.toNat))
theorem dlR_eq {k wr ht a p n b i : Int} {br : Bool} {v w : Option Value} (hi : -1 ≤ i) (h : dlR k wr ht a p n b br i v) (h' : dlR k wr ht a p n b br i w) : v = w ∧ ∃ z : Int32, v = some (.int z) := by
  rcases h with ⟨h1, h2⟩ | ⟨h1, h2, h3⟩ | ⟨h1, l, g, h2, h3, h4, h5, h6⟩
  · rcases h' with ⟨g1, g2⟩ | ⟨g1, g2, g3⟩ | ⟨g1, l', g', g2, g3, g4, g5, g6⟩
    · exact IsZ_eq h2 g2
    all_goals omega
  · rcases h' with ⟨g1, g2⟩ | ⟨g1, g2, g3⟩ | ⟨g1, l', g', g2, g3, g4, g5, g6⟩
    · omega
    · exact IsZ_eq h3 g3
    · exact absurd g3 (h2 l' g2.1 g2.2)
  · rcases h' with ⟨g1, g2⟩ | ⟨g1, g2, g3⟩ | ⟨g1, l', g', g2, g3, g4, g5, g6⟩
    · omega
    · exact absurd h3 (g2 l h2.1 h2.2)
    · have e : l = l' := by
        rcases Nat.lt_trichotomy l l' with q | q | q
        · exact absurd g3 (h4 l' q g2.2)
        · exact q
        · exact absurd h3 (g4 l q h2.2)
      subst e
      refine IsZ_eq h6 ?_
      by_cases e1 : i = -1
      · rw [if_pos e1] at g6 ⊢; exact g6
      · by_cases e2 : (l : Int) ≤ i
        · rw [if_neg e1, if_pos e2] at g6 ⊢; exact g6
        · rw [if_neg e1, if_neg e2] at g6 ⊢; rw [rowR_eq l a p n g g' h5 g5 i.toNat (by omega)]; exact g6
theorem nI_tk : (nI 10000).toInt = 10000 := by decide
variable {G : JG}
set_option maxRecDepth 100000 in
set_option maxHeartbeats 4000000 in
theorem l_fill {c : JM} {v : Int32} : ∀ d : Nat, ∀ (i : Nat) (iv : Int32) (ν : JM), i + d = 10000 → iv.toInt = (i : Int) → (∀ j, j < i → ν.1 25 j = v) → (∀ a, a ≠ 25 → ν.1 a = c.1 a) → ν.2 = c.2 → J G shC mJ7_fill_53178 5 [some (.ref 25), some (.int v), some (.int iv), some (.int (nI 10000))] [] ν (fun w μ' => w = none ∧ (∀ j, j < 10000 → μ'.1 25 j = v) ∧ (∀ a, a ≠ 25 → μ'.1 a = c.1 a) ∧ μ'.2 = c.2) := by
  intro d
  induction d with
  | zero =>
    intro i iv ν hd hi hj ho hl
    refine J_iload_n (pc := 5) dJ7_fill_53178_5 rfl ?_
    refine J_iload_n (pc := 6) dJ7_fill_53178_6 rfl ?_
    refine J_icmp_geW (pc := 7) (i : Int) 10000 hi nI_tk 20 dJ7_fill_53178_7 (by decide) (fun h7 => ?_) (fun h7 => ?_)
    · refine J_vret (pc := 20) dJ7_fill_53178_20 rfl ?_
      exact ⟨rfl, fun j hj2 => hj j (by omega), ho, hl⟩
    · exfalso; omega
  | succ d ih =>
    intro i iv ν hd hi hj ho hl
    refine J_iload_n (pc := 5) dJ7_fill_53178_5 rfl ?_
    refine J_iload_n (pc := 6) dJ7_fill_53178_6 rfl ?_
    refine J_icmp_geW (pc := 7) (i : Int) 10000 hi nI_tk 20 dJ7_fill_53178_7 (by decide) (fun h7 => ?_) (fun h7 => ?_)
    · exfalso; omega
    · refine J_aload_n (pc := 10) dJ7_fill_53178_10 rfl ?_
      refine J_iload_n (pc := 11) dJ7_fill_53178_11 rfl ?_
      refine J_iload_n (pc := 12) dJ7_fill_53178_12 rfl ?_
      refine J_iastW (pc := 13) i (by have q := hi; omega) rfl (by omega) dJ7_fill_53178_13 (fun μ13 m13 => ?_)
      refine J_iincW' (pc := 14) (i : Int) hi (lv' := fun iq_ => [some (.ref 25), some (.int v), some (.int iq_), some (.int (nI 10000))]) dJ7_fill_53178_14 rfl (by omega) (by decide) (Nat.le_of_ble_eq_true rfl) rfl (fun _ => rfl) (fun z14 e14 => ?_)
      refine J_goto (pc := 17) 5 dJ7_fill_53178_17 (by decide) ?_
      refine ih (i + 1) z14 μ13 (by omega) (by omega) (fun j hj2 => ?_) (fun a ha => by rw [m13, jI_ne ha]; exact ho a ha) (by rw [m13]; exact hl)
      rw [m13, jI_i]
      by_cases e : j = i
      · rw [if_pos ⟨rfl, e⟩]
      · rw [if_neg (fun z => e z.2)]; exact hj j (by omega)
set_option maxRecDepth 100000 in
set_option maxHeartbeats 4000000 in
theorem c_fill {c : JM} {v : Int32} : Con G shC mJ7_fill_53178 [.ref 25, .int v] c (fun w μ' => w = none ∧ (∀ j, j < 10000 → μ'.1 25 j = v) ∧ (∀ a, a ≠ 25 → μ'.1 a = c.1 a) ∧ μ'.2 = c.2) := by
  refine Con_of [some (.ref 25), some (.int v), none, none] (by decide +kernel) (Nat.le_of_ble_eq_true rfl) (fun _ h => h) ?_
  refine J_iconst (pc := 0) (v := 0) dJ7_fill_53178_0 (by decide) ?_
  refine J_istore_n (pc := 1) (lv' := [some (.ref 25), some (.int v), some (.int 0), none]) dJ7_fill_53178_1 (Nat.le_of_ble_eq_true rfl) rfl rfl ?_
  refine J_aload_n (pc := 2) dJ7_fill_53178_2 rfl ?_
  refine J_alen (pc := 3) rfl dJ7_fill_53178_3 ?_
  refine J_istore_n (pc := 4) (lv' := [some (.ref 25), some (.int v), some (.int 0), some (.int (nI 10000))]) dJ7_fill_53178_4 (Nat.le_of_ble_eq_true rfl) rfl rfl ?_
  exact l_fill 10000 0 0 c (by omega) rfl (fun j hj => absurd hj (by omega)) (fun _ _ => rfl) rfl
set_option maxRecDepth 100000 in
set_option maxHeartbeats 4000000 in
theorem l_seek {c : JM} {k : Int} (hk5 : 0 ≤ k ∧ k ≤ 5) (hk : (c.1 1 0).toInt = k) {ev bv : Int32} : ∀ d : Nat, ∀ (i : Nat) (iv : Int32) (μ : JM) (mp : Int), i + d = 6 → iv.toInt = (i : Int) → (μ.1 23 5).toInt = mp → (0 ≤ mp ∧ mp ≤ 4) → (∀ w : Nat, w < i → pZ k w 0 ≤ mp) → (∀ o, o ≠ 23 → μ.1 o = c.1 o) → (∀ j, j ≠ 5 → μ.1 23 j = c.1 23 j) → μ.2 = c.2 → J G shC mX2_seek 44 [some (.ref 23), some (.ref 1), some (.int ev), some (.int bv), some (.int iv)] [] μ (fun v μ' => v = none ∧ (0 ≤ (μ'.1 23 5).toInt ∧ (μ'.1 23 5).toInt ≤ 4) ∧ (∀ w : Nat, w < 6 → pZ k w 0 ≤ (μ'.1 23 5).toInt) ∧ (∀ o, o ≠ 23 → μ'.1 o = c.1 o) ∧ (∀ j, j ≠ 5 → μ'.1 23 j = c.1 23 j) ∧ μ'.2 = c.2) := by
  intro d
  induction d with
  | zero =>
    intro i iv μ mp hd hi h5 hm hw ho hj hl
    have hk2 : (μ.1 1 0).toInt = k := by rw [ho 1 (by omega)]; exact hk
    have hpz := pZ_rng k (i : Int) 0
    refine J_iload (pc := 44) dX2_seek_44 rfl ?_
    refine J_bipush (pc := 46) (v := 6) dX2_seek_46 (by decide) ?_
    refine J_icmp_geW (pc := 48) (i : Int) 6 hi rfl 78 dX2_seek_48 (by decide) (fun h48 => ?_) (fun h48 => ?_)
    · refine J_vret (pc := 78) dX2_seek_78 rfl ?_
      exact ⟨rfl, by rw [h5]; exact hm, fun w hw6 => by rw [h5]; exact hw w (by omega), ho, hj, hl⟩
    · exfalso; omega
  | succ d ih =>
    intro i iv μ mp hd hi h5 hm hw ho hj hl
    have hk2 : (μ.1 1 0).toInt = k := by rw [ho 1 (by omega)]; exact hk
    have hpz := pZ_rng k (i : Int) 0
    refine J_iload (pc := 44) dX2_seek_44 rfl ?_
    refine J_bipush (pc := 46) (v := 6) dX2_seek_46 (by decide) ?_
    refine J_icmp_geW (pc := 48) (i : Int) 6 hi rfl 78 dX2_seek_48 (by decide) (fun h48 => ?_) (fun h48 => ?_)
    · exfalso; omega
    · refine J_aload_n (pc := 51) dX2_seek_51 rfl ?_
      refine J_aload_n (pc := 52) dX2_seek_52 rfl ?_
      refine J_getI (pc := 53) fF_X2_78 rfl rfl dX2_seek_53 ?_
      refine J_aload_n (pc := 56) dX2_seek_56 rfl ?_
      refine J_getI (pc := 57) fF_X2_68 rfl rfl dX2_seek_57 ?_
      refine J_iload (pc := 60) dX2_seek_60 rfl ?_
      refine J_iconst (pc := 62) (v := 0) dX2_seek_62 (by decide) ?_
      refine J_callSz (pc := 63) fC_X2_71 dX2_seek_63 (c_X3_prideMove k (i : Int) 0 hk2 hi rfl (by omega)) rfl ⟨Nat.le_of_ble_eq_true rfl, Nat.le_of_ble_eq_true rfl⟩ rfl (Nat.le_of_ble_eq_true rfl) (fun z63 e63 => ?_)
      refine J_maxW (pc := 66) mp (pZ k (i : Int) 0) h5 e63 ⟨big_t 462 (by decide +kernel) (by decide +kernel), big_t 370 (by decide +kernel) (by decide +kernel), big_t 11 (by decide +kernel) (by decide +kernel), big_t 371 (by decide +kernel) (by decide +kernel)⟩ (Nat.le_of_ble_eq_true rfl) (Nat.le_of_ble_eq_true rfl) dX2_seek_66 (fun z66 e66 => ?_)
      refine J_putIW (pc := 69) fF_X2_78 rfl rfl dX2_seek_69 (fun μ69 m69 => ?_)
      refine J_iincW' (pc := 72) (i : Int) hi (lv' := fun iq_ => [some (.ref 23), some (.ref 1), some (.int ev), some (.int bv), some (.int iq_)]) dX2_seek_72 rfl (by omega) (by decide) (Nat.le_of_ble_eq_true rfl) rfl (fun _ => rfl) (fun z72 e72 => ?_)
      refine J_goto (pc := 75) 44 dX2_seek_75 (by decide) ?_
      refine ih (i + 1) z72 μ69 (if mp < pZ k (i : Int) 0 then pZ k (i : Int) 0 else mp) (by omega) (by omega) (by rw [m69, jI_i, if_pos ⟨rfl, rfl⟩]; exact e66) (by omega) (fun w hw6 => ?_) (fun o h => by rw [m69, jI_ne h]; exact ho o h) (fun j h => by rw [m69, jI_i, if_neg (fun z => h z.2)]; exact hj j h) (by rw [m69]; exact hl)
      rcases (by omega : w < i ∨ w = i) with h7 | rfl
      · have := hw w h7; omega
      · omega
set_option maxRecDepth 100000 in
set_option maxHeartbeats 4000000 in
theorem c_X2_seek {c : JM} {k wr ht e : Int} {br : Bool} (hk5 : 0 ≤ k ∧ k ≤ 5) (hk : (c.1 1 0).toInt = k) (hwr : (c.1 1 1).toInt = wr) (hht : (c.1 1 2).toInt = ht) {ev bv : Int32} (hev : ev.toInt = e) (hbv : bv.toInt = (if br = true then 1 else 0)) (hb01 : bv = 0 ∨ bv = 1) : Con G shC mX2_seek [.ref 23, .ref 1, .int ev, .int bv] c (fun v μ' => v = none ∧ (∃ mp dp : Int, tk k wr ht e mp dp br μ' ∧ (0 ≤ mp ∧ mp ≤ 4) ∧ (-4 ≤ dp ∧ dp ≤ 4) ∧ (∀ (w : Nat) (n : Int), w < 6 → pZ k w n ≤ mp) ∧ (∀ n : Int, pZ k 1 n ≤ dp)) ∧ FI k wr ht e br μ' ∧ (∀ o, o ≠ 23 → o ≠ 25 → μ'.1 o = c.1 o) ∧ μ'.2 = c.2) := by
  refine Con_of [some (.ref 23), some (.ref 1), some (.int ev), some (.int bv), none] (by decide +kernel) (Nat.le_of_ble_eq_true rfl) (fun _ h => h) ?_
  refine J_aload_n (pc := 0) dX2_seek_0 rfl ?_
  refine J_aload_n (pc := 1) dX2_seek_1 rfl ?_
  refine J_putNW (pc := 2) fF_X2_18 rfl rfl dX2_seek_2 (fun μ2 m2 => ?_)
  refine J_aload_n (pc := 5) dX2_seek_5 rfl ?_
  refine J_iload_n (pc := 6) dX2_seek_6 rfl ?_
  refine J_putIW (pc := 7) fF_X2_55 rfl rfl dX2_seek_7 (fun μ7 m7 => ?_)
  refine J_aload_n (pc := 10) dX2_seek_10 rfl ?_
  refine J_iload_n (pc := 11) dX2_seek_11 rfl ?_
  refine J_putZW (pc := 12) (hb01) fF_X2_58 rfl rfl dX2_seek_12 (fun μ12 m12 => ?_)
  refine J_aload_n (pc := 15) dX2_seek_15 rfl ?_
  refine J_getR (pc := 16) 25 fF_X2_15 rfl rfl dX2_seek_16 ?_
  refine J_iconst (pc := 19) (v := 0) dX2_seek_19 (by decide) ?_
  refine J_callSq (pc := 20) fC_X2_62 dX2_seek_20 (c_fill) rfl ⟨Nat.le_of_ble_eq_true rfl, Nat.le_of_ble_eq_true rfl⟩ rfl (Nat.le_of_ble_eq_true rfl) (fun v20 μ20 q20 => ?_)
  obtain ⟨rfl, hz0, hzo, hzl⟩ := q20
  have hk20 : (μ20.1 1 0).toInt = k := by rw [hzo 1 (by omega), m12, jI_ne (by decide), m7, jI_ne (by decide), m2, jI_ne (by decide)]; exact hk
  refine J_aload_n (pc := 23) dX2_seek_23 rfl ?_
  refine J_aload_n (pc := 24) dX2_seek_24 rfl ?_
  refine J_getI (pc := 25) fF_X2_68 rfl rfl dX2_seek_25 ?_
  refine J_iconst (pc := 28) (v := 1) dX2_seek_28 (by decide) ?_
  refine J_iconst (pc := 29) (v := 0) dX2_seek_29 (by decide) ?_
  refine J_callSz (pc := 30) fC_X2_71 dX2_seek_30 (c_X3_prideMove k 1 0 hk20 rfl rfl (by omega)) rfl ⟨Nat.le_of_ble_eq_true rfl, Nat.le_of_ble_eq_true rfl⟩ rfl (Nat.le_of_ble_eq_true rfl) (fun z30 e30 => ?_)
  refine J_putIW (pc := 33) fF_X2_75 rfl rfl dX2_seek_33 (fun μ33 m33 => ?_)
  refine J_aload_n (pc := 36) dX2_seek_36 rfl ?_
  refine J_iconst (pc := 37) (v := 0) dX2_seek_37 (by decide) ?_
  refine J_putIW (pc := 38) fF_X2_78 rfl rfl dX2_seek_38 (fun μ38 m38 => ?_)
  refine J_iconst (pc := 41) (v := 0) dX2_seek_41 (by decide) ?_
  refine J_istore (pc := 42) (lv' := [some (.ref 23), some (.ref 1), some (.int ev), some (.int bv), some (.int 0)]) dX2_seek_42 (Nat.le_of_ble_eq_true rfl) rfl rfl ?_
  refine J_mono (l_seek (c := μ38) hk5 (by rw [m38, jI_ne (by decide), m33, jI_ne (by decide)]; exact hk20) 6 0 0 μ38 0 (by omega) rfl (by rw [m38, jI_i, if_pos ⟨rfl, rfl⟩]; rfl) (by omega) (fun w hw => absurd hw (by omega)) (fun _ _ => rfl) (fun _ _ => rfl) rfl) (fun v μ' hh => ?_)
  obtain ⟨h1, h2, h3, ho, hj, hl⟩ := hh
  refine ⟨h1, ⟨(μ'.1 23 5).toInt, pZ k 1 0, ⟨?_, ?_, ?_, ?_, ?_, ?_, rfl, ?_⟩, h2, ?_, ?_, ?_⟩, ?_, ?_, ?_⟩
  · rw [ho 1 (by omega), m38, jI_ne (by decide), m33, jI_ne (by decide)]; exact hk20
  · rw [ho 1 (by omega), m38, jI_ne (by decide), m33, jI_ne (by decide), hzo 1 (by omega), m12, jI_ne (by decide), m7, jI_ne (by decide), m2, jI_ne (by decide)]; exact hwr
  · rw [ho 1 (by omega), m38, jI_ne (by decide), m33, jI_ne (by decide), hzo 1 (by omega), m12, jI_ne (by decide), m7, jI_ne (by decide), m2, jI_ne (by decide)]; exact hht
  · rw [hj _ (by decide), m38, jI_i, if_neg (by decide), m33, jI_i, if_neg (by decide), hzo 23 (by decide), m12, jI_i, if_neg (by decide), m7, jI_i, if_neg (by decide), m2, jI_i, if_pos ⟨rfl, rfl⟩]; decide
  · rw [hj _ (by decide), m38, jI_i, if_neg (by decide), m33, jI_i, if_neg (by decide), hzo 23 (by decide), m12, jI_i, if_neg (by decide), m7, jI_i, if_pos ⟨rfl, rfl⟩]; exact hev
  · rw [hj _ (by decide), m38, jI_i, if_neg (by decide), m33, jI_i, if_neg (by decide), hzo 23 (by decide), m12, jI_i, if_pos ⟨rfl, rfl⟩]; exact hbv
  · rw [hj _ (by decide), m38, jI_i, if_neg (by decide), m33, jI_i, if_pos ⟨rfl, rfl⟩]; exact e30
  · have := pZ_rng k 1 0; omega
  · intro w n hw; have h4 := h3 w hw; rcases pZ_0 (k := k) (w := w) (n := n) with h5 | h5 <;> omega
  · exact fun n => pZ_d
  · refine FI_0 (fun j hj2 => ?_)
    rw [ho 25 (by omega), m38, jI_ne (by decide), m33, jI_ne (by decide)]; exact hz0 j hj2
  · intro o o1 o2; rw [ho o o1, m38, jI_ne o1, m33, jI_ne o1, hzo o o2, m12, jI_ne o1, m7, jI_ne o1, m2, jI_ne o1]
  · rw [hl, m38, jI_l, m33, jI_l, hzl, m12, jI_l, m7, jI_l, m2]; rfl
set_option maxRecDepth 100000 in
set_option maxHeartbeats 4000000 in
theorem l_short {k wr ht e mp dp a p n : Int} {br : Bool} (hht1 : 1 ≤ ht) (hmp : 0 ≤ mp ∧ mp ≤ 4) (hdp : -4 ≤ dp ∧ dp ≤ 4) (hmP : ∀ (w : Nat) (n : Int), w < 6 → pZ k w n ≤ mp) (hdP : ∀ n : Int, pZ k 1 n ≤ dp) {c : JM} (h3 : (c.1 1 3).toInt = mZ a p 0) (h4 : (c.1 1 4).toInt = n) (hr : 0 ≤ a ∧ a ≤ 99 ∧ 0 ≤ p ∧ p ≤ 99) (hn : 0 ≤ n ∧ n < 200000) {bv : Int32} : ∀ d : Nat, ∀ (l : Nat) (iv : Int32) (μ : JM), l + d = 12 → iv.toInt = (l : Int) + 1 → FI k wr ht e br μ → tk k wr ht e mp dp br μ → fr45 c μ → (∀ l', 1 ≤ l' → l' ≤ l → ¬ rc k wr ht e br l' a p n) → J G shC mX2_shortestIn 32 [some (.ref 23), some (.ref 1), some (.int bv), some (.int iv)] [] μ (fun v μ' => (((∀ l : Nat, 1 ≤ l → l ≤ 12 → ¬ rc k wr ht e br l a p n) ∧ IsZ v (-1)) ∨ (∃ l : Nat, (1 ≤ l ∧ l ≤ 12) ∧ (∀ l', 1 ≤ l' → l' < l → ¬ rc k wr ht e br l' a p n) ∧ rowR k wr ht e br l a p n (fun j => (μ'.1 24 j).toInt) ∧ IsZ v (l : Int))) ∧ fr45 c μ') := by
  intro d
  induction d with
  | zero =>
    intro l iv μ hd hi hFI hT hfr hno
    refine J_iload_n (pc := 32) dX2_shortestIn_32 rfl ?_
    refine J_bipush (pc := 33) (v := 12) dX2_shortestIn_33 (by decide) ?_
    refine J_icmp_gtW (pc := 35) ((l : Int) + 1) 12 hi rfl 63 dX2_shortestIn_35 (by decide) (fun h35 => ?_) (fun h35 => ?_)
    · refine J_iconst (pc := 63) (v := (-1)) dX2_shortestIn_63 (by decide) ?_
      refine J_iret (pc := 64) dX2_shortestIn_64 rfl ?_
      exact ⟨Or.inl ⟨fun l' h1 h2 => hno l' h1 (by omega), ⟨_, rfl, rfl⟩⟩, hfr⟩
    · exfalso; omega
  | succ d ih =>
    intro l iv μ hd hi hFI hT hfr hno
    refine J_iload_n (pc := 32) dX2_shortestIn_32 rfl ?_
    refine J_bipush (pc := 33) (v := 12) dX2_shortestIn_33 (by decide) ?_
    refine J_icmp_gtW (pc := 35) ((l : Int) + 1) 12 hi rfl 63 dX2_shortestIn_35 (by decide) (fun h35 => ?_) (fun h35 => ?_)
    · exfalso; omega
    · refine J_aload_n (pc := 38) dX2_shortestIn_38 rfl ?_
      refine J_aload_n (pc := 39) dX2_shortestIn_39 rfl ?_
      refine J_getI (pc := 40) fF_X2_34 rfl rfl dX2_shortestIn_40 ?_
      refine J_aload_n (pc := 43) dX2_shortestIn_43 rfl ?_
      refine J_getI (pc := 44) fF_X2_48 rfl rfl dX2_shortestIn_44 ?_
      refine J_iconst (pc := 47) (v := 0) dX2_shortestIn_47 (by decide) ?_
      refine J_iload_n (pc := 48) dX2_shortestIn_48 rfl ?_
      refine J_callSq (pc := 49) (fC_X2_51 l) dX2_shortestIn_49 (c_X2_reaches hht1 hmp hdp hmP hdP l μ _ _ _ _ a p n 0 hT hFI ((by rw [hfr.1 1 (by omega) (by omega)]; exact h3)) ((by rw [hfr.1 1 (by omega) (by omega)]; exact h4)) rfl (hi) hr (by omega) (by omega)) rfl ⟨by show 2 * (4 + l) + 2 + 1 ≤ 38; omega, by show 8 + (10 + 11) + (60 * (4 + l) + 60) ≤ 1140; omega⟩ rfl (Nat.le_of_ble_eq_true rfl) (fun v49 μ49 q49 => ?_)
      obtain ⟨q49, hFI2, hfr2⟩ := q49
      rcases q49 with ⟨rfl, hrow⟩ | ⟨hnr, rfl⟩
      · refine J_if_eq_F (pc := 52) 57 dX2_shortestIn_52 (by decide) (by decide) ?_
        refine J_iload_n (pc := 55) dX2_shortestIn_55 rfl ?_
        refine J_iret (pc := 56) dX2_shortestIn_56 rfl ?_
        exact ⟨Or.inr ⟨l + 1, ⟨by omega, by omega⟩, fun l' h1 h2 => hno l' h1 (by omega), (rowR_congr _ _ _ _ _ _ (fun j _ => by rw [Nat.zero_add]) hrow), ⟨_, rfl, by omega⟩⟩, fr_tr hfr hfr2⟩
      · refine J_if_eq_T (pc := 52) 57 dX2_shortestIn_52 (by decide) (by decide) ?_
        refine J_iincW' (pc := 57) ((l : Int) + 1) hi (lv' := fun iq_ => [some (.ref 23), some (.ref 1), some (.int bv), some (.int iq_)]) dX2_shortestIn_57 rfl (by omega) (by decide) (Nat.le_of_ble_eq_true rfl) rfl (fun _ => rfl) (fun z57 e57 => ?_)
        refine J_goto (pc := 60) 32 dX2_shortestIn_60 (by decide) ?_
        refine ih (l + 1) z57 μ49 (by omega) (by omega) hFI2 (tk_fr hT hfr2) (fr_tr hfr hfr2) (fun l' h1 h2 => ?_)
        rcases (by omega : l' ≤ l ∨ l' = l + 1) with h5 | rfl
        · exact hno l' h1 h5
        · exact hnr
set_option maxRecDepth 100000 in
set_option maxHeartbeats 4000000 in
theorem l_long {k wr ht e mp dp a p n : Int} {br : Bool} (hht1 : 1 ≤ ht) (hmp : 0 ≤ mp ∧ mp ≤ 4) (hdp : -4 ≤ dp ∧ dp ≤ 4) (hmP : ∀ (w : Nat) (n : Int), w < 6 → pZ k w n ≤ mp) (hdP : ∀ n : Int, pZ k 1 n ≤ dp) {c : JM} (h3 : (c.1 1 3).toInt = mZ a p 0) (h4 : (c.1 1 4).toInt = n) (hr : 0 ≤ a ∧ a ≤ 99 ∧ 0 ≤ p ∧ p ≤ 99) (hn : 0 ≤ n ∧ n < 200000) {bv : Int32} : ∀ d : Nat, ∀ (iv : Int32) (μ : JM), d ≤ 12 → iv.toInt = ((d : Nat) : Int) → FI k wr ht e br μ → tk k wr ht e mp dp br μ → fr45 c μ → (∀ l', d < l' → l' ≤ 12 → ¬ rc k wr ht e br l' a p n) → J G shC mX2_longestOut 22 [some (.ref 23), some (.ref 1), some (.int bv), some (.int iv)] [] μ (fun v μ' => (((∀ l : Nat, 1 ≤ l → l ≤ 12 → ¬ rc k wr ht e br l a p n) ∧ IsZ v 0) ∨ (∃ l : Nat, (1 ≤ l ∧ l ≤ 12) ∧ (∀ l', l < l' → l' ≤ 12 → ¬ rc k wr ht e br l' a p n) ∧ rowR k wr ht e br l a p n (fun j => (μ'.1 24 j).toInt) ∧ IsZ v (l : Int))) ∧ fr45 c μ') := by
  intro d
  induction d with
  | zero =>
    intro iv μ hd hi hFI hT hfr hno
    refine J_iload_n (pc := 22) dX2_longestOut_22 rfl ?_
    refine J_if_leW (pc := 23) iv.toInt rfl 51 dX2_longestOut_23 (by decide) (fun h23 => ?_) (fun h23 => ?_)
    · refine J_iconst (pc := 51) (v := 0) dX2_longestOut_51 (by decide) ?_
      refine J_iret (pc := 52) dX2_longestOut_52 rfl ?_
      exact ⟨Or.inl ⟨fun l' h1 h2 => hno l' (by omega) h2, ⟨_, rfl, rfl⟩⟩, hfr⟩
    · exfalso; omega
  | succ d ih =>
    intro iv μ hd hi hFI hT hfr hno
    refine J_iload_n (pc := 22) dX2_longestOut_22 rfl ?_
    refine J_if_leW (pc := 23) iv.toInt rfl 51 dX2_longestOut_23 (by decide) (fun h23 => ?_) (fun h23 => ?_)
    · exfalso; omega
    · refine J_aload_n (pc := 26) dX2_longestOut_26 rfl ?_
      refine J_aload_n (pc := 27) dX2_longestOut_27 rfl ?_
      refine J_getI (pc := 28) fF_X2_34 rfl rfl dX2_longestOut_28 ?_
      refine J_aload_n (pc := 31) dX2_longestOut_31 rfl ?_
      refine J_getI (pc := 32) fF_X2_48 rfl rfl dX2_longestOut_32 ?_
      refine J_iconst (pc := 35) (v := 0) dX2_longestOut_35 (by decide) ?_
      refine J_iload_n (pc := 36) dX2_longestOut_36 rfl ?_
      refine J_callSq (pc := 37) (fC_X2_51 d) dX2_longestOut_37 (c_X2_reaches hht1 hmp hdp hmP hdP d μ _ _ _ _ a p n 0 hT hFI ((by rw [hfr.1 1 (by omega) (by omega)]; exact h3)) ((by rw [hfr.1 1 (by omega) (by omega)]; exact h4)) rfl (by omega) hr (by omega) (by omega)) rfl ⟨by show 2 * (4 + d) + 2 + 1 ≤ 38; omega, by show 8 + (10 + 11) + (60 * (4 + d) + 60) ≤ 1140; omega⟩ rfl (Nat.le_of_ble_eq_true rfl) (fun v37 μ37 q37 => ?_)
      obtain ⟨q37, hFI2, hfr2⟩ := q37
      rcases q37 with ⟨rfl, hrow⟩ | ⟨hnr, rfl⟩
      · refine J_if_eq_F (pc := 40) 45 dX2_longestOut_40 (by decide) (by decide) ?_
        refine J_iload_n (pc := 43) dX2_longestOut_43 rfl ?_
        refine J_iret (pc := 44) dX2_longestOut_44 rfl ?_
        exact ⟨Or.inr ⟨d + 1, ⟨by omega, by omega⟩, fun l' h1 h2 => hno l' (by omega) h2, (rowR_congr _ _ _ _ _ _ (fun j _ => by rw [Nat.zero_add]) hrow), ⟨_, rfl, by omega⟩⟩, fr_tr hfr hfr2⟩
      · refine J_if_eq_T (pc := 40) 45 dX2_longestOut_40 (by decide) (by decide) ?_
        refine J_iincW' (pc := 45) iv.toInt rfl (lv' := fun iq_ => [some (.ref 23), some (.ref 1), some (.int bv), some (.int iq_)]) dX2_longestOut_45 rfl (by omega) (by decide) (Nat.le_of_ble_eq_true rfl) rfl (fun _ => rfl) (fun z45 e45 => ?_)
        refine J_goto (pc := 48) 22 dX2_longestOut_48 (by decide) ?_
        refine ih z45 μ37 (by omega) (by omega) hFI2 (tk_fr hT hfr2) (fr_tr hfr hfr2) (fun l' h1 h2 => ?_)
        rcases (by omega : d + 1 < l' ∨ l' = d + 1) with h5 | rfl
        · exact hno l' h5 h2
        · exact hnr
set_option maxRecDepth 100000 in
set_option maxHeartbeats 4000000 in
theorem c_X2_shortestIn {c : JM} {k wr ht a p n b : Int} (hk5 : 0 ≤ k ∧ k ≤ 5) (hk : (c.1 1 0).toInt = k) (hwr : (c.1 1 1).toInt = wr) (hht : (c.1 1 2).toInt = ht) (hht1 : 1 ≤ ht) (h3 : (c.1 1 3).toInt = mZ a p b) (h4 : (c.1 1 4).toInt = n) (hr : 0 ≤ a ∧ a ≤ 99 ∧ 0 ≤ p ∧ p ≤ 99) (hb : 0 ≤ b ∧ b ≤ 2) (hn : 0 ≤ n ∧ n < 200000)  : Con G shC mX2_shortestIn [.ref 23, .ref 1] c (fun v μ' => ((b = 2 ∧ IsZ v (-1)) ∨ (b = 1 ∧ IsZ v 0) ∨ (b = 0 ∧ (∀ l : Nat, 1 ≤ l → l ≤ 12 → ¬ rc k wr ht 1 false l a p n) ∧ IsZ v (-1)) ∨ (b = 0 ∧ ∃ l : Nat, (1 ≤ l ∧ l ≤ 12) ∧ (∀ l', 1 ≤ l' → l' < l → ¬ rc k wr ht 1 false l' a p n) ∧ rowR k wr ht 1 false l a p n (fun j => (μ'.1 24 j).toInt) ∧ IsZ v (l : Int))) ∧ (∀ o, o ≠ 23 → o ≠ 24 → o ≠ 25 → μ'.1 o = c.1 o) ∧ μ'.2 = c.2) := by
  obtain ⟨d1, d2, d3⟩ := mZ_d (b := b) hr
  have hm0 : 0 ≤ mZ a p b := by unfold mZ; omega
  refine Con_of [some (.ref 23), some (.ref 1), none, none] (by decide +kernel) (Nat.le_of_ble_eq_true rfl) (fun _ h => h) ?_
  refine J_aload_n (pc := 0) dX2_shortestIn_0 rfl ?_
  refine J_getI (pc := 1) fF_X2_34 rfl rfl dX2_shortestIn_1 ?_
  refine J_callSz (pc := 4) fC_X2_40 dX2_shortestIn_4 (c_X3_beingOf (mZ a p b) h3 (by omega)) rfl ⟨Nat.le_of_ble_eq_true rfl, Nat.le_of_ble_eq_true rfl⟩ rfl (Nat.le_of_ble_eq_true rfl) (fun z4 e4 => ?_)
  have q4 : z4.toInt = b := by rw [e4, d3]
  refine J_istore_n (pc := 7) (lv' := [some (.ref 23), some (.ref 1), some (.int z4), none]) dX2_shortestIn_7 (Nat.le_of_ble_eq_true rfl) rfl rfl ?_
  refine J_iload_n (pc := 8) dX2_shortestIn_8 rfl ?_
  refine J_if_eqW (pc := 9) b q4 23 dX2_shortestIn_9 (by decide) (fun h9 => ?_) (fun h9 => ?_)
  · have hb0 : b = 0 := by omega
    refine J_aload_n (pc := 23) dX2_shortestIn_23 rfl ?_
    refine J_aload_n (pc := 24) dX2_shortestIn_24 rfl ?_
    refine J_iconst (pc := 25) (v := 1) dX2_shortestIn_25 (by decide) ?_
    refine J_iconst (pc := 26) (v := 0) dX2_shortestIn_26 (by decide) ?_
    refine J_callVq (pc := 27) fC_X2_44 rfl dX2_shortestIn_27 (c_X2_seek (e := 1) (br := false) hk5 hk hwr hht rfl rfl (Or.inl rfl)) rfl ⟨Nat.le_of_ble_eq_true rfl, Nat.le_of_ble_eq_true rfl⟩ rfl (Nat.le_of_ble_eq_true rfl) (fun v27 μ27 q27 => ?_)
    obtain ⟨rfl, ⟨mp, dp, hT, hmp, hdp, hmP, hdP⟩, hFI, hso, hsl⟩ := q27
    subst hb0
    refine J_iconst (pc := 30) (v := 1) dX2_shortestIn_30 (by decide) ?_
    refine J_istore_n (pc := 31) (lv' := [some (.ref 23), some (.ref 1), some (.int z4), some (.int 1)]) dX2_shortestIn_31 (Nat.le_of_ble_eq_true rfl) rfl rfl ?_
    refine J_mono (l_short hht1 hmp hdp hmP hdP (c := μ27) (by rw [hso 1 (by omega) (by omega)]; exact h3) (by rw [hso 1 (by omega) (by omega)]; exact h4) hr hn 12 0 1 μ27 (by omega) rfl hFI hT (fr_rf _) (fun l' h1 h2 => absurd h1 (by omega))) (fun v μ' hh => ?_)
    obtain ⟨hh, hf1, hf2⟩ := hh
    refine ⟨?_, fun o h1 h2 h3 => (hf1 o h2 h3).trans (hso o h1 h3), hf2.trans hsl⟩
    rcases hh with ⟨h1, h2⟩ | ⟨l, h1⟩
    · exact Or.inr (Or.inr (Or.inl ⟨rfl, h1, h2⟩))
    · exact Or.inr (Or.inr (Or.inr ⟨rfl, l, h1⟩))
  · refine J_iload_n (pc := 12) dX2_shortestIn_12 rfl ?_
    refine J_iconst (pc := 13) (v := 1) dX2_shortestIn_13 (by decide) ?_
    refine J_icmp_neW (pc := 14) b 1 q4 rfl 21 dX2_shortestIn_14 (by decide) (fun h14 => ?_) (fun h14 => ?_)
    · refine J_iconst (pc := 21) (v := (-1)) dX2_shortestIn_21 (by decide) ?_
      refine J_iret (pc := 22) dX2_shortestIn_22 rfl ?_
      exact ⟨Or.inl ⟨by omega, ⟨_, rfl, rfl⟩⟩, fun _ _ _ _ => rfl, rfl⟩
    · refine J_iconst (pc := 17) (v := 0) dX2_shortestIn_17 (by decide) ?_
      refine J_goto (pc := 18) 22 dX2_shortestIn_18 (by decide) ?_
      refine J_iret (pc := 22) dX2_shortestIn_22 rfl ?_
      exact ⟨Or.inr (Or.inl ⟨by omega, ⟨_, rfl, rfl⟩⟩), fun _ _ _ _ => rfl, rfl⟩
set_option maxRecDepth 100000 in
set_option maxHeartbeats 4000000 in
theorem c_X2_longestOut {c : JM} {k wr ht a p n b : Int} (hk5 : 0 ≤ k ∧ k ≤ 5) (hk : (c.1 1 0).toInt = k) (hwr : (c.1 1 1).toInt = wr) (hht : (c.1 1 2).toInt = ht) (hht1 : 1 ≤ ht) (h3 : (c.1 1 3).toInt = mZ a p b) (h4 : (c.1 1 4).toInt = n) (hr : 0 ≤ a ∧ a ≤ 99 ∧ 0 ≤ p ∧ p ≤ 99) (hb : 0 ≤ b ∧ b ≤ 2) (hn : 0 ≤ n ∧ n < 200000) {br : Bool} {bv : Int32} (hbv : bv.toInt = (if br = true then 1 else 0)) (hb01 : bv = 0 ∨ bv = 1)  : Con G shC mX2_longestOut [.ref 23, .ref 1, .int bv] c (fun v μ' => ((b ≠ 0 ∧ IsZ v 0) ∨ (b = 0 ∧ (∀ l : Nat, 1 ≤ l → l ≤ 12 → ¬ rc k wr ht 0 br l a p n) ∧ IsZ v 0) ∨ (b = 0 ∧ ∃ l : Nat, (1 ≤ l ∧ l ≤ 12) ∧ (∀ l', l < l' → l' ≤ 12 → ¬ rc k wr ht 0 br l' a p n) ∧ rowR k wr ht 0 br l a p n (fun j => (μ'.1 24 j).toInt) ∧ IsZ v (l : Int))) ∧ (∀ o, o ≠ 23 → o ≠ 24 → o ≠ 25 → μ'.1 o = c.1 o) ∧ μ'.2 = c.2) := by
  obtain ⟨d1, d2, d3⟩ := mZ_d (b := b) hr
  have hm0 : 0 ≤ mZ a p b := by unfold mZ; omega
  refine Con_of [some (.ref 23), some (.ref 1), some (.int bv), none] (by decide +kernel) (Nat.le_of_ble_eq_true rfl) (fun _ h => h) ?_
  refine J_aload_n (pc := 0) dX2_longestOut_0 rfl ?_
  refine J_getI (pc := 1) fF_X2_34 rfl rfl dX2_longestOut_1 ?_
  refine J_callSz (pc := 4) fC_X2_40 dX2_longestOut_4 (c_X3_beingOf (mZ a p b) h3 (by omega)) rfl ⟨Nat.le_of_ble_eq_true rfl, Nat.le_of_ble_eq_true rfl⟩ rfl (Nat.le_of_ble_eq_true rfl) (fun z4 e4 => ?_)
  have q4 : z4.toInt = b := by rw [e4, d3]
  refine J_if_eqW (pc := 7) b q4 12 dX2_longestOut_7 (by decide) (fun h7 => ?_) (fun h7 => ?_)
  · have hb0 : b = 0 := by omega
    refine J_aload_n (pc := 12) dX2_longestOut_12 rfl ?_
    refine J_aload_n (pc := 13) dX2_longestOut_13 rfl ?_
    refine J_iconst (pc := 14) (v := 0) dX2_longestOut_14 (by decide) ?_
    refine J_iload_n (pc := 15) dX2_longestOut_15 rfl ?_
    refine J_callVq (pc := 16) fC_X2_44 rfl dX2_longestOut_16 (c_X2_seek (e := 0) (br := br) hk5 hk hwr hht rfl hbv hb01) rfl ⟨Nat.le_of_ble_eq_true rfl, Nat.le_of_ble_eq_true rfl⟩ rfl (Nat.le_of_ble_eq_true rfl) (fun v16 μ16 q16 => ?_)
    obtain ⟨rfl, ⟨mp, dp, hT, hmp, hdp, hmP, hdP⟩, hFI, hso, hsl⟩ := q16
    subst hb0
    refine J_bipush (pc := 19) (v := 12) dX2_longestOut_19 (by decide) ?_
    refine J_istore_n (pc := 21) (lv' := [some (.ref 23), some (.ref 1), some (.int bv), some (.int 12)]) dX2_longestOut_21 (Nat.le_of_ble_eq_true rfl) rfl rfl ?_
    refine J_mono (l_long hht1 hmp hdp hmP hdP (c := μ16) (by rw [hso 1 (by omega) (by omega)]; exact h3) (by rw [hso 1 (by omega) (by omega)]; exact h4) hr hn 12 12 μ16 (by omega) rfl hFI hT (fr_rf _) (fun l' h1 h2 => absurd h1 (by omega))) (fun v μ' hh => ?_)
    obtain ⟨hh, hf1, hf2⟩ := hh
    refine ⟨?_, fun o h1 h2 h3 => (hf1 o h2 h3).trans (hso o h1 h3), hf2.trans hsl⟩
    rcases hh with ⟨h1, h2⟩ | ⟨l, h1⟩
    · exact Or.inr (Or.inl ⟨rfl, h1, h2⟩)
    · exact Or.inr (Or.inr ⟨rfl, l, h1⟩)
  · refine J_iconst (pc := 10) (v := 0) dX2_longestOut_10 (by decide) ?_
    refine J_iret (pc := 11) dX2_longestOut_11 rfl ?_
    exact ⟨Or.inl ⟨by omega, ⟨_, rfl, rfl⟩⟩, fun _ _ _ _ => rfl, rfl⟩
set_option maxRecDepth 100000 in
set_option maxHeartbeats 4000000 in
theorem c_X3_lengthOrWord {c : JM} {lv iv : Int32} {i' : Int} (L : Nat) (hL : lv.toInt = (L : Int)) (hi : iv.toInt = i') (hL12 : L ≤ 12) (hi1 : -1 ≤ i') : Con G shC mX3_lengthOrWord [.ref 0, .int lv, .int iv] c (j_z (if i' = -1 then (L : Int) else if (L : Int) ≤ i' then -5 else (c.1 24 i'.toNat).toInt) c) := by
  refine Con_of [some (.ref 0), some (.int lv), some (.int iv)] (by decide +kernel) (Nat.le_of_ble_eq_true rfl) (fun _ h => h) ?_
  refine J_iload_n (pc := 0) dX3_lengthOrWord_0 rfl ?_
  refine J_iconst (pc := 1) (v := (-1)) dX3_lengthOrWord_1 (by decide) ?_
  refine J_icmp_neW (pc := 2) i' (-1) hi rfl 7 dX3_lengthOrWord_2 (by decide) (fun h2 => ?_) (fun h2 => ?_)
  · refine J_iload_n (pc := 7) dX3_lengthOrWord_7 rfl ?_
    refine J_iload_n (pc := 8) dX3_lengthOrWord_8 rfl ?_
    refine J_icmp_ltW (pc := 9) i' (L : Int) hi hL 17 dX3_lengthOrWord_9 (by decide) (fun h9 => ?_) (fun h9 => ?_)
    · refine J_aload_n (pc := 17) dX3_lengthOrWord_17 rfl ?_
      refine J_getR (pc := 18) 23 fF_X3_35 rfl rfl dX3_lengthOrWord_18 ?_
      refine J_getR (pc := 21) 24 fF_X3_157 rfl rfl dX3_lengthOrWord_21 ?_
      refine J_iload_n (pc := 24) dX3_lengthOrWord_24 rfl ?_
      refine J_callSe (pc := 25) fC_X3_91 dX3_lengthOrWord_25 (c_X3_at rfl i'.toNat (by omega) (by omega) (by omega)) rfl ⟨Nat.le_of_ble_eq_true rfl, Nat.le_of_ble_eq_true rfl⟩ rfl (Nat.le_of_ble_eq_true rfl) ?_
      refine J_iret (pc := 28) dX3_lengthOrWord_28 rfl ?_
      exact ⟨⟨_, rfl, by rw [if_neg h2, if_neg (by omega)]⟩, rfl⟩
    · refine J_bipush (pc := 12) (v := (-5)) dX3_lengthOrWord_12 (by decide) ?_
      refine J_goto (pc := 14) 28 dX3_lengthOrWord_14 (by decide) ?_
      refine J_iret (pc := 28) dX3_lengthOrWord_28 rfl ?_
      exact ⟨⟨_, rfl, by rw [if_neg h2, if_pos h9]; rfl⟩, rfl⟩
  · refine J_iload_n (pc := 5) dX3_lengthOrWord_5 rfl ?_
    refine J_iret (pc := 6) dX3_lengthOrWord_6 rfl ?_
    exact ⟨⟨_, rfl, by rw [if_pos h2]; exact hL⟩, rfl⟩
set_option maxRecDepth 100000 in
set_option maxHeartbeats 4000000 in
theorem k_fewest {N : Int} {c m : JM} (h : Inv N c m) (hN : 150 ≤ N ∧ N < 100000) {a : Int32}  : Con G shC mX3_fewest [.ref 0, .int a] c (fun v μ' => (a.toInt < -1 ∧ IsZ v (-10) ∧ μ' = (jI c 0 8 (c.1 0 8 + 1))) ∨ (-1 ≤ a.toInt ∧ fwR (m.1 1 0).toInt (m.1 1 3).toInt (m.1 1 4).toInt (m.1 1 1).toInt (m.1 1 2).toInt (m.1 1 5).toInt (m.1 1 6).toInt a.toInt v ∧ eqC c μ')) := by
  obtain ⟨q0, q1, q2, q3, q4, q5, q6⟩ := Inv_q h
  obtain ⟨r0, r1, r2, r3, r4, r5, r6, r15, r40, r9⟩ := Inv_r h
  have hc := h.1
  have qt : (c.1 21 1).toInt = (m.1 0 9).toInt := by rw [h.2.2.2.2.1.1]
  have qs0 : (c.1 0 8).toInt = (m.1 4 0).toInt := by rw [h.2.2.2.2.2.2.1]
  have qs1 : (c.1 0 9).toInt = (m.1 4 1).toInt := by rw [h.2.2.2.2.2.2.2.1]
  have qs2 : (c.1 0 10).toInt = (m.1 4 2).toInt := by rw [h.2.2.2.2.2.2.2.2]
  refine Con_of [some (.ref 0), some (.int a), none] (by decide +kernel) (Nat.le_of_ble_eq_true rfl) (fun _ h => h) ?_
  refine J_iload_n (pc := 0) dX3_fewest_0 rfl ?_
  refine J_iconst (pc := 1) (v := (-1)) dX3_fewest_1 (by decide) ?_
  refine J_icmp_geW (pc := 2) a.toInt (-1) rfl rfl 12 dX3_fewest_2 (by decide) (fun h2 => ?_) (fun h2 => ?_)
  · refine J_aload_n (pc := 12) dX3_fewest_12 rfl ?_
    refine J_getR (pc := 13) 23 fF_X3_35 rfl rfl dX3_fewest_13 ?_
    refine J_aload_n (pc := 16) dX3_fewest_16 rfl ?_
    refine J_getR (pc := 17) 1 fF_X3_12 rfl rfl dX3_fewest_17 ?_
    refine J_callVq (pc := 20) fC_X3_163 rfl dX3_fewest_20 (c_X2_shortestIn (k := (m.1 1 0).toInt) (wr := (m.1 1 3).toInt) (ht := (m.1 1 4).toInt) (a := (m.1 1 1).toInt) (p := (m.1 1 2).toInt) (n := (m.1 1 5).toInt) (b := (m.1 1 6).toInt) r0 q0 q1 q2 (by omega) (by rw [q3, mZ]) q4 (by omega) (by omega) (by omega)) rfl ⟨Nat.le_of_ble_eq_true rfl, Nat.le_of_ble_eq_true rfl⟩ rfl (Nat.le_of_ble_eq_true rfl) (fun v20 μ20 q20 => ?_)
    obtain ⟨q20, hso, hsl⟩ := q20
    rcases q20 with ⟨hb, z20, rfl, e20⟩ | ⟨hb, z20, rfl, e20⟩ | ⟨hb, hno, z20, rfl, e20⟩ | ⟨hb, l, hl, hno, hrow, z20, rfl, e20⟩
    · refine J_istore_n (pc := 23) (lv' := [some (.ref 0), some (.int a), some (.int z20)]) dX3_fewest_23 (Nat.le_of_ble_eq_true rfl) rfl rfl ?_
      refine J_iload_n (pc := 24) dX3_fewest_24 rfl ?_
      refine J_iconst (pc := 25) (v := (-1)) dX3_fewest_25 (by decide) ?_
      refine J_icmp_ne_F (pc := 26) 33 dX3_fewest_26 (by decide) (z_eq e20) ?_
      refine J_iconst (pc := 29) (v := (-1)) dX3_fewest_29 (by decide) ?_
      refine J_goto (pc := 30) 39 dX3_fewest_30 (by decide) ?_
      refine J_iret (pc := 39) dX3_fewest_39 rfl ?_
      exact Or.inr ⟨by omega, Or.inl ⟨hb, ⟨_, rfl, rfl⟩⟩, ⟨fun o ho => hso o (by omega) (by omega) (by omega), by rw [hso 21 (by omega) (by omega) (by omega)], by rw [hsl]⟩⟩
    · refine J_istore_n (pc := 23) (lv' := [some (.ref 0), some (.int a), some (.int z20)]) dX3_fewest_23 (Nat.le_of_ble_eq_true rfl) rfl rfl ?_
      refine J_iload_n (pc := 24) dX3_fewest_24 rfl ?_
      refine J_iconst (pc := 25) (v := (-1)) dX3_fewest_25 (by decide) ?_
      refine J_icmp_ne_T (pc := 26) 33 dX3_fewest_26 (by decide) (fun z => by rw [z] at e20; have t : (-1 : Int32).toInt = -1 := (by decide); omega) ?_
      refine J_aload_n (pc := 33) dX3_fewest_33 rfl ?_
      refine J_iload_n (pc := 34) dX3_fewest_34 rfl ?_
      refine J_iload_n (pc := 35) dX3_fewest_35 rfl ?_
      refine J_callVz (pc := 36) fC_X3_167 rfl dX3_fewest_36 (c_X3_lengthOrWord 0 e20 rfl (by omega) (by omega)) rfl ⟨Nat.le_of_ble_eq_true rfl, Nat.le_of_ble_eq_true rfl⟩ rfl (Nat.le_of_ble_eq_true rfl) (fun z36 e36 => ?_)
      refine J_iret (pc := 39) dX3_fewest_39 rfl ?_
      exact Or.inr ⟨by omega, Or.inr (Or.inl ⟨hb, ⟨_, rfl, by rw [e36]; split <;> omega⟩⟩), ⟨fun o ho => hso o (by omega) (by omega) (by omega), by rw [hso 21 (by omega) (by omega) (by omega)], by rw [hsl]⟩⟩
    · refine J_istore_n (pc := 23) (lv' := [some (.ref 0), some (.int a), some (.int z20)]) dX3_fewest_23 (Nat.le_of_ble_eq_true rfl) rfl rfl ?_
      refine J_iload_n (pc := 24) dX3_fewest_24 rfl ?_
      refine J_iconst (pc := 25) (v := (-1)) dX3_fewest_25 (by decide) ?_
      refine J_icmp_ne_F (pc := 26) 33 dX3_fewest_26 (by decide) (z_eq e20) ?_
      refine J_iconst (pc := 29) (v := (-1)) dX3_fewest_29 (by decide) ?_
      refine J_goto (pc := 30) 39 dX3_fewest_30 (by decide) ?_
      refine J_iret (pc := 39) dX3_fewest_39 rfl ?_
      exact Or.inr ⟨by omega, Or.inr (Or.inr (Or.inl ⟨hb, hno, ⟨_, rfl, rfl⟩⟩)), ⟨fun o ho => hso o (by omega) (by omega) (by omega), by rw [hso 21 (by omega) (by omega) (by omega)], by rw [hsl]⟩⟩
    · refine J_istore_n (pc := 23) (lv' := [some (.ref 0), some (.int a), some (.int z20)]) dX3_fewest_23 (Nat.le_of_ble_eq_true rfl) rfl rfl ?_
      refine J_iload_n (pc := 24) dX3_fewest_24 rfl ?_
      refine J_iconst (pc := 25) (v := (-1)) dX3_fewest_25 (by decide) ?_
      refine J_icmp_ne_T (pc := 26) 33 dX3_fewest_26 (by decide) (fun z => by rw [z] at e20; have t : (-1 : Int32).toInt = -1 := (by decide); omega) ?_
      refine J_aload_n (pc := 33) dX3_fewest_33 rfl ?_
      refine J_iload_n (pc := 34) dX3_fewest_34 rfl ?_
      refine J_iload_n (pc := 35) dX3_fewest_35 rfl ?_
      refine J_callVz (pc := 36) fC_X3_167 rfl dX3_fewest_36 (c_X3_lengthOrWord l e20 rfl (by omega) (by omega)) rfl ⟨Nat.le_of_ble_eq_true rfl, Nat.le_of_ble_eq_true rfl⟩ rfl (Nat.le_of_ble_eq_true rfl) (fun z36 e36 => ?_)
      refine J_iret (pc := 39) dX3_fewest_39 rfl ?_
      exact Or.inr ⟨by omega, Or.inr (Or.inr (Or.inr ⟨hb, l, _, hl, (by obtain ⟨l0, rfl⟩ : ∃ l0, l = l0 + 1 := ⟨l - 1, by omega⟩; exact rowR_rc hrow), hno, hrow, ⟨_, rfl, e36⟩⟩)), ⟨fun o ho => hso o (by omega) (by omega) (by omega), by rw [hso 21 (by omega) (by omega) (by omega)], by rw [hsl]⟩⟩
  · refine J_aload_n (pc := 5) dX3_fewest_5 rfl ?_
    refine J_bipush (pc := 6) (v := (-10)) dX3_fewest_6 (by decide) ?_
    refine J_callVim (pc := 8) fC_X3_144 rfl dX3_fewest_8 (c_X3_refuseBad) rfl ⟨Nat.le_of_ble_eq_true rfl, Nat.le_of_ble_eq_true rfl⟩ rfl (Nat.le_of_ble_eq_true rfl) (fun z8 μ8 d8 m8 => ?_)
    refine J_iret (pc := 11) dX3_fewest_11 rfl ?_
    subst_vars
    exact Or.inl ⟨by omega, ⟨_, rfl, rfl⟩, rfl⟩
set_option maxRecDepth 100000 in
set_option maxHeartbeats 4000000 in
theorem k_delay {N : Int} {c m : JM} (h : Inv N c m) (hN : 150 ≤ N ∧ N < 100000) {a b : Int32}  : Con G shC mX3_delay [.ref 0, .int a, .int b] c (fun v μ' => (¬((0 ≤ a.toInt ∧ a.toInt ≤ 1) ∧ -1 ≤ b.toInt) ∧ IsZ v (-10) ∧ μ' = (jI c 0 8 (c.1 0 8 + 1))) ∨ (((0 ≤ a.toInt ∧ a.toInt ≤ 1) ∧ -1 ≤ b.toInt) ∧ dlR (m.1 1 0).toInt (m.1 1 3).toInt (m.1 1 4).toInt (m.1 1 1).toInt (m.1 1 2).toInt (m.1 1 5).toInt (m.1 1 6).toInt (decide (a.toInt = 1)) b.toInt v ∧ eqC c μ')) := by
  obtain ⟨q0, q1, q2, q3, q4, q5, q6⟩ := Inv_q h
  obtain ⟨r0, r1, r2, r3, r4, r5, r6, r15, r40, r9⟩ := Inv_r h
  have hc := h.1
  have qt : (c.1 21 1).toInt = (m.1 0 9).toInt := by rw [h.2.2.2.2.1.1]
  have qs0 : (c.1 0 8).toInt = (m.1 4 0).toInt := by rw [h.2.2.2.2.2.2.1]
  have qs1 : (c.1 0 9).toInt = (m.1 4 1).toInt := by rw [h.2.2.2.2.2.2.2.1]
  have qs2 : (c.1 0 10).toInt = (m.1 4 2).toInt := by rw [h.2.2.2.2.2.2.2.2]
  refine Con_of [some (.ref 0), some (.int a), some (.int b)] (by decide +kernel) (Nat.le_of_ble_eq_true rfl) (fun _ h => h) ?_
  refine J_iload_n (pc := 0) dX3_delay_0 rfl ?_
  refine J_iconst (pc := 1) (v := 0) dX3_delay_1 (by decide) ?_
  refine J_iconst (pc := 2) (v := 1) dX3_delay_2 (by decide) ?_
  refine J_callSc (pc := 3) fC_X3_60 dX3_delay_3 (c_X3_within a.toInt 0 1 rfl rfl rfl) rfl ⟨Nat.le_of_ble_eq_true rfl, Nat.le_of_ble_eq_true rfl⟩ rfl (Nat.le_of_ble_eq_true rfl) (fun h3 => ?_) (fun h3 => ?_)
  · refine J_if_eq_F (pc := 6) 14 dX3_delay_6 (by decide) (by decide) ?_
    refine J_iload_n (pc := 9) dX3_delay_9 rfl ?_
    refine J_iconst (pc := 10) (v := (-1)) dX3_delay_10 (by decide) ?_
    refine J_icmp_geW (pc := 11) b.toInt (-1) rfl rfl 21 dX3_delay_11 (by decide) (fun h11 => ?_) (fun h11 => ?_)
    · refine J_aload_n (pc := 21) dX3_delay_21 rfl ?_
      refine J_aload_n (pc := 22) dX3_delay_22 rfl ?_
      refine J_getR (pc := 23) 23 fF_X3_35 rfl rfl dX3_delay_23 ?_
      refine J_aload_n (pc := 26) dX3_delay_26 rfl ?_
      refine J_getR (pc := 27) 1 fF_X3_12 rfl rfl dX3_delay_27 ?_
      refine J_iload_n (pc := 30) dX3_delay_30 rfl ?_
      refine J_iconst (pc := 31) (v := 1) dX3_delay_31 (by decide) ?_
      refine J_icmp_neW (pc := 32) a.toInt 1 rfl rfl 39 dX3_delay_32 (by decide) (fun h32 => ?_) (fun h32 => ?_)
      · refine J_iconst (pc := 39) (v := 0) dX3_delay_39 (by decide) ?_
        refine J_callVq (pc := 40) fC_X3_170 rfl dX3_delay_40 (c_X2_longestOut (k := (m.1 1 0).toInt) (wr := (m.1 1 3).toInt) (ht := (m.1 1 4).toInt) (a := (m.1 1 1).toInt) (p := (m.1 1 2).toInt) (n := (m.1 1 5).toInt) (b := (m.1 1 6).toInt) r0 q0 q1 q2 (by omega) (by rw [q3, mZ]) q4 (by omega) (by omega) (by omega) (br := (decide (a.toInt = 1))) (by rw [decide_eq_false h32]; rfl) (Or.inl rfl)) rfl ⟨Nat.le_of_ble_eq_true rfl, Nat.le_of_ble_eq_true rfl⟩ rfl (Nat.le_of_ble_eq_true rfl) (fun v40 μ40 q40 => ?_)
        obtain ⟨q40, hso, hsl⟩ := q40
        rcases q40 with ⟨hb, z40, rfl, e40⟩ | ⟨hb, hno, z40, rfl, e40⟩ | ⟨hb, l, hl, hno, hrow, z40, rfl, e40⟩
        · refine J_iload_n (pc := 43) dX3_delay_43 rfl ?_
          refine J_callVz (pc := 44) fC_X3_167 rfl dX3_delay_44 (c_X3_lengthOrWord 0 e40 rfl (by omega) (by omega)) rfl ⟨Nat.le_of_ble_eq_true rfl, Nat.le_of_ble_eq_true rfl⟩ rfl (Nat.le_of_ble_eq_true rfl) (fun z44 e44 => ?_)
          refine J_iret (pc := 47) dX3_delay_47 rfl ?_
          exact Or.inr ⟨⟨by omega, by omega⟩, Or.inl ⟨hb, ⟨_, rfl, by rw [e44]; split <;> omega⟩⟩, ⟨fun o ho => hso o (by omega) (by omega) (by omega), by rw [hso 21 (by omega) (by omega) (by omega)], by rw [hsl]⟩⟩
        · refine J_iload_n (pc := 43) dX3_delay_43 rfl ?_
          refine J_callVz (pc := 44) fC_X3_167 rfl dX3_delay_44 (c_X3_lengthOrWord 0 e40 rfl (by omega) (by omega)) rfl ⟨Nat.le_of_ble_eq_true rfl, Nat.le_of_ble_eq_true rfl⟩ rfl (Nat.le_of_ble_eq_true rfl) (fun z44 e44 => ?_)
          refine J_iret (pc := 47) dX3_delay_47 rfl ?_
          exact Or.inr ⟨⟨by omega, by omega⟩, Or.inr (Or.inl ⟨hb, hno, ⟨_, rfl, by rw [e44]; split <;> omega⟩⟩), ⟨fun o ho => hso o (by omega) (by omega) (by omega), by rw [hso 21 (by omega) (by omega) (by omega)], by rw [hsl]⟩⟩
        · refine J_iload_n (pc := 43) dX3_delay_43 rfl ?_
          refine J_callVz (pc := 44) fC_X3_167 rfl dX3_delay_44 (c_X3_lengthOrWord l e40 rfl (by omega) (by omega)) rfl ⟨Nat.le_of_ble_eq_true rfl, Nat.le_of_ble_eq_true rfl⟩ rfl (Nat.le_of_ble_eq_true rfl) (fun z44 e44 => ?_)
          refine J_iret (pc := 47) dX3_delay_47 rfl ?_
          exact Or.inr ⟨⟨by omega, by omega⟩, Or.inr (Or.inr ⟨hb, l, _, hl, (by obtain ⟨l0, rfl⟩ : ∃ l0, l = l0 + 1 := ⟨l - 1, by omega⟩; exact rowR_rc hrow), hno, hrow, ⟨_, rfl, e44⟩⟩), ⟨fun o ho => hso o (by omega) (by omega) (by omega), by rw [hso 21 (by omega) (by omega) (by omega)], by rw [hsl]⟩⟩
      · refine J_iconst (pc := 35) (v := 1) dX3_delay_35 (by decide) ?_
        refine J_goto (pc := 36) 40 dX3_delay_36 (by decide) ?_
        refine J_callVq (pc := 40) fC_X3_170 rfl dX3_delay_40 (c_X2_longestOut (k := (m.1 1 0).toInt) (wr := (m.1 1 3).toInt) (ht := (m.1 1 4).toInt) (a := (m.1 1 1).toInt) (p := (m.1 1 2).toInt) (n := (m.1 1 5).toInt) (b := (m.1 1 6).toInt) r0 q0 q1 q2 (by omega) (by rw [q3, mZ]) q4 (by omega) (by omega) (by omega) (br := (decide (a.toInt = 1))) (by rw [decide_eq_true h32]; rfl) (Or.inr rfl)) rfl ⟨Nat.le_of_ble_eq_true rfl, Nat.le_of_ble_eq_true rfl⟩ rfl (Nat.le_of_ble_eq_true rfl) (fun v40 μ40 q40 => ?_)
        obtain ⟨q40, hso, hsl⟩ := q40
        rcases q40 with ⟨hb, z40, rfl, e40⟩ | ⟨hb, hno, z40, rfl, e40⟩ | ⟨hb, l, hl, hno, hrow, z40, rfl, e40⟩
        · refine J_iload_n (pc := 43) dX3_delay_43 rfl ?_
          refine J_callVz (pc := 44) fC_X3_167 rfl dX3_delay_44 (c_X3_lengthOrWord 0 e40 rfl (by omega) (by omega)) rfl ⟨Nat.le_of_ble_eq_true rfl, Nat.le_of_ble_eq_true rfl⟩ rfl (Nat.le_of_ble_eq_true rfl) (fun z44 e44 => ?_)
          refine J_iret (pc := 47) dX3_delay_47 rfl ?_
          exact Or.inr ⟨⟨by omega, by omega⟩, Or.inl ⟨hb, ⟨_, rfl, by rw [e44]; split <;> omega⟩⟩, ⟨fun o ho => hso o (by omega) (by omega) (by omega), by rw [hso 21 (by omega) (by omega) (by omega)], by rw [hsl]⟩⟩
        · refine J_iload_n (pc := 43) dX3_delay_43 rfl ?_
          refine J_callVz (pc := 44) fC_X3_167 rfl dX3_delay_44 (c_X3_lengthOrWord 0 e40 rfl (by omega) (by omega)) rfl ⟨Nat.le_of_ble_eq_true rfl, Nat.le_of_ble_eq_true rfl⟩ rfl (Nat.le_of_ble_eq_true rfl) (fun z44 e44 => ?_)
          refine J_iret (pc := 47) dX3_delay_47 rfl ?_
          exact Or.inr ⟨⟨by omega, by omega⟩, Or.inr (Or.inl ⟨hb, hno, ⟨_, rfl, by rw [e44]; split <;> omega⟩⟩), ⟨fun o ho => hso o (by omega) (by omega) (by omega), by rw [hso 21 (by omega) (by omega) (by omega)], by rw [hsl]⟩⟩
        · refine J_iload_n (pc := 43) dX3_delay_43 rfl ?_
          refine J_callVz (pc := 44) fC_X3_167 rfl dX3_delay_44 (c_X3_lengthOrWord l e40 rfl (by omega) (by omega)) rfl ⟨Nat.le_of_ble_eq_true rfl, Nat.le_of_ble_eq_true rfl⟩ rfl (Nat.le_of_ble_eq_true rfl) (fun z44 e44 => ?_)
          refine J_iret (pc := 47) dX3_delay_47 rfl ?_
          exact Or.inr ⟨⟨by omega, by omega⟩, Or.inr (Or.inr ⟨hb, l, _, hl, (by obtain ⟨l0, rfl⟩ : ∃ l0, l = l0 + 1 := ⟨l - 1, by omega⟩; exact rowR_rc hrow), hno, hrow, ⟨_, rfl, e44⟩⟩), ⟨fun o ho => hso o (by omega) (by omega) (by omega), by rw [hso 21 (by omega) (by omega) (by omega)], by rw [hsl]⟩⟩
    · refine J_aload_n (pc := 14) dX3_delay_14 rfl ?_
      refine J_bipush (pc := 15) (v := (-10)) dX3_delay_15 (by decide) ?_
      refine J_callVim (pc := 17) fC_X3_144 rfl dX3_delay_17 (c_X3_refuseBad) rfl ⟨Nat.le_of_ble_eq_true rfl, Nat.le_of_ble_eq_true rfl⟩ rfl (Nat.le_of_ble_eq_true rfl) (fun z17 μ17 d17 m17 => ?_)
      refine J_iret (pc := 20) dX3_delay_20 rfl ?_
      subst_vars
      exact Or.inl ⟨by omega, ⟨_, rfl, rfl⟩, rfl⟩
  · refine J_if_eq_T (pc := 6) 14 dX3_delay_6 (by decide) (by decide) ?_
    refine J_aload_n (pc := 14) dX3_delay_14 rfl ?_
    refine J_bipush (pc := 15) (v := (-10)) dX3_delay_15 (by decide) ?_
    refine J_callVim (pc := 17) fC_X3_144 rfl dX3_delay_17 (c_X3_refuseBad) rfl ⟨Nat.le_of_ble_eq_true rfl, Nat.le_of_ble_eq_true rfl⟩ rfl (Nat.le_of_ble_eq_true rfl) (fun z17 μ17 d17 m17 => ?_)
    refine J_iret (pc := 20) dX3_delay_20 rfl ?_
    subst_vars
    exact Or.inl ⟨by omega, ⟨_, rfl, rfl⟩, rfl⟩

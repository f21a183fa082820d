/-! ===== rows of words told by a number; words ===== -/
def pw : Nat → Int
  | 0 => 1
  | k + 1 => 10 * pw k
theorem pw_rng {k : Nat} (h : k ≤ 9) : 1 ≤ pw k ∧ pw k ≤ 1000000000 := by
  rcases (by omega : k = 0 ∨ k = 1 ∨ k = 2 ∨ k = 3 ∨ k = 4 ∨ k = 5 ∨ k = 6 ∨ k = 7 ∨ k = 8 ∨ k = 9) with rfl | rfl | rfl | rfl | rfl | rfl | rfl | rfl | rfl | rfl <;> decide
theorem pw_pos : ∀ k : Nat, 1 ≤ pw k
  | 0 => by decide
  | k + 1 => by have := pw_pos k; rw [pw]; omega
def lnD : Nat → Int → Nat
  | 0, _ => 0
  | d + 1, z => if 0 < z then lnD d (z / 10) + 1 else 0
def lfD : Nat → Int → Int
  | 0, z => z
  | d + 1, z => if 0 < z then lfD d (z / 10) else z
theorem lnD_le : ∀ (d : Nat) (z : Int), lnD d z ≤ d
  | 0, _ => Nat.le_refl 0
  | d + 1, z => by rw [lnD]; have := lnD_le d (z / 10); split <;> omega
theorem lnD_pw : ∀ (d k : Nat) (z : Int), 0 ≤ z → k ≤ d → ((lnD d z ≤ k ∧ lfD d z ≤ 0) ↔ z < pw k)
  | 0, k, z, h0, hk => by
    obtain rfl : k = 0 := by omega
    rw [lnD, lfD, pw]; omega
  | d + 1, k, z, h0, hk => by
    rw [lnD, lfD]
    by_cases hz : 0 < z
    · rw [if_pos hz, if_pos hz]
      cases k with
      | zero => rw [pw]; omega
      | succ k =>
        have := lnD_pw d k (z / 10) (by omega) (by omega)
        rw [pw]
        have e : (z / 10 < pw k) ↔ z < 10 * pw k := by omega
        rw [← e, ← this]
        omega
    · rw [if_neg hz, if_neg hz]
      have := pw_pos k
      omega
def wd : Nat → Int → Nat → Int
  | 0, _, _ => 0
  | d + 1, r, j => if j = d then r % 10 - 1 else wd d (r / 10) j
def gd : Nat → Int → Prop
  | 0, _ => True
  | d + 1, r => (0 ≤ r % 10 - 1 ∧ r % 10 - 1 ≤ 5) ∧ gd d (r / 10)
theorem wd_rng : ∀ (d : Nat) (r : Int), gd d r → ∀ j, j < d → 0 ≤ wd d r j ∧ wd d r j ≤ 5
  | 0, _, _, j, hj => absurd hj (by omega)
  | d + 1, r, h, j, hj => by
    rw [wd]
    by_cases e : j = d
    · rw [if_pos e]; exact h.1
    · rw [if_neg e]; exact wd_rng d (r / 10) h.2 j (by omega)
def okR (z : Int) (most : Nat) : Prop := 0 ≤ z ∧ z < pw most ∧ gd (lnD 9 z) z
theorem okR_ln {z : Int} {most : Nat} (hm : most ≤ 9) (h : okR z most) : lnD 9 z ≤ most := ((lnD_pw 9 most z h.1 hm).2 h.2.1).1
def IsL (v : Option Value) (e : Int) : Prop := ∃ z : Int64, v = some (.long z) ∧ z.toInt = e
/-- the row's memory, all else as it was -/
def rowC (o0 d : Nat) (r : Int) (μ μ' : JM) : Prop := (∀ o, o ≠ o0 → μ'.1 o = μ.1 o) ∧ μ'.2 = μ.2 ∧ (∀ j, d ≤ j → μ'.1 o0 j = μ.1 o0 j) ∧ (gd d r → ∀ j, j < d → (μ'.1 o0 j).toInt = wd d r j)
theorem rowC_0 {o0 : Nat} {r : Int} {d : Nat} {μ : JM} (h : d = 0 ∨ ¬ gd d r) : rowC o0 d r μ μ := ⟨fun _ _ => rfl, rfl, fun _ _ => rfl, fun hg j hj => by rcases h with h | h; omega; exact absurd hg h⟩
theorem rowC_s {o0 : Nat} {r : Int} {d : Nat} {x : Int32} {μ μ1 μ' : JM} (hm : μ1 = jI μ o0 d x) (hx : gd (d + 1) r → x.toInt = r % 10 - 1) (h : rowC o0 d (r / 10) μ1 μ') : rowC o0 (d + 1) r μ μ' := by
  obtain ⟨h1, h2, h3, h4⟩ := h
  subst hm
  refine ⟨fun o ho => ?_, h2, fun j hj => ?_, fun hg j hj => ?_⟩
  · rw [h1 o ho]; exact jI_ne (by omega)
  · rw [h3 j (by omega), jI_i, if_neg (by omega)]
  · rw [wd]
    by_cases e : j = d
    · subst e
      rw [h3 j (by omega), jI_i, if_pos ⟨rfl, rfl⟩, if_pos rfl]
      exact hx hg
    · rw [if_neg e]; exact h4 hg.2 j (by omega)
theorem J_laddW {G : JG} {sh : List JSh} {M : JMth} {pc : Nat} {lv : List (Option Value)} {st : List Value} {μ : JM} {Q : Option Value → JM → Prop} {x y : Int64} (a b : Int) (hx : x.toInt = a) (hy : y.toInt = b) (hd : decode M.2.1 pc = .ok (.ladd, 1)) (h : -9223372036854775808 ≤ a + b ∧ a + b < 9223372036854775808) (k : ∀ z : Int64, z.toInt = a + b → J G sh M (pc + 1) lv (.long z :: st) μ Q) : J G sh M pc lv (.long y :: .long x :: st) μ Q := by
  subst hx hy
  exact J_ladd hd (k _ (y_add h))
theorem J_lsubW {G : JG} {sh : List JSh} {M : JMth} {pc : Nat} {lv : List (Option Value)} {st : List Value} {μ : JM} {Q : Option Value → JM → Prop} {x y : Int64} (a b : Int) (hx : x.toInt = a) (hy : y.toInt = b) (hd : decode M.2.1 pc = .ok (.lsub, 1)) (h : -9223372036854775808 ≤ a - b ∧ a - b < 9223372036854775808) (k : ∀ z : Int64, z.toInt = a - b → J G sh M (pc + 1) lv (.long z :: st) μ Q) : J G sh M pc lv (.long y :: .long x :: st) μ Q := by
  subst hx hy
  exact J_lsub hd (k _ (y_sub h))
theorem J_lmulW {G : JG} {sh : List JSh} {M : JMth} {pc : Nat} {lv : List (Option Value)} {st : List Value} {μ : JM} {Q : Option Value → JM → Prop} {x y : Int64} (a b : Int) (hx : x.toInt = a) (hy : y.toInt = b) (hd : decode M.2.1 pc = .ok (.lmul, 1)) (h : -9223372036854775808 ≤ a * b ∧ a * b < 9223372036854775808) (k : ∀ z : Int64, z.toInt = a * b → J G sh M (pc + 1) lv (.long z :: st) μ Q) : J G sh M pc lv (.long y :: .long x :: st) μ Q := by
  subst hx hy
  exact J_lmul hd (k _ (y_mul h))
theorem y_ne {y : Int64} (h : y.toInt ≠ 0) : ¬ y = 0 := fun e => h (by rw [e]; rfl)
theorem J_lremW {G : JG} {sh : List JSh} {M : JMth} {pc : Nat} {lv : List (Option Value)} {st : List Value} {μ : JM} {Q : Option Value → JM → Prop} {x y : Int64} (a b : Int) (hx : x.toInt = a) (hy : y.toInt = b) (hd : decode M.2.1 pc = .ok (.lrem, 1)) (h : 0 ≤ a ∧ 0 < b) (k : ∀ z : Int64, z.toInt = a % b → J G sh M (pc + 1) lv (.long z :: st) μ Q) : J G sh M pc lv (.long y :: .long x :: st) μ Q := by
  subst hx hy
  exact J_lrem hd (y_ne (by omega)) (k _ (y_rem h.1 h.2))
variable {G : JG}
set_option maxRecDepth 100000 in
set_option maxHeartbeats 4000000 in
theorem l_pow {sh : List JSh} {μ : JM} {n : Int32} {k : Nat} (hn : n.toInt = (k : Int)) (hk9 : k ≤ 9) : ∀ d : Nat, ∀ (i : Nat) (iv : Int32) (x : Int64), i + d = k → iv.toInt = (i : Int) → x.toInt = pw i → J G sh mX3_powerOfTen 4 [some (.int n), some (.long x), none, some (.int iv)] [] μ (fun v μ' => IsL v (pw k) ∧ μ' = μ) := by
  intro d
  induction d with
  | zero =>
    intro i iv x hd hi hx
    refine J_iload_n (pc := 4) dX3_powerOfTen_4 rfl ?_
    refine J_iload_n (pc := 5) dX3_powerOfTen_5 rfl ?_
    refine J_icmp_geW (pc := 6) (i : Int) (k : Int) hi hn 27 dX3_powerOfTen_6 (by decide) (fun h6 => ?_) (fun h6 => ?_)
    · refine J_lload_n (pc := 27) dX3_powerOfTen_27 rfl ?_
      refine J_lret (pc := 28) dX3_powerOfTen_28 rfl ?_
      exact ⟨⟨_, rfl, by rw [show k = i by omega]; exact hx⟩, rfl⟩
    · exfalso; omega
  | succ d ih =>
    intro i iv x hd hi hx
    refine J_iload_n (pc := 4) dX3_powerOfTen_4 rfl ?_
    refine J_iload_n (pc := 5) dX3_powerOfTen_5 rfl ?_
    refine J_icmp_geW (pc := 6) (i : Int) (k : Int) hi hn 27 dX3_powerOfTen_6 (by decide) (fun h6 => ?_) (fun h6 => ?_)
    · exfalso; omega
    · refine J_iload_n (pc := 9) dX3_powerOfTen_9 rfl ?_
      refine J_bipush (pc := 10) (v := 9) dX3_powerOfTen_10 (by decide) ?_
      refine J_icmp_geW (pc := 12) (i : Int) 9 hi rfl 27 dX3_powerOfTen_12 (by decide) (fun h12 => ?_) (fun h12 => ?_)
      · exfalso; omega
      · refine J_lload_n (pc := 15) dX3_powerOfTen_15 rfl ?_
        refine J_ldc2 (pc := 16) fK_X3_245 dX3_powerOfTen_16 ?_
        refine J_lmulW (pc := 19) (pw i) 10 hx rfl dX3_powerOfTen_19 (by have := pw_rng (show i ≤ 9 by omega); omega) (fun z19 e19 => ?_)
        refine J_lstore_n (pc := 20) (lv' := [some (.int n), some (.long z19), none, some (.int iv)]) dX3_powerOfTen_20 (Nat.le_of_ble_eq_true rfl) rfl rfl ?_
        refine J_iincW' (pc := 21) (i : Int) hi (lv' := fun iq_ => [some (.int n), some (.long z19), none, some (.int iq_)]) dX3_powerOfTen_21 rfl (by omega) (by decide) (Nat.le_of_ble_eq_true rfl) rfl (fun _ => rfl) (fun z21 e21 => ?_)
        refine J_goto (pc := 24) 4 dX3_powerOfTen_24 (by decide) ?_
        exact ih (i + 1) z21 z19 (by omega) (by omega) (by rw [pw]; omega)
set_option maxRecDepth 100000 in
set_option maxHeartbeats 4000000 in
theorem c_X3_powerOfTen {sh : List JSh} {μ : JM} {n : Int32} (k : Nat) (hn : n.toInt = (k : Int)) (hk9 : k ≤ 9) : Con G sh mX3_powerOfTen [.int n] μ (fun v μ' => IsL v (pw k) ∧ μ' = μ) := by
  refine Con_of [some (.int n), none, none, none] (by decide +kernel) (Nat.le_of_ble_eq_true rfl) (fun _ h => h) ?_
  refine J_lconst (pc := 0) (v := 1) dX3_powerOfTen_0 (by decide) ?_
  refine J_lstore_n (pc := 1) (lv' := [some (.int n), some (.long 1), none, none]) dX3_powerOfTen_1 (Nat.le_of_ble_eq_true rfl) rfl rfl ?_
  refine J_iconst (pc := 2) (v := 0) dX3_powerOfTen_2 (by decide) ?_
  refine J_istore_n (pc := 3) (lv' := [some (.int n), some (.long 1), none, some (.int 0)]) dX3_powerOfTen_3 (Nat.le_of_ble_eq_true rfl) rfl rfl ?_
  exact J_lv' (lv' := [some (.int n), some (.long 1), none, some (.int 0)]) (by repeat' constructor) (l_pow hn hk9 k 0 0 1 (by omega) rfl rfl)
set_option maxRecDepth 100000 in
set_option maxHeartbeats 4000000 in
theorem l_spell1 {c : JM} {z mo : Int32} {Q : Option Value → JM → Prop} : ∀ d : Nat, ∀ (i : Nat) (wv rv : Int32) (r : Int), i + d = 9 → wv.toInt = (i : Int) → rv.toInt = r → 0 ≤ r → (∀ wv : Int32, wv.toInt = ((i + lnD d r : Nat) : Int) → J G shC mX2_spell 45 [some (.ref 23), some (.int z), some (.int mo), some (.int wv), none, none, none] [] c Q) → J G shC mX2_spell 21 [some (.ref 23), some (.int z), some (.int mo), some (.int wv), some (.int rv), none, none] [] c Q := by
  intro d
  induction d with
  | zero =>
    intro i wv rv r hd hw hr h0 hk2
    refine J_iload (pc := 21) dX2_spell_21 rfl ?_
    refine J_if_leW (pc := 23) r hr 45 dX2_spell_23 (by decide) (fun h23 => ?_) (fun h23 => ?_)
    · exact J_lv' (lv' := [some (.ref 23), some (.int z), some (.int mo), some (.int wv), none, none, none]) (by repeat' constructor) (hk2 wv hw)
    · refine J_iload_n (pc := 26) dX2_spell_26 rfl ?_
      refine J_bipush (pc := 27) (v := 9) dX2_spell_27 (by decide) ?_
      refine J_icmp_geW (pc := 29) (i : Int) 9 hw rfl 45 dX2_spell_29 (by decide) (fun h29 => ?_) (fun h29 => ?_)
      · exact J_lv' (lv' := [some (.ref 23), some (.int z), some (.int mo), some (.int wv), none, none, none]) (by repeat' constructor) (hk2 wv hw)
      · exfalso; omega
  | succ d ih =>
    intro i wv rv r hd hw hr h0 hk2
    refine J_iload (pc := 21) dX2_spell_21 rfl ?_
    refine J_if_leW (pc := 23) r hr 45 dX2_spell_23 (by decide) (fun h23 => ?_) (fun h23 => ?_)
    · rw [lnD, if_neg (by omega)] at hk2
      exact J_lv' (lv' := [some (.ref 23), some (.int z), some (.int mo), some (.int wv), none, none, none]) (by repeat' constructor) (hk2 wv hw)
    · refine J_iload_n (pc := 26) dX2_spell_26 rfl ?_
      refine J_bipush (pc := 27) (v := 9) dX2_spell_27 (by decide) ?_
      refine J_icmp_geW (pc := 29) (i : Int) 9 hw rfl 45 dX2_spell_29 (by decide) (fun h29 => ?_) (fun h29 => ?_)
      · exfalso; omega
      · refine J_iincW' (pc := 32) (i : Int) hw (lv' := fun iq_ => [some (.ref 23), some (.int z), some (.int mo), some (.int iq_), some (.int rv), none, none]) dX2_spell_32 rfl (by omega) (by decide) (Nat.le_of_ble_eq_true rfl) rfl (fun _ => rfl) (fun z32 e32 => ?_)
        refine J_iload (pc := 35) dX2_spell_35 rfl ?_
        refine J_bipush (pc := 37) (v := 10) dX2_spell_37 (by decide) ?_
        refine J_idivW (pc := 39) r 10 hr rfl dX2_spell_39 (by omega) (fun z39 e39 => ?_)
        refine J_istore (pc := 40) (lv' := [some (.ref 23), some (.int z), some (.int mo), some (.int z32), some (.int z39), none, none]) dX2_spell_40 (Nat.le_of_ble_eq_true rfl) rfl rfl ?_
        refine J_goto (pc := 42) 21 dX2_spell_42 (by decide) ?_
        refine ih (i + 1) z32 z39 (r / 10) (by omega) (by omega) e39 (by omega) (fun wv hwv => ?_)
        rw [lnD, if_pos h23] at hk2
        exact hk2 wv (by omega)
set_option maxRecDepth 100000 in
set_option maxHeartbeats 4000000 in
theorem l_spell2 {z mo wv : Int32} : ∀ d : Nat, ∀ (c : JM) (rv iv : Int32) (r : Int), d ≤ 9 → iv.toInt = (d : Int) - 1 → rv.toInt = r → 0 ≤ r → J G shC mX2_spell 53 [some (.ref 23), some (.int z), some (.int mo), some (.int wv), some (.int rv), some (.int iv), none] [] c (fun v μ' => ((gd d r ∧ v = some (.int wv)) ∨ (¬ gd d r ∧ v = some (.int (-1)))) ∧ rowC 24 d r c μ') := by
  intro d
  induction d with
  | zero =>
    intro c rv iv r hd hi hr h0
    refine J_iload (pc := 53) dX2_spell_53 rfl ?_
    refine J_if_ltW (pc := 55) iv.toInt rfl 101 dX2_spell_55 (by decide) (fun h55 => ?_) (fun h55 => ?_)
    · refine J_iload_n (pc := 101) dX2_spell_101 rfl ?_
      refine J_iret (pc := 102) dX2_spell_102 rfl ?_
      exact ⟨Or.inl ⟨trivial, rfl⟩, rowC_0 (Or.inl rfl)⟩
    · exfalso; omega
  | succ d ih =>
    intro c rv iv r hd hi hr h0
    refine J_iload (pc := 53) dX2_spell_53 rfl ?_
    refine J_if_ltW (pc := 55) iv.toInt rfl 101 dX2_spell_55 (by decide) (fun h55 => ?_) (fun h55 => ?_)
    · exfalso; omega
    · refine J_iload (pc := 58) dX2_spell_58 rfl ?_
      refine J_bipush (pc := 60) (v := 10) dX2_spell_60 (by decide) ?_
      refine J_iremW (pc := 62) r 10 hr rfl dX2_spell_62 (by omega) (fun z62 e62 => ?_)
      refine J_iconst (pc := 63) (v := 1) dX2_spell_63 (by decide) ?_
      refine J_isubW (pc := 64) (r % 10) 1 e62 rfl dX2_spell_64 (by omega) (fun z64 e64 => ?_)
      refine J_istore (pc := 65) (lv' := [some (.ref 23), some (.int z), some (.int mo), some (.int wv), some (.int rv), some (.int iv), some (.int z64)]) dX2_spell_65 (Nat.le_of_ble_eq_true rfl) rfl rfl ?_
      refine J_iload (pc := 67) dX2_spell_67 rfl ?_
      refine J_callSc (pc := 69) fC_X2_26 dX2_spell_69 (c_X3_isWord ((r % 10) - 1) e64) rfl ⟨Nat.le_of_ble_eq_true rfl, Nat.le_of_ble_eq_true rfl⟩ rfl (Nat.le_of_ble_eq_true rfl) (fun h69 => ?_) (fun h69 => ?_)
      · refine J_if_ne_T (pc := 72) 77 dX2_spell_72 (by decide) (by decide) ?_
        refine J_aload_n (pc := 77) dX2_spell_77 rfl ?_
        refine J_getR (pc := 78) 24 fF_X2_9 rfl rfl dX2_spell_78 ?_
        refine J_iload (pc := 81) dX2_spell_81 rfl ?_
        refine J_iload (pc := 83) dX2_spell_83 rfl ?_
        refine J_callSv (pc := 85) fC_X2_30 dX2_spell_85 (c_X3_put rfl d (by omega) (by omega) (by omega)) rfl ⟨Nat.le_of_ble_eq_true rfl, Nat.le_of_ble_eq_true rfl⟩ rfl (Nat.le_of_ble_eq_true rfl) (fun μ85 m85 => ?_)
        refine J_iload (pc := 88) dX2_spell_88 rfl ?_
        refine J_bipush (pc := 90) (v := 10) dX2_spell_90 (by decide) ?_
        refine J_idivW (pc := 92) r 10 hr rfl dX2_spell_92 (by omega) (fun z92 e92 => ?_)
        refine J_istore (pc := 93) (lv' := [some (.ref 23), some (.int z), some (.int mo), some (.int wv), some (.int z92), some (.int iv), some (.int z64)]) dX2_spell_93 (Nat.le_of_ble_eq_true rfl) rfl rfl ?_
        refine J_iincW' (pc := 95) iv.toInt rfl (lv' := fun iq_ => [some (.ref 23), some (.int z), some (.int mo), some (.int wv), some (.int z92), some (.int iq_), some (.int z64)]) dX2_spell_95 rfl (by omega) (by decide) (Nat.le_of_ble_eq_true rfl) rfl (fun _ => rfl) (fun z95 e95 => ?_)
        refine J_goto (pc := 98) 53 dX2_spell_98 (by decide) ?_
        refine J_mono (J_lv' (lv' := [some (.ref 23), some (.int z), some (.int mo), some (.int wv), some (.int z92), some (.int z95), none]) (by repeat' constructor) (ih μ85 z92 z95 (r / 10) (by omega) (by omega) (by omega) (by omega))) (fun v μ' hh => ⟨?_, rowC_s m85 (fun _ => by omega) hh.2⟩)
        rcases hh.1 with ⟨g1, g2⟩ | ⟨g1, g2⟩
        · exact Or.inl ⟨⟨by omega, g1⟩, g2⟩
        · exact Or.inr ⟨fun hg => g1 hg.2, g2⟩
      · refine J_if_ne_F (pc := 72) 77 dX2_spell_72 (by decide) (by decide) ?_
        refine J_iconst (pc := 75) (v := (-1)) dX2_spell_75 (by decide) ?_
        refine J_iret (pc := 76) dX2_spell_76 rfl ?_
        have hng : ¬ gd (d + 1) r := fun hg => h69 (by have := hg.1; omega)
        exact ⟨Or.inr ⟨hng, rfl⟩, rowC_0 (Or.inr hng)⟩
set_option maxRecDepth 100000 in
set_option maxHeartbeats 4000000 in
theorem c_X2_spell9 {c : JM} {z : Int32} {z' : Int} (hz : z.toInt = z') : Con G shC mX2_spell [.ref 23, .int z, .int 9] c (fun v μ' => ((okR z' 9 ∧ IsZ v (lnD 9 z' : Int)) ∨ (¬ okR z' 9 ∧ IsZ v (-1))) ∧ rowC 24 (lnD 9 z') z' c μ' ∨ (¬ okR z' 9 ∧ IsZ v (-1) ∧ μ' = c)) := by
  refine Con_of [some (.ref 23), some (.int z), some (.int 9), none, none, none, none] (by decide +kernel) (Nat.le_of_ble_eq_true rfl) (fun _ h => h) ?_
  refine J_iload_n (pc := 0) dX2_spell_0 rfl ?_
  refine J_if_ltW (pc := 1) z' hz 14 dX2_spell_1 (by decide) (fun h1 => ?_) (fun h1 => ?_)
  · refine J_iconst (pc := 14) (v := (-1)) dX2_spell_14 (by decide) ?_
    refine J_iret (pc := 15) dX2_spell_15 rfl ?_
    exact Or.inr ⟨fun hk => by have h1 := hk.1; have h2 := hk.2.1; omega, ⟨_, rfl, rfl⟩, rfl⟩
  · refine J_iload_n (pc := 4) dX2_spell_4 rfl ?_
    refine J_i2l (pc := 5) dX2_spell_5 rfl ?_
    refine J_iload_n (pc := 6) dX2_spell_6 rfl ?_
    refine J_callSq (pc := 7) fC_X2_22 dX2_spell_7 (c_X3_powerOfTen 9 rfl (by decide)) rfl ⟨Nat.le_of_ble_eq_true rfl, Nat.le_of_ble_eq_true rfl⟩ rfl (Nat.le_of_ble_eq_true rfl) (fun v7 μ7 q7 => ?_)
    obtain ⟨⟨z7, rfl, e7⟩, q7⟩ := q7
    rw [q7]
    refine J_lcmp (pc := 10) dX2_spell_10 ?_
    have l10 := lgc z.toInt64 z7
    have la10 : (z.toInt64 : Int64).toInt = z' := (i2l_z hz)
    have lb10 : (z7 : Int64).toInt = (pw 9) := e7
    refine J_if_ltW (pc := 11) ((lg_cmp z.toInt64 z7).toInt) rfl 16 dX2_spell_11 (by decide) (fun h11 => ?_) (fun h11 => ?_)
    · refine J_iconst (pc := 16) (v := 0) dX2_spell_16 (by decide) ?_
      refine J_istore_n (pc := 17) (lv' := [some (.ref 23), some (.int z), some (.int 9), some (.int 0), none, none, none]) dX2_spell_17 (Nat.le_of_ble_eq_true rfl) rfl rfl ?_
      refine J_iload_n (pc := 18) dX2_spell_18 rfl ?_
      refine J_istore (pc := 19) (lv' := [some (.ref 23), some (.int z), some (.int 9), some (.int 0), some (.int z), none, none]) dX2_spell_19 (Nat.le_of_ble_eq_true rfl) rfl rfl ?_
      refine J_lv' (lv' := [some (.ref 23), some (.int z), some (.int 9), some (.int 0), some (.int z), none, none]) (by repeat' constructor) (l_spell1 9 0 0 z z' rfl rfl hz (by omega) (fun wv hwv => ?_))
      rw [Nat.zero_add] at hwv
      have hln := lnD_le 9 z'
      have hpw : z' < pw 9 := by omega
      refine J_iload_n (pc := 45) dX2_spell_45 rfl ?_
      refine J_istore (pc := 46) (lv' := [some (.ref 23), some (.int z), some (.int 9), some (.int wv), some (.int z), none, none]) dX2_spell_46 (Nat.le_of_ble_eq_true rfl) rfl rfl ?_
      refine J_iload_n (pc := 48) dX2_spell_48 rfl ?_
      refine J_iconst (pc := 49) (v := 1) dX2_spell_49 (by decide) ?_
      refine J_isubW (pc := 50) ((lnD 9 z') : Int) 1 hwv rfl dX2_spell_50 (by omega) (fun z50 e50 => ?_)
      refine J_istore (pc := 51) (lv' := [some (.ref 23), some (.int z), some (.int 9), some (.int wv), some (.int z), some (.int z50), none]) dX2_spell_51 (Nat.le_of_ble_eq_true rfl) rfl rfl ?_
      refine J_mono (J_lv' (lv' := [some (.ref 23), some (.int z), some (.int 9), some (.int wv), some (.int z), some (.int z50), none]) (by repeat' constructor) (l_spell2 (lnD 9 z') c z z50 z' hln (by omega) hz (by omega))) (fun v μ' hh => Or.inl ⟨?_, hh.2⟩)
      rcases hh.1 with ⟨g1, g2⟩ | ⟨g1, g2⟩
      · exact Or.inl ⟨⟨by omega, hpw, g1⟩, _, g2, hwv⟩
      · exact Or.inr ⟨fun hk => g1 hk.2.2, _, g2, rfl⟩
    · refine J_iconst (pc := 14) (v := (-1)) dX2_spell_14 (by decide) ?_
      refine J_iret (pc := 15) dX2_spell_15 rfl ?_
      exact Or.inr ⟨fun hk => by have h1 := hk.1; have h2 := hk.2.1; omega, ⟨_, rfl, rfl⟩, rfl⟩
set_option maxRecDepth 100000 in
set_option maxHeartbeats 4000000 in
theorem c_X2_spell7 {c : JM} {z : Int32} {z' : Int} (hz : z.toInt = z') : Con G shC mX2_spell [.ref 23, .int z, .int 7] c (fun v μ' => ((okR z' 7 ∧ IsZ v (lnD 9 z' : Int)) ∨ (¬ okR z' 7 ∧ IsZ v (-1))) ∧ rowC 24 (lnD 9 z') z' c μ' ∨ (¬ okR z' 7 ∧ IsZ v (-1) ∧ μ' = c)) := by
  refine Con_of [some (.ref 23), some (.int z), some (.int 7), none, none, none, none] (by decide +kernel) (Nat.le_of_ble_eq_true rfl) (fun _ h => h) ?_
  refine J_iload_n (pc := 0) dX2_spell_0 rfl ?_
  refine J_if_ltW (pc := 1) z' hz 14 dX2_spell_1 (by decide) (fun h1 => ?_) (fun h1 => ?_)
  · refine J_iconst (pc := 14) (v := (-1)) dX2_spell_14 (by decide) ?_
    refine J_iret (pc := 15) dX2_spell_15 rfl ?_
    exact Or.inr ⟨fun hk => by have h1 := hk.1; have h2 := hk.2.1; omega, ⟨_, rfl, rfl⟩, rfl⟩
  · refine J_iload_n (pc := 4) dX2_spell_4 rfl ?_
    refine J_i2l (pc := 5) dX2_spell_5 rfl ?_
    refine J_iload_n (pc := 6) dX2_spell_6 rfl ?_
    refine J_callSq (pc := 7) fC_X2_22 dX2_spell_7 (c_X3_powerOfTen 7 rfl (by decide)) rfl ⟨Nat.le_of_ble_eq_true rfl, Nat.le_of_ble_eq_true rfl⟩ rfl (Nat.le_of_ble_eq_true rfl) (fun v7 μ7 q7 => ?_)
    obtain ⟨⟨z7, rfl, e7⟩, q7⟩ := q7
    rw [q7]
    refine J_lcmp (pc := 10) dX2_spell_10 ?_
    have l10 := lgc z.toInt64 z7
    have la10 : (z.toInt64 : Int64).toInt = z' := (i2l_z hz)
    have lb10 : (z7 : Int64).toInt = (pw 7) := e7
    refine J_if_ltW (pc := 11) ((lg_cmp z.toInt64 z7).toInt) rfl 16 dX2_spell_11 (by decide) (fun h11 => ?_) (fun h11 => ?_)
    · refine J_iconst (pc := 16) (v := 0) dX2_spell_16 (by decide) ?_
      refine J_istore_n (pc := 17) (lv' := [some (.ref 23), some (.int z), some (.int 7), some (.int 0), none, none, none]) dX2_spell_17 (Nat.le_of_ble_eq_true rfl) rfl rfl ?_
      refine J_iload_n (pc := 18) dX2_spell_18 rfl ?_
      refine J_istore (pc := 19) (lv' := [some (.ref 23), some (.int z), some (.int 7), some (.int 0), some (.int z), none, none]) dX2_spell_19 (Nat.le_of_ble_eq_true rfl) rfl rfl ?_
      refine J_lv' (lv' := [some (.ref 23), some (.int z), some (.int 7), some (.int 0), some (.int z), none, none]) (by repeat' constructor) (l_spell1 9 0 0 z z' rfl rfl hz (by omega) (fun wv hwv => ?_))
      rw [Nat.zero_add] at hwv
      have hln := lnD_le 9 z'
      have hpw : z' < pw 7 := by omega
      refine J_iload_n (pc := 45) dX2_spell_45 rfl ?_
      refine J_istore (pc := 46) (lv' := [some (.ref 23), some (.int z), some (.int 7), some (.int wv), some (.int z), none, none]) dX2_spell_46 (Nat.le_of_ble_eq_true rfl) rfl rfl ?_
      refine J_iload_n (pc := 48) dX2_spell_48 rfl ?_
      refine J_iconst (pc := 49) (v := 1) dX2_spell_49 (by decide) ?_
      refine J_isubW (pc := 50) ((lnD 9 z') : Int) 1 hwv rfl dX2_spell_50 (by omega) (fun z50 e50 => ?_)
      refine J_istore (pc := 51) (lv' := [some (.ref 23), some (.int z), some (.int 7), some (.int wv), some (.int z), some (.int z50), none]) dX2_spell_51 (Nat.le_of_ble_eq_true rfl) rfl rfl ?_
      refine J_mono (J_lv' (lv' := [some (.ref 23), some (.int z), some (.int 7), some (.int wv), some (.int z), some (.int z50), none]) (by repeat' constructor) (l_spell2 (lnD 9 z') c z z50 z' hln (by omega) hz (by omega))) (fun v μ' hh => Or.inl ⟨?_, hh.2⟩)
      rcases hh.1 with ⟨g1, g2⟩ | ⟨g1, g2⟩
      · exact Or.inl ⟨⟨by omega, hpw, g1⟩, _, g2, hwv⟩
      · exact Or.inr ⟨fun hk => g1 hk.2.2, _, g2, rfl⟩
    · refine J_iconst (pc := 14) (v := (-1)) dX2_spell_14 (by decide) ?_
      refine J_iret (pc := 15) dX2_spell_15 rfl ?_
      exact Or.inr ⟨fun hk => by have h1 := hk.1; have h2 := hk.2.1; omega, ⟨_, rfl, rfl⟩, rfl⟩
/-- all but the row as it was -/
def eqT (m ν : JM) : Prop := (∀ o, o ≠ 0 → o ≠ 7 → ν.1 o = m.1 o) ∧ (∀ k, k ≠ 16 → ν.1 0 k = m.1 0 k) ∧ ν.2 = m.2
theorem eqT_eqM {m ν : JM} (h : eqT m ν) : eqM m ν := ⟨fun o ho => h.1 o (by omega) (by omega), h.2.1 9 (by omega), by rw [h.2.2]⟩
def rwM (ν : JM) (L : Nat) (f : Nat → Int) : Prop := (ν.1 0 16).toInt = (L : Int) ∧ ∀ j, j < L → (ν.1 7 j).toInt = f j ∧ 0 ≤ f j ∧ f j ≤ 5
theorem eqT_16 {m ν : JM} {x : Int32} (h : eqT m ν) : eqT m (jI ν 0 16 x) := ⟨fun o h0 h7 => by rw [jI_ne (by omega)]; exact h.1 o h0 h7, fun k hk => by rw [jI_i, if_neg (by omega)]; exact h.2.1 k hk, h.2.2⟩
theorem eqT_C {m ν μ' : JM} {d : Nat} {r : Int} (h : eqT m ν) (h1 : ∀ o, o ≠ 7 → μ'.1 o = ν.1 o) (h2 : μ'.2 = ν.2) : eqT m μ' := ⟨fun o h0 h7 => by rw [h1 o h7]; exact h.1 o h0 h7, fun k hk => by rw [h1 0 (by omega)]; exact h.2.1 k hk, h2.trans h.2.2⟩
theorem hearM_o {ν : JM} {w : Int} : (∀ o, o ≠ 0 → (hearM ν w).1 o = ν.1 o) ∧ (hearM ν w).1 0 16 = ν.1 0 16 := by
  refine ⟨fun o ho => ?_, rfl⟩
  unfold hearM setS
  rw [jI_ne (by omega), jI_ne (by omega), jI_ne (by omega), jI_ne (by omega)]
theorem beginM_o {ν : JM} : (∀ o, o ≠ 0 → (beginM ν).1 o = ν.1 o) ∧ (beginM ν).1 0 16 = ν.1 0 16 := by
  refine ⟨fun o ho => ?_, rfl⟩
  unfold beginM
  rw [jI_ne (by omega), jI_ne (by omega), jI_ne (by omega), jI_ne (by omega)]
theorem rwM_hear {ν : JM} {w : Int} {L : Nat} {f : Nat → Int} (h : rwM ν L f) : rwM (hearM ν w) L f := ⟨by rw [hearM_o.2]; exact h.1, fun j hj => by rw [hearM_o.1 7 (by omega)]; exact h.2 j hj⟩
theorem rwM_begin {ν : JM} {L : Nat} {f : Nat → Int} (h : rwM ν L f) : rwM (beginM ν) L f := ⟨by rw [beginM_o.2]; exact h.1, fun j hj => by rw [beginM_o.1 7 (by omega)]; exact h.2 j hj⟩
set_option maxRecDepth 100000 in
set_option maxHeartbeats 4000000 in
theorem l_take1 {m : JM} {z mo : Int32} {Q : Option Value → JM → Prop} : ∀ d : Nat, ∀ (i : Nat) (ν : JM) (rv : Int32) (r : Int), i + d = 9 → eqT m ν → (ν.1 0 16).toInt = (i : Int) → rv.toInt = r → 0 ≤ r → (∀ (ν : JM) (rv : Int32), eqT m ν → (ν.1 0 16).toInt = ((i + lnD d r : Nat) : Int) → rv.toInt = lfD d r → J G shM mX4_takeRow 38 [some (.ref 0), some (.int z), some (.int mo), some (.int rv), none, none] [] ν Q) → J G shM mX4_takeRow 7 [some (.ref 0), some (.int z), some (.int mo), some (.int rv), none, none] [] ν Q := by
  intro d
  induction d with
  | zero =>
    intro i ν rv r hd hT hw hr h0 hk2
    refine J_iload_n (pc := 7) dX4_takeRow_7 rfl ?_
    refine J_if_leW (pc := 8) r hr 38 dX4_takeRow_8 (by decide) (fun h8 => ?_) (fun h8 => ?_)
    · exact hk2 ν rv hT hw hr
    · refine J_aload_n (pc := 11) dX4_takeRow_11 rfl ?_
      refine J_getI (pc := 12) fF_X4_173 rfl rfl dX4_takeRow_12 ?_
      refine J_bipush (pc := 15) (v := 9) dX4_takeRow_15 (by decide) ?_
      refine J_icmp_geW (pc := 17) (i : Int) 9 hw rfl 38 dX4_takeRow_17 (by decide) (fun h17 => ?_) (fun h17 => ?_)
      · exact hk2 ν rv hT hw hr
      · exfalso; omega
  | succ d ih =>
    intro i ν rv r hd hT hw hr h0 hk2
    refine J_iload_n (pc := 7) dX4_takeRow_7 rfl ?_
    refine J_if_leW (pc := 8) r hr 38 dX4_takeRow_8 (by decide) (fun h8 => ?_) (fun h8 => ?_)
    · rw [lnD, lfD, if_neg (by omega), if_neg (by omega)] at hk2
      exact hk2 ν rv hT hw hr
    · refine J_aload_n (pc := 11) dX4_takeRow_11 rfl ?_
      refine J_getI (pc := 12) fF_X4_173 rfl rfl dX4_takeRow_12 ?_
      refine J_bipush (pc := 15) (v := 9) dX4_takeRow_15 (by decide) ?_
      refine J_icmp_geW (pc := 17) (i : Int) 9 hw rfl 38 dX4_takeRow_17 (by decide) (fun h17 => ?_) (fun h17 => ?_)
      · exfalso; omega
      · refine J_aload_n (pc := 20) dX4_takeRow_20 rfl ?_
        refine J_dup (pc := 21) dX4_takeRow_21 rfl ?_
        refine J_getI (pc := 22) fF_X4_173 rfl rfl dX4_takeRow_22 ?_
        refine J_iconst (pc := 25) (v := 1) dX4_takeRow_25 (by decide) ?_
        refine J_iaddW (pc := 26) (i : Int) 1 hw rfl dX4_takeRow_26 (by omega) (fun z26 e26 => ?_)
        refine J_putIW (pc := 27) fF_X4_173 rfl rfl dX4_takeRow_27 (fun μ27 m27 => ?_)
        refine J_iload_n (pc := 30) dX4_takeRow_30 rfl ?_
        refine J_bipush (pc := 31) (v := 10) dX4_takeRow_31 (by decide) ?_
        refine J_idivW (pc := 33) r 10 hr rfl dX4_takeRow_33 (by omega) (fun z33 e33 => ?_)
        refine J_istore_n (pc := 34) (lv' := [some (.ref 0), some (.int z), some (.int mo), some (.int z33), none, none]) dX4_takeRow_34 (Nat.le_of_ble_eq_true rfl) rfl rfl ?_
        refine J_goto (pc := 35) 7 dX4_takeRow_35 (by decide) ?_
        refine ih (i + 1) μ27 z33 (r / 10) (by omega) (by rw [m27]; exact eqT_16 hT) (by rw [m27, jI_i, if_pos ⟨rfl, rfl⟩]; omega) e33 (by omega) (fun ν' rv' hT' hw' hr' => ?_)
        rw [lnD, lfD, if_pos h8, if_pos h8] at hk2
        exact hk2 ν' rv' hT' (by omega) hr'
set_option maxRecDepth 100000 in
set_option maxHeartbeats 4000000 in
theorem l_take2 {z mo : Int32} : ∀ d : Nat, ∀ (ν : JM) (rv g kv : Int32) (r : Int), d ≤ 9 → kv.toInt = (d : Int) - 1 → rv.toInt = r → 0 ≤ r → (g = 0 ∨ g = 1) → J G shM mX4_takeRow 69 [some (.ref 0), some (.int z), some (.int mo), some (.int rv), some (.int g), some (.int kv)] [] ν (fun v μ' => ((g = 1 ∧ gd d r ∧ v = some (.int 1)) ∨ (¬ (g = 1 ∧ gd d r) ∧ v = some (.int 0))) ∧ rowC 7 d r ν μ') := by
  intro d
  induction d with
  | zero =>
    intro ν rv g kv r hd hi hr h0 hg01
    refine J_iload (pc := 69) dX4_takeRow_69 rfl ?_
    refine J_if_ltW (pc := 71) kv.toInt rfl 128 dX4_takeRow_71 (by decide) (fun h71 => ?_) (fun h71 => ?_)
    · rcases hg01 with rfl | rfl
      · refine J_iload (pc := 128) dX4_takeRow_128 rfl ?_
        refine J_zret (pc := 130) dX4_takeRow_130 rfl (by decide) ?_
        exact ⟨Or.inr ⟨fun h => absurd h.1 (by decide), rfl⟩, rowC_0 (Or.inl rfl)⟩
      · refine J_iload (pc := 128) dX4_takeRow_128 rfl ?_
        refine J_zret (pc := 130) dX4_takeRow_130 rfl (by decide) ?_
        exact ⟨Or.inl ⟨rfl, trivial, rfl⟩, rowC_0 (Or.inl rfl)⟩
    · exfalso; omega
  | succ d ih =>
    intro ν rv g kv r hd hi hr h0 hg01
    refine J_iload (pc := 69) dX4_takeRow_69 rfl ?_
    refine J_if_ltW (pc := 71) kv.toInt rfl 128 dX4_takeRow_71 (by decide) (fun h71 => ?_) (fun h71 => ?_)
    · exfalso; omega
    · refine J_aload_n (pc := 74) dX4_takeRow_74 rfl ?_
      refine J_getR (pc := 75) 7 fF_X4_28 rfl rfl dX4_takeRow_75 ?_
      refine J_iload (pc := 78) dX4_takeRow_78 rfl ?_
      refine J_iload_n (pc := 80) dX4_takeRow_80 rfl ?_
      refine J_bipush (pc := 81) (v := 10) dX4_takeRow_81 (by decide) ?_
      refine J_iremW (pc := 83) r 10 hr rfl dX4_takeRow_83 (by omega) (fun z83 e83 => ?_)
      refine J_iconst (pc := 84) (v := 1) dX4_takeRow_84 (by decide) ?_
      refine J_isubW (pc := 85) (r % 10) 1 e83 rfl dX4_takeRow_85 (by omega) (fun z85 e85 => ?_)
      refine J_iastW (pc := 86) d (by omega) rfl (by omega) dX4_takeRow_86 (fun μ86 m86 => ?_)
      refine J_iload (pc := 87) dX4_takeRow_87 rfl ?_
      refine J_if_eqW (pc := 89) g.toInt rfl 114 dX4_takeRow_89 (by decide) (fun h89 => ?_) (fun h89 => ?_)
      · refine J_iconst (pc := 114) (v := 0) dX4_takeRow_114 (by decide) ?_
        refine J_istore (pc := 115) (lv' := [some (.ref 0), some (.int z), some (.int mo), some (.int rv), some (.int 0), some (.int kv)]) dX4_takeRow_115 (Nat.le_of_ble_eq_true rfl) rfl rfl ?_
        refine J_iload_n (pc := 117) dX4_takeRow_117 rfl ?_
        refine J_bipush (pc := 118) (v := 10) dX4_takeRow_118 (by decide) ?_
        refine J_idivW (pc := 120) r 10 hr rfl dX4_takeRow_120 (by omega) (fun z120 e120 => ?_)
        refine J_istore_n (pc := 121) (lv' := [some (.ref 0), some (.int z), some (.int mo), some (.int z120), some (.int 0), some (.int kv)]) dX4_takeRow_121 (Nat.le_of_ble_eq_true rfl) rfl rfl ?_
        refine J_iincW' (pc := 122) kv.toInt rfl (lv' := fun iq_ => [some (.ref 0), some (.int z), some (.int mo), some (.int z120), some (.int 0), some (.int iq_)]) dX4_takeRow_122 rfl (by omega) (by decide) (Nat.le_of_ble_eq_true rfl) rfl (fun _ => rfl) (fun z122 e122 => ?_)
        refine J_goto (pc := 125) 69 dX4_takeRow_125 (by decide) ?_
        refine J_mono (J_lv' (lv' := [some (.ref 0), some (.int z), some (.int mo), some (.int z120), some (.int 0), some (.int z122)]) (by repeat' constructor) (ih μ86 z120 0 z122 (r / 10) (by omega) (by omega) (by omega) (by omega) (by decide))) (fun v μ' hh => ⟨?_, rowC_s m86 (fun _ => by omega) hh.2⟩)
        rcases hh.1 with ⟨g0, g1, g2⟩ | ⟨g1, g2⟩
        · exact absurd g0 (by decide)
        · exact Or.inr ⟨fun hg => (by first | exact h104 (by have := hg.2.1; omega) | (rw [hg.1] at h89; exact absurd h89 (by decide))), g2⟩
      · refine J_aload_n (pc := 92) dX4_takeRow_92 rfl ?_
        refine J_getR (pc := 93) 7 fF_X4_28 rfl rfl dX4_takeRow_93 ?_
        refine J_iload (pc := 96) dX4_takeRow_96 rfl ?_
        refine J_ialdW (pc := 98) d (by omega) rfl (by omega) dX4_takeRow_98 ?_
        refine J_i2l (pc := 99) dX4_takeRow_99 rfl ?_
        refine J_lconst (pc := 100) (v := 0) dX4_takeRow_100 (by decide) ?_
        refine J_ldc2 (pc := 101) fK_X4_89 dX4_takeRow_101 ?_
        refine J_callSc (pc := 104) fC_X4_58 dX4_takeRow_104 (c_X4_in (r % 10 - 1) 0 5 (i2l_z (by rw [m86, jI_i, if_pos ⟨rfl, rfl⟩]; exact e85)) rfl rfl) rfl ⟨Nat.le_of_ble_eq_true rfl, Nat.le_of_ble_eq_true rfl⟩ rfl (Nat.le_of_ble_eq_true rfl) (fun h104 => ?_) (fun h104 => ?_)
        · refine J_if_eq_F (pc := 107) 114 dX4_takeRow_107 (by decide) (by decide) ?_
          refine J_iconst (pc := 110) (v := 1) dX4_takeRow_110 (by decide) ?_
          refine J_goto (pc := 111) 115 dX4_takeRow_111 (by decide) ?_
          refine J_istore (pc := 115) (lv' := [some (.ref 0), some (.int z), some (.int mo), some (.int rv), some (.int 1), some (.int kv)]) dX4_takeRow_115 (Nat.le_of_ble_eq_true rfl) rfl rfl ?_
          refine J_iload_n (pc := 117) dX4_takeRow_117 rfl ?_
          refine J_bipush (pc := 118) (v := 10) dX4_takeRow_118 (by decide) ?_
          refine J_idivW (pc := 120) r 10 hr rfl dX4_takeRow_120 (by omega) (fun z120 e120 => ?_)
          refine J_istore_n (pc := 121) (lv' := [some (.ref 0), some (.int z), some (.int mo), some (.int z120), some (.int 1), some (.int kv)]) dX4_takeRow_121 (Nat.le_of_ble_eq_true rfl) rfl rfl ?_
          refine J_iincW' (pc := 122) kv.toInt rfl (lv' := fun iq_ => [some (.ref 0), some (.int z), some (.int mo), some (.int z120), some (.int 1), some (.int iq_)]) dX4_takeRow_122 rfl (by omega) (by decide) (Nat.le_of_ble_eq_true rfl) rfl (fun _ => rfl) (fun z122 e122 => ?_)
          refine J_goto (pc := 125) 69 dX4_takeRow_125 (by decide) ?_
          refine J_mono (J_lv' (lv' := [some (.ref 0), some (.int z), some (.int mo), some (.int z120), some (.int 1), some (.int z122)]) (by repeat' constructor) (ih μ86 z120 1 z122 (r / 10) (by omega) (by omega) (by omega) (by omega) (by decide))) (fun v μ' hh => ⟨?_, rowC_s m86 (fun _ => by omega) hh.2⟩)
          rcases hh.1 with ⟨g0, g1, g2⟩ | ⟨g1, g2⟩
          · exact Or.inl ⟨(by rcases hg01 with e | e; rw [e] at h89; exact absurd rfl h89; exact e), ⟨by omega, g1⟩, g2⟩
          · exact Or.inr ⟨fun hg => g1 ⟨rfl, hg.2.2⟩, g2⟩
        · refine J_if_eq_T (pc := 107) 114 dX4_takeRow_107 (by decide) (by decide) ?_
          refine J_iconst (pc := 114) (v := 0) dX4_takeRow_114 (by decide) ?_
          refine J_istore (pc := 115) (lv' := [some (.ref 0), some (.int z), some (.int mo), some (.int rv), some (.int 0), some (.int kv)]) dX4_takeRow_115 (Nat.le_of_ble_eq_true rfl) rfl rfl ?_
          refine J_iload_n (pc := 117) dX4_takeRow_117 rfl ?_
          refine J_bipush (pc := 118) (v := 10) dX4_takeRow_118 (by decide) ?_
          refine J_idivW (pc := 120) r 10 hr rfl dX4_takeRow_120 (by omega) (fun z120 e120 => ?_)
          refine J_istore_n (pc := 121) (lv' := [some (.ref 0), some (.int z), some (.int mo), some (.int z120), some (.int 0), some (.int kv)]) dX4_takeRow_121 (Nat.le_of_ble_eq_true rfl) rfl rfl ?_
          refine J_iincW' (pc := 122) kv.toInt rfl (lv' := fun iq_ => [some (.ref 0), some (.int z), some (.int mo), some (.int z120), some (.int 0), some (.int iq_)]) dX4_takeRow_122 rfl (by omega) (by decide) (Nat.le_of_ble_eq_true rfl) rfl (fun _ => rfl) (fun z122 e122 => ?_)
          refine J_goto (pc := 125) 69 dX4_takeRow_125 (by decide) ?_
          refine J_mono (J_lv' (lv' := [some (.ref 0), some (.int z), some (.int mo), some (.int z120), some (.int 0), some (.int z122)]) (by repeat' constructor) (ih μ86 z120 0 z122 (r / 10) (by omega) (by omega) (by omega) (by omega) (by decide))) (fun v μ' hh => ⟨?_, rowC_s m86 (fun _ => by omega) hh.2⟩)
          rcases hh.1 with ⟨g0, g1, g2⟩ | ⟨g1, g2⟩
          · exact absurd g0 (by decide)
          · exact Or.inr ⟨fun hg => (by first | exact h104 (by have := hg.2.1; omega) | (rw [hg.1] at h89; exact absurd h89 (by decide))), g2⟩
set_option maxRecDepth 100000 in
set_option maxHeartbeats 4000000 in
theorem c_X4_takeRow9 {m : JM} {z : Int32} {z' : Int} (hz : z.toInt = z') : Con G shM mX4_takeRow [.ref 0, .int z, .int 9] m (fun v μ' => ((okR z' 9 ∧ v = some (.int 1) ∧ rwM μ' (lnD 9 z') (wd (lnD 9 z') z')) ∨ (¬ okR z' 9 ∧ v = some (.int 0))) ∧ eqT m μ') := by
  refine Con_of [some (.ref 0), some (.int z), some (.int 9), none, none, none] (by decide +kernel) (Nat.le_of_ble_eq_true rfl) (fun _ h => h) ?_
  refine J_aload_n (pc := 0) dX4_takeRow_0 rfl ?_
  refine J_iconst (pc := 1) (v := 0) dX4_takeRow_1 (by decide) ?_
  refine J_putIW (pc := 2) fF_X4_173 rfl rfl dX4_takeRow_2 (fun μ2 m2 => ?_)
  refine J_iload_n (pc := 5) dX4_takeRow_5 rfl ?_
  refine J_istore_n (pc := 6) (lv' := [some (.ref 0), some (.int z), some (.int 9), some (.int z), none, none]) dX4_takeRow_6 (Nat.le_of_ble_eq_true rfl) rfl rfl ?_
  rcases (by omega : 0 ≤ z' ∨ z' < 0) with hz0 | hz0
  · refine l_take1 9 0 μ2 z z' rfl (by rw [m2]; exact eqT_16 ⟨fun _ _ _ => rfl, fun _ _ => rfl, rfl⟩) (by rw [m2, jI_i, if_pos ⟨rfl, rfl⟩]; rfl) hz hz0 (fun ν rv hT hw hr => ?_)
    rw [Nat.zero_add] at hw
    have hpw := lnD_pw 9 9 z' hz0 (by decide)
    have hln := lnD_le 9 z'
    refine J_iload_n (pc := 38) dX4_takeRow_38 rfl ?_
    refine J_if_ltW (pc := 39) z' hz 54 dX4_takeRow_39 (by decide) (fun h39 => ?_) (fun h39 => ?_)
    · refine J_iconst (pc := 54) (v := 0) dX4_takeRow_54 (by decide) ?_
      refine J_zret (pc := 55) dX4_takeRow_55 rfl (by decide) ?_
      exact ⟨Or.inr ⟨fun hk => by have h1 := hk.1; have h2 := hpw.2 hk.2.1; omega, rfl⟩, hT⟩
    · refine J_iload_n (pc := 42) dX4_takeRow_42 rfl ?_
      refine J_if_gtW (pc := 43) (lfD 9 z') hr 54 dX4_takeRow_43 (by decide) (fun h43 => ?_) (fun h43 => ?_)
      · refine J_iconst (pc := 54) (v := 0) dX4_takeRow_54 (by decide) ?_
        refine J_zret (pc := 55) dX4_takeRow_55 rfl (by decide) ?_
        exact ⟨Or.inr ⟨fun hk => by have h1 := hk.1; have h2 := hpw.2 hk.2.1; omega, rfl⟩, hT⟩
      · refine J_aload_n (pc := 46) dX4_takeRow_46 rfl ?_
        refine J_getI (pc := 47) fF_X4_173 rfl rfl dX4_takeRow_47 ?_
        refine J_iload_n (pc := 50) dX4_takeRow_50 rfl ?_
        refine J_icmp_leW (pc := 51) (lnD 9 z' : Int) 9 hw rfl 56 dX4_takeRow_51 (by decide) (fun h51 => ?_) (fun h51 => ?_)
        · refine J_iload_n (pc := 56) dX4_takeRow_56 rfl ?_
          refine J_istore_n (pc := 57) (lv' := [some (.ref 0), some (.int z), some (.int 9), some (.int z), none, none]) dX4_takeRow_57 (Nat.le_of_ble_eq_true rfl) rfl rfl ?_
          refine J_iconst (pc := 58) (v := 1) dX4_takeRow_58 (by decide) ?_
          refine J_istore (pc := 59) (lv' := [some (.ref 0), some (.int z), some (.int 9), some (.int z), some (.int 1), none]) dX4_takeRow_59 (Nat.le_of_ble_eq_true rfl) rfl rfl ?_
          refine J_aload_n (pc := 61) dX4_takeRow_61 rfl ?_
          refine J_getI (pc := 62) fF_X4_173 rfl rfl dX4_takeRow_62 ?_
          refine J_iconst (pc := 65) (v := 1) dX4_takeRow_65 (by decide) ?_
          refine J_isubW (pc := 66) (lnD 9 z' : Int) 1 hw rfl dX4_takeRow_66 (by omega) (fun z66 e66 => ?_)
          refine J_istore (pc := 67) (lv' := [some (.ref 0), some (.int z), some (.int 9), some (.int z), some (.int 1), some (.int z66)]) dX4_takeRow_67 (Nat.le_of_ble_eq_true rfl) rfl rfl ?_
          refine J_mono (l_take2 (lnD 9 z') ν z 1 z66 z' hln (by omega) hz hz0 (Or.inr rfl)) (fun v μ' hh => ⟨?_, eqT_C (d := 0) (r := 0) hT hh.2.1 hh.2.2.1⟩)
          rcases hh.1 with ⟨g0, g1, g2⟩ | ⟨g1, g2⟩
          · exact Or.inl ⟨⟨hz0, hpw.1 ⟨by omega, by omega⟩, g1⟩, g2, by rw [hh.2.1 0 (by omega)]; exact hw, fun j hj => ⟨hh.2.2.2.2 g1 j hj, wd_rng _ _ g1 j hj⟩⟩
          · exact Or.inr ⟨fun hk => g1 ⟨rfl, hk.2.2⟩, g2⟩
        · refine J_iconst (pc := 54) (v := 0) dX4_takeRow_54 (by decide) ?_
          refine J_zret (pc := 55) dX4_takeRow_55 rfl (by decide) ?_
          exact ⟨Or.inr ⟨fun hk => by have h1 := hk.1; have h2 := hpw.2 hk.2.1; omega, rfl⟩, hT⟩
  · refine J_iload_n (pc := 7) dX4_takeRow_7 rfl ?_
    refine J_if_leW (pc := 8) z' hz 38 dX4_takeRow_8 (by decide) (fun h8 => ?_) (fun h8 => ?_)
    · refine J_iload_n (pc := 38) dX4_takeRow_38 rfl ?_
      refine J_if_ltW (pc := 39) z' hz 54 dX4_takeRow_39 (by decide) (fun h39 => ?_) (fun h39 => ?_)
      · refine J_iconst (pc := 54) (v := 0) dX4_takeRow_54 (by decide) ?_
        refine J_zret (pc := 55) dX4_takeRow_55 rfl (by decide) ?_
        exact ⟨Or.inr ⟨fun hk => by have h1 := hk.1; omega, rfl⟩, by rw [m2]; exact eqT_16 ⟨fun _ _ _ => rfl, fun _ _ => rfl, rfl⟩⟩
      · exfalso; omega
    · exfalso; omega
set_option maxRecDepth 100000 in
set_option maxHeartbeats 4000000 in
theorem c_X4_takeRow7 {m : JM} {z : Int32} {z' : Int} (hz : z.toInt = z') : Con G shM mX4_takeRow [.ref 0, .int z, .int 7] m (fun v μ' => ((okR z' 7 ∧ v = some (.int 1) ∧ rwM μ' (lnD 9 z') (wd (lnD 9 z') z')) ∨ (¬ okR z' 7 ∧ v = some (.int 0))) ∧ eqT m μ') := by
  refine Con_of [some (.ref 0), some (.int z), some (.int 7), none, none, none] (by decide +kernel) (Nat.le_of_ble_eq_true rfl) (fun _ h => h) ?_
  refine J_aload_n (pc := 0) dX4_takeRow_0 rfl ?_
  refine J_iconst (pc := 1) (v := 0) dX4_takeRow_1 (by decide) ?_
  refine J_putIW (pc := 2) fF_X4_173 rfl rfl dX4_takeRow_2 (fun μ2 m2 => ?_)
  refine J_iload_n (pc := 5) dX4_takeRow_5 rfl ?_
  refine J_istore_n (pc := 6) (lv' := [some (.ref 0), some (.int z), some (.int 7), some (.int z), none, none]) dX4_takeRow_6 (Nat.le_of_ble_eq_true rfl) rfl rfl ?_
  rcases (by omega : 0 ≤ z' ∨ z' < 0) with hz0 | hz0
  · refine l_take1 9 0 μ2 z z' rfl (by rw [m2]; exact eqT_16 ⟨fun _ _ _ => rfl, fun _ _ => rfl, rfl⟩) (by rw [m2, jI_i, if_pos ⟨rfl, rfl⟩]; rfl) hz hz0 (fun ν rv hT hw hr => ?_)
    rw [Nat.zero_add] at hw
    have hpw := lnD_pw 9 7 z' hz0 (by decide)
    have hln := lnD_le 9 z'
    refine J_iload_n (pc := 38) dX4_takeRow_38 rfl ?_
    refine J_if_ltW (pc := 39) z' hz 54 dX4_takeRow_39 (by decide) (fun h39 => ?_) (fun h39 => ?_)
    · refine J_iconst (pc := 54) (v := 0) dX4_takeRow_54 (by decide) ?_
      refine J_zret (pc := 55) dX4_takeRow_55 rfl (by decide) ?_
      exact ⟨Or.inr ⟨fun hk => by have h1 := hk.1; have h2 := hpw.2 hk.2.1; omega, rfl⟩, hT⟩
    · refine J_iload_n (pc := 42) dX4_takeRow_42 rfl ?_
      refine J_if_gtW (pc := 43) (lfD 9 z') hr 54 dX4_takeRow_43 (by decide) (fun h43 => ?_) (fun h43 => ?_)
      · refine J_iconst (pc := 54) (v := 0) dX4_takeRow_54 (by decide) ?_
        refine J_zret (pc := 55) dX4_takeRow_55 rfl (by decide) ?_
        exact ⟨Or.inr ⟨fun hk => by have h1 := hk.1; have h2 := hpw.2 hk.2.1; omega, rfl⟩, hT⟩
      · refine J_aload_n (pc := 46) dX4_takeRow_46 rfl ?_
        refine J_getI (pc := 47) fF_X4_173 rfl rfl dX4_takeRow_47 ?_
        refine J_iload_n (pc := 50) dX4_takeRow_50 rfl ?_
        refine J_icmp_leW (pc := 51) (lnD 9 z' : Int) 7 hw rfl 56 dX4_takeRow_51 (by decide) (fun h51 => ?_) (fun h51 => ?_)
        · refine J_iload_n (pc := 56) dX4_takeRow_56 rfl ?_
          refine J_istore_n (pc := 57) (lv' := [some (.ref 0), some (.int z), some (.int 7), some (.int z), none, none]) dX4_takeRow_57 (Nat.le_of_ble_eq_true rfl) rfl rfl ?_
          refine J_iconst (pc := 58) (v := 1) dX4_takeRow_58 (by decide) ?_
          refine J_istore (pc := 59) (lv' := [some (.ref 0), some (.int z), some (.int 7), some (.int z), some (.int 1), none]) dX4_takeRow_59 (Nat.le_of_ble_eq_true rfl) rfl rfl ?_
          refine J_aload_n (pc := 61) dX4_takeRow_61 rfl ?_
          refine J_getI (pc := 62) fF_X4_173 rfl rfl dX4_takeRow_62 ?_
          refine J_iconst (pc := 65) (v := 1) dX4_takeRow_65 (by decide) ?_
          refine J_isubW (pc := 66) (lnD 9 z' : Int) 1 hw rfl dX4_takeRow_66 (by omega) (fun z66 e66 => ?_)
          refine J_istore (pc := 67) (lv' := [some (.ref 0), some (.int z), some (.int 7), some (.int z), some (.int 1), some (.int z66)]) dX4_takeRow_67 (Nat.le_of_ble_eq_true rfl) rfl rfl ?_
          refine J_mono (l_take2 (lnD 9 z') ν z 1 z66 z' hln (by omega) hz hz0 (Or.inr rfl)) (fun v μ' hh => ⟨?_, eqT_C (d := 0) (r := 0) hT hh.2.1 hh.2.2.1⟩)
          rcases hh.1 with ⟨g0, g1, g2⟩ | ⟨g1, g2⟩
          · exact Or.inl ⟨⟨hz0, hpw.1 ⟨by omega, by omega⟩, g1⟩, g2, by rw [hh.2.1 0 (by omega)]; exact hw, fun j hj => ⟨hh.2.2.2.2 g1 j hj, wd_rng _ _ g1 j hj⟩⟩
          · exact Or.inr ⟨fun hk => g1 ⟨rfl, hk.2.2⟩, g2⟩
        · refine J_iconst (pc := 54) (v := 0) dX4_takeRow_54 (by decide) ?_
          refine J_zret (pc := 55) dX4_takeRow_55 rfl (by decide) ?_
          exact ⟨Or.inr ⟨fun hk => by have h1 := hk.1; have h2 := hpw.2 hk.2.1; omega, rfl⟩, hT⟩
  · refine J_iload_n (pc := 7) dX4_takeRow_7 rfl ?_
    refine J_if_leW (pc := 8) z' hz 38 dX4_takeRow_8 (by decide) (fun h8 => ?_) (fun h8 => ?_)
    · refine J_iload_n (pc := 38) dX4_takeRow_38 rfl ?_
      refine J_if_ltW (pc := 39) z' hz 54 dX4_takeRow_39 (by decide) (fun h39 => ?_) (fun h39 => ?_)
      · refine J_iconst (pc := 54) (v := 0) dX4_takeRow_54 (by decide) ?_
        refine J_zret (pc := 55) dX4_takeRow_55 rfl (by decide) ?_
        exact ⟨Or.inr ⟨fun hk => by have h1 := hk.1; omega, rfl⟩, by rw [m2]; exact eqT_16 ⟨fun _ _ _ => rfl, fun _ _ => rfl, rfl⟩⟩
      · exfalso; omega
    · exfalso; omega

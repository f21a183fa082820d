/-! ===== fractions ===== -/
def finD : Nat → Int → Int → Int → Prop
  | 0, x, y, g => y = 0 ∧ g = x
  | d + 1, x, y, g => (y = 0 ∧ g = x) ∨ (0 < y ∧ finD d y (x % y) g)
def fin (x y g : Int) : Prop := ∃ d, finD d x y g
theorem finD_eq : ∀ (d d' : Nat) (x y g g' : Int), finD d x y g → finD d' x y g' → g = g'
  | 0, 0, x, y, g, g', h, h' => h.2.trans h'.2.symm
  | 0, d' + 1, x, y, g, g', h, h' => by
    rcases h' with h' | h'
    · exact h.2.trans h'.2.symm
    · exact absurd h.1 (by omega)
  | d + 1, 0, x, y, g, g', h, h' => by
    rcases h with h | h
    · exact h.2.trans h'.2.symm
    · exact absurd h'.1 (by omega)
  | d + 1, d' + 1, x, y, g, g', h, h' => by
    rcases h with h | h
    · rcases h' with h' | h'
      · exact h.2.trans h'.2.symm
      · exact absurd h.1 (by omega)
    · rcases h' with h' | h'
      · exact absurd h'.1 (by omega)
      · exact finD_eq d d' _ _ _ _ h.2 h'.2
theorem fin_eq {x y g g' : Int} (h : fin x y g) (h' : fin x y g') : g = g' := by
  obtain ⟨d, h⟩ := h
  obtain ⟨d', h'⟩ := h'
  exact finD_eq d d' _ _ _ _ h h'
theorem fin_z (x : Int) : fin x 0 x := ⟨0, rfl, rfl⟩
theorem fin_s {x y g : Int} (h : 0 < y) (h' : fin y (x % y) g) : fin x y g := by
  obtain ⟨d, h'⟩ := h'
  exact ⟨d + 1, Or.inr ⟨h, h'⟩⟩
theorem finD_pos : ∀ (d : Nat) (x y g : Int), finD d x y g → 0 ≤ x → 0 ≤ y → (0 < x ∨ 0 < y) → 0 < g
  | 0, x, y, g, h, h1, h2, h3 => by have a := h.1; have b := h.2; omega
  | d + 1, x, y, g, h, h1, h2, h3 => by
    rcases h with h | h
    · omega
    · exact finD_pos d y (x % y) g h.2 (by omega) (Int.emod_nonneg _ (by omega)) (Or.inl h.1)
theorem fin_pos {x y g : Int} (h : fin x y g) (h1 : 0 ≤ x) (h2 : 0 ≤ y) (h3 : 0 < x ∨ 0 < y) : 0 < g := by
  obtain ⟨d, h⟩ := h
  exact finD_pos d _ _ _ h h1 h2 h3
def fits : Nat → Int → Int → Prop
  | 0, _, y => y = 0
  | d + 1, x, y => y = 0 ∨ fits d y (x % y)
def p2 : Nat → Int
  | 0 => 1
  | k + 1 => 2 * p2 k
theorem fits_up : ∀ (d x y), fits d x y → fits (d + 1) x y
  | 0, _, _, h => Or.inl h
  | d + 1, x, y, h => by
    rcases h with h | h
    · exact Or.inl h
    · exact Or.inr (fits_up d _ _ h)
theorem fits_p2 : ∀ (k : Nat) (x y : Int), 0 ≤ y → y < p2 k → fits (2 * k) x y
  | 0, x, y, h0, h1 => by rw [p2] at h1; show y = 0; omega
  | k + 1, x, y, h0, h1 => by
    rw [p2] at h1
    show y = 0 ∨ (x % y = 0 ∨ fits (2 * k) (x % y) (y % (x % y)))
    by_cases e : y = 0
    · exact Or.inl e
    · refine Or.inr ?_
      have r0 := Int.emod_nonneg x e
      have r1 := Int.emod_lt_of_pos x (show 0 < y by omega)
      by_cases e2 : x % y = 0
      · exact Or.inl e2
      · refine Or.inr (fits_p2 k _ _ (Int.emod_nonneg _ e2) ?_)
        have s1 := Int.emod_lt_of_pos y (show 0 < x % y by omega)
        have s2 := Int.emod_add_mul_ediv y (x % y)
        have s3 : 1 ≤ y / (x % y) := by rw [Int.le_ediv_iff_mul_le (by omega)]; omega
        have s4 : (x % y) * 1 ≤ (x % y) * (y / (x % y)) := Int.mul_le_mul_of_nonneg_left s3 r0
        omega
theorem p2_30 : 1000000000 < p2 30 := by decide
def IsF (v : Option Value) (x y : Int) : Prop := ∃ z : Int64, v = some (.long z) ∧ fin x y z.toInt
variable {G : JG}
set_option maxRecDepth 100000 in
set_option maxHeartbeats 4000000 in
theorem l_k_cd {sh : List JSh} {μ : JM} {x0 y0 : Int64} : ∀ d : Nat, ∀ (i : Nat) (iv : Int32) (x y : Int64) (a b : Int), i + d = 200 → iv.toInt = (i : Int) → x.toInt = a → y.toInt = b → 0 ≤ a → 0 ≤ b → fits d a b → J G sh mX3_commonDivisor 15 [some (.long x0), none, some (.long y0), none, some (.long x), none, some (.long y), none, some (.int iv), none, none] [] μ (fun v μ' => IsF v a b ∧ μ' = μ) := by
  intro d
  induction d with
  | zero =>
    intro i iv x y a b hd hi hx hy ha hb hf
    refine J_iload (pc := 15) dX3_commonDivisor_15 rfl ?_
    refine J_sipush (pc := 17) (v := 200) dX3_commonDivisor_17 (by decide) ?_
    refine J_icmp_geW (pc := 20) (i : Int) 200 hi rfl 51 dX3_commonDivisor_20 (by decide) (fun h20 => ?_) (fun h20 => ?_)
    · refine J_lload (pc := 51) dX3_commonDivisor_51 rfl ?_
      refine J_lret (pc := 53) dX3_commonDivisor_53 rfl ?_
      have e : b = 0 := hf
      subst e
      exact ⟨⟨_, rfl, by rw [hx]; exact fin_z _⟩, rfl⟩
    · exfalso; omega
  | succ d ih =>
    intro i iv x y a b hd hi hx hy ha hb hf
    refine J_iload (pc := 15) dX3_commonDivisor_15 rfl ?_
    refine J_sipush (pc := 17) (v := 200) dX3_commonDivisor_17 (by decide) ?_
    refine J_icmp_geW (pc := 20) (i : Int) 200 hi rfl 51 dX3_commonDivisor_20 (by decide) (fun h20 => ?_) (fun h20 => ?_)
    · exfalso; omega
    · refine J_lload (pc := 23) dX3_commonDivisor_23 rfl ?_
      refine J_lconst (pc := 25) (v := 0) dX3_commonDivisor_25 (by decide) ?_
      refine J_lcmp (pc := 26) dX3_commonDivisor_26 ?_
      have l26 := lgc y 0
      have la26 : (y : Int64).toInt = b := hy
      have lb26 : (0 : Int64).toInt = 0 := rfl
      refine J_if_eqW (pc := 27) ((lg_cmp y 0).toInt) rfl 51 dX3_commonDivisor_27 (by decide) (fun h27 => ?_) (fun h27 => ?_)
      · refine J_lload (pc := 51) dX3_commonDivisor_51 rfl ?_
        refine J_lret (pc := 53) dX3_commonDivisor_53 rfl ?_
        have e : b = 0 := by omega
        subst e
        exact ⟨⟨_, rfl, by rw [hx]; exact fin_z _⟩, rfl⟩
      · refine J_lload (pc := 30) dX3_commonDivisor_30 rfl ?_
        refine J_lload (pc := 32) dX3_commonDivisor_32 rfl ?_
        refine J_lremW (pc := 34) a b hx hy dX3_commonDivisor_34 (by omega) (fun z34 e34 => ?_)
        refine J_lstore (pc := 35) (lv' := [some (.long x0), none, some (.long y0), none, some (.long x), none, some (.long y), none, some (.int iv), some (.long z34), none]) dX3_commonDivisor_35 (Nat.le_of_ble_eq_true rfl) rfl rfl ?_
        refine J_lload (pc := 37) dX3_commonDivisor_37 rfl ?_
        refine J_lstore (pc := 39) (lv' := [some (.long x0), none, some (.long y0), none, some (.long y), none, some (.long y), none, some (.int iv), some (.long z34), none]) dX3_commonDivisor_39 (Nat.le_of_ble_eq_true rfl) rfl rfl ?_
        refine J_lload (pc := 41) dX3_commonDivisor_41 rfl ?_
        refine J_lstore (pc := 43) (lv' := [some (.long x0), none, some (.long y0), none, some (.long y), none, some (.long z34), none, some (.int iv), some (.long z34), none]) dX3_commonDivisor_43 (Nat.le_of_ble_eq_true rfl) rfl rfl ?_
        refine J_iincW' (pc := 45) (i : Int) hi (lv' := fun iq_ => [some (.long x0), none, some (.long y0), none, some (.long y), none, some (.long z34), none, some (.int iq_), some (.long z34), none]) dX3_commonDivisor_45 rfl (by omega) (by decide) (Nat.le_of_ble_eq_true rfl) rfl (fun _ => rfl) (fun z45 e45 => ?_)
        refine J_goto (pc := 48) 15 dX3_commonDivisor_48 (by decide) ?_
        have hb0 : 0 < b := by omega
        refine J_mono (J_lv' (lv' := [some (.long x0), none, some (.long y0), none, some (.long y), none, some (.long z34), none, some (.int z45), none, none]) (by repeat' constructor) (ih (i + 1) z45 y z34 b (a % b) (by omega) (by omega) hy e34 hb (Int.emod_nonneg _ (by omega)) (by rcases hf with e | e; omega; exact e))) (fun v μ' hh => ⟨?_, hh.2⟩)
        obtain ⟨⟨z, hz1, hz2⟩, hz3⟩ := hh
        exact ⟨z, hz1, fin_s hb0 hz2⟩
theorem fits_le {d d' : Nat} {x y : Int} (h : d ≤ d') (hf : fits d x y) : fits d' x y := by
  induction d' with
  | zero => rw [show d = 0 by omega] at hf; exact hf
  | succ k ih =>
    by_cases e : d = k + 1
    · rw [e] at hf; exact hf
    · exact fits_up k x y (ih (by omega))
/-- the size of a number -/
def aa (a : Int) : Int := if a < 0 then -a else a
theorem aa_rng (a : Int) : 0 ≤ aa a := by unfold aa; omega
theorem y_neg {x : Int64} {a : Int} (h : x.toInt = a) (hr : -9223372036854775808 < a) : (-x).toInt = -a := by
  have := y_rng x
  rw [Int64.toInt_neg, y_bm (by omega), h]
theorem y_abs {x : Int64} {a : Int} (h : x.toInt = a) (hr : -9223372036854775808 < a) : (if 0 < x then x else -x).toInt = aa a := by
  have h0 := Int64.lt_iff_toInt_lt (x := 0) (y := x)
  have h1 : (0 : Int64).toInt = 0 := rfl
  unfold aa
  by_cases e : (0 : Int64) < x
  · have e2 := h0.mp e
    rw [if_pos e, h]; omega
  · have e2 : ¬ (0 : Int64).toInt < x.toInt := fun z => e (h0.mpr z)
    rw [if_neg e, y_neg h hr]; split <;> omega
/-- the fraction anew: both long slots -/
def FrS (k : Nat) (a b : Int) (μ μ' : JM) : Prop := ∃ g x y : Int64, x.toInt = a ∧ y.toInt = b ∧ fin (aa a) b g.toInt ∧ μ' = jL (jL μ 0 k (x / g)) 0 (k + 1) (y / g)
theorem Inv_fr {N : Int} {c m c' m' : JM} {a b : Int} (h : Inv N c m) (hc : FrS 6 a b c c') (hm : FrS 20 a b m m') : Inv N c' m' := by
  obtain ⟨g, x, y, h1, h2, h3, rfl⟩ := hc
  obtain ⟨g', x', y', h1', h2', h3', rfl⟩ := hm
  have e1 : x = x' := Int64.toInt_inj.mp (h1.trans h1'.symm)
  have e2 : y = y' := Int64.toInt_inj.mp (h2.trans h2'.symm)
  have e3 : g = g' := Int64.toInt_inj.mp (fin_eq h3 h3')
  subst e1 e2 e3
  obtain ⟨a1, a2, a3, a4, a5, a6, a7⟩ := h
  refine ⟨a1, a2, a3, a4, a5, ⟨?_, ?_⟩, a7⟩
  · rw [jL_l, jL_l, jL_l, jL_l, if_neg (by omega), if_pos ⟨rfl, rfl⟩, if_neg (by omega), if_pos ⟨rfl, rfl⟩]
  · rw [jL_l, if_pos ⟨rfl, rfl⟩, jL_l, if_pos ⟨rfl, rfl⟩]
def rwS (f : Nat → Int) : Nat → Nat → Int → Int
  | 0, _, s => s
  | d + 1, i, s => rwS f d (i + 1) (s + (if f i = 4 then -4 else f i))
set_option maxRecDepth 100000 in
set_option maxHeartbeats 4000000 in
theorem c_X3_commonDivisor {sh : List JSh} {μ : JM} {x y : Int64} (a b : Int) (hx : x.toInt = a) (hy : y.toInt = b) (hr : -1000000000 ≤ a ∧ a ≤ 1000000000 ∧ 0 < b ∧ b ≤ 1000000000) : Con G sh mX3_commonDivisor [.long x, .long y] μ (fun v μ' => IsF v (aa a) b ∧ μ' = μ) := by
  refine Con_of [some (.long x), none, some (.long y), none, none, none, none, none, none, none, none] (by decide +kernel) (Nat.le_of_ble_eq_true rfl) (fun _ h => h) ?_
  refine J_lload_n (pc := 0) dX3_commonDivisor_0 rfl ?_
  refine J_absl (pc := 1) ⟨big_t 507 (by decide +kernel) (by decide +kernel), big_t 508 (by decide +kernel) (by decide +kernel), big_t 11 (by decide +kernel) (by decide +kernel), big_t 509 (by decide +kernel) (by decide +kernel)⟩ (Nat.le_of_ble_eq_true rfl) (Nat.le_of_ble_eq_true rfl) dX3_commonDivisor_1 ?_
  refine J_lstore (pc := 4) (lv' := [some (.long x), none, some (.long y), none, some (.long (if 0 < x then x else -x)), none, none, none, none, none, none]) dX3_commonDivisor_4 (Nat.le_of_ble_eq_true rfl) rfl rfl ?_
  refine J_lload_n (pc := 6) dX3_commonDivisor_6 rfl ?_
  refine J_absl (pc := 7) ⟨big_t 507 (by decide +kernel) (by decide +kernel), big_t 508 (by decide +kernel) (by decide +kernel), big_t 11 (by decide +kernel) (by decide +kernel), big_t 509 (by decide +kernel) (by decide +kernel)⟩ (Nat.le_of_ble_eq_true rfl) (Nat.le_of_ble_eq_true rfl) dX3_commonDivisor_7 ?_
  refine J_lstore (pc := 10) (lv' := [some (.long x), none, some (.long y), none, some (.long (if 0 < x then x else -x)), none, some (.long (if 0 < y then y else -y)), none, none, none, none]) dX3_commonDivisor_10 (Nat.le_of_ble_eq_true rfl) rfl rfl ?_
  refine J_iconst (pc := 12) (v := 0) dX3_commonDivisor_12 (by decide) ?_
  refine J_istore (pc := 13) (lv' := [some (.long x), none, some (.long y), none, some (.long (if 0 < x then x else -x)), none, some (.long (if 0 < y then y else -y)), none, some (.int 0), none, none]) dX3_commonDivisor_13 (Nat.le_of_ble_eq_true rfl) rfl rfl ?_
  have eb : aa b = b := by unfold aa; omega
  refine J_lv' (lv' := [some (.long x), none, some (.long y), none, some (.long (if 0 < x then x else -x)), none, some (.long (if 0 < y then y else -y)), none, some (.int 0), none, none]) (by repeat' constructor) (l_k_cd 200 0 0 _ _ (aa a) b (by omega) rfl (y_abs hx (by omega)) (by rw [y_abs hy (by omega), eb]) (aa_rng a) (by omega) (fits_le (d := 2 * 30) (by omega) (fits_p2 30 _ _ (by omega) (by have := p2_30; omega))))
set_option maxRecDepth 100000 in
set_option maxHeartbeats 4000000 in
theorem c_X3_setFraction {c : JM} {x y : Int64} (a b : Int) (hx : x.toInt = a) (hy : y.toInt = b) (hr : -1000000000 ≤ a ∧ a ≤ 1000000000 ∧ 0 < b ∧ b ≤ 1000000000) : Con G shC mX3_setFraction [.ref 0, .long x, .long y] c (fun v μ' => v = none ∧ FrS 6 a b c μ') := by
  refine Con_of [some (.ref 0), some (.long x), none, some (.long y), none, none, none] (by decide +kernel) (Nat.le_of_ble_eq_true rfl) (fun _ h => h) ?_
  refine J_lload_n (pc := 0) dX3_setFraction_0 rfl ?_
  refine J_lload_n (pc := 1) dX3_setFraction_1 rfl ?_
  refine J_callSq (pc := 2) fC_X3_238 dX3_setFraction_2 (c_X3_commonDivisor a b hx hy hr) rfl ⟨Nat.le_of_ble_eq_true rfl, Nat.le_of_ble_eq_true rfl⟩ rfl (Nat.le_of_ble_eq_true rfl) (fun v2 μ2 q2 => ?_)
  obtain ⟨⟨z, rfl, hz⟩, rfl⟩ := q2
  have hg := fin_pos hz (aa_rng a) (by omega) (Or.inr (by omega))
  refine J_lstore (pc := 5) (lv' := [some (.ref 0), some (.long x), none, some (.long y), none, some (.long z), none]) dX3_setFraction_5 (Nat.le_of_ble_eq_true rfl) rfl rfl ?_
  refine J_lload (pc := 7) dX3_setFraction_7 rfl ?_
  refine J_lconst (pc := 9) (v := 0) dX3_setFraction_9 (by decide) ?_
  refine J_lcmp (pc := 10) dX3_setFraction_10 ?_
  have l10 := lgc z 0
  have la10 : (z : Int64).toInt = z.toInt := rfl
  have lb10 : (0 : Int64).toInt = 0 := rfl
  refine J_if_eqW (pc := 11) ((lg_cmp z 0).toInt) rfl 30 dX3_setFraction_11 (by decide) (fun h11 => ?_) (fun h11 => ?_)
  · exfalso; omega
  · refine J_aload_n (pc := 14) dX3_setFraction_14 rfl ?_
    refine J_lload_n (pc := 15) dX3_setFraction_15 rfl ?_
    refine J_lload (pc := 16) dX3_setFraction_16 rfl ?_
    refine J_ldiv (pc := 18) dX3_setFraction_18 (y_ne (by omega)) ?_
    refine J_putLW (pc := 19) fF_X3_39 rfl rfl dX3_setFraction_19 (fun μ19 m19 => ?_)
    refine J_aload_n (pc := 22) dX3_setFraction_22 rfl ?_
    refine J_lload_n (pc := 23) dX3_setFraction_23 rfl ?_
    refine J_lload (pc := 24) dX3_setFraction_24 rfl ?_
    refine J_ldiv (pc := 26) dX3_setFraction_26 (y_ne (by omega)) ?_
    refine J_putLW (pc := 27) fF_X3_43 rfl rfl dX3_setFraction_27 (fun μ27 m27 => ?_)
    refine J_vret (pc := 30) dX3_setFraction_30 rfl ?_
    exact ⟨rfl, _, _, _, hx, hy, hz, by subst_vars; rfl⟩
set_option maxRecDepth 100000 in
set_option maxHeartbeats 4000000 in
theorem l_n_cm {sh : List JSh} {μ : JM} {x0 y0 : Int64} : ∀ d : Nat, ∀ (x y : Int64) (a b : Int), b ≤ (d : Int) → x.toInt = a → y.toInt = b → 0 ≤ a → 0 ≤ b → J G sh mX4_common 17 [some (.long x0), none, some (.long y0), none, some (.long x), none, some (.long y), none, none, none] [] μ (fun v μ' => IsF v a b ∧ μ' = μ) := by
  intro d
  induction d with
  | zero =>
    intro x y a b hd hx hy ha hb
    refine J_lload (pc := 17) dX4_common_17 rfl ?_
    refine J_lconst (pc := 19) (v := 0) dX4_common_19 (by decide) ?_
    refine J_lcmp (pc := 20) dX4_common_20 ?_
    have l20 := lgc y 0
    have la20 : (y : Int64).toInt = b := hy
    have lb20 : (0 : Int64).toInt = 0 := rfl
    refine J_if_leW (pc := 21) ((lg_cmp y 0).toInt) rfl 42 dX4_common_21 (by decide) (fun h21 => ?_) (fun h21 => ?_)
    · refine J_lload (pc := 42) dX4_common_42 rfl ?_
      refine J_lret (pc := 44) dX4_common_44 rfl ?_
      have e : b = 0 := by omega
      subst e
      exact ⟨⟨_, rfl, by rw [hx]; exact fin_z _⟩, rfl⟩
    · exfalso; omega
  | succ d ih =>
    intro x y a b hd hx hy ha hb
    refine J_lload (pc := 17) dX4_common_17 rfl ?_
    refine J_lconst (pc := 19) (v := 0) dX4_common_19 (by decide) ?_
    refine J_lcmp (pc := 20) dX4_common_20 ?_
    have l20 := lgc y 0
    have la20 : (y : Int64).toInt = b := hy
    have lb20 : (0 : Int64).toInt = 0 := rfl
    refine J_if_leW (pc := 21) ((lg_cmp y 0).toInt) rfl 42 dX4_common_21 (by decide) (fun h21 => ?_) (fun h21 => ?_)
    · refine J_lload (pc := 42) dX4_common_42 rfl ?_
      refine J_lret (pc := 44) dX4_common_44 rfl ?_
      have e : b = 0 := by omega
      subst e
      exact ⟨⟨_, rfl, by rw [hx]; exact fin_z _⟩, rfl⟩
    · refine J_lload (pc := 24) dX4_common_24 rfl ?_
      refine J_lload (pc := 26) dX4_common_26 rfl ?_
      refine J_lremW (pc := 28) a b hx hy dX4_common_28 (by omega) (fun z28 e28 => ?_)
      refine J_lstore (pc := 29) (lv' := [some (.long x0), none, some (.long y0), none, some (.long x), none, some (.long y), none, some (.long z28), none]) dX4_common_29 (Nat.le_of_ble_eq_true rfl) rfl rfl ?_
      refine J_lload (pc := 31) dX4_common_31 rfl ?_
      refine J_lstore (pc := 33) (lv' := [some (.long x0), none, some (.long y0), none, some (.long y), none, some (.long y), none, some (.long z28), none]) dX4_common_33 (Nat.le_of_ble_eq_true rfl) rfl rfl ?_
      refine J_lload (pc := 35) dX4_common_35 rfl ?_
      refine J_lstore (pc := 37) (lv' := [some (.long x0), none, some (.long y0), none, some (.long y), none, some (.long z28), none, some (.long z28), none]) dX4_common_37 (Nat.le_of_ble_eq_true rfl) rfl rfl ?_
      refine J_goto (pc := 39) 17 dX4_common_39 (by decide) ?_
      have hb0 : 0 < b := by omega
      have hlt := Int.emod_lt_of_pos a hb0
      refine J_mono (J_lv' (lv' := [some (.long x0), none, some (.long y0), none, some (.long y), none, some (.long z28), none, none, none]) (by repeat' constructor) (ih y z28 b (a % b) (by omega) hy e28 hb (Int.emod_nonneg _ (by omega)))) (fun v μ' hh => ⟨?_, hh.2⟩)
      obtain ⟨⟨z, hz1, hz2⟩, hz3⟩ := hh
      exact ⟨z, hz1, fin_s hb0 hz2⟩
set_option maxRecDepth 100000 in
set_option maxHeartbeats 4000000 in
theorem c_X4_common {sh : List JSh} {μ : JM} {x y : Int64} (a b : Int) (hx : x.toInt = a) (hy : y.toInt = b) (hr : -1000000000 ≤ a ∧ a ≤ 1000000000 ∧ 0 < b ∧ b ≤ 1000000000) : Con G sh mX4_common [.long x, .long y] μ (fun v μ' => IsF v (aa a) b ∧ μ' = μ) := by
  refine Con_of [some (.long x), none, some (.long y), none, none, none, none, none, none, none] (by decide +kernel) (Nat.le_of_ble_eq_true rfl) (fun _ h => h) ?_
  refine J_lload_n (pc := 0) dX4_common_0 rfl ?_
  refine J_lconst (pc := 1) (v := 0) dX4_common_1 (by decide) ?_
  refine J_lcmp (pc := 2) dX4_common_2 ?_
  have l2 := lgc x 0
  have la2 : (x : Int64).toInt = a := hx
  have lb2 : (0 : Int64).toInt = 0 := rfl
  refine J_if_geW (pc := 3) ((lg_cmp x 0).toInt) rfl 11 dX4_common_3 (by decide) (fun h3 => ?_) (fun h3 => ?_)
  · refine J_lload_n (pc := 11) dX4_common_11 rfl ?_
    refine J_lstore (pc := 12) (lv' := [some (.long x), none, some (.long y), none, some (.long x), none, none, none, none, none]) dX4_common_12 (Nat.le_of_ble_eq_true rfl) rfl rfl ?_
    refine J_lload_n (pc := 14) dX4_common_14 rfl ?_
    refine J_lstore (pc := 15) (lv' := [some (.long x), none, some (.long y), none, some (.long x), none, some (.long y), none, none, none]) dX4_common_15 (Nat.le_of_ble_eq_true rfl) rfl rfl ?_
    have ea : aa a = a := by unfold aa; omega
    rw [ea]
    refine J_lv' (lv' := [some (.long x), none, some (.long y), none, some (.long x), none, some (.long y), none, none, none]) (by repeat' constructor) (l_n_cm b.toNat _ _ _ b (by omega) (hx) hy (by omega) (by omega))
  · refine J_lload_n (pc := 6) dX4_common_6 rfl ?_
    refine J_lneg (pc := 7) dX4_common_7 ?_
    refine J_goto (pc := 8) 12 dX4_common_8 (by decide) ?_
    refine J_lstore (pc := 12) (lv' := [some (.long x), none, some (.long y), none, some (.long (-x)), none, none, none, none, none]) dX4_common_12 (Nat.le_of_ble_eq_true rfl) rfl rfl ?_
    refine J_lload_n (pc := 14) dX4_common_14 rfl ?_
    refine J_lstore (pc := 15) (lv' := [some (.long x), none, some (.long y), none, some (.long (-x)), none, some (.long y), none, none, none]) dX4_common_15 (Nat.le_of_ble_eq_true rfl) rfl rfl ?_
    have ea : aa a = -a := by unfold aa; omega
    rw [ea]
    refine J_lv' (lv' := [some (.long x), none, some (.long y), none, some (.long (-x)), none, some (.long y), none, none, none]) (by repeat' constructor) (l_n_cm b.toNat _ _ _ b (by omega) (y_neg hx (by omega)) hy (by omega) (by omega))
set_option maxRecDepth 100000 in
set_option maxHeartbeats 4000000 in
theorem c_X4_fraction {m : JM} {x y : Int64} (a b : Int) (hx : x.toInt = a) (hy : y.toInt = b) (hr : -1000000000 ≤ a ∧ a ≤ 1000000000 ∧ 0 < b ∧ b ≤ 1000000000) : Con G shM mX4_fraction [.ref 0, .long x, .long y] m (fun v μ' => v = none ∧ FrS 20 a b m μ') := by
  refine Con_of [some (.ref 0), some (.long x), none, some (.long y), none, none, none] (by decide +kernel) (Nat.le_of_ble_eq_true rfl) (fun _ h => h) ?_
  refine J_lload_n (pc := 0) dX4_fraction_0 rfl ?_
  refine J_lload_n (pc := 1) dX4_fraction_1 rfl ?_
  refine J_callSq (pc := 2) fC_X4_211 dX4_fraction_2 (c_X4_common a b hx hy hr) rfl ⟨Nat.le_of_ble_eq_true rfl, Nat.le_of_ble_eq_true rfl⟩ rfl (Nat.le_of_ble_eq_true rfl) (fun v2 μ2 q2 => ?_)
  obtain ⟨⟨z, rfl, hz⟩, rfl⟩ := q2
  have hg := fin_pos hz (aa_rng a) (by omega) (Or.inr (by omega))
  refine J_lstore (pc := 5) (lv' := [some (.ref 0), some (.long x), none, some (.long y), none, some (.long z), none]) dX4_fraction_5 (Nat.le_of_ble_eq_true rfl) rfl rfl ?_
  refine J_aload_n (pc := 7) dX4_fraction_7 rfl ?_
  refine J_lload_n (pc := 8) dX4_fraction_8 rfl ?_
  refine J_lload (pc := 9) dX4_fraction_9 rfl ?_
  refine J_ldiv (pc := 11) dX4_fraction_11 (y_ne (by omega)) ?_
  refine J_putLW (pc := 12) fF_X4_215 rfl rfl dX4_fraction_12 (fun μ12 m12 => ?_)
  refine J_aload_n (pc := 15) dX4_fraction_15 rfl ?_
  refine J_lload_n (pc := 16) dX4_fraction_16 rfl ?_
  refine J_lload (pc := 17) dX4_fraction_17 rfl ?_
  refine J_ldiv (pc := 19) dX4_fraction_19 (y_ne (by omega)) ?_
  refine J_putLW (pc := 20) fF_X4_42 rfl rfl dX4_fraction_20 (fun μ20 m20 => ?_)
  refine J_vret (pc := 23) dX4_fraction_23 rfl ?_
  exact ⟨rfl, _, _, _, hx, hy, hz, by subst_vars; rfl⟩
set_option maxRecDepth 100000 in
set_option maxHeartbeats 4000000 in
theorem l_k_rew {c : JM} {f : Nat → Int} (hv : ∀ j : Nat, j < 8 → (c.1 2 j).toInt = f j) (hfr : ∀ j : Nat, j < 8 → 0 ≤ f j ∧ f j ≤ 4) {v : Int32} {Q : Option Value → JM → Prop}  : ∀ d : Nat, ∀ (i : Nat) (iv sv : Int32) (s : Int), i + d = 8 → iv.toInt = (i : Int) → sv.toInt = s → (-4 * (i : Int) ≤ s ∧ s ≤ 4 * (i : Int)) → (∀ sv' : Int32, sv'.toInt = rwS f d i s → J G shC mX3_reward 62 [some (.ref 0), some (.int v), some (.int sv'), none, none] [] c Q) → J G shC mX3_reward 21 [some (.ref 0), some (.int v), some (.int sv), some (.int iv), none] [] c Q := by
  intro d
  induction d with
  | zero =>
    intro i iv sv s hd hi hs hr hk2
    have hfi : i < 8 → 0 ≤ f i ∧ f i ≤ 4 := fun h => hfr i h
    refine J_iload_n (pc := 21) dX3_reward_21 rfl ?_
    refine J_bipush (pc := 22) (v := 8) dX3_reward_22 (by decide) ?_
    refine J_icmp_geW (pc := 24) (i : Int) 8 hi rfl 62 dX3_reward_24 (by decide) (fun h24 => ?_) (fun h24 => ?_)
    · exact J_lv' (lv' := [some (.ref 0), some (.int v), some (.int sv), none, none]) (by repeat' constructor) (hk2 sv (by rw [hs]; rfl))
    · exfalso; omega
  | succ d ih =>
    intro i iv sv s hd hi hs hr hk2
    have hfi : i < 8 → 0 ≤ f i ∧ f i ≤ 4 := fun h => hfr i h
    refine J_iload_n (pc := 21) dX3_reward_21 rfl ?_
    refine J_bipush (pc := 22) (v := 8) dX3_reward_22 (by decide) ?_
    refine J_icmp_geW (pc := 24) (i : Int) 8 hi rfl 62 dX3_reward_24 (by decide) (fun h24 => ?_) (fun h24 => ?_)
    · exfalso; omega
    · refine J_aload_n (pc := 27) dX3_reward_27 rfl ?_
      refine J_getR (pc := 28) 1 fF_X3_12 rfl rfl dX3_reward_28 ?_
      refine J_getR (pc := 31) 2 fF_X3_87 rfl rfl dX3_reward_31 ?_
      refine J_iload_n (pc := 34) dX3_reward_34 rfl ?_
      refine J_callSe (pc := 35) fC_X3_91 dX3_reward_35 (c_X3_at rfl i (by omega) (by omega) (by omega)) rfl ⟨Nat.le_of_ble_eq_true rfl, Nat.le_of_ble_eq_true rfl⟩ rfl (Nat.le_of_ble_eq_true rfl) ?_
      refine J_istore (pc := 38) (lv' := [some (.ref 0), some (.int v), some (.int sv), some (.int iv), some (.int (c.1 2 i))]) dX3_reward_38 (Nat.le_of_ble_eq_true rfl) rfl rfl ?_
      refine J_iload_n (pc := 40) dX3_reward_40 rfl ?_
      refine J_iload (pc := 41) dX3_reward_41 rfl ?_
      refine J_iconst (pc := 43) (v := 4) dX3_reward_43 (by decide) ?_
      refine J_icmp_neW (pc := 44) (f i) 4 (hv i (by omega)) rfl 52 dX3_reward_44 (by decide) (fun h44 => ?_) (fun h44 => ?_)
      · refine J_iload (pc := 52) dX3_reward_52 rfl ?_
        refine J_iaddW (pc := 54) s (f i) hs (hv i (by omega)) dX3_reward_54 (by omega) (fun z54 e54 => ?_)
        refine J_istore_n (pc := 55) (lv' := [some (.ref 0), some (.int v), some (.int z54), some (.int iv), some (.int (c.1 2 i))]) dX3_reward_55 (Nat.le_of_ble_eq_true rfl) rfl rfl ?_
        refine J_iincW' (pc := 56) (i : Int) hi (lv' := fun iq_ => [some (.ref 0), some (.int v), some (.int z54), some (.int iq_), some (.int (c.1 2 i))]) dX3_reward_56 rfl (by omega) (by decide) (Nat.le_of_ble_eq_true rfl) rfl (fun _ => rfl) (fun z56 e56 => ?_)
        refine J_goto (pc := 59) 21 dX3_reward_59 (by decide) ?_
        refine J_lv' (lv' := [some (.ref 0), some (.int v), some (.int z54), some (.int z56), none]) (by repeat' constructor) (ih (i + 1) z56 z54 (s + (f i)) (by omega) (by omega) (by omega) (by omega) (fun sv' hs' => hk2 sv' ?_))
        rw [hs', rwS, if_neg (by omega)]
      · refine J_bipush (pc := 47) (v := (-4)) dX3_reward_47 (by decide) ?_
        refine J_goto (pc := 49) 54 dX3_reward_49 (by decide) ?_
        refine J_iaddW (pc := 54) s (-4) hs rfl dX3_reward_54 (by omega) (fun z54 e54 => ?_)
        refine J_istore_n (pc := 55) (lv' := [some (.ref 0), some (.int v), some (.int z54), some (.int iv), some (.int (c.1 2 i))]) dX3_reward_55 (Nat.le_of_ble_eq_true rfl) rfl rfl ?_
        refine J_iincW' (pc := 56) (i : Int) hi (lv' := fun iq_ => [some (.ref 0), some (.int v), some (.int z54), some (.int iq_), some (.int (c.1 2 i))]) dX3_reward_56 rfl (by omega) (by decide) (Nat.le_of_ble_eq_true rfl) rfl (fun _ => rfl) (fun z56 e56 => ?_)
        refine J_goto (pc := 59) 21 dX3_reward_59 (by decide) ?_
        refine J_lv' (lv' := [some (.ref 0), some (.int v), some (.int z54), some (.int z56), none]) (by repeat' constructor) (ih (i + 1) z56 z54 (s + (-4)) (by omega) (by omega) (by omega) (by omega) (fun sv' hs' => hk2 sv' ?_))
        rw [hs', rwS, if_pos (by omega)]
set_option maxRecDepth 100000 in
set_option maxHeartbeats 4000000 in
theorem l_n_rew {m : JM} (hfr : ∀ j : Nat, j < 8 → 0 ≤ vowZ m j ∧ vowZ m j ≤ 4) {v : Int32} {Q : Option Value → JM → Prop}  : ∀ d : Nat, ∀ (i : Nat) (iv sv : Int32) (s : Int), i + d = 8 → iv.toInt = (i : Int) → sv.toInt = s → (-4 * (i : Int) ≤ s ∧ s ≤ 4 * (i : Int)) → (∀ sv' : Int32, sv'.toInt = rwS (vowZ m) d i s → J G shM mX4_reward 65 [some (.ref 0), some (.int v), some (.int sv'), none] [] m Q) → J G shM mX4_reward 23 [some (.ref 0), some (.int v), some (.int sv), some (.int iv)] [] m Q := by
  intro d
  induction d with
  | zero =>
    intro i iv sv s hd hi hs hr hk2
    have hfi : i < 8 → 0 ≤ vowZ m i ∧ vowZ m i ≤ 4 := fun h => hfr i h
    refine J_iload_n (pc := 23) dX4_reward_23 rfl ?_
    refine J_bipush (pc := 24) (v := 8) dX4_reward_24 (by decide) ?_
    refine J_icmp_geW (pc := 26) (i : Int) 8 hi rfl 65 dX4_reward_26 (by decide) (fun h26 => ?_) (fun h26 => ?_)
    · exact J_lv' (lv' := [some (.ref 0), some (.int v), some (.int sv), none]) (by repeat' constructor) (hk2 sv (by rw [hs]; rfl))
    · exfalso; omega
  | succ d ih =>
    intro i iv sv s hd hi hs hr hk2
    have hfi : i < 8 → 0 ≤ vowZ m i ∧ vowZ m i ≤ 4 := fun h => hfr i h
    refine J_iload_n (pc := 23) dX4_reward_23 rfl ?_
    refine J_bipush (pc := 24) (v := 8) dX4_reward_24 (by decide) ?_
    refine J_icmp_geW (pc := 26) (i : Int) 8 hi rfl 65 dX4_reward_26 (by decide) (fun h26 => ?_) (fun h26 => ?_)
    · exfalso; omega
    · refine J_iload_n (pc := 29) dX4_reward_29 rfl ?_
      refine J_aload_n (pc := 30) dX4_reward_30 rfl ?_
      refine J_getR (pc := 31) 1 fF_X4_7 rfl rfl dX4_reward_31 ?_
      refine J_bipush (pc := 34) (v := 7) dX4_reward_34 (by decide) ?_
      refine J_iload_n (pc := 36) dX4_reward_36 rfl ?_
      refine J_iaddW (pc := 37) 7 (i : Int) rfl hi dX4_reward_37 (by omega) (fun z37 e37 => ?_)
      refine J_ialdW (pc := 38) (7 + i) (by omega) rfl (by omega) dX4_reward_38 ?_
      refine J_iconst (pc := 39) (v := 4) dX4_reward_39 (by decide) ?_
      refine J_icmp_neW (pc := 40) (vowZ m i) 4 rfl rfl 48 dX4_reward_40 (by decide) (fun h40 => ?_) (fun h40 => ?_)
      · refine J_aload_n (pc := 48) dX4_reward_48 rfl ?_
        refine J_getR (pc := 49) 1 fF_X4_7 rfl rfl dX4_reward_49 ?_
        refine J_bipush (pc := 52) (v := 7) dX4_reward_52 (by decide) ?_
        refine J_iload_n (pc := 54) dX4_reward_54 rfl ?_
        refine J_iaddW (pc := 55) 7 (i : Int) rfl hi dX4_reward_55 (by omega) (fun z55 e55 => ?_)
        refine J_ialdW (pc := 56) (7 + i) (by omega) rfl (by omega) dX4_reward_56 ?_
        refine J_iaddW (pc := 57) s (vowZ m i) hs rfl dX4_reward_57 (by omega) (fun z57 e57 => ?_)
        refine J_istore_n (pc := 58) (lv' := [some (.ref 0), some (.int v), some (.int z57), some (.int iv)]) dX4_reward_58 (Nat.le_of_ble_eq_true rfl) rfl rfl ?_
        refine J_iincW' (pc := 59) (i : Int) hi (lv' := fun iq_ => [some (.ref 0), some (.int v), some (.int z57), some (.int iq_)]) dX4_reward_59 rfl (by omega) (by decide) (Nat.le_of_ble_eq_true rfl) rfl (fun _ => rfl) (fun z59 e59 => ?_)
        refine J_goto (pc := 62) 23 dX4_reward_62 (by decide) ?_
        refine J_lv' (lv' := [some (.ref 0), some (.int v), some (.int z57), some (.int z59)]) (by repeat' constructor) (ih (i + 1) z59 z57 (s + (vowZ m i)) (by omega) (by omega) (by omega) (by omega) (fun sv' hs' => hk2 sv' ?_))
        rw [hs', rwS, if_neg (by omega)]
      · refine J_bipush (pc := 43) (v := (-4)) dX4_reward_43 (by decide) ?_
        refine J_goto (pc := 45) 57 dX4_reward_45 (by decide) ?_
        refine J_iaddW (pc := 57) s (-4) hs rfl dX4_reward_57 (by omega) (fun z57 e57 => ?_)
        refine J_istore_n (pc := 58) (lv' := [some (.ref 0), some (.int v), some (.int z57), some (.int iv)]) dX4_reward_58 (Nat.le_of_ble_eq_true rfl) rfl rfl ?_
        refine J_iincW' (pc := 59) (i : Int) hi (lv' := fun iq_ => [some (.ref 0), some (.int v), some (.int z57), some (.int iq_)]) dX4_reward_59 rfl (by omega) (by decide) (Nat.le_of_ble_eq_true rfl) rfl (fun _ => rfl) (fun z59 e59 => ?_)
        refine J_goto (pc := 62) 23 dX4_reward_62 (by decide) ?_
        refine J_lv' (lv' := [some (.ref 0), some (.int v), some (.int z57), some (.int z59)]) (by repeat' constructor) (ih (i + 1) z59 z57 (s + (-4)) (by omega) (by omega) (by omega) (by omega) (fun sv' hs' => hk2 sv' ?_))
        rw [hs', rwS, if_pos (by omega)]
theorem rwS_rng {f : Nat → Int} (hf : ∀ j, j < 8 → 0 ≤ f j ∧ f j ≤ 4) : ∀ (d i : Nat) (s : Int), i + d = 8 → (-4 * (i : Int) ≤ s ∧ s ≤ 4 * (i : Int)) → -32 ≤ rwS f d i s ∧ rwS f d i s ≤ 32
  | 0, i, s, hd, hs => by rw [rwS]; omega
  | d + 1, i, s, hd, hs => by
    rw [rwS]
    have := hf i (by omega)
    exact rwS_rng hf d (i + 1) _ (by omega) (by omega)
theorem Inv_vr {N : Int} {c m : JM} (h : Inv N c m) (j : Nat) (hj : j < 8) : 0 ≤ vowZ m j ∧ vowZ m j ≤ 4 := h.2.1.2.2.2.2.2.2.2.1 j hj
set_option maxRecDepth 100000 in
set_option maxHeartbeats 4000000 in
theorem k_reward {N : Int} {c m : JM} (h : Inv N c m) (hN : 150 ≤ N ∧ N < 100000) {a : Int32}  : Con G shC mX3_reward [.ref 0, .int a] c (fun v μ' => (¬(0 ≤ a.toInt ∧ a.toInt ≤ 7) ∧ IsZ v (-2) ∧ μ' = (jI c 0 8 (c.1 0 8 + 1))) ∨ ((0 ≤ a.toInt ∧ a.toInt ≤ 7) ∧ IsZ v 1 ∧ FrS 6 (rwS (vowZ m) (8 - a.toInt.toNat) a.toInt.toNat 0) (8 - a.toInt) c μ')) := by
  obtain ⟨q0, q1, q2, q3, q4, q5, q6⟩ := Inv_q h
  obtain ⟨r0, r1, r2, r3, r4, r5, r6, r15, r40, r9⟩ := Inv_r h
  have hc := h.1
  have qt : (c.1 21 1).toInt = (m.1 0 9).toInt := by rw [h.2.2.2.2.1.1]
  have qs0 : (c.1 0 8).toInt = (m.1 4 0).toInt := by rw [h.2.2.2.2.2.2.1]
  have qs1 : (c.1 0 9).toInt = (m.1 4 1).toInt := by rw [h.2.2.2.2.2.2.2.1]
  have qs2 : (c.1 0 10).toInt = (m.1 4 2).toInt := by rw [h.2.2.2.2.2.2.2.2]
  refine Con_of [some (.ref 0), some (.int a), none, none, none] (by decide +kernel) (Nat.le_of_ble_eq_true rfl) (fun _ h => h) ?_
  refine J_iload_n (pc := 0) dX3_reward_0 rfl ?_
  refine J_iconst (pc := 1) (v := 0) dX3_reward_1 (by decide) ?_
  refine J_bipush (pc := 2) (v := 7) dX3_reward_2 (by decide) ?_
  refine J_callSc (pc := 4) fC_X3_60 dX3_reward_4 (c_X3_within a.toInt 0 7 rfl rfl rfl) rfl ⟨Nat.le_of_ble_eq_true rfl, Nat.le_of_ble_eq_true rfl⟩ rfl (Nat.le_of_ble_eq_true rfl) (fun h4 => ?_) (fun h4 => ?_)
  · refine J_if_ne_T (pc := 7) 17 dX3_reward_7 (by decide) (by decide) ?_
    refine J_iconst (pc := 17) (v := 0) dX3_reward_17 (by decide) ?_
    refine J_istore_n (pc := 18) (lv' := [some (.ref 0), some (.int a), some (.int 0), none, none]) dX3_reward_18 (Nat.le_of_ble_eq_true rfl) rfl rfl ?_
    refine J_iload_n (pc := 19) dX3_reward_19 rfl ?_
    refine J_istore_n (pc := 20) (lv' := [some (.ref 0), some (.int a), some (.int 0), some (.int a), none]) dX3_reward_20 (Nat.le_of_ble_eq_true rfl) rfl rfl ?_
    have hsr := rwS_rng (Inv_vr h) (8 - a.toInt.toNat) a.toInt.toNat 0 (by omega) (by omega)
    refine J_lv' (lv' := [some (.ref 0), some (.int a), some (.int 0), some (.int a), none]) (by repeat' constructor) (l_k_rew (f := vowZ m) (Inv_v h) (Inv_vr h) (8 - a.toInt.toNat) a.toInt.toNat a 0 0 (by omega) (by omega) rfl (by omega) (fun sv' hs' => ?_))
    refine J_aload_n (pc := 62) dX3_reward_62 rfl ?_
    refine J_iload_n (pc := 63) dX3_reward_63 rfl ?_
    refine J_i2l (pc := 64) dX3_reward_64 rfl ?_
    refine J_bipush (pc := 65) (v := 8) dX3_reward_65 (by decide) ?_
    refine J_iload_n (pc := 67) dX3_reward_67 rfl ?_
    refine J_isubW (pc := 68) 8 a.toInt rfl rfl dX3_reward_68 (by omega) (fun z68 e68 => ?_)
    refine J_i2l (pc := 69) dX3_reward_69 rfl ?_
    refine J_callVq (pc := 70) fC_X3_174 rfl dX3_reward_70 (c_X3_setFraction (rwS (vowZ m) (8 - a.toInt.toNat) a.toInt.toNat 0) (8 - a.toInt) (i2l_z hs') (i2l_z e68) (by omega)) rfl ⟨Nat.le_of_ble_eq_true rfl, Nat.le_of_ble_eq_true rfl⟩ rfl (Nat.le_of_ble_eq_true rfl) (fun v70 μ70 q70 => ?_)
    obtain ⟨rfl, q2⟩ := q70
    refine J_iconst (pc := 73) (v := 1) dX3_reward_73 (by decide) ?_
    refine J_iret (pc := 74) dX3_reward_74 rfl ?_
    exact Or.inr ⟨⟨by omega, by omega⟩, ⟨_, rfl, rfl⟩, q2⟩
  · refine J_if_ne_F (pc := 7) 17 dX3_reward_7 (by decide) (by decide) ?_
    refine J_aload_n (pc := 10) dX3_reward_10 rfl ?_
    refine J_bipush (pc := 11) (v := (-2)) dX3_reward_11 (by decide) ?_
    refine J_callVim (pc := 13) fC_X3_64 rfl dX3_reward_13 (c_X3_refuse2) rfl ⟨Nat.le_of_ble_eq_true rfl, Nat.le_of_ble_eq_true rfl⟩ rfl (Nat.le_of_ble_eq_true rfl) (fun z13 μ13 d13 m13 => ?_)
    refine J_iret (pc := 16) dX3_reward_16 rfl ?_
    subst_vars
    exact Or.inl ⟨by omega, ⟨_, rfl, rfl⟩, rfl⟩
set_option maxRecDepth 100000 in
set_option maxHeartbeats 4000000 in
theorem n_reward {N : Int} {c m : JM} (h : Inv N c m) (hN : 150 ≤ N ∧ N < 100000) {a : Int32}  : Con G shM mX4_reward [.ref 0, .int a] m (fun v μ' => (¬(0 ≤ a.toInt ∧ a.toInt ≤ 7) ∧ IsZ v (-2) ∧ μ' = (jI m 4 0 (m.1 4 0 + 1))) ∨ ((0 ≤ a.toInt ∧ a.toInt ≤ 7) ∧ IsZ v 1 ∧ FrS 20 (rwS (vowZ m) (8 - a.toInt.toNat) a.toInt.toNat 0) (8 - a.toInt) m μ')) := by
  obtain ⟨q0, q1, q2, q3, q4, q5, q6⟩ := Inv_q h
  obtain ⟨r0, r1, r2, r3, r4, r5, r6, r15, r40, r9⟩ := Inv_r h
  have hc := h.1
  have qt : (c.1 21 1).toInt = (m.1 0 9).toInt := by rw [h.2.2.2.2.1.1]
  have qs0 : (c.1 0 8).toInt = (m.1 4 0).toInt := by rw [h.2.2.2.2.2.2.1]
  have qs1 : (c.1 0 9).toInt = (m.1 4 1).toInt := by rw [h.2.2.2.2.2.2.2.1]
  have qs2 : (c.1 0 10).toInt = (m.1 4 2).toInt := by rw [h.2.2.2.2.2.2.2.2]
  refine Con_of [some (.ref 0), some (.int a), none, none] (by decide +kernel) (Nat.le_of_ble_eq_true rfl) (fun _ h => h) ?_
  refine J_iload_n (pc := 0) dX4_reward_0 rfl ?_
  refine J_i2l (pc := 1) dX4_reward_1 rfl ?_
  refine J_lconst (pc := 2) (v := 0) dX4_reward_2 (by decide) ?_
  refine J_ldc2 (pc := 3) fK_X4_96 dX4_reward_3 ?_
  refine J_callSc (pc := 6) fC_X4_58 dX4_reward_6 (c_X4_in a.toInt 0 7 (i2l_z rfl) rfl rfl) rfl ⟨Nat.le_of_ble_eq_true rfl, Nat.le_of_ble_eq_true rfl⟩ rfl (Nat.le_of_ble_eq_true rfl) (fun h6 => ?_) (fun h6 => ?_)
  · refine J_if_ne_T (pc := 9) 19 dX4_reward_9 (by decide) (by decide) ?_
    refine J_iconst (pc := 19) (v := 0) dX4_reward_19 (by decide) ?_
    refine J_istore_n (pc := 20) (lv' := [some (.ref 0), some (.int a), some (.int 0), none]) dX4_reward_20 (Nat.le_of_ble_eq_true rfl) rfl rfl ?_
    refine J_iload_n (pc := 21) dX4_reward_21 rfl ?_
    refine J_istore_n (pc := 22) (lv' := [some (.ref 0), some (.int a), some (.int 0), some (.int a)]) dX4_reward_22 (Nat.le_of_ble_eq_true rfl) rfl rfl ?_
    have hsr := rwS_rng (Inv_vr h) (8 - a.toInt.toNat) a.toInt.toNat 0 (by omega) (by omega)
    refine J_lv' (lv' := [some (.ref 0), some (.int a), some (.int 0), some (.int a)]) (by repeat' constructor) (l_n_rew (Inv_vr h) (8 - a.toInt.toNat) a.toInt.toNat a 0 0 (by omega) (by omega) rfl (by omega) (fun sv' hs' => ?_))
    refine J_aload_n (pc := 65) dX4_reward_65 rfl ?_
    refine J_iload_n (pc := 66) dX4_reward_66 rfl ?_
    refine J_i2l (pc := 67) dX4_reward_67 rfl ?_
    refine J_bipush (pc := 68) (v := 8) dX4_reward_68 (by decide) ?_
    refine J_iload_n (pc := 70) dX4_reward_70 rfl ?_
    refine J_isubW (pc := 71) 8 a.toInt rfl rfl dX4_reward_71 (by omega) (fun z71 e71 => ?_)
    refine J_i2l (pc := 72) dX4_reward_72 rfl ?_
    refine J_callVq (pc := 73) fC_X4_218 rfl dX4_reward_73 (c_X4_fraction (rwS (vowZ m) (8 - a.toInt.toNat) a.toInt.toNat 0) (8 - a.toInt) (i2l_z hs') (i2l_z e71) (by omega)) rfl ⟨Nat.le_of_ble_eq_true rfl, Nat.le_of_ble_eq_true rfl⟩ rfl (Nat.le_of_ble_eq_true rfl) (fun v73 μ73 q73 => ?_)
    obtain ⟨rfl, q2⟩ := q73
    refine J_iconst (pc := 76) (v := 1) dX4_reward_76 (by decide) ?_
    refine J_iret (pc := 77) dX4_reward_77 rfl ?_
    exact Or.inr ⟨⟨by omega, by omega⟩, ⟨_, rfl, rfl⟩, q2⟩
  · refine J_if_ne_F (pc := 9) 19 dX4_reward_9 (by decide) (by decide) ?_
    refine J_aload_n (pc := 12) dX4_reward_12 rfl ?_
    refine J_bipush (pc := 13) (v := (-2)) dX4_reward_13 (by decide) ?_
    refine J_callVim (pc := 15) fC_X4_91 rfl dX4_reward_15 (c_X4_no2) rfl ⟨Nat.le_of_ble_eq_true rfl, Nat.le_of_ble_eq_true rfl⟩ rfl (Nat.le_of_ble_eq_true rfl) (fun z15 μ15 d15 m15 => ?_)
    refine J_iret (pc := 18) dX4_reward_18 rfl ?_
    subst_vars
    exact Or.inl ⟨by omega, ⟨_, rfl, rfl⟩, rfl⟩
theorem pr_reward {G : JG × JG} {N : Int} {c m : JM} (h : Inv N c m) (hN : 150 ≤ N ∧ N < 100000) {a : Int32} : Pair G N c m mX3_reward mX4_reward [.int a] := by
  refine ⟨_, _, k_reward h hN, n_reward h hN, fun v c' w m' hC hM => ?_⟩
  rcases hC with ⟨a1, a2, a3⟩ | ⟨a1, a2, a3⟩
  · rcases hM with ⟨b1, b2, b3⟩ | ⟨b1, b2, b3⟩
    · exact ⟨IsZ_eq a2 b2, by rw [a3, b3]; exact Inv_no (by omega) h 0 (by decide)⟩
    · exact absurd b1 a1
  · rcases hM with ⟨b1, b2, b3⟩ | ⟨b1, b2, b3⟩
    · exact absurd a1 b1
    · exact ⟨IsZ_eq a2 b2, Inv_eq (by omega) (Inv_fr h a3 b3) (eqC_rf _) (eqM_rf _)⟩

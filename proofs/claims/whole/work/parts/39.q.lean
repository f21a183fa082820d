/-! ===== fractions ===== -/
def finD : Nat → Int → Int → Int → Prop
  | 0, x, y, g => y = 0 ∧ g = x
  | d + 1, x, y, g => (y = 0 ∧ g = x) ∨ (0 < y ∧ finD d y (x % y) g)
def fin (x y g : Int) : Prop := ∃ d, finD d x y g
theorem finD_eq : ∀ (d d' : Nat) (x y g g' : Int), finD d x y g → finD d' x y g' → g = g'
  | 0, 0, x, y, g, g', h, h' => h.2.trans h'.2.symm
  | 0, d' + 1, x, y, g, g', h, h' => by
    rcases h' with h' | h'
    · exact h.2.trans h'.2.symm
    · exact absurd h.1 (by omega)
  | d + 1, 0, x, y, g, g', h, h' => by
    rcases h with h | h
    · exact h.2.trans h'.2.symm
    · exact absurd h'.1 (by omega)
  | d + 1, d' + 1, x, y, g, g', h, h' => by
    rcases h with h | h
    · rcases h' with h' | h'
      · exact h.2.trans h'.2.symm
      · exact absurd h.1 (by omega)
    · rcases h' with h' | h'
      · exact absurd h'.1 (by omega)
      · exact finD_eq d d' _ _ _ _ h.2 h'.2
theorem fin_eq {x y g g' : Int} (h : fin x y g) (h' : fin x y g') : g = g' := by
  obtain ⟨d, h⟩ := h
  obtain ⟨d', h'⟩ := h'
  exact finD_eq d d' _ _ _ _ h h'
theorem fin_z (x : Int) : fin x 0 x := ⟨0, rfl, rfl⟩
theorem fin_s {x y g : Int} (h : 0 < y) (h' : fin y (x % y) g) : fin x y g := by
  obtain ⟨d, h'⟩ := h'
  exact ⟨d + 1, Or.inr ⟨h, h'⟩⟩
theorem finD_pos : ∀ (d : Nat) (x y g : Int), finD d x y g → 0 ≤ x → 0 ≤ y → (0 < x ∨ 0 < y) → 0 < g
  | 0, x, y, g, h, h1, h2, h3 => by have a := h.1; have b := h.2; omega
  | d + 1, x, y, g, h, h1, h2, h3 => by
    rcases h with h | h
    · omega
    · exact finD_pos d y (x % y) g h.2 (by omega) (Int.emod_nonneg _ (by omega)) (Or.inl h.1)
theorem fin_pos {x y g : Int} (h : fin x y g) (h1 : 0 ≤ x) (h2 : 0 ≤ y) (h3 : 0 < x ∨ 0 < y) : 0 < g := by
  obtain ⟨d, h⟩ := h
  exact finD_pos d _ _ _ h h1 h2 h3
def fits : Nat → Int → Int → Prop
  | 0, _, y => y = 0
  | d + 1, x, y => y = 0 ∨ fits d y (x % y)
def p2 : Nat → Int
  | 0 => 1
  | k + 1 => 2 * p2 k
theorem fits_up : ∀ (d x y), fits d x y → fits (d + 1) x y
  | 0, _, _, h => Or.inl h
  | d + 1, x, y, h => by
    rcases h with h | h
    · exact Or.inl h
    · exact Or.inr (fits_up d _ _ h)
theorem fits_p2 : ∀ (k : Nat) (x y : Int), 0 ≤ y → y < p2 k → fits (2 * k) x y
  | 0, x, y, h0, h1 => by rw [p2] at h1; show y = 0; omega
  | k + 1, x, y, h0, h1 => by
    rw [p2] at h1
    show y = 0 ∨ (x % y = 0 ∨ fits (2 * k) (x % y) (y % (x % y)))
    by_cases e : y = 0
    · exact Or.inl e
    · refine Or.inr ?_
      have r0 := Int.emod_nonneg x e
      have r1 := Int.emod_lt_of_pos x (show 0 < y by omega)
      by_cases e2 : x % y = 0
      · exact Or.inl e2
      · refine Or.inr (fits_p2 k _ _ (Int.emod_nonneg _ e2) ?_)
        have s1 := Int.emod_lt_of_pos y (show 0 < x % y by omega)
        have s2 := Int.emod_add_mul_ediv y (x % y)
        have s3 : 1 ≤ y / (x % y) := by rw [Int.le_ediv_iff_mul_le (by omega)]; omega
        have s4 : (x % y) * 1 ≤ (x % y) * (y / (x % y)) := Int.mul_le_mul_of_nonneg_left s3 r0
        omega
theorem p2_30 : 1000000000 < p2 30 := by decide
def IsF (v : Option Value) (x y : Int) : Prop := ∃ z : Int64, v = some (.long z) ∧ fin x y z.toInt
variable {G : JG}
set_option maxRecDepth 100000 in
set_option maxHeartbeats 4000000 in
theorem l_k_cd {sh : List JSh} {μ : JM} {x0 y0 : Int64} : ∀ d : Nat, ∀ (i : Nat) (iv : Int32) (x y : Int64) (a b : Int), i + d = 200 → iv.toInt = (i : Int) → x.toInt = a → y.toInt = b → 0 ≤ a → 0 ≤ b → fits d a b → J G sh mX3_commonDivisor 15 [some (.long x0), none, some (.long y0), none, some (.long x), none, some (.long y), none, some (.int iv), none, none] [] μ (fun v μ' => IsF v a b ∧ μ' = μ) := by
  intro d
  induction d with
  | zero =>
    intro i iv x y a b hd hi hx hy ha hb hf
    refine J_iload (pc := 15) dX3_commonDivisor_15 rfl ?_
    refine J_sipush (pc := 17) (v := 200) dX3_commonDivisor_17 (by decide) ?_
    refine J_icmp_geW (pc := 20) (i : Int) 200 hi rfl 51 dX3_commonDivisor_20 (by decide) (fun h20 => ?_) (fun h20 => ?_)
    · refine J_lload (pc := 51) dX3_commonDivisor_51 rfl ?_
      refine J_lret (pc := 53) dX3_commonDivisor_53 rfl ?_
      have e : b = 0 := hf
      subst e
      exact ⟨⟨_, rfl, by rw [hx]; exact fin_z _⟩, rfl⟩
    · exfalso; omega
  | succ d ih =>
    intro i iv x y a b hd hi hx hy ha hb hf
    refine J_iload (pc := 15) dX3_commonDivisor_15 rfl ?_
    refine J_sipush (pc := 17) (v := 200) dX3_commonDivisor_17 (by decide) ?_
    refine J_icmp_geW (pc := 20) (i : Int) 200 hi rfl 51 dX3_commonDivisor_20 (by decide) (fun h20 => ?_) (fun h20 => ?_)
    · exfalso; omega
    · refine J_lload (pc := 23) dX3_commonDivisor_23 rfl ?_
      refine J_lconst (pc := 25) (v := 0) dX3_commonDivisor_25 (by decide) ?_
      refine J_lcmp (pc := 26) dX3_commonDivisor_26 ?_
      have l26 := lgc y 0
      have la26 : (y : Int64).toInt = b := hy
      have lb26 : (0 : Int64).toInt = 0 := rfl
      refine J_if_eqW (pc := 27) ((lg_cmp y 0).toInt) rfl 51 dX3_commonDivisor_27 (by decide) (fun h27 => ?_) (fun h27 => ?_)
      · refine J_lload (pc := 51) dX3_commonDivisor_51 rfl ?_
        refine J_lret (pc := 53) dX3_commonDivisor_53 rfl ?_
        have e : b = 0 := by omega
        subst e
        exact ⟨⟨_, rfl, by rw [hx]; exact fin_z _⟩, rfl⟩
      · refine J_lload (pc := 30) dX3_commonDivisor_30 rfl ?_
        refine J_lload (pc := 32) dX3_commonDivisor_32 rfl ?_
        refine J_lremW (pc := 34) a b hx hy dX3_commonDivisor_34 (by omega) (fun z34 e34 => ?_)
        refine J_lstore (pc := 35) (lv' := [some (.long x0), none, some (.long y0), none, some (.long x), none, some (.long y), none, some (.int iv), some (.long z34), none]) dX3_commonDivisor_35 (Nat.le_of_ble_eq_true rfl) rfl rfl ?_
        refine J_lload (pc := 37) dX3_commonDivisor_37 rfl ?_
        refine J_lstore (pc := 39) (lv' := [some (.long x0), none, some (.long y0), none, some (.long y), none, some (.long y), none, some (.int iv), some (.long z34), none]) dX3_commonDivisor_39 (Nat.le_of_ble_eq_true rfl) rfl rfl ?_
        refine J_lload (pc := 41) dX3_commonDivisor_41 rfl ?_
        refine J_lstore (pc := 43) (lv' := [some (.long x0), none, some (.long y0), none, some (.long y), none, some (.long z34), none, some (.int iv), some (.long z34), none]) dX3_commonDivisor_43 (Nat.le_of_ble_eq_true rfl) rfl rfl ?_
        refine J_iincW' (pc := 45) (i : Int) hi (lv' := fun iq_ => [some (.long x0), none, some (.long y0), none, some (.long y), none, some (.long z34), none, some (.int iq_), some (.long z34), none]) dX3_commonDivisor_45 rfl (by omega) (by decide) (Nat.le_of_ble_eq_true rfl) rfl (fun _ => rfl) (fun z45 e45 => ?_)
        refine J_goto (pc := 48) 15 dX3_commonDivisor_48 (by decide) ?_
        have hb0 : 0 < b := by omega
        refine J_mono (J_lv' (lv' := [some (.long x0), none, some (.long y0), none, some (.long y), none, some (.long z34), none, some (.int z45), none, none]) (by repeat' constructor) (ih (i + 1) z45 y z34 b (a % b) (by omega) (by omega) hy e34 hb (Int.emod_nonneg _ (by omega)) (by rcases hf with e | e; omega; exact e))) (fun v μ' hh => ⟨?_, hh.2⟩)
        obtain ⟨⟨z, hz1, hz2⟩, hz3⟩ := hh
        exact ⟨z, hz1, fin_s hb0 hz2⟩

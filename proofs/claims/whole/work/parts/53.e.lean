/-! ===== the model's takeWord, takeItem ===== -/
def cdv (T : Nat → Int) (s : Nat) : Nat → Int
  | 0 => 0
  | k + 1 => 27 * cdv T s k + (T (s + k) - 96)
def wv (T : Nat → Int) (s e : Nat) : Int := if e ≤ s + 5 then cdv T s (e - s) else -1
theorem cdv_le {T : Nat → Int} {s : Nat} : ∀ k, k ≤ 5 → (∀ j, j < k → 97 ≤ T (s + j) ∧ T (s + j) ≤ 122) → 0 ≤ cdv T s k ∧ cdv T s k ≤ 14348906 := by
  intro k hk hd
  have h0 := hd 0
  have h1 := hd 1
  have h2 := hd 2
  have h3 := hd 3
  have h4 := hd 4
  rcases (by omega : k = 0 ∨ k = 1 ∨ k = 2 ∨ k = 3 ∨ k = 4 ∨ k = 5) with rfl | rfl | rfl | rfl | rfl | rfl <;> simp only [cdv] <;> omega
theorem LN_0 {L : Nat} {T : Nat → Int} {i : Nat} (h : ¬ (i < L ∧ (97 ≤ T i ∧ T i ≤ 122))) : LN L T i = i := by unfold LN; rw [lrn, if_neg h]
theorem SK_id {L : Nat} {T : Nat → Int} {i : Nat} (h : ¬ (i < L ∧ T i = 32)) : SK L T i = i := by unfold SK; rw [skp, if_neg h]
def wZ (L : Nat) (T : Nat → Int) (s : Nat) : Int := if s < L then wv T s (LN L T s) else -1
theorem spl_0 {L : Nat} {T : Nat → Int} {s : Nat} (hs : s ≤ L) (hL : L ≤ 150) : wZ L T s = 7335 ↔ SPL L T s 0 := by
  have hl := LN_r (T := T) hs hL
  have e : slZ 0 = 3 := by decide
  have c0 : chZ 0 0 = 106 := by decide
  have c1 : chZ 0 1 = 97 := by decide
  have c2 : chZ 0 2 = 114 := by decide
  constructor
  · intro h
    unfold wZ at h
    by_cases h1 : s < L
    · rw [if_pos h1] at h
      unfold wv at h
      by_cases h2 : LN L T s ≤ s + 5
      · rw [if_pos h2] at h
        obtain ⟨k, hk⟩ : ∃ k, LN L T s = s + k := ⟨LN L T s - s, by omega⟩
        have hd := hl.2.2.1
        rw [hk] at h h2 hd
        rw [show s + k - s = k by omega] at h
        have d0 := hd s
        have d1 := hd (s + 1)
        have d2 := hd (s + 2)
        have d3 := hd (s + 3)
        have d4 := hd (s + 4)
        rcases (by omega : k = 0 ∨ k = 1 ∨ k = 2 ∨ k = 3 ∨ k = 4 ∨ k = 5) with rfl | rfl | rfl | rfl | rfl | rfl <;> simp only [cdv, Nat.add_zero] at h
        · exfalso; omega
        · exfalso; omega
        · exfalso; omega
        · refine ⟨⟨h1, by omega⟩, by rw [e]; exact hk, fun j hj => ?_⟩
          rw [e] at hj
          rcases (by omega : j = 0 ∨ j = 1 ∨ j = 2) with rfl | rfl | rfl
          · rw [c0]; rw [Nat.add_zero]; omega
          · rw [c1]; omega
          · rw [c2]; omega
        · exfalso; omega
        · exfalso; omega
      · rw [if_neg h2] at h; omega
    · rw [if_neg h1] at h; omega
  · intro h
    obtain ⟨h1, h2, h3⟩ := h
    rw [e] at h2 h3
    have t0 := h3 0 (by decide)
    rw [c0] at t0
    have t1 := h3 1 (by decide)
    rw [c1] at t1
    have t2 := h3 2 (by decide)
    rw [c2] at t2
    unfold wZ wv
    rw [if_pos h1.1, if_pos (by omega), h2, show s + 3 - s = 3 by omega]
    simp only [cdv]
    omega
theorem spl_1 {L : Nat} {T : Nat → Int} {s : Nat} (hs : s ≤ L) (hL : L ≤ 150) : wZ L T s = 267223 ↔ SPL L T s 1 := by
  have hl := LN_r (T := T) hs hL
  have e : slZ 1 = 4 := by decide
  have c0 : chZ 1 0 = 109 := by decide
  have c1 : chZ 1 1 = 111 := by decide
  have c2 : chZ 1 2 = 111 := by decide
  have c3 : chZ 1 3 = 100 := by decide
  constructor
  · intro h
    unfold wZ at h
    by_cases h1 : s < L
    · rw [if_pos h1] at h
      unfold wv at h
      by_cases h2 : LN L T s ≤ s + 5
      · rw [if_pos h2] at h
        obtain ⟨k, hk⟩ : ∃ k, LN L T s = s + k := ⟨LN L T s - s, by omega⟩
        have hd := hl.2.2.1
        rw [hk] at h h2 hd
        rw [show s + k - s = k by omega] at h
        have d0 := hd s
        have d1 := hd (s + 1)
        have d2 := hd (s + 2)
        have d3 := hd (s + 3)
        have d4 := hd (s + 4)
        rcases (by omega : k = 0 ∨ k = 1 ∨ k = 2 ∨ k = 3 ∨ k = 4 ∨ k = 5) with rfl | rfl | rfl | rfl | rfl | rfl <;> simp only [cdv, Nat.add_zero] at h
        · exfalso; omega
        · exfalso; omega
        · exfalso; omega
        · exfalso; omega
        · refine ⟨⟨h1, by omega⟩, by rw [e]; exact hk, fun j hj => ?_⟩
          rw [e] at hj
          rcases (by omega : j = 0 ∨ j = 1 ∨ j = 2 ∨ j = 3) with rfl | rfl | rfl | rfl
          · rw [c0]; rw [Nat.add_zero]; omega
          · rw [c1]; omega
          · rw [c2]; omega
          · rw [c3]; omega
        · exfalso; omega
      · rw [if_neg h2] at h; omega
    · rw [if_neg h1] at h; omega
  · intro h
    obtain ⟨h1, h2, h3⟩ := h
    rw [e] at h2 h3
    have t0 := h3 0 (by decide)
    rw [c0] at t0
    have t1 := h3 1 (by decide)
    rw [c1] at t1
    have t2 := h3 2 (by decide)
    rw [c2] at t2
    have t3 := h3 3 (by decide)
    rw [c3] at t3
    unfold wZ wv
    rw [if_pos h1.1, if_pos (by omega), h2, show s + 4 - s = 4 by omega]
    simp only [cdv]
    omega
theorem spl_2 {L : Nat} {T : Nat → Int} {s : Nat} (hs : s ≤ L) (hL : L ≤ 150) : wZ L T s = 1373818 ↔ SPL L T s 2 := by
  have hl := LN_r (T := T) hs hL
  have e : slZ 2 = 5 := by decide
  have c0 : chZ 2 0 = 98 := by decide
  have c1 : chZ 2 1 = 111 := by decide
  have c2 : chZ 2 2 = 117 := by decide
  have c3 : chZ 2 3 = 110 := by decide
  have c4 : chZ 2 4 = 100 := by decide
  constructor
  · intro h
    unfold wZ at h
    by_cases h1 : s < L
    · rw [if_pos h1] at h
      unfold wv at h
      by_cases h2 : LN L T s ≤ s + 5
      · rw [if_pos h2] at h
        obtain ⟨k, hk⟩ : ∃ k, LN L T s = s + k := ⟨LN L T s - s, by omega⟩
        have hd := hl.2.2.1
        rw [hk] at h h2 hd
        rw [show s + k - s = k by omega] at h
        have d0 := hd s
        have d1 := hd (s + 1)
        have d2 := hd (s + 2)
        have d3 := hd (s + 3)
        have d4 := hd (s + 4)
        rcases (by omega : k = 0 ∨ k = 1 ∨ k = 2 ∨ k = 3 ∨ k = 4 ∨ k = 5) with rfl | rfl | rfl | rfl | rfl | rfl <;> simp only [cdv, Nat.add_zero] at h
        · exfalso; omega
        · exfalso; omega
        · exfalso; omega
        · exfalso; omega
        · exfalso; omega
        · refine ⟨⟨h1, by omega⟩, by rw [e]; exact hk, fun j hj => ?_⟩
          rw [e] at hj
          rcases (by omega : j = 0 ∨ j = 1 ∨ j = 2 ∨ j = 3 ∨ j = 4) with rfl | rfl | rfl | rfl | rfl
          · rw [c0]; rw [Nat.add_zero]; omega
          · rw [c1]; omega
          · rw [c2]; omega
          · rw [c3]; omega
          · rw [c4]; omega
      · rw [if_neg h2] at h; omega
    · rw [if_neg h1] at h; omega
  · intro h
    obtain ⟨h1, h2, h3⟩ := h
    rw [e] at h2 h3
    have t0 := h3 0 (by decide)
    rw [c0] at t0
    have t1 := h3 1 (by decide)
    rw [c1] at t1
    have t2 := h3 2 (by decide)
    rw [c2] at t2
    have t3 := h3 3 (by decide)
    rw [c3] at t3
    have t4 := h3 4 (by decide)
    rw [c4] at t4
    unfold wZ wv
    rw [if_pos h1.1, if_pos (by omega), h2, show s + 5 - s = 5 by omega]
    simp only [cdv]
    omega
theorem spl_3 {L : Nat} {T : Nat → Int} {s : Nat} (hs : s ≤ L) (hL : L ≤ 150) : wZ L T s = 16466 ↔ SPL L T s 3 := by
  have hl := LN_r (T := T) hs hL
  have e : slZ 3 = 3 := by decide
  have c0 : chZ 3 0 = 118 := by decide
  have c1 : chZ 3 1 = 111 := by decide
  have c2 : chZ 3 2 = 119 := by decide
  constructor
  · intro h
    unfold wZ at h
    by_cases h1 : s < L
    · rw [if_pos h1] at h
      unfold wv at h
      by_cases h2 : LN L T s ≤ s + 5
      · rw [if_pos h2] at h
        obtain ⟨k, hk⟩ : ∃ k, LN L T s = s + k := ⟨LN L T s - s, by omega⟩
        have hd := hl.2.2.1
        rw [hk] at h h2 hd
        rw [show s + k - s = k by omega] at h
        have d0 := hd s
        have d1 := hd (s + 1)
        have d2 := hd (s + 2)
        have d3 := hd (s + 3)
        have d4 := hd (s + 4)
        rcases (by omega : k = 0 ∨ k = 1 ∨ k = 2 ∨ k = 3 ∨ k = 4 ∨ k = 5) with rfl | rfl | rfl | rfl | rfl | rfl <;> simp only [cdv, Nat.add_zero] at h
        · exfalso; omega
        · exfalso; omega
        · exfalso; omega
        · refine ⟨⟨h1, by omega⟩, by rw [e]; exact hk, fun j hj => ?_⟩
          rw [e] at hj
          rcases (by omega : j = 0 ∨ j = 1 ∨ j = 2) with rfl | rfl | rfl
          · rw [c0]; rw [Nat.add_zero]; omega
          · rw [c1]; omega
          · rw [c2]; omega
        · exfalso; omega
        · exfalso; omega
      · rw [if_neg h2] at h; omega
    · rw [if_neg h1] at h; omega
  · intro h
    obtain ⟨h1, h2, h3⟩ := h
    rw [e] at h2 h3
    have t0 := h3 0 (by decide)
    rw [c0] at t0
    have t1 := h3 1 (by decide)
    rw [c1] at t1
    have t2 := h3 2 (by decide)
    rw [c2] at t2
    unfold wZ wv
    rw [if_pos h1.1, if_pos (by omega), h2, show s + 3 - s = 3 by omega]
    simp only [cdv]
    omega
theorem spl_4 {L : Nat} {T : Nat → Int} {s : Nat} (hs : s ≤ L) (hL : L ≤ 150) : wZ L T s = 13903 ↔ SPL L T s 4 := by
  have hl := LN_r (T := T) hs hL
  have e : slZ 4 = 3 := by decide
  have c0 : chZ 4 0 = 115 := by decide
  have c1 : chZ 4 1 = 97 := by decide
  have c2 : chZ 4 2 = 121 := by decide
  constructor
  · intro h
    unfold wZ at h
    by_cases h1 : s < L
    · rw [if_pos h1] at h
      unfold wv at h
      by_cases h2 : LN L T s ≤ s + 5
      · rw [if_pos h2] at h
        obtain ⟨k, hk⟩ : ∃ k, LN L T s = s + k := ⟨LN L T s - s, by omega⟩
        have hd := hl.2.2.1
        rw [hk] at h h2 hd
        rw [show s + k - s = k by omega] at h
        have d0 := hd s
        have d1 := hd (s + 1)
        have d2 := hd (s + 2)
        have d3 := hd (s + 3)
        have d4 := hd (s + 4)
        rcases (by omega : k = 0 ∨ k = 1 ∨ k = 2 ∨ k = 3 ∨ k = 4 ∨ k = 5) with rfl | rfl | rfl | rfl | rfl | rfl <;> simp only [cdv, Nat.add_zero] at h
        · exfalso; omega
        · exfalso; omega
        · exfalso; omega
        · refine ⟨⟨h1, by omega⟩, by rw [e]; exact hk, fun j hj => ?_⟩
          rw [e] at hj
          rcases (by omega : j = 0 ∨ j = 1 ∨ j = 2) with rfl | rfl | rfl
          · rw [c0]; rw [Nat.add_zero]; omega
          · rw [c1]; omega
          · rw [c2]; omega
        · exfalso; omega
        · exfalso; omega
      · rw [if_neg h2] at h; omega
    · rw [if_neg h1] at h; omega
  · intro h
    obtain ⟨h1, h2, h3⟩ := h
    rw [e] at h2 h3
    have t0 := h3 0 (by decide)
    rw [c0] at t0
    have t1 := h3 1 (by decide)
    rw [c1] at t1
    have t2 := h3 2 (by decide)
    rw [c2] at t2
    unfold wZ wv
    rw [if_pos h1.1, if_pos (by omega), h2, show s + 3 - s = 3 by omega]
    simp only [cdv]
    omega
variable {G : JG}
set_option maxRecDepth 100000 in
set_option maxHeartbeats 4000000 in
theorem c_X4_wordOf0 {sh : List JSh} {μ : JM} : Con G sh mX4_wordOf [.int 106, .int 97, .int 114, .int 0, .int 0] μ (j_z 7335 μ) := by
  refine Con_of [some (.int 106), some (.int 97), some (.int 114), some (.int 0), some (.int 0), none] (by decide +kernel) (Nat.le_of_ble_eq_true rfl) (fun _ h => h) ?_
  refine J_bipush (pc := 0) (v := 27) dX4_wordOf_0 (by decide) ?_
  refine J_bipush (pc := 2) (v := 27) dX4_wordOf_2 (by decide) ?_
  refine J_iload_n (pc := 4) dX4_wordOf_4 rfl ?_
  refine J_bipush (pc := 5) (v := 97) dX4_wordOf_5 (by decide) ?_
  refine J_isub (pc := 7) dX4_wordOf_7 ?_
  refine J_iconst (pc := 8) (v := 1) dX4_wordOf_8 (by decide) ?_
  refine J_iadd (pc := 9) dX4_wordOf_9 ?_
  refine J_imul (pc := 10) dX4_wordOf_10 ?_
  refine J_iload_n (pc := 11) dX4_wordOf_11 rfl ?_
  refine J_iadd (pc := 12) dX4_wordOf_12 ?_
  refine J_bipush (pc := 13) (v := 97) dX4_wordOf_13 (by decide) ?_
  refine J_isub (pc := 15) dX4_wordOf_15 ?_
  refine J_iconst (pc := 16) (v := 1) dX4_wordOf_16 (by decide) ?_
  refine J_iadd (pc := 17) dX4_wordOf_17 ?_
  refine J_imul (pc := 18) dX4_wordOf_18 ?_
  refine J_iload_n (pc := 19) dX4_wordOf_19 rfl ?_
  refine J_iadd (pc := 20) dX4_wordOf_20 ?_
  refine J_bipush (pc := 21) (v := 97) dX4_wordOf_21 (by decide) ?_
  refine J_isub (pc := 23) dX4_wordOf_23 ?_
  refine J_iconst (pc := 24) (v := 1) dX4_wordOf_24 (by decide) ?_
  refine J_iadd (pc := 25) dX4_wordOf_25 ?_
  refine J_istore (pc := 26) (lv' := [some (.int 106), some (.int 97), some (.int 114), some (.int 0), some (.int 0), some (.int ((((27 * ((((27 * ((106 - 97) + 1)) + 97) - 97) + 1)) + 114) - 97) + 1))]) dX4_wordOf_26 (Nat.le_of_ble_eq_true rfl) rfl rfl ?_
  refine J_iload_n (pc := 28) dX4_wordOf_28 rfl ?_
  refine J_if_le_T (pc := 29) 47 dX4_wordOf_29 (by decide) (by decide) ?_
  refine J_iload (pc := 47) dX4_wordOf_47 rfl ?_
  refine J_istore (pc := 49) (lv' := [some (.int 106), some (.int 97), some (.int 114), some (.int 0), some (.int 0), some (.int ((((27 * ((((27 * ((106 - 97) + 1)) + 97) - 97) + 1)) + 114) - 97) + 1))]) dX4_wordOf_49 (Nat.le_of_ble_eq_true rfl) rfl rfl ?_
  refine J_iload (pc := 51) dX4_wordOf_51 rfl ?_
  refine J_if_le_T (pc := 53) 72 dX4_wordOf_53 (by decide) (by decide) ?_
  refine J_iload (pc := 72) dX4_wordOf_72 rfl ?_
  refine J_iret (pc := 74) dX4_wordOf_74 rfl ?_
  exact ⟨⟨_, rfl, by decide⟩, rfl⟩
set_option maxRecDepth 100000 in
set_option maxHeartbeats 4000000 in
theorem c_X4_wordOf1 {sh : List JSh} {μ : JM} : Con G sh mX4_wordOf [.int 109, .int 111, .int 111, .int 100, .int 0] μ (j_z 267223 μ) := by
  refine Con_of [some (.int 109), some (.int 111), some (.int 111), some (.int 100), some (.int 0), none] (by decide +kernel) (Nat.le_of_ble_eq_true rfl) (fun _ h => h) ?_
  refine J_bipush (pc := 0) (v := 27) dX4_wordOf_0 (by decide) ?_
  refine J_bipush (pc := 2) (v := 27) dX4_wordOf_2 (by decide) ?_
  refine J_iload_n (pc := 4) dX4_wordOf_4 rfl ?_
  refine J_bipush (pc := 5) (v := 97) dX4_wordOf_5 (by decide) ?_
  refine J_isub (pc := 7) dX4_wordOf_7 ?_
  refine J_iconst (pc := 8) (v := 1) dX4_wordOf_8 (by decide) ?_
  refine J_iadd (pc := 9) dX4_wordOf_9 ?_
  refine J_imul (pc := 10) dX4_wordOf_10 ?_
  refine J_iload_n (pc := 11) dX4_wordOf_11 rfl ?_
  refine J_iadd (pc := 12) dX4_wordOf_12 ?_
  refine J_bipush (pc := 13) (v := 97) dX4_wordOf_13 (by decide) ?_
  refine J_isub (pc := 15) dX4_wordOf_15 ?_
  refine J_iconst (pc := 16) (v := 1) dX4_wordOf_16 (by decide) ?_
  refine J_iadd (pc := 17) dX4_wordOf_17 ?_
  refine J_imul (pc := 18) dX4_wordOf_18 ?_
  refine J_iload_n (pc := 19) dX4_wordOf_19 rfl ?_
  refine J_iadd (pc := 20) dX4_wordOf_20 ?_
  refine J_bipush (pc := 21) (v := 97) dX4_wordOf_21 (by decide) ?_
  refine J_isub (pc := 23) dX4_wordOf_23 ?_
  refine J_iconst (pc := 24) (v := 1) dX4_wordOf_24 (by decide) ?_
  refine J_iadd (pc := 25) dX4_wordOf_25 ?_
  refine J_istore (pc := 26) (lv' := [some (.int 109), some (.int 111), some (.int 111), some (.int 100), some (.int 0), some (.int ((((27 * ((((27 * ((109 - 97) + 1)) + 111) - 97) + 1)) + 111) - 97) + 1))]) dX4_wordOf_26 (Nat.le_of_ble_eq_true rfl) rfl rfl ?_
  refine J_iload_n (pc := 28) dX4_wordOf_28 rfl ?_
  refine J_if_le_F (pc := 29) 47 dX4_wordOf_29 (by decide) (by decide) ?_
  refine J_bipush (pc := 32) (v := 27) dX4_wordOf_32 (by decide) ?_
  refine J_iload (pc := 34) dX4_wordOf_34 rfl ?_
  refine J_imul (pc := 36) dX4_wordOf_36 ?_
  refine J_iload_n (pc := 37) dX4_wordOf_37 rfl ?_
  refine J_iadd (pc := 38) dX4_wordOf_38 ?_
  refine J_bipush (pc := 39) (v := 97) dX4_wordOf_39 (by decide) ?_
  refine J_isub (pc := 41) dX4_wordOf_41 ?_
  refine J_iconst (pc := 42) (v := 1) dX4_wordOf_42 (by decide) ?_
  refine J_iadd (pc := 43) dX4_wordOf_43 ?_
  refine J_goto (pc := 44) 49 dX4_wordOf_44 (by decide) ?_
  refine J_istore (pc := 49) (lv' := [some (.int 109), some (.int 111), some (.int 111), some (.int 100), some (.int 0), some (.int ((((27 * ((((27 * ((((27 * ((109 - 97) + 1)) + 111) - 97) + 1)) + 111) - 97) + 1)) + 100) - 97) + 1))]) dX4_wordOf_49 (Nat.le_of_ble_eq_true rfl) rfl rfl ?_
  refine J_iload (pc := 51) dX4_wordOf_51 rfl ?_
  refine J_if_le_T (pc := 53) 72 dX4_wordOf_53 (by decide) (by decide) ?_
  refine J_iload (pc := 72) dX4_wordOf_72 rfl ?_
  refine J_iret (pc := 74) dX4_wordOf_74 rfl ?_
  exact ⟨⟨_, rfl, by decide⟩, rfl⟩
set_option maxRecDepth 100000 in
set_option maxHeartbeats 4000000 in
theorem c_X4_wordOf2 {sh : List JSh} {μ : JM} : Con G sh mX4_wordOf [.int 98, .int 111, .int 117, .int 110, .int 100] μ (j_z 1373818 μ) := by
  refine Con_of [some (.int 98), some (.int 111), some (.int 117), some (.int 110), some (.int 100), none] (by decide +kernel) (Nat.le_of_ble_eq_true rfl) (fun _ h => h) ?_
  refine J_bipush (pc := 0) (v := 27) dX4_wordOf_0 (by decide) ?_
  refine J_bipush (pc := 2) (v := 27) dX4_wordOf_2 (by decide) ?_
  refine J_iload_n (pc := 4) dX4_wordOf_4 rfl ?_
  refine J_bipush (pc := 5) (v := 97) dX4_wordOf_5 (by decide) ?_
  refine J_isub (pc := 7) dX4_wordOf_7 ?_
  refine J_iconst (pc := 8) (v := 1) dX4_wordOf_8 (by decide) ?_
  refine J_iadd (pc := 9) dX4_wordOf_9 ?_
  refine J_imul (pc := 10) dX4_wordOf_10 ?_
  refine J_iload_n (pc := 11) dX4_wordOf_11 rfl ?_
  refine J_iadd (pc := 12) dX4_wordOf_12 ?_
  refine J_bipush (pc := 13) (v := 97) dX4_wordOf_13 (by decide) ?_
  refine J_isub (pc := 15) dX4_wordOf_15 ?_
  refine J_iconst (pc := 16) (v := 1) dX4_wordOf_16 (by decide) ?_
  refine J_iadd (pc := 17) dX4_wordOf_17 ?_
  refine J_imul (pc := 18) dX4_wordOf_18 ?_
  refine J_iload_n (pc := 19) dX4_wordOf_19 rfl ?_
  refine J_iadd (pc := 20) dX4_wordOf_20 ?_
  refine J_bipush (pc := 21) (v := 97) dX4_wordOf_21 (by decide) ?_
  refine J_isub (pc := 23) dX4_wordOf_23 ?_
  refine J_iconst (pc := 24) (v := 1) dX4_wordOf_24 (by decide) ?_
  refine J_iadd (pc := 25) dX4_wordOf_25 ?_
  refine J_istore (pc := 26) (lv' := [some (.int 98), some (.int 111), some (.int 117), some (.int 110), some (.int 100), some (.int ((((27 * ((((27 * ((98 - 97) + 1)) + 111) - 97) + 1)) + 117) - 97) + 1))]) dX4_wordOf_26 (Nat.le_of_ble_eq_true rfl) rfl rfl ?_
  refine J_iload_n (pc := 28) dX4_wordOf_28 rfl ?_
  refine J_if_le_F (pc := 29) 47 dX4_wordOf_29 (by decide) (by decide) ?_
  refine J_bipush (pc := 32) (v := 27) dX4_wordOf_32 (by decide) ?_
  refine J_iload (pc := 34) dX4_wordOf_34 rfl ?_
  refine J_imul (pc := 36) dX4_wordOf_36 ?_
  refine J_iload_n (pc := 37) dX4_wordOf_37 rfl ?_
  refine J_iadd (pc := 38) dX4_wordOf_38 ?_
  refine J_bipush (pc := 39) (v := 97) dX4_wordOf_39 (by decide) ?_
  refine J_isub (pc := 41) dX4_wordOf_41 ?_
  refine J_iconst (pc := 42) (v := 1) dX4_wordOf_42 (by decide) ?_
  refine J_iadd (pc := 43) dX4_wordOf_43 ?_
  refine J_goto (pc := 44) 49 dX4_wordOf_44 (by decide) ?_
  refine J_istore (pc := 49) (lv' := [some (.int 98), some (.int 111), some (.int 117), some (.int 110), some (.int 100), some (.int ((((27 * ((((27 * ((((27 * ((98 - 97) + 1)) + 111) - 97) + 1)) + 117) - 97) + 1)) + 110) - 97) + 1))]) dX4_wordOf_49 (Nat.le_of_ble_eq_true rfl) rfl rfl ?_
  refine J_iload (pc := 51) dX4_wordOf_51 rfl ?_
  refine J_if_le_F (pc := 53) 72 dX4_wordOf_53 (by decide) (by decide) ?_
  refine J_bipush (pc := 56) (v := 27) dX4_wordOf_56 (by decide) ?_
  refine J_iload (pc := 58) dX4_wordOf_58 rfl ?_
  refine J_imul (pc := 60) dX4_wordOf_60 ?_
  refine J_iload (pc := 61) dX4_wordOf_61 rfl ?_
  refine J_iadd (pc := 63) dX4_wordOf_63 ?_
  refine J_bipush (pc := 64) (v := 97) dX4_wordOf_64 (by decide) ?_
  refine J_isub (pc := 66) dX4_wordOf_66 ?_
  refine J_iconst (pc := 67) (v := 1) dX4_wordOf_67 (by decide) ?_
  refine J_iadd (pc := 68) dX4_wordOf_68 ?_
  refine J_goto (pc := 69) 74 dX4_wordOf_69 (by decide) ?_
  refine J_iret (pc := 74) dX4_wordOf_74 rfl ?_
  exact ⟨⟨_, rfl, by decide⟩, rfl⟩
set_option maxRecDepth 100000 in
set_option maxHeartbeats 4000000 in
theorem c_X4_wordOf3 {sh : List JSh} {μ : JM} : Con G sh mX4_wordOf [.int 118, .int 111, .int 119, .int 0, .int 0] μ (j_z 16466 μ) := by
  refine Con_of [some (.int 118), some (.int 111), some (.int 119), some (.int 0), some (.int 0), none] (by decide +kernel) (Nat.le_of_ble_eq_true rfl) (fun _ h => h) ?_
  refine J_bipush (pc := 0) (v := 27) dX4_wordOf_0 (by decide) ?_
  refine J_bipush (pc := 2) (v := 27) dX4_wordOf_2 (by decide) ?_
  refine J_iload_n (pc := 4) dX4_wordOf_4 rfl ?_
  refine J_bipush (pc := 5) (v := 97) dX4_wordOf_5 (by decide) ?_
  refine J_isub (pc := 7) dX4_wordOf_7 ?_
  refine J_iconst (pc := 8) (v := 1) dX4_wordOf_8 (by decide) ?_
  refine J_iadd (pc := 9) dX4_wordOf_9 ?_
  refine J_imul (pc := 10) dX4_wordOf_10 ?_
  refine J_iload_n (pc := 11) dX4_wordOf_11 rfl ?_
  refine J_iadd (pc := 12) dX4_wordOf_12 ?_
  refine J_bipush (pc := 13) (v := 97) dX4_wordOf_13 (by decide) ?_
  refine J_isub (pc := 15) dX4_wordOf_15 ?_
  refine J_iconst (pc := 16) (v := 1) dX4_wordOf_16 (by decide) ?_
  refine J_iadd (pc := 17) dX4_wordOf_17 ?_
  refine J_imul (pc := 18) dX4_wordOf_18 ?_
  refine J_iload_n (pc := 19) dX4_wordOf_19 rfl ?_
  refine J_iadd (pc := 20) dX4_wordOf_20 ?_
  refine J_bipush (pc := 21) (v := 97) dX4_wordOf_21 (by decide) ?_
  refine J_isub (pc := 23) dX4_wordOf_23 ?_
  refine J_iconst (pc := 24) (v := 1) dX4_wordOf_24 (by decide) ?_
  refine J_iadd (pc := 25) dX4_wordOf_25 ?_
  refine J_istore (pc := 26) (lv' := [some (.int 118), some (.int 111), some (.int 119), some (.int 0), some (.int 0), some (.int ((((27 * ((((27 * ((118 - 97) + 1)) + 111) - 97) + 1)) + 119) - 97) + 1))]) dX4_wordOf_26 (Nat.le_of_ble_eq_true rfl) rfl rfl ?_
  refine J_iload_n (pc := 28) dX4_wordOf_28 rfl ?_
  refine J_if_le_T (pc := 29) 47 dX4_wordOf_29 (by decide) (by decide) ?_
  refine J_iload (pc := 47) dX4_wordOf_47 rfl ?_
  refine J_istore (pc := 49) (lv' := [some (.int 118), some (.int 111), some (.int 119), some (.int 0), some (.int 0), some (.int ((((27 * ((((27 * ((118 - 97) + 1)) + 111) - 97) + 1)) + 119) - 97) + 1))]) dX4_wordOf_49 (Nat.le_of_ble_eq_true rfl) rfl rfl ?_
  refine J_iload (pc := 51) dX4_wordOf_51 rfl ?_
  refine J_if_le_T (pc := 53) 72 dX4_wordOf_53 (by decide) (by decide) ?_
  refine J_iload (pc := 72) dX4_wordOf_72 rfl ?_
  refine J_iret (pc := 74) dX4_wordOf_74 rfl ?_
  exact ⟨⟨_, rfl, by decide⟩, rfl⟩
set_option maxRecDepth 100000 in
set_option maxHeartbeats 4000000 in
theorem c_X4_wordOf4 {sh : List JSh} {μ : JM} : Con G sh mX4_wordOf [.int 115, .int 97, .int 121, .int 0, .int 0] μ (j_z 13903 μ) := by
  refine Con_of [some (.int 115), some (.int 97), some (.int 121), some (.int 0), some (.int 0), none] (by decide +kernel) (Nat.le_of_ble_eq_true rfl) (fun _ h => h) ?_
  refine J_bipush (pc := 0) (v := 27) dX4_wordOf_0 (by decide) ?_
  refine J_bipush (pc := 2) (v := 27) dX4_wordOf_2 (by decide) ?_
  refine J_iload_n (pc := 4) dX4_wordOf_4 rfl ?_
  refine J_bipush (pc := 5) (v := 97) dX4_wordOf_5 (by decide) ?_
  refine J_isub (pc := 7) dX4_wordOf_7 ?_
  refine J_iconst (pc := 8) (v := 1) dX4_wordOf_8 (by decide) ?_
  refine J_iadd (pc := 9) dX4_wordOf_9 ?_
  refine J_imul (pc := 10) dX4_wordOf_10 ?_
  refine J_iload_n (pc := 11) dX4_wordOf_11 rfl ?_
  refine J_iadd (pc := 12) dX4_wordOf_12 ?_
  refine J_bipush (pc := 13) (v := 97) dX4_wordOf_13 (by decide) ?_
  refine J_isub (pc := 15) dX4_wordOf_15 ?_
  refine J_iconst (pc := 16) (v := 1) dX4_wordOf_16 (by decide) ?_
  refine J_iadd (pc := 17) dX4_wordOf_17 ?_
  refine J_imul (pc := 18) dX4_wordOf_18 ?_
  refine J_iload_n (pc := 19) dX4_wordOf_19 rfl ?_
  refine J_iadd (pc := 20) dX4_wordOf_20 ?_
  refine J_bipush (pc := 21) (v := 97) dX4_wordOf_21 (by decide) ?_
  refine J_isub (pc := 23) dX4_wordOf_23 ?_
  refine J_iconst (pc := 24) (v := 1) dX4_wordOf_24 (by decide) ?_
  refine J_iadd (pc := 25) dX4_wordOf_25 ?_
  refine J_istore (pc := 26) (lv' := [some (.int 115), some (.int 97), some (.int 121), some (.int 0), some (.int 0), some (.int ((((27 * ((((27 * ((115 - 97) + 1)) + 97) - 97) + 1)) + 121) - 97) + 1))]) dX4_wordOf_26 (Nat.le_of_ble_eq_true rfl) rfl rfl ?_
  refine J_iload_n (pc := 28) dX4_wordOf_28 rfl ?_
  refine J_if_le_T (pc := 29) 47 dX4_wordOf_29 (by decide) (by decide) ?_
  refine J_iload (pc := 47) dX4_wordOf_47 rfl ?_
  refine J_istore (pc := 49) (lv' := [some (.int 115), some (.int 97), some (.int 121), some (.int 0), some (.int 0), some (.int ((((27 * ((((27 * ((115 - 97) + 1)) + 97) - 97) + 1)) + 121) - 97) + 1))]) dX4_wordOf_49 (Nat.le_of_ble_eq_true rfl) rfl rfl ?_
  refine J_iload (pc := 51) dX4_wordOf_51 rfl ?_
  refine J_if_le_T (pc := 53) 72 dX4_wordOf_53 (by decide) (by decide) ?_
  refine J_iload (pc := 72) dX4_wordOf_72 rfl ?_
  refine J_iret (pc := 74) dX4_wordOf_74 rfl ?_
  exact ⟨⟨_, rfl, by decide⟩, rfl⟩
def frW (c μ : JM) : Prop := (∀ k, k ≠ 10 → μ.1 0 k = c.1 0 k) ∧ (∀ o, o ≠ 0 → μ.1 o = c.1 o) ∧ μ.2 = c.2
theorem frN_W {c μ : JM} (h : frW c μ) : frN c μ := ⟨h.2.1, h.1 9 (by decide), h.2.2⟩
set_option maxRecDepth 100000 in
set_option maxHeartbeats 4000000 in
theorem l_tw {c : JM} {L : Nat} {T : Nat → Int} {s : Nat} {cv : Int32} {Q : Option Value → JM → Prop} : ∀ d : Nat, ∀ (i : Nat) (sv : Int32) (μ : JM), s ≤ i → L ≤ i + d → i ≤ L → (μ.1 0 10).toInt = (i : Int) → (μ.1 0 11).toInt = (s : Int) → sv.toInt = wv T s i → (∀ q, s ≤ q → q < i → 97 ≤ T q ∧ T q ≤ 122) → TM L T μ → frW c μ → (∀ (μ' : JM) (sv' : Int32), (μ'.1 0 10).toInt = (lrn L T d i : Nat) → sv'.toInt = wv T s (lrn L T d i) → frW c μ' → J G shM mX4_takeWord 110 [some (.ref 0), some (.int cv), some (.int sv')] [] μ' Q) → J G shM mX4_takeWord 7 [some (.ref 0), some (.int cv), some (.int sv)] [] μ Q := by
  intro d
  induction d with
  | zero =>
    intro i sv μ hsi hd hi hn h11 hx hdg hT2 hfr hk2
    have hL150 := hT2.2.1
    have hwv : i ≤ s + 5 → 0 ≤ wv T s i ∧ wv T s i ≤ 14348906 := fun h => by have hb := cdv_le (T := T) (s := s) (i - s) (by omega) (fun j hj => hdg (s + j) (by omega) (by omega)); unfold wv; rw [if_pos h]; exact hb
    refine J_aload_n (pc := 7) dX4_takeWord_7 rfl ?_
    refine J_getI (pc := 8) fF_X4_105 rfl rfl dX4_takeWord_8 ?_
    refine J_aload_n (pc := 11) dX4_takeWord_11 rfl ?_
    refine J_getI (pc := 12) fF_X4_102 rfl rfl dX4_takeWord_12 ?_
    refine J_icmp_geW (pc := 15) (i : Int) (L : Int) hn hT2.1 110 dX4_takeWord_15 (by decide) (fun h15 => ?_) (fun h15 => ?_)
    · have efr : lrn L T 0 i = i := by rfl
      rw [efr] at hk2
      exact hk2 μ sv hn hx hfr
    · exfalso; omega
  | succ d ih =>
    intro i sv μ hsi hd hi hn h11 hx hdg hT2 hfr hk2
    have hL150 := hT2.2.1
    have hwv : i ≤ s + 5 → 0 ≤ wv T s i ∧ wv T s i ≤ 14348906 := fun h => by have hb := cdv_le (T := T) (s := s) (i - s) (by omega) (fun j hj => hdg (s + j) (by omega) (by omega)); unfold wv; rw [if_pos h]; exact hb
    refine J_aload_n (pc := 7) dX4_takeWord_7 rfl ?_
    refine J_getI (pc := 8) fF_X4_105 rfl rfl dX4_takeWord_8 ?_
    refine J_aload_n (pc := 11) dX4_takeWord_11 rfl ?_
    refine J_getI (pc := 12) fF_X4_102 rfl rfl dX4_takeWord_12 ?_
    refine J_icmp_geW (pc := 15) (i : Int) (L : Int) hn hT2.1 110 dX4_takeWord_15 (by decide) (fun h15 => ?_) (fun h15 => ?_)
    · have efr : lrn L T (d + 1) i = i := by rw [lrn, if_neg (by first | omega | (intro h; exact absurd h.2 (by assumption)))]
      rw [efr] at hk2
      exact hk2 μ sv hn hx hfr
    · refine J_aload_n (pc := 18) dX4_takeWord_18 rfl ?_
      refine J_getR (pc := 19) 5 fF_X4_22 rfl rfl dX4_takeWord_19 ?_
      refine J_aload_n (pc := 22) dX4_takeWord_22 rfl ?_
      refine J_getI (pc := 23) fF_X4_105 rfl rfl dX4_takeWord_23 ?_
      refine J_ialdW (pc := 26) i (by have q := hn; omega) rfl (by omega) dX4_takeWord_26 ?_
      refine J_i2l (pc := 27) dX4_takeWord_27 rfl ?_
      refine J_ldc2 (pc := 28) fK_X4_128 dX4_takeWord_28 ?_
      refine J_ldc2 (pc := 31) fK_X4_130 dX4_takeWord_31 ?_
      refine J_callSc (pc := 34) fC_X4_58 dX4_takeWord_34 (c_X4_in (T i) 97 122 (i2l_z ((hT2.2.2 i (by omega)).1)) rfl rfl) rfl ⟨Nat.le_of_ble_eq_true rfl, Nat.le_of_ble_eq_true rfl⟩ rfl (Nat.le_of_ble_eq_true rfl) (fun h34 => ?_) (fun h34 => ?_)
      · refine J_if_eq_F (pc := 37) 110 dX4_takeWord_37 (by decide) (by decide) ?_
        refine J_aload_n (pc := 40) dX4_takeWord_40 rfl ?_
        refine J_getI (pc := 41) fF_X4_105 rfl rfl dX4_takeWord_41 ?_
        refine J_aload_n (pc := 44) dX4_takeWord_44 rfl ?_
        refine J_getI (pc := 45) fF_X4_108 rfl rfl dX4_takeWord_45 ?_
        refine J_isubW (pc := 48) (i : Int) (s : Int) hn h11 dX4_takeWord_48 (by omega) (fun z48 e48 => ?_)
        refine J_bipush (pc := 49) (v := 6) dX4_takeWord_49 (by decide) ?_
        refine J_icmp_geW (pc := 51) ((i : Int) - (s : Int)) 6 e48 rfl 76 dX4_takeWord_51 (by decide) (fun h51 => ?_) (fun h51 => ?_)
        · refine J_iconst (pc := 76) (v := (-1)) dX4_takeWord_76 (by decide) ?_
          refine J_istore_n (pc := 77) (lv' := [some (.ref 0), some (.int cv), some (.int (-1))]) dX4_takeWord_77 (Nat.le_of_ble_eq_true rfl) rfl rfl ?_
          refine J_aload_n (pc := 78) dX4_takeWord_78 rfl ?_
          refine J_getI (pc := 79) fF_X4_105 rfl rfl dX4_takeWord_79 ?_
          refine J_aload_n (pc := 82) dX4_takeWord_82 rfl ?_
          refine J_getI (pc := 83) fF_X4_108 rfl rfl dX4_takeWord_83 ?_
          refine J_isubW (pc := 86) (i : Int) (s : Int) hn h11 dX4_takeWord_86 (by omega) (fun z86 e86 => ?_)
          refine J_iconst (pc := 87) (v := 5) dX4_takeWord_87 (by decide) ?_
          refine J_icmp_geW (pc := 88) ((i : Int) - (s : Int)) 5 e86 rfl 95 dX4_takeWord_88 (by decide) (fun h88 => ?_) (fun h88 => ?_)
          · refine J_iconst (pc := 95) (v := (-1)) dX4_takeWord_95 (by decide) ?_
            refine J_istore_n (pc := 96) (lv' := [some (.ref 0), some (.int cv), some (.int (-1))]) dX4_takeWord_96 (Nat.le_of_ble_eq_true rfl) rfl rfl ?_
            refine J_aload_n (pc := 97) dX4_takeWord_97 rfl ?_
            refine J_dup (pc := 98) dX4_takeWord_98 rfl ?_
            refine J_getI (pc := 99) fF_X4_105 rfl rfl dX4_takeWord_99 ?_
            refine J_iconst (pc := 102) (v := 1) dX4_takeWord_102 (by decide) ?_
            refine J_iaddW (pc := 103) (i : Int) 1 hn rfl dX4_takeWord_103 (by omega) (fun z103 e103 => ?_)
            refine J_putIW (pc := 104) fF_X4_105 rfl rfl dX4_takeWord_104 (fun μ104 m104 => ?_)
            refine J_goto (pc := 107) 7 dX4_takeWord_107 (by decide) ?_
            have hlet : i < L ∧ (97 ≤ T i ∧ T i ≤ 122) := ⟨by omega, by assumption⟩
            have hdg2 : ∀ q, s ≤ q → q ≤ i → 97 ≤ T q ∧ T q ≤ 122 := fun q h1 h2 => by rcases (by omega : q < i ∨ q = i) with h3 | rfl; exact hdg q h1 h3; exact hlet.2
            rw [lrn, if_pos hlet] at hk2
            refine ih (i + 1) (-1) μ104 (by omega) (by omega) (by omega) (by rw [m104, jI_i, if_pos ⟨rfl, rfl⟩]; omega) (by rw [m104, jI_i, if_neg (by decide)]; exact h11) ?_ (fun q h1 h2 => hdg2 q h1 (by omega)) (TM_N hT2 (by rw [m104]; exact frN_0 (frN_rf μ) (by decide))) ⟨fun k h1 => by rw [m104, jI_i, if_neg (fun z => h1 z.2)]; exact hfr.1 k h1, fun o h1 => by rw [m104, jI_ne h1]; exact hfr.2.1 o h1, by rw [m104]; exact hfr.2.2⟩ hk2
            show (-1 : Int) = _; unfold wv; rw [if_neg (by omega)]
          · refine J_iload_n (pc := 91) dX4_takeWord_91 rfl ?_
            refine J_goto (pc := 92) 96 dX4_takeWord_92 (by decide) ?_
            refine J_istore_n (pc := 96) (lv' := [some (.ref 0), some (.int cv), some (.int (-1))]) dX4_takeWord_96 (Nat.le_of_ble_eq_true rfl) rfl rfl ?_
            refine J_aload_n (pc := 97) dX4_takeWord_97 rfl ?_
            refine J_dup (pc := 98) dX4_takeWord_98 rfl ?_
            refine J_getI (pc := 99) fF_X4_105 rfl rfl dX4_takeWord_99 ?_
            refine J_iconst (pc := 102) (v := 1) dX4_takeWord_102 (by decide) ?_
            refine J_iaddW (pc := 103) (i : Int) 1 hn rfl dX4_takeWord_103 (by omega) (fun z103 e103 => ?_)
            refine J_putIW (pc := 104) fF_X4_105 rfl rfl dX4_takeWord_104 (fun μ104 m104 => ?_)
            refine J_goto (pc := 107) 7 dX4_takeWord_107 (by decide) ?_
            have hlet : i < L ∧ (97 ≤ T i ∧ T i ≤ 122) := ⟨by omega, by assumption⟩
            have hdg2 : ∀ q, s ≤ q → q ≤ i → 97 ≤ T q ∧ T q ≤ 122 := fun q h1 h2 => by rcases (by omega : q < i ∨ q = i) with h3 | rfl; exact hdg q h1 h3; exact hlet.2
            rw [lrn, if_pos hlet] at hk2
            refine ih (i + 1) (-1) μ104 (by omega) (by omega) (by omega) (by rw [m104, jI_i, if_pos ⟨rfl, rfl⟩]; omega) (by rw [m104, jI_i, if_neg (by decide)]; exact h11) ?_ (fun q h1 h2 => hdg2 q h1 (by omega)) (TM_N hT2 (by rw [m104]; exact frN_0 (frN_rf μ) (by decide))) ⟨fun k h1 => by rw [m104, jI_i, if_neg (fun z => h1 z.2)]; exact hfr.1 k h1, fun o h1 => by rw [m104, jI_ne h1]; exact hfr.2.1 o h1, by rw [m104]; exact hfr.2.2⟩ hk2
            show (-1 : Int) = _; unfold wv; rw [if_neg (by omega)]
        · refine J_bipush (pc := 54) (v := 27) dX4_takeWord_54 (by decide) ?_
          refine J_iload_n (pc := 56) dX4_takeWord_56 rfl ?_
          refine J_imulW (pc := 57) 27 (wv T s i) rfl hx dX4_takeWord_57 (by have hb := cdv_le (T := T) (s := s) (i - s) (by omega) (fun j hj => hdg (s + j) (by omega) (by omega)); unfold wv; rw [if_pos (by omega)]; omega) (fun z57 e57 => ?_)
          refine J_aload_n (pc := 58) dX4_takeWord_58 rfl ?_
          refine J_getR (pc := 59) 5 fF_X4_22 rfl rfl dX4_takeWord_59 ?_
          refine J_aload_n (pc := 62) dX4_takeWord_62 rfl ?_
          refine J_getI (pc := 63) fF_X4_105 rfl rfl dX4_takeWord_63 ?_
          refine J_ialdW (pc := 66) i (by have q := hn; omega) rfl (by omega) dX4_takeWord_66 ?_
          refine J_iaddW (pc := 67) (27 * (wv T s i)) (T i) e57 ((hT2.2.2 i (by omega)).1) dX4_takeWord_67 (by have hb := cdv_le (T := T) (s := s) (i - s) (by omega) (fun j hj => hdg (s + j) (by omega) (by omega)); unfold wv; rw [if_pos (by omega)]; omega) (fun z67 e67 => ?_)
          refine J_bipush (pc := 68) (v := 97) dX4_takeWord_68 (by decide) ?_
          refine J_isubW (pc := 70) ((27 * (wv T s i)) + (T i)) 97 e67 rfl dX4_takeWord_70 (by have hb := cdv_le (T := T) (s := s) (i - s) (by omega) (fun j hj => hdg (s + j) (by omega) (by omega)); unfold wv; rw [if_pos (by omega)]; omega) (fun z70 e70 => ?_)
          refine J_iconst (pc := 71) (v := 1) dX4_takeWord_71 (by decide) ?_
          refine J_iaddW (pc := 72) (((27 * (wv T s i)) + (T i)) - 97) 1 e70 rfl dX4_takeWord_72 (by have hb := cdv_le (T := T) (s := s) (i - s) (by omega) (fun j hj => hdg (s + j) (by omega) (by omega)); unfold wv; rw [if_pos (by omega)]; omega) (fun z72 e72 => ?_)
          refine J_goto (pc := 73) 77 dX4_takeWord_73 (by decide) ?_
          refine J_istore_n (pc := 77) (lv' := [some (.ref 0), some (.int cv), some (.int z72)]) dX4_takeWord_77 (Nat.le_of_ble_eq_true rfl) rfl rfl ?_
          refine J_aload_n (pc := 78) dX4_takeWord_78 rfl ?_
          refine J_getI (pc := 79) fF_X4_105 rfl rfl dX4_takeWord_79 ?_
          refine J_aload_n (pc := 82) dX4_takeWord_82 rfl ?_
          refine J_getI (pc := 83) fF_X4_108 rfl rfl dX4_takeWord_83 ?_
          refine J_isubW (pc := 86) (i : Int) (s : Int) hn h11 dX4_takeWord_86 (by omega) (fun z86 e86 => ?_)
          refine J_iconst (pc := 87) (v := 5) dX4_takeWord_87 (by decide) ?_
          refine J_icmp_geW (pc := 88) ((i : Int) - (s : Int)) 5 e86 rfl 95 dX4_takeWord_88 (by decide) (fun h88 => ?_) (fun h88 => ?_)
          · refine J_iconst (pc := 95) (v := (-1)) dX4_takeWord_95 (by decide) ?_
            refine J_istore_n (pc := 96) (lv' := [some (.ref 0), some (.int cv), some (.int (-1))]) dX4_takeWord_96 (Nat.le_of_ble_eq_true rfl) rfl rfl ?_
            refine J_aload_n (pc := 97) dX4_takeWord_97 rfl ?_
            refine J_dup (pc := 98) dX4_takeWord_98 rfl ?_
            refine J_getI (pc := 99) fF_X4_105 rfl rfl dX4_takeWord_99 ?_
            refine J_iconst (pc := 102) (v := 1) dX4_takeWord_102 (by decide) ?_
            refine J_iaddW (pc := 103) (i : Int) 1 hn rfl dX4_takeWord_103 (by omega) (fun z103 e103 => ?_)
            refine J_putIW (pc := 104) fF_X4_105 rfl rfl dX4_takeWord_104 (fun μ104 m104 => ?_)
            refine J_goto (pc := 107) 7 dX4_takeWord_107 (by decide) ?_
            have hlet : i < L ∧ (97 ≤ T i ∧ T i ≤ 122) := ⟨by omega, by assumption⟩
            have hdg2 : ∀ q, s ≤ q → q ≤ i → 97 ≤ T q ∧ T q ≤ 122 := fun q h1 h2 => by rcases (by omega : q < i ∨ q = i) with h3 | rfl; exact hdg q h1 h3; exact hlet.2
            rw [lrn, if_pos hlet] at hk2
            refine ih (i + 1) (-1) μ104 (by omega) (by omega) (by omega) (by rw [m104, jI_i, if_pos ⟨rfl, rfl⟩]; omega) (by rw [m104, jI_i, if_neg (by decide)]; exact h11) ?_ (fun q h1 h2 => hdg2 q h1 (by omega)) (TM_N hT2 (by rw [m104]; exact frN_0 (frN_rf μ) (by decide))) ⟨fun k h1 => by rw [m104, jI_i, if_neg (fun z => h1 z.2)]; exact hfr.1 k h1, fun o h1 => by rw [m104, jI_ne h1]; exact hfr.2.1 o h1, by rw [m104]; exact hfr.2.2⟩ hk2
            show (-1 : Int) = _; unfold wv; rw [if_neg (by omega)]
          · refine J_iload_n (pc := 91) dX4_takeWord_91 rfl ?_
            refine J_goto (pc := 92) 96 dX4_takeWord_92 (by decide) ?_
            refine J_istore_n (pc := 96) (lv' := [some (.ref 0), some (.int cv), some (.int z72)]) dX4_takeWord_96 (Nat.le_of_ble_eq_true rfl) rfl rfl ?_
            refine J_aload_n (pc := 97) dX4_takeWord_97 rfl ?_
            refine J_dup (pc := 98) dX4_takeWord_98 rfl ?_
            refine J_getI (pc := 99) fF_X4_105 rfl rfl dX4_takeWord_99 ?_
            refine J_iconst (pc := 102) (v := 1) dX4_takeWord_102 (by decide) ?_
            refine J_iaddW (pc := 103) (i : Int) 1 hn rfl dX4_takeWord_103 (by omega) (fun z103 e103 => ?_)
            refine J_putIW (pc := 104) fF_X4_105 rfl rfl dX4_takeWord_104 (fun μ104 m104 => ?_)
            refine J_goto (pc := 107) 7 dX4_takeWord_107 (by decide) ?_
            have hlet : i < L ∧ (97 ≤ T i ∧ T i ≤ 122) := ⟨by omega, by assumption⟩
            have hdg2 : ∀ q, s ≤ q → q ≤ i → 97 ≤ T q ∧ T q ≤ 122 := fun q h1 h2 => by rcases (by omega : q < i ∨ q = i) with h3 | rfl; exact hdg q h1 h3; exact hlet.2
            rw [lrn, if_pos hlet] at hk2
            refine ih (i + 1) z72 μ104 (by omega) (by omega) (by omega) (by rw [m104, jI_i, if_pos ⟨rfl, rfl⟩]; omega) (by rw [m104, jI_i, if_neg (by decide)]; exact h11) ?_ (fun q h1 h2 => hdg2 q h1 (by omega)) (TM_N hT2 (by rw [m104]; exact frN_0 (frN_rf μ) (by decide))) ⟨fun k h1 => by rw [m104, jI_i, if_neg (fun z => h1 z.2)]; exact hfr.1 k h1, fun o h1 => by rw [m104, jI_ne h1]; exact hfr.2.1 o h1, by rw [m104]; exact hfr.2.2⟩ hk2
            unfold wv
            rw [if_pos (by omega), show i + 1 - s = (i - s) + 1 by omega]
            show _ = 27 * cdv T s (i - s) + (T (s + (i - s)) - 96)
            rw [show s + (i - s) = i by omega]
            have hwi : wv T s i = cdv T s (i - s) := if_pos (by omega)
            omega
      · refine J_if_eq_T (pc := 37) 110 dX4_takeWord_37 (by decide) (by decide) ?_
        have efr : lrn L T (d + 1) i = i := by rw [lrn, if_neg (by first | omega | (intro h; exact absurd h.2 (by assumption)))]
        rw [efr] at hk2
        exact hk2 μ sv hn hx hfr
set_option maxRecDepth 100000 in
set_option maxHeartbeats 4000000 in
theorem c_X4_takeWord {c : JM} {L : Nat} {T : Nat → Int} (hT : TM L T c) {s : Nat} (hn : (c.1 0 10).toInt = (s : Int)) (hsL : s ≤ L) (hsk : SK L T s = s) : Con G shM mX4_takeWord [.ref 0] c (fun v μ' => IsZ v (wZ L T s) ∧ (μ'.1 0 10).toInt = (LN L T s : Nat) ∧ (μ'.1 0 11).toInt = (s : Int) ∧ μ'.1 0 12 = c.1 0 12 ∧ frN c μ') := by
  refine Con_of [some (.ref 0), none, none] (by decide +kernel) (Nat.le_of_ble_eq_true rfl) (fun _ h => h) ?_
  refine J_aload_n (pc := 0) dX4_takeWord_0 rfl ?_
  refine J_callVq (pc := 1) fC_X4_117 rfl dX4_takeWord_1 (c_X4_here hT hn hsL) rfl ⟨Nat.le_of_ble_eq_true rfl, Nat.le_of_ble_eq_true rfl⟩ rfl (Nat.le_of_ble_eq_true rfl) (fun v1 μ1 q1 => ?_)
  obtain ⟨⟨z1, rfl, e1⟩, g10, g11, hH⟩ := q1
  rw [hsk] at e1 g10 g11
  have hlw := fun h : s < L => (hT.2.2 s h).2
  refine J_istore_n (pc := 4) (lv' := [some (.ref 0), some (.int z1), none]) dX4_takeWord_4 (Nat.le_of_ble_eq_true rfl) rfl rfl ?_
  refine J_iconst (pc := 5) (v := 0) dX4_takeWord_5 (by decide) ?_
  refine J_istore_n (pc := 6) (lv' := [some (.ref 0), some (.int z1), some (.int 0)]) dX4_takeWord_6 (Nat.le_of_ble_eq_true rfl) rfl rfl ?_
  refine J_lv' (lv' := [some (.ref 0), some (.int z1), some (.int 0)]) (by repeat' constructor) (l_tw (s := s) 151 s 0 μ1 (Nat.le_refl _) (by have := hT.2.1; omega) hsL g10 g11 (by unfold wv; rw [if_pos (by omega), show s - s = 0 by omega]; rfl) (fun q h1 h2 => absurd h2 (by omega)) (TM_N hT (frN_H hH)) ⟨fun _ _ => rfl, fun _ _ => rfl, rfl⟩ (fun μ' sv' k10 ks hW => ?_))
  rw [show lrn L T 151 s = LN L T s from rfl] at k10 ks
  refine J_iload_n (pc := 110) dX4_takeWord_110 rfl ?_
  refine J_if_geW (pc := 111) (byt L T s) e1 118 dX4_takeWord_111 (by decide) (fun h111 => ?_) (fun h111 => ?_)
  · refine J_iload_n (pc := 118) dX4_takeWord_118 rfl ?_
    refine J_iret (pc := 119) dX4_takeWord_119 rfl ?_
    refine ⟨⟨_, rfl, ?_⟩, k10, by rw [hW.1 11 (by decide)]; exact g11, by rw [hW.1 12 (by decide)]; exact hH.1 12 (by decide) (by decide), frN_tr (frN_H hH) (frN_W hW)⟩
    unfold wZ
    by_cases h : s < L
    · rw [if_pos h]; exact ks
    · exfalso; unfold byt at *; rw [if_neg h] at *; omega
  · refine J_iconst (pc := 114) (v := (-1)) dX4_takeWord_114 (by decide) ?_
    refine J_goto (pc := 115) 119 dX4_takeWord_115 (by decide) ?_
    refine J_iret (pc := 119) dX4_takeWord_119 rfl ?_
    refine ⟨⟨_, rfl, ?_⟩, k10, by rw [hW.1 11 (by decide)]; exact g11, by rw [hW.1 12 (by decide)]; exact hH.1 12 (by decide) (by decide), frN_tr (frN_H hH) (frN_W hW)⟩
    show (-1 : Int) = _
    unfold wZ byt at *
    by_cases h : s < L
    · rw [if_pos h] at *; omega
    · rw [if_neg h]

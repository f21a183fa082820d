/-! ===== shapes; the pure words of anger and pride; the class's small static methods ===== -/
abbrev jks (b : Nat) : List Nat := [0, 0, 0, 0, 0, 0, 0, 0, 2 * (b + 1) + 2, 2 * (b + 2) + 2, 2 * (b + 3) + 2, 2 * (b + 4) + 2]
abbrev shC : List JSh := [.inl (3, [4, 14, 24, 34, 44, 48, 1, 1, 0, 0, 0]),
  .inl (0, jks 1), .inr (0, 8), .inr (0, 24), .inr (0, 8), .inr (0, 8), .inl (0, jks 6), .inr (0, 8), .inr (0, 24), .inr (0, 8), .inr (0, 8),
  .inl (0, jks 11), .inr (0, 8), .inr (0, 24), .inr (0, 8), .inr (0, 8), .inl (0, jks 16), .inr (0, 8), .inr (0, 24), .inr (0, 8), .inr (0, 8),
  .inl (1, [46, 0, 0, 0, 0, 0]), .inr (0, 150), .inl (2, [50, 52, 5, 0, 0, 0, 0, 0, 0]), .inr (0, 12), .inr (0, 10000)]
abbrev shM : List JSh := [.inl (4, [4, 6, 8, 10, 0, 0, 0, 0, 12, 0, 0, 0, 0, 0, 14, 16, 0, 18, 20, 22, 1, 1, 24, 26]),
  .inr (0, 73), .inr (0, 6), .inr (0, 6), .inr (0, 3), .inr (0, 150), .inr (0, 73), .inr (0, 9), .inr (0, 20000), .inr (1, 260000), .inr (0, 12), .inr (0, 146), .inr (1, 2)]
/-- the object b is a jar, its four rows behind it -/
def jarAt (b : Nat) : Prop := shC[b]? = some (.inl (0, jks b)) ∧ shC[b + 1]? = some (.inr (0, 8)) ∧ shC[b + 2]? = some (.inr (0, 24)) ∧ shC[b + 3]? = some (.inr (0, 8)) ∧ shC[b + 4]? = some (.inr (0, 8)) ∧ 1 ≤ b
theorem jarAt_1 : jarAt 1 := ⟨rfl, rfl, rfl, rfl, rfl, by decide⟩
theorem jarAt_6 : jarAt 6 := ⟨rfl, rfl, rfl, rfl, rfl, by decide⟩
theorem jarAt_11 : jarAt 11 := ⟨rfl, rfl, rfl, rfl, rfl, by decide⟩
theorem jarAt_16 : jarAt 16 := ⟨rfl, rfl, rfl, rfl, rfl, by decide⟩
def pA (w : Int) : Int := if w = 0 then -1 else if w = 1 then 1 else if w = 2 then 0 else if w = 3 then -2 else if w = 4 then -3 else 2
def pP (w : Int) : Int := if w = 1 then 3 else if w = 2 then 2 else if w = 4 then -1 else 0
/-- half, cut towards 0, of a small number -/
def hf (x : Int) : Int := if 0 ≤ x then x / 2 else -((-x) / 2)
def aZ (k w n : Int) : Int := if k = 1 then hf (pA w) else if k = 2 then pA w - 1 else if k = 4 then (if n % 2 = 0 then hf (pA w) else 0) else if k = 5 then 2 * (pA w - 1) else pA w
def pZ (k w n : Int) : Int := if k = 3 then -pP w else if k = 4 then (if n % 2 = 0 then pP w else 0) else if k = 5 then pP w + 1 else pP w
def kZ (x : Int) : Int := if x < 0 then 0 else if 99 < x then 99 else x
theorem w6 {w : Int} (h : 0 ≤ w ∧ w ≤ 5) : w = 0 ∨ w = 1 ∨ w = 2 ∨ w = 3 ∨ w = 4 ∨ w = 5 := by omega
theorem pA_rng (w : Int) : -3 ≤ pA w ∧ pA w ≤ 2 := by unfold pA; omega
theorem pP_rng (w : Int) : -1 ≤ pP w ∧ pP w ≤ 3 := by unfold pP; omega
theorem hf_rng {x : Int} (h : -3 ≤ x ∧ x ≤ 2) : -1 ≤ hf x ∧ hf x ≤ 1 := by unfold hf; omega
theorem aZ_rng (k w n : Int) : -8 ≤ aZ k w n ∧ aZ k w n ≤ 2 := by
  have h1 := pA_rng w
  have h2 := hf_rng h1
  unfold aZ
  omega
theorem pZ_rng (k w n : Int) : -3 ≤ pZ k w n ∧ pZ k w n ≤ 4 := by
  have h1 := pP_rng w
  unfold pZ
  omega
theorem kZ_rng (x : Int) : 0 ≤ kZ x ∧ kZ x ≤ 99 := by unfold kZ; omega
theorem tA_z {w : Int} (h : 0 ≤ w ∧ w ≤ 5) : (j_tA w.toNat).toInt = pA w := by
  rcases w6 h with rfl | rfl | rfl | rfl | rfl | rfl <;> rfl
theorem tP_z {w : Int} (h : 0 ≤ w ∧ w ≤ 5) : (j_tP w.toNat).toInt = pP w := by
  rcases w6 h with rfl | rfl | rfl | rfl | rfl | rfl <;> rfl
theorem z_hf {x : Int32} (h : -3 ≤ x.toInt ∧ x.toInt ≤ 2) : (x / 2).toInt = hf x.toInt := by
  have h2 : x.toInt = -3 ∨ x.toInt = -2 ∨ x.toInt = -1 ∨ x.toInt = 0 ∨ x.toInt = 1 ∨ x.toInt = 2 := by omega
  rcases h2 with e | e | e | e | e | e
  · rw [show x = -3 from z_eq e]; rfl
  · rw [show x = -2 from z_eq e]; rfl
  · rw [show x = -1 from z_eq e]; rfl
  · rw [show x = 0 from z_eq e]; rfl
  · rw [show x = 1 from z_eq e]; rfl
  · rw [show x = 2 from z_eq e]; rfl
variable {G : JG} {sh : List JSh} {μ : JM}

set_option maxRecDepth 100000 in
set_option maxHeartbeats 4000000 in
theorem c_X3_within {x a b : Int32} (x' a' b' : Int) (hx : x.toInt = x') (ha : a.toInt = a') (hb : b.toInt = b') : Con G sh mX3_within [.int x, .int a, .int b] μ (j_b (a' ≤ x' ∧ x' ≤ b') μ μ) := by
  refine Con_of [some (.int x), some (.int a), some (.int b)] (by decide +kernel) (Nat.le_of_ble_eq_true rfl) (fun _ h => h) ?_
  refine J_iload_n (pc := 0) dX3_within_0 rfl ?_
  refine J_iload_n (pc := 1) dX3_within_1 rfl ?_
  refine J_icmp_ltW (pc := 2) x' a' hx ha 14 dX3_within_2 (by decide) (fun h2 => ?_) (fun h2 => ?_)
  · refine J_iconst (pc := 14) (v := 0) dX3_within_14 (by decide) ?_
    refine J_zret (pc := 15) dX3_within_15 rfl (by decide) ?_
    exact Or.inr ⟨by omega, rfl, rfl⟩
  · refine J_iload_n (pc := 5) dX3_within_5 rfl ?_
    refine J_iload_n (pc := 6) dX3_within_6 rfl ?_
    refine J_icmp_gtW (pc := 7) x' b' hx hb 14 dX3_within_7 (by decide) (fun h7 => ?_) (fun h7 => ?_)
    · refine J_iconst (pc := 14) (v := 0) dX3_within_14 (by decide) ?_
      refine J_zret (pc := 15) dX3_within_15 rfl (by decide) ?_
      exact Or.inr ⟨by omega, rfl, rfl⟩
    · refine J_iconst (pc := 10) (v := 1) dX3_within_10 (by decide) ?_
      refine J_goto (pc := 11) 15 dX3_within_11 (by decide) ?_
      refine J_zret (pc := 15) dX3_within_15 rfl (by decide) ?_
      exact Or.inl ⟨⟨by omega, by omega⟩, rfl, rfl⟩
set_option maxRecDepth 100000 in
set_option maxHeartbeats 4000000 in
theorem c_X3_isWord {x : Int32} (x' : Int) (hx : x.toInt = x') : Con G sh mX3_isWord [.int x] μ (j_b (0 ≤ x' ∧ x' ≤ 5) μ μ) := by
  refine Con_of [some (.int x)] (by decide +kernel) (Nat.le_of_ble_eq_true rfl) (fun _ h => h) ?_
  refine J_iload_n (pc := 0) dX3_isWord_0 rfl ?_
  refine J_iconst (pc := 1) (v := 0) dX3_isWord_1 (by decide) ?_
  refine J_iconst (pc := 2) (v := 5) dX3_isWord_2 (by decide) ?_
  refine J_callSc (pc := 3) fC_X3_60 dX3_isWord_3 (c_X3_within x' 0 5 hx rfl rfl) rfl ⟨Nat.le_of_ble_eq_true rfl, Nat.le_of_ble_eq_true rfl⟩ rfl (Nat.le_of_ble_eq_true rfl) (fun h3 => ?_) (fun h3 => ?_)
  · refine J_zret (pc := 6) dX3_isWord_6 rfl (by decide) ?_
    exact Or.inl ⟨h3, rfl, rfl⟩
  · refine J_zret (pc := 6) dX3_isWord_6 rfl (by decide) ?_
    exact Or.inr ⟨h3, rfl, rfl⟩
set_option maxRecDepth 100000 in
set_option maxHeartbeats 4000000 in
theorem c_X4_in {x a b : Int64} (x' a' b' : Int) (hx : x.toInt = x') (ha : a.toInt = a') (hb : b.toInt = b') : Con G sh mX4_in [.long x, .long a, .long b] μ (j_b (a' ≤ x' ∧ x' ≤ b') μ μ) := by
  have g1 := lgc x a
  have g2 := lgc x b
  refine Con_of [some (.long x), none, some (.long a), none, some (.long b), none] (by decide +kernel) (Nat.le_of_ble_eq_true rfl) (fun _ h => h) ?_
  refine J_lload_n (pc := 0) dX4_in_0 rfl ?_
  refine J_lload_n (pc := 1) dX4_in_1 rfl ?_
  refine J_lcmp (pc := 2) dX4_in_2 ?_
  refine J_if_ltW (pc := 3) ((lg_cmp x a).toInt) rfl 17 dX4_in_3 (by decide) (fun h3 => ?_) (fun h3 => ?_)
  · refine J_iconst (pc := 17) (v := 0) dX4_in_17 (by decide) ?_
    refine J_zret (pc := 18) dX4_in_18 rfl (by decide) ?_
    exact Or.inr ⟨by omega, rfl, rfl⟩
  · refine J_lload_n (pc := 6) dX4_in_6 rfl ?_
    refine J_lload (pc := 7) dX4_in_7 rfl ?_
    refine J_lcmp (pc := 9) dX4_in_9 ?_
    refine J_if_gtW (pc := 10) ((lg_cmp x b).toInt) rfl 17 dX4_in_10 (by decide) (fun h10 => ?_) (fun h10 => ?_)
    · refine J_iconst (pc := 17) (v := 0) dX4_in_17 (by decide) ?_
      refine J_zret (pc := 18) dX4_in_18 rfl (by decide) ?_
      exact Or.inr ⟨by omega, rfl, rfl⟩
    · refine J_iconst (pc := 13) (v := 1) dX4_in_13 (by decide) ?_
      refine J_goto (pc := 14) 18 dX4_in_14 (by decide) ?_
      refine J_zret (pc := 18) dX4_in_18 rfl (by decide) ?_
      exact Or.inl ⟨⟨by omega, by omega⟩, rfl, rfl⟩
set_option maxRecDepth 100000 in
set_option maxHeartbeats 4000000 in
theorem c_X3_at {o n : Nat} {i : Int32} (ho : sh[o]? = some (.inr (0, n))) (j : Nat) (hj : i.toInt = (j : Int)) (hlt : j < n) (hn : n < 2 ^ 31) : Con G sh mX3_at [.ref o, .int i] μ (j_is (some (.int (μ.1 o j))) μ) := by
  refine Con_of [some (.ref o), some (.int i)] (by decide +kernel) (Nat.le_of_ble_eq_true rfl) (fun _ h => h) ?_
  refine J_iload_n (pc := 0) dX3_at_0 rfl ?_
  refine J_if_ltW (pc := 1) (j : Int) hj 16 dX3_at_1 (by decide) (fun h1 => ?_) (fun h1 => ?_)
  · exfalso; omega
  · refine J_iload_n (pc := 4) dX3_at_4 rfl ?_
    refine J_aload_n (pc := 5) dX3_at_5 rfl ?_
    refine J_alen (pc := 6) ho dX3_at_6 ?_
    refine J_icmp_geW (pc := 7) (j : Int) (n : Int) hj (nI_toInt hn) 16 dX3_at_7 (by decide) (fun h7 => ?_) (fun h7 => ?_)
    · exfalso; omega
    · refine J_aload_n (pc := 10) dX3_at_10 rfl ?_
      refine J_iload_n (pc := 11) dX3_at_11 rfl ?_
      refine J_ialdW (pc := 12) j (hj) ho (hlt) dX3_at_12 ?_
      refine J_goto (pc := 13) 17 dX3_at_13 (by decide) ?_
      refine J_iret (pc := 17) dX3_at_17 rfl ?_
      exact ⟨rfl, rfl⟩
set_option maxRecDepth 100000 in
set_option maxHeartbeats 4000000 in
theorem c_X3_atA {i : Int32} (j : Nat) (hj : i.toInt = (j : Int)) (hlt : j < 6) : Con G sh mX3_at [.ref 1000, .int i] μ (j_is (some (.int (j_tA j))) μ) := by
  refine Con_of [some (.ref 1000), some (.int i)] (by decide +kernel) (Nat.le_of_ble_eq_true rfl) (fun _ h => h) ?_
  refine J_iload_n (pc := 0) dX3_at_0 rfl ?_
  refine J_if_ltW (pc := 1) (j : Int) hj 16 dX3_at_1 (by decide) (fun h1 => ?_) (fun h1 => ?_)
  · exfalso; omega
  · refine J_iload_n (pc := 4) dX3_at_4 rfl ?_
    refine J_aload_n (pc := 5) dX3_at_5 rfl ?_
    refine J_tlen (pc := 6) (j := 0) rfl dX3_at_6 ?_
    refine J_icmp_geW (pc := 7) (j : Int) 6 hj rfl 16 dX3_at_7 (by decide) (fun h7 => ?_) (fun h7 => ?_)
    · exfalso; omega
    · refine J_aload_n (pc := 10) dX3_at_10 rfl ?_
      refine J_iload_n (pc := 11) dX3_at_11 rfl ?_
      refine J_tiW (pc := 12) (t := 0) j (hj) rfl (hlt) dX3_at_12 ?_
      refine J_goto (pc := 13) 17 dX3_at_13 (by decide) ?_
      refine J_iret (pc := 17) dX3_at_17 rfl ?_
      exact ⟨rfl, rfl⟩
set_option maxRecDepth 100000 in
set_option maxHeartbeats 4000000 in
theorem c_X3_atP {i : Int32} (j : Nat) (hj : i.toInt = (j : Int)) (hlt : j < 6) : Con G sh mX3_at [.ref 1001, .int i] μ (j_is (some (.int (j_tP j))) μ) := by
  refine Con_of [some (.ref 1001), some (.int i)] (by decide +kernel) (Nat.le_of_ble_eq_true rfl) (fun _ h => h) ?_
  refine J_iload_n (pc := 0) dX3_at_0 rfl ?_
  refine J_if_ltW (pc := 1) (j : Int) hj 16 dX3_at_1 (by decide) (fun h1 => ?_) (fun h1 => ?_)
  · exfalso; omega
  · refine J_iload_n (pc := 4) dX3_at_4 rfl ?_
    refine J_aload_n (pc := 5) dX3_at_5 rfl ?_
    refine J_tlen (pc := 6) (j := 1) rfl dX3_at_6 ?_
    refine J_icmp_geW (pc := 7) (j : Int) 6 hj rfl 16 dX3_at_7 (by decide) (fun h7 => ?_) (fun h7 => ?_)
    · exfalso; omega
    · refine J_aload_n (pc := 10) dX3_at_10 rfl ?_
      refine J_iload_n (pc := 11) dX3_at_11 rfl ?_
      refine J_tiW (pc := 12) (t := 1) j (hj) rfl (hlt) dX3_at_12 ?_
      refine J_goto (pc := 13) 17 dX3_at_13 (by decide) ?_
      refine J_iret (pc := 17) dX3_at_17 rfl ?_
      exact ⟨rfl, rfl⟩
set_option maxRecDepth 100000 in
set_option maxHeartbeats 4000000 in
theorem c_X3_put {o n : Nat} {i x : Int32} (ho : sh[o]? = some (.inr (0, n))) (j : Nat) (hj : i.toInt = (j : Int)) (hlt : j < n) (hn : n < 2 ^ 31) : Con G sh mX3_put [.ref o, .int i, .int x] μ (j_is none (jI μ o j x)) := by
  refine Con_of [some (.ref o), some (.int i), some (.int x)] (by decide +kernel) (Nat.le_of_ble_eq_true rfl) (fun _ h => h) ?_
  refine J_iload_n (pc := 0) dX3_put_0 rfl ?_
  refine J_if_ltW (pc := 1) (j : Int) hj 14 dX3_put_1 (by decide) (fun h1 => ?_) (fun h1 => ?_)
  · exfalso; omega
  · refine J_iload_n (pc := 4) dX3_put_4 rfl ?_
    refine J_aload_n (pc := 5) dX3_put_5 rfl ?_
    refine J_alen (pc := 6) ho dX3_put_6 ?_
    refine J_icmp_geW (pc := 7) (j : Int) (n : Int) hj (nI_toInt hn) 14 dX3_put_7 (by decide) (fun h7 => ?_) (fun h7 => ?_)
    · exfalso; omega
    · refine J_aload_n (pc := 10) dX3_put_10 rfl ?_
      refine J_iload_n (pc := 11) dX3_put_11 rfl ?_
      refine J_iload_n (pc := 12) dX3_put_12 rfl ?_
      refine J_iastW (pc := 13) j (hj) ho (hlt) dX3_put_13 (fun μ13 m13 => ?_)
      refine J_vret (pc := 14) dX3_put_14 rfl ?_
      exact ⟨rfl, m13⟩
set_option maxRecDepth 100000 in
set_option maxHeartbeats 4000000 in
theorem c_X3_mind {x a b : Int32} (x' a' b' : Int) (hx : x.toInt = x') (ha : a.toInt = a') (hb : b.toInt = b') (h : 0 ≤ x' ∧ x' ≤ 99 ∧ 0 ≤ a' ∧ a' ≤ 99 ∧ 0 ≤ b' ∧ b' ≤ 2) : Con G sh mX3_mind [.int x, .int a, .int b] μ (j_z (b' * 10000 + x' * 100 + a') μ) := by
  refine Con_of [some (.int x), some (.int a), some (.int b)] (by decide +kernel) (Nat.le_of_ble_eq_true rfl) (fun _ h => h) ?_
  refine J_iload_n (pc := 0) dX3_mind_0 rfl ?_
  refine J_sipush (pc := 1) (v := 10000) dX3_mind_1 (by decide) ?_
  refine J_imulW (pc := 4) b' 10000 hb rfl dX3_mind_4 (by omega) (fun z4 e4 => ?_)
  refine J_iload_n (pc := 5) dX3_mind_5 rfl ?_
  refine J_bipush (pc := 6) (v := 100) dX3_mind_6 (by decide) ?_
  refine J_imulW (pc := 8) x' 100 hx rfl dX3_mind_8 (by omega) (fun z8 e8 => ?_)
  refine J_iaddW (pc := 9) (b' * 10000) (x' * 100) e4 e8 dX3_mind_9 (by omega) (fun z9 e9 => ?_)
  refine J_iload_n (pc := 10) dX3_mind_10 rfl ?_
  refine J_iaddW (pc := 11) ((b' * 10000) + (x' * 100)) a' e9 ha dX3_mind_11 (by omega) (fun z11 e11 => ?_)
  refine J_iret (pc := 12) dX3_mind_12 rfl ?_
  exact ⟨⟨_, rfl, e11⟩, rfl⟩
set_option maxRecDepth 100000 in
set_option maxHeartbeats 4000000 in
theorem c_X3_angerOf {x : Int32} (x' : Int) (hx : x.toInt = x') (h : 0 ≤ x') : Con G sh mX3_angerOf [.int x] μ (j_z (x' % 10000 / 100) μ) := by
  refine Con_of [some (.int x)] (by decide +kernel) (Nat.le_of_ble_eq_true rfl) (fun _ h => h) ?_
  refine J_iload_n (pc := 0) dX3_angerOf_0 rfl ?_
  refine J_sipush (pc := 1) (v := 10000) dX3_angerOf_1 (by decide) ?_
  refine J_iremW (pc := 4) x' 10000 hx rfl dX3_angerOf_4 (by omega) (fun z4 e4 => ?_)
  refine J_bipush (pc := 5) (v := 100) dX3_angerOf_5 (by decide) ?_
  refine J_idivW (pc := 7) (x' % 10000) 100 e4 rfl dX3_angerOf_7 (by omega) (fun z7 e7 => ?_)
  refine J_iret (pc := 8) dX3_angerOf_8 rfl ?_
  exact ⟨⟨_, rfl, e7⟩, rfl⟩
set_option maxRecDepth 100000 in
set_option maxHeartbeats 4000000 in
theorem c_X3_prideOf {x : Int32} (x' : Int) (hx : x.toInt = x') (h : 0 ≤ x') : Con G sh mX3_prideOf [.int x] μ (j_z (x' % 100) μ) := by
  refine Con_of [some (.int x)] (by decide +kernel) (Nat.le_of_ble_eq_true rfl) (fun _ h => h) ?_
  refine J_iload_n (pc := 0) dX3_prideOf_0 rfl ?_
  refine J_bipush (pc := 1) (v := 100) dX3_prideOf_1 (by decide) ?_
  refine J_iremW (pc := 3) x' 100 hx rfl dX3_prideOf_3 (by omega) (fun z3 e3 => ?_)
  refine J_iret (pc := 4) dX3_prideOf_4 rfl ?_
  exact ⟨⟨_, rfl, e3⟩, rfl⟩
set_option maxRecDepth 100000 in
set_option maxHeartbeats 4000000 in
theorem c_X3_beingOf {x : Int32} (x' : Int) (hx : x.toInt = x') (h : 0 ≤ x') : Con G sh mX3_beingOf [.int x] μ (j_z (x' / 10000) μ) := by
  refine Con_of [some (.int x)] (by decide +kernel) (Nat.le_of_ble_eq_true rfl) (fun _ h => h) ?_
  refine J_iload_n (pc := 0) dX3_beingOf_0 rfl ?_
  refine J_sipush (pc := 1) (v := 10000) dX3_beingOf_1 (by decide) ?_
  refine J_idivW (pc := 4) x' 10000 hx rfl dX3_beingOf_4 (by omega) (fun z4 e4 => ?_)
  refine J_iret (pc := 5) dX3_beingOf_5 rfl ?_
  exact ⟨⟨_, rfl, e4⟩, rfl⟩
set_option maxRecDepth 100000 in
set_option maxHeartbeats 4000000 in
theorem c_X3_kept {x : Int32} (x' : Int) (hx : x.toInt = x') : Con G sh mX3_kept [.int x] μ (j_z (kZ x') μ) := by
  refine Con_of [some (.int x)] (by decide +kernel) (Nat.le_of_ble_eq_true rfl) (fun _ h => h) ?_
  refine J_iconst (pc := 0) (v := 0) dX3_kept_0 (by decide) ?_
  refine J_bipush (pc := 1) (v := 99) dX3_kept_1 (by decide) ?_
  refine J_iload_n (pc := 3) dX3_kept_3 rfl ?_
  refine J_minW (pc := 4) 99 x' rfl hx ⟨big_t 366 (by decide +kernel) (by decide +kernel), big_t 367 (by decide +kernel) (by decide +kernel), big_t 11 (by decide +kernel) (by decide +kernel), big_t 368 (by decide +kernel) (by decide +kernel)⟩ (Nat.le_of_ble_eq_true rfl) (Nat.le_of_ble_eq_true rfl) dX3_kept_4 (fun z4 e4 => ?_)
  refine J_maxW (pc := 7) 0 (if x' < 99 then x' else 99) rfl e4 ⟨big_t 369 (by decide +kernel) (by decide +kernel), big_t 370 (by decide +kernel) (by decide +kernel), big_t 11 (by decide +kernel) (by decide +kernel), big_t 371 (by decide +kernel) (by decide +kernel)⟩ (Nat.le_of_ble_eq_true rfl) (Nat.le_of_ble_eq_true rfl) dX3_kept_7 (fun z7 e7 => ?_)
  refine J_iret (pc := 10) dX3_kept_10 rfl ?_
  exact ⟨⟨_, rfl, by unfold kZ; omega⟩, rfl⟩
set_option maxRecDepth 100000 in
set_option maxHeartbeats 4000000 in
theorem c_X4_kept {x : Int32} (x' : Int) (hx : x.toInt = x') : Con G sh mX4_kept [.int x] μ (j_z (kZ x') μ) := by
  refine Con_of [some (.int x)] (by decide +kernel) (Nat.le_of_ble_eq_true rfl) (fun _ h => h) ?_
  refine J_iload_n (pc := 0) dX4_kept_0 rfl ?_
  refine J_if_geW (pc := 1) x' hx 8 dX4_kept_1 (by decide) (fun h1 => ?_) (fun h1 => ?_)
  · refine J_iload_n (pc := 8) dX4_kept_8 rfl ?_
    refine J_bipush (pc := 9) (v := 99) dX4_kept_9 (by decide) ?_
    refine J_icmp_leW (pc := 11) x' 99 hx rfl 19 dX4_kept_11 (by decide) (fun h11 => ?_) (fun h11 => ?_)
    · refine J_iload_n (pc := 19) dX4_kept_19 rfl ?_
      refine J_iret (pc := 20) dX4_kept_20 rfl ?_
      exact ⟨⟨_, rfl, by unfold kZ; first | omega | (rw [if_neg (by omega), if_pos (by omega)]; rfl) | (rw [if_pos (by omega)]; rfl)⟩, rfl⟩
    · refine J_bipush (pc := 14) (v := 99) dX4_kept_14 (by decide) ?_
      refine J_goto (pc := 16) 20 dX4_kept_16 (by decide) ?_
      refine J_iret (pc := 20) dX4_kept_20 rfl ?_
      exact ⟨⟨_, rfl, by unfold kZ; first | omega | (rw [if_neg (by omega), if_pos (by omega)]; rfl) | (rw [if_pos (by omega)]; rfl)⟩, rfl⟩
  · refine J_iconst (pc := 4) (v := 0) dX4_kept_4 (by decide) ?_
    refine J_goto (pc := 5) 20 dX4_kept_5 (by decide) ?_
    refine J_iret (pc := 20) dX4_kept_20 rfl ?_
    exact ⟨⟨_, rfl, by unfold kZ; first | omega | (rw [if_neg (by omega), if_pos (by omega)]; rfl) | (rw [if_pos (by omega)]; rfl)⟩, rfl⟩
set_option maxRecDepth 100000 in
set_option maxHeartbeats 4000000 in
theorem c_X3_angerMove {k w n : Int32} (k' w' n' : Int) (hk : k.toInt = k') (hw : w.toInt = w') (hn : n.toInt = n') (h : 0 ≤ w' ∧ w' ≤ 5 ∧ 0 ≤ n') : Con G sh mX3_angerMove [.int k, .int w, .int n] μ (j_z (aZ k' w' n') μ) := by
  have hA := tA_z (w := w') ⟨h.1, h.2.1⟩
  have hr := pA_rng w'
  refine Con_of [some (.int k), some (.int w), some (.int n), none] (by decide +kernel) (Nat.le_of_ble_eq_true rfl) (fun _ h => h) ?_
  refine J_gets (pc := 0) (j := 0) rfl (big_t 361 (by decide +kernel) (by decide +kernel)) dX3_angerMove_0 ?_
  refine J_iload_n (pc := 3) dX3_angerMove_3 rfl ?_
  refine J_callSe (pc := 4) fC_X3_91 dX3_angerMove_4 (c_X3_atA w'.toNat (by have q := hw; omega) (by omega)) rfl ⟨Nat.le_of_ble_eq_true rfl, Nat.le_of_ble_eq_true rfl⟩ rfl (Nat.le_of_ble_eq_true rfl) ?_
  refine J_istore_n (pc := 7) (lv' := [some (.int k), some (.int w), some (.int n), some (.int (j_tA w'.toNat))]) dX3_angerMove_7 (Nat.le_of_ble_eq_true rfl) rfl rfl ?_
  refine J_iload_n (pc := 8) dX3_angerMove_8 rfl ?_
  rcases (by omega : k' = 1 ∨ k' = 2 ∨ k' = 3 ∨ k' = 4 ∨ k' = 5 ∨ (k' < 1 ∨ 5 < k')) with h9 | h9 | h9 | h9 | h9 | h9
  · refine J_tsIn (pc := 9) 44 dX3_angerMove_9 (z := 1) (by first | omega | (rw [hk]; omega)) (by decide) (by decide) rfl (by decide) ?_
    refine J_iload_n (pc := 44) dX3_angerMove_44 rfl ?_
    refine J_iconst (pc := 45) (v := 2) dX3_angerMove_45 (by decide) ?_
    refine J_idiv (pc := 46) dX3_angerMove_46 (by decide) ?_
    refine J_iret (pc := 47) dX3_angerMove_47 rfl ?_
    exact ⟨⟨_, rfl, by rw [z_hf (by rw [hA]; exact hr), hA]; unfold aZ; omega⟩, rfl⟩
  · refine J_tsIn (pc := 9) 48 dX3_angerMove_9 (z := 2) (by first | omega | (rw [hk]; omega)) (by decide) (by decide) rfl (by decide) ?_
    refine J_iload_n (pc := 48) dX3_angerMove_48 rfl ?_
    refine J_iconst (pc := 49) (v := 1) dX3_angerMove_49 (by decide) ?_
    refine J_isubW (pc := 50) (pA w') 1 (tA_z ⟨by omega, by omega⟩) rfl dX3_angerMove_50 (by omega) (fun z50 e50 => ?_)
    refine J_iret (pc := 51) dX3_angerMove_51 rfl ?_
    exact ⟨⟨_, rfl, by unfold aZ; omega⟩, rfl⟩
  · refine J_tsIn (pc := 9) 72 dX3_angerMove_9 (z := 3) (by first | omega | (rw [hk]; omega)) (by decide) (by decide) rfl (by decide) ?_
    refine J_iload_n (pc := 72) dX3_angerMove_72 rfl ?_
    refine J_iret (pc := 73) dX3_angerMove_73 rfl ?_
    exact ⟨⟨_, rfl, by unfold aZ; omega⟩, rfl⟩
  · refine J_tsIn (pc := 9) 52 dX3_angerMove_9 (z := 4) (by first | omega | (rw [hk]; omega)) (by decide) (by decide) rfl (by decide) ?_
    refine J_iload_n (pc := 52) dX3_angerMove_52 rfl ?_
    refine J_iconst (pc := 53) (v := 2) dX3_angerMove_53 (by decide) ?_
    refine J_iremW (pc := 54) n' 2 hn rfl dX3_angerMove_54 (by omega) (fun z54 e54 => ?_)
    refine J_if_eqW (pc := 55) (n' % 2) e54 62 dX3_angerMove_55 (by decide) (fun h55 => ?_) (fun h55 => ?_)
    · refine J_iload_n (pc := 62) dX3_angerMove_62 rfl ?_
      refine J_iconst (pc := 63) (v := 2) dX3_angerMove_63 (by decide) ?_
      refine J_idiv (pc := 64) dX3_angerMove_64 (by decide) ?_
      refine J_iret (pc := 65) dX3_angerMove_65 rfl ?_
      exact ⟨⟨_, rfl, by rw [z_hf (by rw [hA]; exact hr), hA]; unfold aZ; omega⟩, rfl⟩
    · refine J_iconst (pc := 58) (v := 0) dX3_angerMove_58 (by decide) ?_
      refine J_goto (pc := 59) 65 dX3_angerMove_59 (by decide) ?_
      refine J_iret (pc := 65) dX3_angerMove_65 rfl ?_
      exact ⟨⟨_, rfl, by unfold aZ; simp only [z0]; omega⟩, rfl⟩
  · refine J_tsIn (pc := 9) 66 dX3_angerMove_9 (z := 5) (by first | omega | (rw [hk]; omega)) (by decide) (by decide) rfl (by decide) ?_
    refine J_iconst (pc := 66) (v := 2) dX3_angerMove_66 (by decide) ?_
    refine J_iload_n (pc := 67) dX3_angerMove_67 rfl ?_
    refine J_iconst (pc := 68) (v := 1) dX3_angerMove_68 (by decide) ?_
    refine J_isubW (pc := 69) (pA w') 1 (tA_z ⟨by omega, by omega⟩) rfl dX3_angerMove_69 (by omega) (fun z69 e69 => ?_)
    refine J_imulW (pc := 70) 2 ((pA w') - 1) rfl e69 dX3_angerMove_70 (by omega) (fun z70 e70 => ?_)
    refine J_iret (pc := 71) dX3_angerMove_71 rfl ?_
    exact ⟨⟨_, rfl, by unfold aZ; omega⟩, rfl⟩
  · refine J_tsOut (pc := 9) 72 dX3_angerMove_9 (by first | omega | (rw [hk]; omega)) (by decide) ?_
    refine J_iload_n (pc := 72) dX3_angerMove_72 rfl ?_
    refine J_iret (pc := 73) dX3_angerMove_73 rfl ?_
    exact ⟨⟨_, rfl, by unfold aZ; omega⟩, rfl⟩
set_option maxRecDepth 100000 in
set_option maxHeartbeats 4000000 in
theorem c_X3_prideMove {k w n : Int32} (k' w' n' : Int) (hk : k.toInt = k') (hw : w.toInt = w') (hn : n.toInt = n') (h : 0 ≤ w' ∧ w' ≤ 5 ∧ 0 ≤ n') : Con G sh mX3_prideMove [.int k, .int w, .int n] μ (j_z (pZ k' w' n') μ) := by
  have hP := tP_z (w := w') ⟨h.1, h.2.1⟩
  have hr := pP_rng w'
  refine Con_of [some (.int k), some (.int w), some (.int n), none] (by decide +kernel) (Nat.le_of_ble_eq_true rfl) (fun _ h => h) ?_
  refine J_gets (pc := 0) (j := 1) rfl (big_t 378 (by decide +kernel) (by decide +kernel)) dX3_prideMove_0 ?_
  refine J_iload_n (pc := 3) dX3_prideMove_3 rfl ?_
  refine J_callSe (pc := 4) fC_X3_91 dX3_prideMove_4 (c_X3_atP w'.toNat (by have q := hw; omega) (by omega)) rfl ⟨Nat.le_of_ble_eq_true rfl, Nat.le_of_ble_eq_true rfl⟩ rfl (Nat.le_of_ble_eq_true rfl) ?_
  refine J_istore_n (pc := 7) (lv' := [some (.int k), some (.int w), some (.int n), some (.int (j_tP w'.toNat))]) dX3_prideMove_7 (Nat.le_of_ble_eq_true rfl) rfl rfl ?_
  refine J_iload_n (pc := 8) dX3_prideMove_8 rfl ?_
  rcases (by omega : k' = 3 ∨ k' = 4 ∨ k' = 5 ∨ (k' < 3 ∨ 5 < k')) with h9 | h9 | h9 | h9
  · refine J_tsIn (pc := 9) 36 dX3_prideMove_9 (z := 3) (by first | omega | (rw [hk]; omega)) (by decide) (by decide) rfl (by decide) ?_
    refine J_iload_n (pc := 36) dX3_prideMove_36 rfl ?_
    refine J_inegW (pc := 37) (pP w') (tP_z ⟨by omega, by omega⟩) dX3_prideMove_37 (by omega) (fun z37 e37 => ?_)
    refine J_iret (pc := 38) dX3_prideMove_38 rfl ?_
    exact ⟨⟨_, rfl, by unfold pZ; omega⟩, rfl⟩
  · refine J_tsIn (pc := 9) 39 dX3_prideMove_9 (z := 4) (by first | omega | (rw [hk]; omega)) (by decide) (by decide) rfl (by decide) ?_
    refine J_iload_n (pc := 39) dX3_prideMove_39 rfl ?_
    refine J_iconst (pc := 40) (v := 2) dX3_prideMove_40 (by decide) ?_
    refine J_iremW (pc := 41) n' 2 hn rfl dX3_prideMove_41 (by omega) (fun z41 e41 => ?_)
    refine J_if_eqW (pc := 42) (n' % 2) e41 49 dX3_prideMove_42 (by decide) (fun h42 => ?_) (fun h42 => ?_)
    · refine J_iload_n (pc := 49) dX3_prideMove_49 rfl ?_
      refine J_iret (pc := 50) dX3_prideMove_50 rfl ?_
      exact ⟨⟨_, rfl, by unfold pZ; omega⟩, rfl⟩
    · refine J_iconst (pc := 45) (v := 0) dX3_prideMove_45 (by decide) ?_
      refine J_goto (pc := 46) 50 dX3_prideMove_46 (by decide) ?_
      refine J_iret (pc := 50) dX3_prideMove_50 rfl ?_
      exact ⟨⟨_, rfl, by unfold pZ; simp only [z0]; omega⟩, rfl⟩
  · refine J_tsIn (pc := 9) 51 dX3_prideMove_9 (z := 5) (by first | omega | (rw [hk]; omega)) (by decide) (by decide) rfl (by decide) ?_
    refine J_iload_n (pc := 51) dX3_prideMove_51 rfl ?_
    refine J_iconst (pc := 52) (v := 1) dX3_prideMove_52 (by decide) ?_
    refine J_iaddW (pc := 53) (pP w') 1 (tP_z ⟨by omega, by omega⟩) rfl dX3_prideMove_53 (by omega) (fun z53 e53 => ?_)
    refine J_iret (pc := 54) dX3_prideMove_54 rfl ?_
    exact ⟨⟨_, rfl, by unfold pZ; omega⟩, rfl⟩
  · refine J_tsOut (pc := 9) 55 dX3_prideMove_9 (by first | omega | (rw [hk]; omega)) (by decide) ?_
    refine J_iload_n (pc := 55) dX3_prideMove_55 rfl ?_
    refine J_iret (pc := 56) dX3_prideMove_56 rfl ?_
    exact ⟨⟨_, rfl, by unfold pZ; omega⟩, rfl⟩
set_option maxRecDepth 100000 in
set_option maxHeartbeats 4000000 in
theorem c_X3_moveAlike {k q w n : Int32} (k' q' w' n' : Int) (hk : k.toInt = k') (hq : q.toInt = q') (hw : w.toInt = w') (hn : n.toInt = n') (h : 0 ≤ w' ∧ w' ≤ 5 ∧ 0 ≤ n') : Con G sh mX3_moveAlike [.int k, .int q, .int w, .int n] μ (j_b (aZ k' w' n' = aZ q' w' n' ∧ pZ k' w' n' = pZ q' w' n') μ μ) := by
  refine Con_of [some (.int k), some (.int q), some (.int w), some (.int n)] (by decide +kernel) (Nat.le_of_ble_eq_true rfl) (fun _ h => h) ?_
  refine J_iload_n (pc := 0) dX3_moveAlike_0 rfl ?_
  refine J_iload_n (pc := 1) dX3_moveAlike_1 rfl ?_
  refine J_iload_n (pc := 2) dX3_moveAlike_2 rfl ?_
  refine J_callSz (pc := 3) fC_X3_147 dX3_moveAlike_3 (c_X3_angerMove k' w' n' hk hw hn (by omega)) rfl ⟨Nat.le_of_ble_eq_true rfl, Nat.le_of_ble_eq_true rfl⟩ rfl (Nat.le_of_ble_eq_true rfl) (fun z3 e3 => ?_)
  refine J_iload_n (pc := 6) dX3_moveAlike_6 rfl ?_
  refine J_iload_n (pc := 7) dX3_moveAlike_7 rfl ?_
  refine J_iload_n (pc := 8) dX3_moveAlike_8 rfl ?_
  refine J_callSz (pc := 9) fC_X3_147 dX3_moveAlike_9 (c_X3_angerMove q' w' n' hq hw hn (by omega)) rfl ⟨Nat.le_of_ble_eq_true rfl, Nat.le_of_ble_eq_true rfl⟩ rfl (Nat.le_of_ble_eq_true rfl) (fun z9 e9 => ?_)
  refine J_icmp_neW (pc := 12) (aZ k' w' n') (aZ q' w' n') e3 e9 34 dX3_moveAlike_12 (by decide) (fun h12 => ?_) (fun h12 => ?_)
  · refine J_iconst (pc := 34) (v := 0) dX3_moveAlike_34 (by decide) ?_
    refine J_zret (pc := 35) dX3_moveAlike_35 rfl (by decide) ?_
    exact Or.inr ⟨by omega, rfl, rfl⟩
  · refine J_iload_n (pc := 15) dX3_moveAlike_15 rfl ?_
    refine J_iload_n (pc := 16) dX3_moveAlike_16 rfl ?_
    refine J_iload_n (pc := 17) dX3_moveAlike_17 rfl ?_
    refine J_callSz (pc := 18) fC_X3_150 dX3_moveAlike_18 (c_X3_prideMove k' w' n' hk hw hn (by omega)) rfl ⟨Nat.le_of_ble_eq_true rfl, Nat.le_of_ble_eq_true rfl⟩ rfl (Nat.le_of_ble_eq_true rfl) (fun z18 e18 => ?_)
    refine J_iload_n (pc := 21) dX3_moveAlike_21 rfl ?_
    refine J_iload_n (pc := 22) dX3_moveAlike_22 rfl ?_
    refine J_iload_n (pc := 23) dX3_moveAlike_23 rfl ?_
    refine J_callSz (pc := 24) fC_X3_150 dX3_moveAlike_24 (c_X3_prideMove q' w' n' hq hw hn (by omega)) rfl ⟨Nat.le_of_ble_eq_true rfl, Nat.le_of_ble_eq_true rfl⟩ rfl (Nat.le_of_ble_eq_true rfl) (fun z24 e24 => ?_)
    refine J_icmp_neW (pc := 27) (pZ k' w' n') (pZ q' w' n') e18 e24 34 dX3_moveAlike_27 (by decide) (fun h27 => ?_) (fun h27 => ?_)
    · refine J_iconst (pc := 34) (v := 0) dX3_moveAlike_34 (by decide) ?_
      refine J_zret (pc := 35) dX3_moveAlike_35 rfl (by decide) ?_
      exact Or.inr ⟨by omega, rfl, rfl⟩
    · refine J_iconst (pc := 30) (v := 1) dX3_moveAlike_30 (by decide) ?_
      refine J_goto (pc := 31) 35 dX3_moveAlike_31 (by decide) ?_
      refine J_zret (pc := 35) dX3_moveAlike_35 rfl (by decide) ?_
      exact Or.inl ⟨⟨by omega, by omega⟩, rfl, rfl⟩
/-- the model's two tables -/
def constM (μ : JM) : Prop := (∀ j : Nat, j < 6 → μ.1 2 j = j_tA j) ∧ (∀ j : Nat, j < 6 → μ.1 3 j = j_tP j)
theorem cM_A {μ : JM} (hc : constM μ) {w : Int} (h : 0 ≤ w ∧ w ≤ 5) : (μ.1 2 w.toNat).toInt = pA w := by
  rw [hc.1 _ (by omega), tA_z h]
theorem cM_P {μ : JM} (hc : constM μ) {w : Int} (h : 0 ≤ w ∧ w ≤ 5) : (μ.1 3 w.toNat).toInt = pP w := by
  rw [hc.2 _ (by omega), tP_z h]
set_option maxRecDepth 100000 in
set_option maxHeartbeats 4000000 in
theorem c_X4_angerBy (hc : constM μ) {k w n : Int32} (k' w' n' : Int) (hk : k.toInt = k') (hw : w.toInt = w') (hn : n.toInt = n') (h : 0 ≤ w' ∧ w' ≤ 5 ∧ 0 ≤ n') : Con G shM mX4_angerBy [.ref 0, .int k, .int w, .int n] μ (j_z (aZ k' w' n') μ) := by
  have hA := cM_A hc (w := w') ⟨h.1, h.2.1⟩
  have hr := pA_rng w'
  refine Con_of [some (.ref 0), some (.int k), some (.int w), some (.int n), none] (by decide +kernel) (Nat.le_of_ble_eq_true rfl) (fun _ h => h) ?_
  refine J_aload_n (pc := 0) dX4_angerBy_0 rfl ?_
  refine J_getR (pc := 1) 2 fF_X4_13 rfl rfl dX4_angerBy_1 ?_
  refine J_iload_n (pc := 4) dX4_angerBy_4 rfl ?_
  refine J_ialdW (pc := 5) w'.toNat (by have q := hw; omega) rfl (by omega) dX4_angerBy_5 ?_
  refine J_istore (pc := 6) (lv' := [some (.ref 0), some (.int k), some (.int w), some (.int n), some (.int (μ.1 2 w'.toNat))]) dX4_angerBy_6 (Nat.le_of_ble_eq_true rfl) rfl rfl ?_
  refine J_iload_n (pc := 8) dX4_angerBy_8 rfl ?_
  rcases (by omega : k' = 1 ∨ k' = 2 ∨ k' = 3 ∨ k' = 4 ∨ k' = 5 ∨ (k' < 1 ∨ 5 < k')) with h9 | h9 | h9 | h9 | h9 | h9
  · refine J_tsIn (pc := 9) 44 dX4_angerBy_9 (z := 1) (by first | omega | (rw [hk]; omega)) (by decide) (by decide) rfl (by decide) ?_
    refine J_iload (pc := 44) dX4_angerBy_44 rfl ?_
    refine J_iconst (pc := 46) (v := 2) dX4_angerBy_46 (by decide) ?_
    refine J_idiv (pc := 47) dX4_angerBy_47 (by decide) ?_
    refine J_iret (pc := 48) dX4_angerBy_48 rfl ?_
    exact ⟨⟨_, rfl, by rw [z_hf (by rw [hA]; exact hr), hA]; unfold aZ; omega⟩, rfl⟩
  · refine J_tsIn (pc := 9) 49 dX4_angerBy_9 (z := 2) (by first | omega | (rw [hk]; omega)) (by decide) (by decide) rfl (by decide) ?_
    refine J_iload (pc := 49) dX4_angerBy_49 rfl ?_
    refine J_iconst (pc := 51) (v := 1) dX4_angerBy_51 (by decide) ?_
    refine J_isubW (pc := 52) (pA w') 1 hA rfl dX4_angerBy_52 (by omega) (fun z52 e52 => ?_)
    refine J_iret (pc := 53) dX4_angerBy_53 rfl ?_
    exact ⟨⟨_, rfl, by unfold aZ; omega⟩, rfl⟩
  · refine J_tsIn (pc := 9) 77 dX4_angerBy_9 (z := 3) (by first | omega | (rw [hk]; omega)) (by decide) (by decide) rfl (by decide) ?_
    refine J_iload (pc := 77) dX4_angerBy_77 rfl ?_
    refine J_iret (pc := 79) dX4_angerBy_79 rfl ?_
    exact ⟨⟨_, rfl, by unfold aZ; omega⟩, rfl⟩
  · refine J_tsIn (pc := 9) 54 dX4_angerBy_9 (z := 4) (by first | omega | (rw [hk]; omega)) (by decide) (by decide) rfl (by decide) ?_
    refine J_iload_n (pc := 54) dX4_angerBy_54 rfl ?_
    refine J_iconst (pc := 55) (v := 2) dX4_angerBy_55 (by decide) ?_
    refine J_iremW (pc := 56) n' 2 hn rfl dX4_angerBy_56 (by omega) (fun z56 e56 => ?_)
    refine J_iconst (pc := 57) (v := 1) dX4_angerBy_57 (by decide) ?_
    refine J_icmp_neW (pc := 58) (n' % 2) 1 e56 rfl 65 dX4_angerBy_58 (by decide) (fun h58 => ?_) (fun h58 => ?_)
    · refine J_iload (pc := 65) dX4_angerBy_65 rfl ?_
      refine J_iconst (pc := 67) (v := 2) dX4_angerBy_67 (by decide) ?_
      refine J_idiv (pc := 68) dX4_angerBy_68 (by decide) ?_
      refine J_iret (pc := 69) dX4_angerBy_69 rfl ?_
      exact ⟨⟨_, rfl, by rw [z_hf (by rw [hA]; exact hr), hA]; unfold aZ; omega⟩, rfl⟩
    · refine J_iconst (pc := 61) (v := 0) dX4_angerBy_61 (by decide) ?_
      refine J_goto (pc := 62) 69 dX4_angerBy_62 (by decide) ?_
      refine J_iret (pc := 69) dX4_angerBy_69 rfl ?_
      exact ⟨⟨_, rfl, by unfold aZ; simp only [z0]; omega⟩, rfl⟩
  · refine J_tsIn (pc := 9) 70 dX4_angerBy_9 (z := 5) (by first | omega | (rw [hk]; omega)) (by decide) (by decide) rfl (by decide) ?_
    refine J_iconst (pc := 70) (v := 2) dX4_angerBy_70 (by decide) ?_
    refine J_iload (pc := 71) dX4_angerBy_71 rfl ?_
    refine J_iconst (pc := 73) (v := 1) dX4_angerBy_73 (by decide) ?_
    refine J_isubW (pc := 74) (pA w') 1 hA rfl dX4_angerBy_74 (by omega) (fun z74 e74 => ?_)
    refine J_imulW (pc := 75) 2 ((pA w') - 1) rfl e74 dX4_angerBy_75 (by omega) (fun z75 e75 => ?_)
    refine J_iret (pc := 76) dX4_angerBy_76 rfl ?_
    exact ⟨⟨_, rfl, by unfold aZ; omega⟩, rfl⟩
  · refine J_tsOut (pc := 9) 77 dX4_angerBy_9 (by first | omega | (rw [hk]; omega)) (by decide) ?_
    refine J_iload (pc := 77) dX4_angerBy_77 rfl ?_
    refine J_iret (pc := 79) dX4_angerBy_79 rfl ?_
    exact ⟨⟨_, rfl, by unfold aZ; omega⟩, rfl⟩
set_option maxRecDepth 100000 in
set_option maxHeartbeats 4000000 in
theorem c_X4_prideBy (hc : constM μ) {k w n : Int32} (k' w' n' : Int) (hk : k.toInt = k') (hw : w.toInt = w') (hn : n.toInt = n') (h : 0 ≤ w' ∧ w' ≤ 5 ∧ 0 ≤ n') : Con G shM mX4_prideBy [.ref 0, .int k, .int w, .int n] μ (j_z (pZ k' w' n') μ) := by
  have hA := cM_P hc (w := w') ⟨h.1, h.2.1⟩
  have hr := pP_rng w'
  refine Con_of [some (.ref 0), some (.int k), some (.int w), some (.int n), none] (by decide +kernel) (Nat.le_of_ble_eq_true rfl) (fun _ h => h) ?_
  refine J_aload_n (pc := 0) dX4_prideBy_0 rfl ?_
  refine J_getR (pc := 1) 3 fF_X4_16 rfl rfl dX4_prideBy_1 ?_
  refine J_iload_n (pc := 4) dX4_prideBy_4 rfl ?_
  refine J_ialdW (pc := 5) w'.toNat (by have q := hw; omega) rfl (by omega) dX4_prideBy_5 ?_
  refine J_istore (pc := 6) (lv' := [some (.ref 0), some (.int k), some (.int w), some (.int n), some (.int (μ.1 3 w'.toNat))]) dX4_prideBy_6 (Nat.le_of_ble_eq_true rfl) rfl rfl ?_
  refine J_iload_n (pc := 8) dX4_prideBy_8 rfl ?_
  rcases (by omega : k' = 3 ∨ k' = 4 ∨ k' = 5 ∨ (k' < 3 ∨ 5 < k')) with h9 | h9 | h9 | h9
  · refine J_tsIn (pc := 9) 36 dX4_prideBy_9 (z := 3) (by first | omega | (rw [hk]; omega)) (by decide) (by decide) rfl (by decide) ?_
    refine J_iload (pc := 36) dX4_prideBy_36 rfl ?_
    refine J_inegW (pc := 38) (pP w') hA dX4_prideBy_38 (by omega) (fun z38 e38 => ?_)
    refine J_iret (pc := 39) dX4_prideBy_39 rfl ?_
    exact ⟨⟨_, rfl, by unfold pZ; omega⟩, rfl⟩
  · refine J_tsIn (pc := 9) 40 dX4_prideBy_9 (z := 4) (by first | omega | (rw [hk]; omega)) (by decide) (by decide) rfl (by decide) ?_
    refine J_iload_n (pc := 40) dX4_prideBy_40 rfl ?_
    refine J_iconst (pc := 41) (v := 2) dX4_prideBy_41 (by decide) ?_
    refine J_iremW (pc := 42) n' 2 hn rfl dX4_prideBy_42 (by omega) (fun z42 e42 => ?_)
    refine J_iconst (pc := 43) (v := 1) dX4_prideBy_43 (by decide) ?_
    refine J_icmp_neW (pc := 44) (n' % 2) 1 e42 rfl 51 dX4_prideBy_44 (by decide) (fun h44 => ?_) (fun h44 => ?_)
    · refine J_iload (pc := 51) dX4_prideBy_51 rfl ?_
      refine J_iret (pc := 53) dX4_prideBy_53 rfl ?_
      exact ⟨⟨_, rfl, by unfold pZ; omega⟩, rfl⟩
    · refine J_iconst (pc := 47) (v := 0) dX4_prideBy_47 (by decide) ?_
      refine J_goto (pc := 48) 53 dX4_prideBy_48 (by decide) ?_
      refine J_iret (pc := 53) dX4_prideBy_53 rfl ?_
      exact ⟨⟨_, rfl, by unfold pZ; simp only [z0]; omega⟩, rfl⟩
  · refine J_tsIn (pc := 9) 54 dX4_prideBy_9 (z := 5) (by first | omega | (rw [hk]; omega)) (by decide) (by decide) rfl (by decide) ?_
    refine J_iload (pc := 54) dX4_prideBy_54 rfl ?_
    refine J_iconst (pc := 56) (v := 1) dX4_prideBy_56 (by decide) ?_
    refine J_iaddW (pc := 57) (pP w') 1 hA rfl dX4_prideBy_57 (by omega) (fun z57 e57 => ?_)
    refine J_iret (pc := 58) dX4_prideBy_58 rfl ?_
    exact ⟨⟨_, rfl, by unfold pZ; omega⟩, rfl⟩
  · refine J_tsOut (pc := 9) 59 dX4_prideBy_9 (by first | omega | (rw [hk]; omega)) (by decide) ?_
    refine J_iload (pc := 59) dX4_prideBy_59 rfl ?_
    refine J_iret (pc := 61) dX4_prideBy_61 rfl ?_
    exact ⟨⟨_, rfl, by unfold pZ; omega⟩, rfl⟩
set_option maxRecDepth 100000 in
set_option maxHeartbeats 4000000 in
theorem c_X4_isSaid {q w : Int32} (q' w' : Int) (hq : q.toInt = q') (hw : w.toInt = w') : Con G sh mX4_isSaid [.int q, .int w] μ (j_b (q' = 0 ∨ (w' ≠ 3 ∧ w' ≠ 4)) μ μ) := by
  refine Con_of [some (.int q), some (.int w)] (by decide +kernel) (Nat.le_of_ble_eq_true rfl) (fun _ h => h) ?_
  refine J_iload_n (pc := 0) dX4_isSaid_0 rfl ?_
  refine J_if_eqW (pc := 1) q' hq 14 dX4_isSaid_1 (by decide) (fun h1 => ?_) (fun h1 => ?_)
  · refine J_iconst (pc := 14) (v := 1) dX4_isSaid_14 (by decide) ?_
    refine J_goto (pc := 15) 19 dX4_isSaid_15 (by decide) ?_
    refine J_zret (pc := 19) dX4_isSaid_19 rfl (by decide) ?_
    exact Or.inl ⟨by omega, rfl, rfl⟩
  · refine J_iload_n (pc := 4) dX4_isSaid_4 rfl ?_
    refine J_iconst (pc := 5) (v := 3) dX4_isSaid_5 (by decide) ?_
    refine J_icmp_eqW (pc := 6) w' 3 hw rfl 18 dX4_isSaid_6 (by decide) (fun h6 => ?_) (fun h6 => ?_)
    · refine J_iconst (pc := 18) (v := 0) dX4_isSaid_18 (by decide) ?_
      refine J_zret (pc := 19) dX4_isSaid_19 rfl (by decide) ?_
      exact Or.inr ⟨by omega, rfl, rfl⟩
    · refine J_iload_n (pc := 9) dX4_isSaid_9 rfl ?_
      refine J_iconst (pc := 10) (v := 4) dX4_isSaid_10 (by decide) ?_
      refine J_icmp_eqW (pc := 11) w' 4 hw rfl 18 dX4_isSaid_11 (by decide) (fun h11 => ?_) (fun h11 => ?_)
      · refine J_iconst (pc := 18) (v := 0) dX4_isSaid_18 (by decide) ?_
        refine J_zret (pc := 19) dX4_isSaid_19 rfl (by decide) ?_
        exact Or.inr ⟨by omega, rfl, rfl⟩
      · refine J_iconst (pc := 14) (v := 1) dX4_isSaid_14 (by decide) ?_
        refine J_goto (pc := 15) 19 dX4_isSaid_15 (by decide) ?_
        refine J_zret (pc := 19) dX4_isSaid_19 rfl (by decide) ?_
        exact Or.inl ⟨by omega, rfl, rfl⟩
set_option maxRecDepth 100000 in
set_option maxHeartbeats 4000000 in
theorem c_X4_placeOf {x a b : Int32} (x' a' b' : Int) (hx : x.toInt = x') (ha : a.toInt = a') (hb : b.toInt = b') (h : 0 ≤ x' ∧ x' ≤ 99 ∧ 0 ≤ a' ∧ a' ≤ 99 ∧ 0 ≤ b') : Con G sh mX4_placeOf [.int x, .int a, .int b] μ (j_z ((100 * x' + a') * 2 + b' % 2) μ) := by
  refine Con_of [some (.int x), some (.int a), some (.int b)] (by decide +kernel) (Nat.le_of_ble_eq_true rfl) (fun _ h => h) ?_
  refine J_bipush (pc := 0) (v := 100) dX4_placeOf_0 (by decide) ?_
  refine J_iload_n (pc := 2) dX4_placeOf_2 rfl ?_
  refine J_imulW (pc := 3) 100 x' rfl hx dX4_placeOf_3 (by omega) (fun z3 e3 => ?_)
  refine J_iload_n (pc := 4) dX4_placeOf_4 rfl ?_
  refine J_iaddW (pc := 5) (100 * x') a' e3 ha dX4_placeOf_5 (by omega) (fun z5 e5 => ?_)
  refine J_iconst (pc := 6) (v := 2) dX4_placeOf_6 (by decide) ?_
  refine J_imulW (pc := 7) ((100 * x') + a') 2 e5 rfl dX4_placeOf_7 (by omega) (fun z7 e7 => ?_)
  refine J_iload_n (pc := 8) dX4_placeOf_8 rfl ?_
  refine J_iconst (pc := 9) (v := 2) dX4_placeOf_9 (by decide) ?_
  refine J_iremW (pc := 10) b' 2 hb rfl dX4_placeOf_10 (by omega) (fun z10 e10 => ?_)
  refine J_iaddW (pc := 11) (((100 * x') + a') * 2) (b' % 2) e7 e10 dX4_placeOf_11 (by omega) (fun z11 e11 => ?_)
  refine J_iret (pc := 12) dX4_placeOf_12 rfl ?_
  exact ⟨⟨_, rfl, e11⟩, rfl⟩

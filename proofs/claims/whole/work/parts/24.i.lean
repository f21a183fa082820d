/-! ===== what ties the class's memory to the model's ===== -/
def IsZ (v : Option Value) (e : Int) : Prop := ∃ z : Int32, v = some (.int z) ∧ z.toInt = e
theorem IsZ_eq {v w : Option Value} {e : Int} (h : IsZ v e) (h' : IsZ w e) : v = w ∧ ∃ z : Int32, v = some (.int z) := by
  obtain ⟨z, rfl, hz⟩ := h
  obtain ⟨y, rfl, hy⟩ := h'
  rw [z_eq (hz.trans hy.symm)]
  exact ⟨rfl, _, rfl⟩
/-- a jar told by one row of numbers, as the model keeps it: ranges -/
def wfF (N : Int) (f : Nat → Int32) : Prop :=
  (0 ≤ (f 0).toInt ∧ (f 0).toInt ≤ 5) ∧ (0 ≤ (f 1).toInt ∧ (f 1).toInt ≤ 99) ∧ (0 ≤ (f 2).toInt ∧ (f 2).toInt ≤ 99) ∧ (1 ≤ (f 3).toInt ∧ (f 3).toInt ≤ 99) ∧ (1 ≤ (f 4).toInt ∧ (f 4).toInt ≤ 99) ∧
  (0 ≤ (f 5).toInt ∧ (f 5).toInt ≤ N) ∧ (0 ≤ (f 6).toInt ∧ (f 6).toInt ≤ 2) ∧ (∀ j : Nat, j < 8 → 0 ≤ (f (7 + j)).toInt ∧ (f (7 + j)).toInt ≤ 4) ∧ (0 ≤ (f 15).toInt ∧ (f 15).toInt ≤ 6) ∧ (0 ≤ (f 40).toInt ∧ (f 40).toInt ≤ 8) ∧
  (∀ j : Nat, (j : Int) < (f 15).toInt → (0 ≤ (f (16 + 4 * j)).toInt ∧ (f (16 + 4 * j)).toInt ≤ 5) ∧ (0 ≤ (f (16 + 4 * j + 1)).toInt ∧ (f (16 + 4 * j + 1)).toInt ≤ 99)) ∧
  (∀ j : Nat, (j : Int) < (f 40).toInt → (0 ≤ (f (41 + 4 * j)).toInt ∧ (f (41 + 4 * j)).toInt ≤ 99) ∧ (0 ≤ (f (41 + 4 * j + 1)).toInt ∧ (f (41 + 4 * j + 1)).toInt ≤ 99) ∧ (0 ≤ (f (41 + 4 * j + 2)).toInt ∧ (f (41 + 4 * j + 2)).toInt ≤ N) ∧ (0 ≤ (f (41 + 4 * j + 3)).toInt ∧ (f (41 + 4 * j + 3)).toInt ≤ 2))
/-- the class's jar b holds what that row tells -/
def jrep (c : JM) (b : Nat) (f : Nat → Int32) : Prop :=
  c.1 b 0 = f 0 ∧ c.1 b 1 = f 3 ∧ c.1 b 2 = f 4 ∧ (c.1 b 3).toInt = mZ (f 1).toInt (f 2).toInt (f 6).toInt ∧ c.1 b 4 = f 5 ∧ c.1 b 5 = f 15 ∧ c.1 b 6 = f 40 ∧ (∀ j : Nat, j < 8 → c.1 (b + 1) j = f (7 + j)) ∧
  (∀ j : Nat, (j : Int) < 4 * (f 15).toInt → c.1 (b + 2) j = f (16 + j)) ∧ (∀ j : Nat, (j : Int) < (f 40).toInt → (c.1 (b + 3) j).toInt = mZ (f (41 + 4 * j)).toInt (f (41 + 4 * j + 1)).toInt (f (41 + 4 * j + 3)).toInt ∧ c.1 (b + 4) j = f (41 + 4 * j + 2))
def imgF (m : JM) (i : Nat) : Nat → Int32 := fun k => m.1 11 (73 * i + k)
def Inv (N : Int) (c m : JM) : Prop :=
  constM m ∧ wfF N (m.1 1) ∧ jrep c 1 (m.1 1) ∧ (∀ i : Nat, i < 2 → (m.1 12 i = 0 ∨ m.1 12 i = 1) ∧ c.1 (11 + 5 * i) 7 = m.1 12 i ∧ (m.1 12 i = 1 → wfF N (imgF m i) ∧ jrep c (11 + 5 * i) (imgF m i))) ∧
  (c.1 21 1 = m.1 0 9 ∧ (0 ≤ (m.1 0 9).toInt ∧ (m.1 0 9).toInt ≤ 150) ∧ ∀ j : Nat, (j : Int) < (m.1 0 9).toInt → c.1 22 j = m.1 5 j ∧ 0 ≤ (m.1 5 j).toInt ∧ (m.1 5 j).toInt ≤ 127) ∧
  (c.2 0 6 = m.2 0 20 ∧ c.2 0 7 = m.2 0 21) ∧ (c.1 0 8 = m.1 4 0 ∧ c.1 0 9 = m.1 4 1 ∧ c.1 0 10 = m.1 4 2)
theorem wfF_mono {N M : Int} (h : N ≤ M) {f : Nat → Int32} (hw : wfF N f) : wfF M f := by
  obtain ⟨h0, h1, h2, h3, h4, h5, h6, h7, h8, h9, ha, hb⟩ := hw
  exact ⟨h0, h1, h2, h3, h4, ⟨h5.1, by omega⟩, h6, h7, h8, h9, ha, fun j hj => ⟨(hb j hj).1, (hb j hj).2.1, ⟨(hb j hj).2.2.1.1, by have := (hb j hj).2.2.1.2; omega⟩, (hb j hj).2.2.2⟩⟩
theorem wfF_congr {N : Int} {f g : Nat → Int32} (h : ∀ j, j < 73 → g j = f j) (hw : wfF N f) : wfF N g := by
  obtain ⟨h0, h1, h2, h3, h4, h5, h6, h7, h8, h9, ha, hb⟩ := hw
  have e15 := h 15 (by omega)
  have e40 := h 40 (by omega)
  unfold wfF
  rw [h 0 (by omega), h 1 (by omega), h 2 (by omega), h 3 (by omega), h 4 (by omega), h 5 (by omega), h 6 (by omega), e15, e40]
  refine ⟨h0, h1, h2, h3, h4, h5, h6, fun j hj => by rw [h _ (by omega)]; exact h7 j hj, h8, h9, fun j hj => ?_, fun j hj => ?_⟩
  · rw [h _ (by omega), h _ (by omega)]; exact ha j hj
  · rw [h _ (by omega), h _ (by omega), h _ (by omega), h _ (by omega)]; exact hb j hj
theorem jrep_congr {c c' : JM} {b : Nat} {f g : Nat → Int32} {N : Int} (hw : wfF N f) (h : ∀ j, j < 73 → g j = f j) (hc : ∀ o, b ≤ o → o ≤ b + 4 → ∀ k, (o = b → k ≠ 7) → c'.1 o k = c.1 o k) (hj : jrep c b f) : jrep c' b g := by
  obtain ⟨h0, h1, h2, h3, h4, h5, h6, h7, h8, h9⟩ := hj
  obtain ⟨-, -, -, -, -, -, -, -, w8, w9, -, -⟩ := hw
  have e15 := h 15 (by omega)
  have e40 := h 40 (by omega)
  unfold jrep
  rw [h 0 (by omega), h 1 (by omega), h 2 (by omega), h 3 (by omega), h 4 (by omega), h 5 (by omega), h 6 (by omega), e15, e40]
  rw [hc b (by omega) (by omega) 0 (by omega), hc b (by omega) (by omega) 1 (by omega), hc b (by omega) (by omega) 2 (by omega), hc b (by omega) (by omega) 3 (by omega), hc b (by omega) (by omega) 4 (by omega), hc b (by omega) (by omega) 5 (by omega), hc b (by omega) (by omega) 6 (by omega)]
  refine ⟨h0, h1, h2, h3, h4, h5, h6, fun j hj => ?_, fun j hj => ?_, fun j hj => ?_⟩
  · rw [hc _ (by omega) (by omega) j (by omega), h _ (by omega)]; exact h7 j hj
  · rw [hc _ (by omega) (by omega) j (by omega), h _ (by omega)]; exact h8 j hj
  · rw [hc _ (by omega) (by omega) j (by omega), hc _ (by omega) (by omega) j (by omega), h _ (by omega), h _ (by omega), h _ (by omega), h _ (by omega)]; exact h9 j hj
/-- what else the class's memory may hold -/
def eqC (c c' : JM) : Prop := (∀ o, (1 ≤ o ∧ o ≤ 5) ∨ (11 ≤ o ∧ o ≤ 20) ∨ o = 22 ∨ o = 0 → c'.1 o = c.1 o) ∧ c'.1 21 1 = c.1 21 1 ∧ c'.2 0 = c.2 0
def eqM (m m' : JM) : Prop := (∀ o, (1 ≤ o ∧ o ≤ 5) ∨ o = 11 ∨ o = 12 → m'.1 o = m.1 o) ∧ m'.1 0 9 = m.1 0 9 ∧ m'.2 0 = m.2 0
theorem eqC_rf (c : JM) : eqC c c := ⟨fun _ _ => rfl, rfl, rfl⟩
theorem eqM_rf (m : JM) : eqM m m := ⟨fun _ _ => rfl, rfl, rfl⟩
theorem eqC_tr {c d e : JM} (h1 : eqC c d) (h2 : eqC d e) : eqC c e := ⟨fun o ho => (h2.1 o ho).trans (h1.1 o ho), h2.2.1.trans h1.2.1, h2.2.2.trans h1.2.2⟩
theorem eqM_tr {c d e : JM} (h1 : eqM c d) (h2 : eqM d e) : eqM c e := ⟨fun o ho => (h2.1 o ho).trans (h1.1 o ho), h2.2.1.trans h1.2.1, h2.2.2.trans h1.2.2⟩
theorem Inv_eq {N M : Int} {c c' m m' : JM} (hNM : N ≤ M) (h : Inv N c m) (hc : eqC c c') (hm : eqM m m') : Inv M c' m' := by
  obtain ⟨a1, a2, a3, a4, a5, a6, a7⟩ := h
  obtain ⟨c1, c2, c3⟩ := hc
  obtain ⟨m1, m2, m3⟩ := hm
  have f1 : m'.1 1 = m.1 1 := m1 1 (by omega)
  have f11 : m'.1 11 = m.1 11 := m1 11 (by omega)
  have f12 : m'.1 12 = m.1 12 := m1 12 (by omega)
  have fi : ∀ i, imgF m' i = imgF m i := fun i => by unfold imgF; rw [f11]
  refine ⟨⟨fun j hj => by rw [m1 2 (by omega)]; exact a1.1 j hj, fun j hj => by rw [m1 3 (by omega)]; exact a1.2 j hj⟩, by rw [f1]; exact wfF_mono hNM a2, ?_, fun i hi => ?_, ?_, ?_, ?_⟩
  · rw [f1]
    exact jrep_congr a2 (fun _ _ => rfl) (fun o h1 h2 k _ => by rw [c1 o (by omega)]) a3
  · rw [f12, fi, c1 (11 + 5 * i) (by omega)]
    obtain ⟨b1, b2, b3⟩ := a4 i hi
    exact ⟨b1, b2, fun hk => ⟨wfF_mono hNM (b3 hk).1, jrep_congr (b3 hk).1 (fun _ _ => rfl) (fun o h1 h2 k _ => by rw [c1 o (by omega)]) (b3 hk).2⟩⟩
  · rw [c2, m2, c1 22 (by omega), m1 5 (by omega)]; exact a5
  · rw [c3, m3]; exact a6
  · rw [c1 0 (by omega), m1 4 (by omega)]; exact a7
/-- a refusal -/
theorem Inv_no {N M : Int} {c m : JM} (hNM : N ≤ M) (h : Inv N c m) (i : Nat) (hi : i < 3) : Inv M (jI c 0 (8 + i) (c.1 0 (8 + i) + 1)) (jI m 4 i (m.1 4 i + 1)) := by
  obtain ⟨a1, a2, a3, a4, a5, a6, a7⟩ := h
  have hm : ∀ o, o ≠ 4 → (jI m 4 i (m.1 4 i + 1)).1 o = m.1 o := fun o ho => by funext k; simp [jI_i, ho]
  have hc : ∀ o, o ≠ 0 → (jI c 0 (8 + i) (c.1 0 (8 + i) + 1)).1 o = c.1 o := fun o ho => by funext k; simp [jI_i, ho]
  have fi : ∀ j, imgF (jI m 4 i (m.1 4 i + 1)) j = imgF m j := fun j => by unfold imgF; rw [hm 11 (by omega)]
  refine ⟨⟨fun j hj => by rw [hm 2 (by omega)]; exact a1.1 j hj, fun j hj => by rw [hm 3 (by omega)]; exact a1.2 j hj⟩, by rw [hm 1 (by omega)]; exact wfF_mono hNM a2, ?_, fun j hj => ?_, ?_, ?_, ?_⟩
  · rw [hm 1 (by omega)]
    exact jrep_congr a2 (fun _ _ => rfl) (fun o h1 h2 k _ => by rw [hc o (by omega)]) a3
  · rw [hm 12 (by omega), fi, hc (11 + 5 * j) (by omega)]
    obtain ⟨b1, b2, b3⟩ := a4 j hj
    exact ⟨b1, b2, fun hk => ⟨wfF_mono hNM (b3 hk).1, jrep_congr (b3 hk).1 (fun _ _ => rfl) (fun o h1 h2 k _ => by rw [hc o (by omega)]) (b3 hk).2⟩⟩
  · rw [hm 0 (by omega), hm 5 (by omega), hc 21 (by omega), hc 22 (by omega)]; exact a5
  · exact a6
  · obtain ⟨s0, s1, s2⟩ := a7
    rcases (show i = 0 ∨ i = 1 ∨ i = 2 by omega) with rfl | rfl | rfl <;> simp [jI_i, s0, s1, s2]
/-- a pair of calls answers alike -/
def Pair (G : JG × JG) (N : Int) (c m : JM) (MC MM : JMth) (as : List Value) : Prop := ∃ QC QM : Option Value → JM → Prop, Con G.1 shC MC (.ref 0 :: as) c QC ∧ Con G.2 shM MM (.ref 0 :: as) m QM ∧ ∀ v c' w m', QC v c' → QM w m' → (v = w ∧ ∃ z : Int32, v = some (.int z)) ∧ Inv (N + 1) c' m'
def PairL (G : JG × JG) (N : Int) (c m : JM) (MC MM : JMth) (as : List Value) : Prop := ∃ QC QM : Option Value → JM → Prop, Con G.1 shC MC (.ref 0 :: as) c QC ∧ Con G.2 shM MM (.ref 0 :: as) m QM ∧ ∀ v c' w m', QC v c' → QM w m' → (v = w ∧ ∃ z : Int64, v = some (.long z)) ∧ Inv (N + 1) c' m'
/-- the numbers of the class's own jar, told by the model's row -/
theorem Inv_q {N : Int} {c m : JM} (h : Inv N c m) : (c.1 1 0).toInt = (m.1 1 0).toInt ∧ (c.1 1 1).toInt = (m.1 1 3).toInt ∧ (c.1 1 2).toInt = (m.1 1 4).toInt ∧ (c.1 1 3).toInt = (m.1 1 6).toInt * 10000 + (m.1 1 1).toInt * 100 + (m.1 1 2).toInt ∧ (c.1 1 4).toInt = (m.1 1 5).toInt ∧ (c.1 1 5).toInt = (m.1 1 15).toInt ∧ (c.1 1 6).toInt = (m.1 1 40).toInt := by
  obtain ⟨-, -, ⟨h0, h1, h2, h3, h4, h5, h6, -⟩, -⟩ := h
  exact ⟨by rw [h0], by rw [h1], by rw [h2], h3, by rw [h4], by rw [h5], by rw [h6]⟩
theorem Inv_r {N : Int} {c m : JM} (h : Inv N c m) : (0 ≤ (m.1 1 0).toInt ∧ (m.1 1 0).toInt ≤ 5) ∧ (0 ≤ (m.1 1 1).toInt ∧ (m.1 1 1).toInt ≤ 99) ∧ (0 ≤ (m.1 1 2).toInt ∧ (m.1 1 2).toInt ≤ 99) ∧ (1 ≤ (m.1 1 3).toInt ∧ (m.1 1 3).toInt ≤ 99) ∧ (1 ≤ (m.1 1 4).toInt ∧ (m.1 1 4).toInt ≤ 99) ∧ (0 ≤ (m.1 1 5).toInt ∧ (m.1 1 5).toInt ≤ N) ∧ (0 ≤ (m.1 1 6).toInt ∧ (m.1 1 6).toInt ≤ 2) ∧ (0 ≤ (m.1 1 15).toInt ∧ (m.1 1 15).toInt ≤ 6) ∧ (0 ≤ (m.1 1 40).toInt ∧ (m.1 1 40).toInt ≤ 8) ∧ (0 ≤ (m.1 0 9).toInt ∧ (m.1 0 9).toInt ≤ 150) := by
  obtain ⟨-, ⟨h0, h1, h2, h3, h4, h5, h6, -, h8, h9, -, -⟩, -, -, ⟨-, ht, -⟩, -⟩ := h
  exact ⟨h0, h1, h2, h3, h4, h5, h6, h8, h9, ht⟩

/-! ===== how each change keeps the tie: rows of the model against the class's jar ===== -/
theorem Inv_row {N M : Int} {c m c' m' : JM} {f : Nat → Int32} (hNM : N ≤ M) (h : Inv N c m) (hc : ∀ o, (11 ≤ o ∧ o ≤ 20) ∨ o = 22 ∨ o = 0 → c'.1 o = c.1 o) (hc2 : c'.1 21 1 = c.1 21 1) (hc3 : c'.2 0 = c.2 0) (hm : eqM (jC m 1 f) m') (hj : jrep c' 1 f) (hw : wfF M f) : Inv M c' m' := by
  obtain ⟨a1, a2, a3, a4, a5, a6, a7⟩ := h
  obtain ⟨m1, m2, m3⟩ := hm
  have f1 : m'.1 1 = f := by rw [m1 1 (by omega), jC_at]
  have fo : ∀ o, (2 ≤ o ∧ o ≤ 5) ∨ o = 11 ∨ o = 12 → m'.1 o = m.1 o := fun o ho => by rw [m1 o (by omega), jC_ne (by omega)]
  have fi : ∀ i, imgF m' i = imgF m i := fun i => by unfold imgF; rw [fo 11 (by omega)]
  have m2' : m'.1 0 9 = m.1 0 9 := by rw [m2, jC_ne (by omega)]
  have m3' : m'.2 0 = m.2 0 := m3
  refine ⟨⟨fun j hj => by rw [fo 2 (by omega)]; exact a1.1 j hj, fun j hj => by rw [fo 3 (by omega)]; exact a1.2 j hj⟩, by rw [f1]; exact hw, by rw [f1]; exact hj, fun i hi => ?_, ?_, ?_, ?_⟩
  · rw [fo 12 (by omega), fi, hc (11 + 5 * i) (by omega)]
    obtain ⟨b1, b2, b3⟩ := a4 i hi
    exact ⟨b1, b2, fun hk => ⟨wfF_mono hNM (b3 hk).1, jrep_congr (b3 hk).1 (fun _ _ => rfl) (fun o h1 h2 k _ => by rw [hc o (by omega)]) (b3 hk).2⟩⟩
  · rw [hc2, m2', hc 22 (by omega), fo 5 (by omega)]; exact a5
  · rw [hc3, m3']; exact a6
  · rw [hc 0 (by omega), fo 4 (by omega)]; exact a7
theorem mZ_d {a p b : Int} (h : 0 ≤ a ∧ a ≤ 99 ∧ 0 ≤ p ∧ p ≤ 99) : mZ a p b % 10000 / 100 = a ∧ mZ a p b % 100 = p ∧ mZ a p b / 10000 = b := by
  unfold mZ; omega
/-- begin anew -/
theorem jrep_begin {c : JM} {b : Nat} {k : Int32} {g : Nat → Int32} : jrep (begM c b k) b (fun j => if j < 73 then freF k j else g j) := by
  unfold jrep begM
  refine ⟨?_, ?_, ?_, ?_, ?_, ?_, ?_, fun j hj => ?_, fun j hj => ?_, fun j hj => ?_⟩
  · simp [jC, jI_i, freF]
  · simp [jC, jI_i, freF]
  · simp [jC, jI_i, freF]
  · simp [jC, jI_i, freF]; rfl
  · simp [jC, jI_i, freF]
  · simp [jC, jI_i, freF]
  · simp [jC, jI_i, freF]
  · rw [jC_at]
    simp only [hj, if_true]
    rw [if_pos (by omega), freF, if_neg (by omega), if_neg (by omega), if_neg (by omega), if_neg (by omega), if_pos (by omega), show 7 + j - 7 = j by omega]
  · exfalso
    dsimp only at hj
    rw [if_pos (by omega)] at hj
    have : (freF k 15).toInt = 0 := rfl
    omega
  · exfalso
    dsimp only at hj
    rw [if_pos (by omega)] at hj
    have : (freF k 40).toInt = 0 := rfl
    omega
theorem wfF_fresh {N : Int} {k : Int32} {g : Nat → Int32} (hN : 0 ≤ N) (hk : 0 ≤ k.toInt ∧ k.toInt ≤ 5) : wfF N (fun j => if j < 73 then freF k j else g j) := by
  refine wfF_congr (f := freF k) (fun j hj => by simp [hj]) ?_
  have e15 : (freF k 15).toInt = 0 := rfl
  have e40 : (freF k 40).toInt = 0 := rfl
  have e1 : (freF k 1).toInt = 20 := rfl
  have e2 : (freF k 2).toInt = 0 := rfl
  have e3 : (freF k 3).toInt = 40 := rfl
  have e4 : (freF k 4).toInt = 9 := rfl
  have e5 : (freF k 5).toInt = 0 := rfl
  have e6 : (freF k 6).toInt = 0 := rfl
  refine ⟨hk, by omega, by omega, by omega, by omega, by omega, by omega, fun j hj => ?_, by omega, by omega, fun j hj => by omega, fun j hj => by omega⟩
  rcases (show j = 0 ∨ j = 1 ∨ j = 2 ∨ j = 3 ∨ j = 4 ∨ j = 5 ∨ j = 6 ∨ j = 7 by omega) with rfl | rfl | rfl | rfl | rfl | rfl | rfl | rfl
  · exact (by decide : 0 ≤ (0 : Int32).toInt ∧ (0 : Int32).toInt ≤ 4)
  · exact (by decide : 0 ≤ (1 : Int32).toInt ∧ (1 : Int32).toInt ≤ 4)
  · exact (by decide : 0 ≤ (2 : Int32).toInt ∧ (2 : Int32).toInt ≤ 4)
  · exact (by decide : 0 ≤ (3 : Int32).toInt ∧ (3 : Int32).toInt ≤ 4)
  · exact (by decide : 0 ≤ (4 : Int32).toInt ∧ (4 : Int32).toInt ≤ 4)
  · exact (by decide : 0 ≤ (4 : Int32).toInt ∧ (4 : Int32).toInt ≤ 4)
  · exact (by decide : 0 ≤ (4 : Int32).toInt ∧ (4 : Int32).toInt ≤ 4)
  · exact (by decide : 0 ≤ (4 : Int32).toInt ∧ (4 : Int32).toInt ≤ 4)
/-- what a word makes of the row -/
def listF (f : Nat → Int32) (w : Int) : Nat → Int32 :=
  upd (upd (upd (upd f 1 (iZ (hA2 (f 0).toInt (f 1).toInt (f 5).toInt w))) 2 (iZ (hP2 (f 0).toInt (f 2).toInt (f 5).toInt w))) 5 (iZ ((f 5).toInt + 1))) 6
    (iZ (jZ (f 3).toInt (f 4).toInt (hA2 (f 0).toInt (f 1).toInt (f 5).toInt w) (hP2 (f 0).toInt (f 2).toInt (f 5).toInt w) w))
theorem jZ_rng (wr ht a p w : Int) : 0 ≤ jZ wr ht a p w ∧ jZ wr ht a p w ≤ 2 := by unfold jZ; omega
theorem hA2_rng (k a n w : Int) : 0 ≤ hA2 k a n w ∧ hA2 k a n w ≤ 99 := kZ_rng _
theorem hP2_rng (k p n w : Int) : 0 ≤ hP2 k p n w ∧ hP2 k p n w ≤ 99 := kZ_rng _
theorem hM_2 {k wr ht a p b n w : Int} (h : 0 ≤ a ∧ a ≤ 99 ∧ 0 ≤ p ∧ p ≤ 99) : hM k wr ht (mZ a p b) n w = mZ (hA2 k a n w) (hP2 k p n w) (jZ wr ht (hA2 k a n w) (hP2 k p n w) w) := by
  obtain ⟨e1, e2, e3⟩ := mZ_d (b := b) h
  unfold hM hA hP
  rw [e1, e2]
  rfl
theorem listF_v {f : Nat → Int32} {w N : Int} (hw : wfF N f) (hN : N < 1000000) : (listF f w 1).toInt = hA2 (f 0).toInt (f 1).toInt (f 5).toInt w ∧ (listF f w 2).toInt = hP2 (f 0).toInt (f 2).toInt (f 5).toInt w ∧ (listF f w 5).toInt = (f 5).toInt + 1 ∧ (listF f w 6).toInt = jZ (f 3).toInt (f 4).toInt (hA2 (f 0).toInt (f 1).toInt (f 5).toInt w) (hP2 (f 0).toInt (f 2).toInt (f 5).toInt w) w ∧ ∀ j, j ≠ 1 → j ≠ 2 → j ≠ 5 → j ≠ 6 → listF f w j = f j := by
  obtain ⟨h0, h1, h2, h3, h4, h5, h6, -⟩ := hw
  have g1 := hA2_rng (f 0).toInt (f 1).toInt (f 5).toInt w
  have g2 := hP2_rng (f 0).toInt (f 2).toInt (f 5).toInt w
  have g3 := jZ_rng (f 3).toInt (f 4).toInt (hA2 (f 0).toInt (f 1).toInt (f 5).toInt w) (hP2 (f 0).toInt (f 2).toInt (f 5).toInt w) w
  refine ⟨?_, ?_, ?_, ?_, fun j a1 a2 a5 a6 => by simp [listF, upd, a1, a2, a5, a6]⟩
  · simp only [listF, upd]; rw [if_neg (by omega), if_neg (by omega), if_neg (by omega), if_pos trivial, iZ_i (by omega)]
  · simp only [listF, upd]; rw [if_neg (by omega), if_neg (by omega), if_pos trivial, iZ_i (by omega)]
  · simp only [listF, upd]; rw [if_neg (by omega), if_pos trivial, iZ_i (by omega)]
  · simp only [listF, upd]; rw [if_pos trivial, iZ_i (by omega)]
theorem wfF_list {f : Nat → Int32} {w N : Int} (hw : wfF N f) (hN : N < 1000000) : wfF (N + 1) (listF f w) := by
  obtain ⟨e1, e2, e5, e6, eo⟩ := listF_v (w := w) hw hN
  have g1 := hA2_rng (f 0).toInt (f 1).toInt (f 5).toInt w
  have g2 := hP2_rng (f 0).toInt (f 2).toInt (f 5).toInt w
  have g3 := jZ_rng (f 3).toInt (f 4).toInt (hA2 (f 0).toInt (f 1).toInt (f 5).toInt w) (hP2 (f 0).toInt (f 2).toInt (f 5).toInt w) w
  obtain ⟨h0, h1, h2, h3, h4, h5, h6, h7, h8, h9, ha, hb⟩ := wfF_mono (M := N + 1) (by omega) hw
  have o15 := eo 15 (by omega) (by omega) (by omega) (by omega)
  have o40 := eo 40 (by omega) (by omega) (by omega) (by omega)
  have h5' := hw.2.2.2.2.2.1
  unfold wfF
  rw [e1, e2, e5, e6, o15, o40, eo 0 (by omega) (by omega) (by omega) (by omega), eo 3 (by omega) (by omega) (by omega) (by omega), eo 4 (by omega) (by omega) (by omega) (by omega)]
  refine ⟨h0, g1, g2, h3, h4, ⟨by omega, by omega⟩, g3, fun j hj => by rw [eo _ (by omega) (by omega) (by omega) (by omega)]; exact h7 j hj, h8, h9, fun j hj => ?_, fun j hj => ?_⟩
  · rw [eo _ (by omega) (by omega) (by omega) (by omega), eo _ (by omega) (by omega) (by omega) (by omega)]; exact ha j hj
  · rw [eo _ (by omega) (by omega) (by omega) (by omega), eo _ (by omega) (by omega) (by omega) (by omega), eo _ (by omega) (by omega) (by omega) (by omega), eo _ (by omega) (by omega) (by omega) (by omega)]; exact hb j hj
theorem listenM_o {c : JM} {b : Nat} {w : Int} {o k : Nat} (h : o ≠ b ∨ (k ≠ 3 ∧ k ≠ 4)) : (listenM c b w).1 o k = c.1 o k := by
  simp only [listenM, jI_i]
  rw [if_neg (by omega), if_neg (by omega)]
theorem jrep_listen {c : JM} {b : Nat} {f : Nat → Int32} {w N : Int} (hw : wfF N f) (hN : N < 1000000) (hj : jrep c b f) : jrep (listenM c b w) b (listF f w) := by
  obtain ⟨e1, e2, e5, e6, eo⟩ := listF_v (w := w) hw hN
  have g1 := hA2_rng (f 0).toInt (f 1).toInt (f 5).toInt w
  have g2 := hP2_rng (f 0).toInt (f 2).toInt (f 5).toInt w
  have g3 := jZ_rng (f 3).toInt (f 4).toInt (hA2 (f 0).toInt (f 1).toInt (f 5).toInt w) (hP2 (f 0).toInt (f 2).toInt (f 5).toInt w) w
  obtain ⟨h0, h1, h2, h3, h4, h5, h6, h7, h8, h9⟩ := hj
  have o15 := eo 15 (by omega) (by omega) (by omega) (by omega)
  have o40 := eo 40 (by omega) (by omega) (by omega) (by omega)
  have r1 := hw.2.1
  have r2 := hw.2.2.1
  have e3 : (listenM c b w).1 b 3 = iZ (hM (c.1 b 0).toInt (c.1 b 1).toInt (c.1 b 2).toInt (c.1 b 3).toInt (c.1 b 4).toInt w) := by simp [listenM, jI_i]
  have e4 : (listenM c b w).1 b 4 = iZ ((c.1 b 4).toInt + 1) := by simp [listenM, jI_i]
  have hm := hM_rng (c.1 b 0).toInt (c.1 b 1).toInt (c.1 b 2).toInt (c.1 b 3).toInt (c.1 b 4).toInt w
  unfold jrep
  rw [e1, e2, e6, o15, o40, eo 0 (by omega) (by omega) (by omega) (by omega), eo 3 (by omega) (by omega) (by omega) (by omega), eo 4 (by omega) (by omega) (by omega) (by omega), e3, iZ_i (by omega), e4, listenM_o (by omega), listenM_o (by omega), listenM_o (by omega), listenM_o (by omega), listenM_o (by omega)]
  refine ⟨h0, h1, h2, ?_, ?_, h5, h6, fun j hj => ?_, fun j hj => ?_, fun j hj => ?_⟩
  · rw [h0, h1, h2, h3, h4, hM_2 (by omega)]
  · rw [h4]; simp [listF, upd]
  · rw [listenM_o (by omega), eo _ (by omega) (by omega) (by omega) (by omega)]; exact h7 j hj
  · rw [listenM_o (by omega), eo _ (by omega) (by omega) (by omega) (by omega)]; exact h8 j hj
  · rw [listenM_o (by omega), listenM_o (by omega), eo _ (by omega) (by omega) (by omega) (by omega), eo _ (by omega) (by omega) (by omega) (by omega), eo _ (by omega) (by omega) (by omega) (by omega), eo _ (by omega) (by omega) (by omega) (by omega)]; exact h9 j hj
/-- remember -/
theorem remM_b {c : JM} {b k : Nat} (h : k ≠ 6) : (remM c b).1 b k = c.1 b k := by
  unfold remM
  split <;> simp [pushM, jI_i, jC, h]
theorem remM_v {c : JM} {b k : Nat} : (remM c b).1 (b + 1) k = c.1 (b + 1) k := by
  unfold remM
  split <;> simp [pushM, jI_i, jC]
theorem remM_n {c : JM} {b k : Nat} : (remM c b).1 (b + 2) k = c.1 (b + 2) k := by
  unfold remM
  split <;> simp [pushM, jI_i, jC]
theorem remM_o {c : JM} {b o : Nat} (h : o ≠ b) (h3 : o ≠ b + 3) (h4 : o ≠ b + 4) : (remM c b).1 o = c.1 o := by
  funext k
  unfold remM
  split <;> simp [pushM, jI_i, jC, h, h3, h4]
theorem remM_l {c : JM} {b : Nat} : (remM c b).2 = c.2 := by
  unfold remM
  split <;> rfl
theorem pushF_v {f : Nat → Int32} {n : Nat} (hn : n < 8) : pushF f n (41 + 4 * n) = f 1 ∧ pushF f n (41 + 4 * n + 1) = f 2 ∧ pushF f n (41 + 4 * n + 2) = f 5 ∧ pushF f n (41 + 4 * n + 3) = f 6 ∧ pushF f n 40 = iZ ((n : Int) + 1) ∧ ∀ j, j ≠ 40 → (j < 41 + 4 * n ∨ 41 + 4 * n + 3 < j) → pushF f n j = f j := by
  refine ⟨?_, ?_, ?_, ?_, ?_, fun j h1 h2 => ?_⟩
  · simp only [pushF, upd]; rw [if_neg (by omega), if_neg (by omega), if_neg (by omega), if_neg (by omega), if_pos trivial]
  · simp only [pushF, upd]; rw [if_neg (by omega), if_neg (by omega), if_neg (by omega), if_pos trivial]
  · simp only [pushF, upd]; rw [if_neg (by omega), if_neg (by omega), if_pos trivial]
  · simp only [pushF, upd]; rw [if_neg (by omega), if_pos trivial]
  · simp only [pushF, upd]; rw [if_pos trivial]
  · simp only [pushF, upd]; rw [if_neg (by omega), if_neg (by omega), if_neg (by omega), if_neg (by omega), if_neg (by omega)]
theorem wfF_push {f : Nat → Int32} {n : Nat} {N : Int} (hw : wfF N f) (hn : n < 8) (hb : ∀ j : Nat, j < n → (0 ≤ (f (41 + 4 * j)).toInt ∧ (f (41 + 4 * j)).toInt ≤ 99) ∧ (0 ≤ (f (41 + 4 * j + 1)).toInt ∧ (f (41 + 4 * j + 1)).toInt ≤ 99) ∧ (0 ≤ (f (41 + 4 * j + 2)).toInt ∧ (f (41 + 4 * j + 2)).toInt ≤ N) ∧ (0 ≤ (f (41 + 4 * j + 3)).toInt ∧ (f (41 + 4 * j + 3)).toInt ≤ 2)) : wfF N (pushF f n) := by
  obtain ⟨p1, p2, p3, p4, p5, po⟩ := pushF_v (f := f) hn
  obtain ⟨h0, h1, h2, h3, h4, h5, h6, h7, h8, h9, ha, -⟩ := hw
  unfold wfF
  rw [po 0 (by omega) (by omega), po 1 (by omega) (by omega), po 2 (by omega) (by omega), po 3 (by omega) (by omega), po 4 (by omega) (by omega), po 5 (by omega) (by omega), po 6 (by omega) (by omega), po 15 (by omega) (by omega), p5, iZ_i (by omega)]
  refine ⟨h0, h1, h2, h3, h4, h5, h6, fun j hj => by rw [po _ (by omega) (by omega)]; exact h7 j hj, h8, by omega, fun j hj => ?_, fun j hj => ?_⟩
  · rw [po _ (by omega) (by omega), po _ (by omega) (by omega)]; exact ha j hj
  · by_cases e : j = n
    · subst e
      rw [p1, p2, p3, p4]
      exact ⟨h1, h2, h5, h6⟩
    · rw [po _ (by omega) (by omega), po _ (by omega) (by omega), po _ (by omega) (by omega), po _ (by omega) (by omega)]
      exact hb j (by omega)
theorem shF_v {f : Nat → Int32} : (shF f 40) = 7 ∧ (∀ j, j < 40 → shF f j = f j) ∧ ∀ j, 41 ≤ j → j < 69 → shF f j = f (j + 4) := by
  refine ⟨by simp [shF], fun j hj => ?_, fun j h1 h2 => ?_⟩
  · simp only [shF]; rw [if_neg (by omega), if_neg (by omega)]
  · simp only [shF]; rw [if_pos ⟨h1, h2⟩]
theorem wfF_sh {f : Nat → Int32} {N : Int} (hw : wfF N f) (h8 : (f 40).toInt = 8) : wfF N (shF f) := by
  obtain ⟨s40, so, sp⟩ := shF_v (f := f)
  obtain ⟨h0, h1, h2, h3, h4, h5, h6, h7, h8', h9, ha, hb⟩ := hw
  unfold wfF
  rw [so 0 (by omega), so 1 (by omega), so 2 (by omega), so 3 (by omega), so 4 (by omega), so 5 (by omega), so 6 (by omega), so 15 (by omega), s40]
  have e7 : (7 : Int32).toInt = 7 := rfl
  refine ⟨h0, h1, h2, h3, h4, h5, h6, fun j hj => by rw [so _ (by omega)]; exact h7 j hj, h8', by omega, fun j hj => ?_, fun j hj => ?_⟩
  · rw [so _ (by omega), so _ (by omega)]; exact ha j hj
  · rw [sp _ (by omega) (by omega), sp _ (by omega) (by omega), sp _ (by omega) (by omega), sp _ (by omega) (by omega)]
    have := hb (j + 1) (by omega)
    rw [show 41 + 4 * (j + 1) = 41 + 4 * j + 4 by omega] at this
    exact this
theorem wfF_rem {f : Nat → Int32} {N : Int} (hw : wfF N f) : wfF N (remF f) := by
  have h9 := hw.2.2.2.2.2.2.2.2.2.1
  unfold remF
  split
  · rename_i h8
    have hs := wfF_sh hw h8
    refine wfF_push hs (by omega) (fun j hj => ?_)
    exact hs.2.2.2.2.2.2.2.2.2.2.2 j (by rw [shF_v.1]; show (j : Int) < 7; omega)
  · exact wfF_push hw (by omega) (fun j hj => hw.2.2.2.2.2.2.2.2.2.2.2 j (by omega))
theorem jrep_push {c : JM} {b n : Nat} {f : Nat → Int32} (hn : n < 8) (hj : jrep c b f) (hf : (f 15).toInt ≤ 6) (h9 : ∀ j : Nat, j < n → (c.1 (b + 3) j).toInt = mZ (f (41 + 4 * j)).toInt (f (41 + 4 * j + 1)).toInt (f (41 + 4 * j + 3)).toInt ∧ c.1 (b + 4) j = f (41 + 4 * j + 2)) : jrep (pushM c b n) b (pushF f n) := by
  obtain ⟨p1, p2, p3, p4, p5, po⟩ := pushF_v (f := f) hn
  obtain ⟨h0, h1, h2, h3, h4, h5, h6, h7, h8, -⟩ := hj
  unfold jrep
  rw [po 0 (by omega) (by omega), po 1 (by omega) (by omega), po 2 (by omega) (by omega), po 3 (by omega) (by omega), po 4 (by omega) (by omega), po 5 (by omega) (by omega), po 6 (by omega) (by omega), po 15 (by omega) (by omega), p5, iZ_i (by omega)]
  refine ⟨by simp [pushM, jI_i, h0], by simp [pushM, jI_i, h1], by simp [pushM, jI_i, h2], by simp [pushM, jI_i, h3], by simp [pushM, jI_i, h4], by simp [pushM, jI_i, h5], by simp [pushM, jI_i], fun j hj => ?_, fun j hj => ?_, fun j hj => ?_⟩
  · rw [po _ (by omega) (by omega), ← h7 j hj]; simp [pushM, jI_i]
  · rw [po _ (by omega) (by omega), ← h8 j hj]; simp [pushM, jI_i]
  · by_cases e : j = n
    · subst e
      rw [p1, p2, p3, p4, ← h3, ← h4]
      exact ⟨by simp [pushM, jI_i], by simp [pushM, jI_i]⟩
    · rw [po _ (by omega) (by omega), po _ (by omega) (by omega), po _ (by omega) (by omega), po _ (by omega) (by omega)]
      obtain ⟨k1, k2⟩ := h9 j (by omega)
      rw [← k1, ← k2]
      exact ⟨by simp [pushM, jI_i, e], by simp [pushM, jI_i, e]⟩
theorem jrep_rem {c : JM} {b : Nat} {f : Nat → Int32} {N : Int} (hw : wfF N f) (hj : jrep c b f) : jrep (remM c b) b (remF f) := by
  have w9 := hw.2.2.2.2.2.2.2.2.2.1
  have w15 := hw.2.2.2.2.2.2.2.2.1
  have h6 := hj.2.2.2.2.2.2.1
  have h9 := hj.2.2.2.2.2.2.2.2.2
  unfold remM remF
  rw [h6]
  by_cases e : (f 40).toInt = 8
  · rw [if_pos (by omega), if_pos e]
    obtain ⟨s40, so, sp⟩ := shF_v (f := f)
    have e7 : (7 : Int32).toInt = 7 := rfl
    refine jrep_push (by omega) ?_ (by rw [so 15 (by omega)]; omega) (fun j hj2 => ?_)
    · obtain ⟨h0, h1, h2, h3, h4, h5, h6, h7, h8, h9⟩ := hj
      unfold jrep
      rw [so 0 (by omega), so 1 (by omega), so 2 (by omega), so 3 (by omega), so 4 (by omega), so 5 (by omega), so 6 (by omega), so 15 (by omega), s40]
      refine ⟨by simp [jI_i, jC, h0], by simp [jI_i, jC, h1], by simp [jI_i, jC, h2], by simp [jI_i, jC, h3], by simp [jI_i, jC, h4], by simp [jI_i, jC, h5], by simp [jI_i], fun j hj => ?_, fun j hj => ?_, fun j hj => ?_⟩
      · rw [so _ (by omega), ← h7 j hj]; simp [jI_i, jC]
      · rw [so _ (by omega), ← h8 j hj]; simp [jI_i, jC]
      · rw [sp _ (by omega) (by omega), sp _ (by omega) (by omega), sp _ (by omega) (by omega), sp _ (by omega) (by omega)]
        obtain ⟨k1, k2⟩ := h9 (j + 1) (by omega)
        rw [show 41 + 4 * (j + 1) = 41 + 4 * j + 4 by omega] at k1 k2
        rw [show 41 + 4 * j + 4 = 41 + 4 * j + 4 from rfl, show 41 + 4 * j + 1 + 4 = 41 + 4 * j + 4 + 1 by omega, show 41 + 4 * j + 3 + 4 = 41 + 4 * j + 4 + 3 by omega, show 41 + 4 * j + 2 + 4 = 41 + 4 * j + 4 + 2 by omega, ← k1, ← k2]
        constructor <;> simp [jI_i, jC, va_cpy, show j < 7 by omega, show 1 + j = j + 1 by omega]
    · rw [sp _ (by omega) (by omega), sp _ (by omega) (by omega), sp _ (by omega) (by omega), sp _ (by omega) (by omega)]
      obtain ⟨k1, k2⟩ := h9 (j + 1) (by omega)
      rw [show 41 + 4 * (j + 1) = 41 + 4 * j + 4 by omega] at k1 k2
      rw [show 41 + 4 * j + 4 = 41 + 4 * j + 4 from rfl, show 41 + 4 * j + 1 + 4 = 41 + 4 * j + 4 + 1 by omega, show 41 + 4 * j + 3 + 4 = 41 + 4 * j + 4 + 3 by omega, show 41 + 4 * j + 2 + 4 = 41 + 4 * j + 4 + 2 by omega, ← k1, ← k2]
      constructor <;> simp [jI_i, jC, va_cpy, show j < 7 by omega, show 1 + j = j + 1 by omega]
  · rw [if_neg (by omega), if_neg e]
    exact jrep_push (by omega) hj (by omega) (fun j hj2 => h9 j (by omega))

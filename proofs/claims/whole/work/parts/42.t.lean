/-! ===== talks: how far it is, and the first row ===== -/
def sayB (br : Bool) (w : Nat) : Bool := !(br && (w == 3 || w == 4))
abbrev nB (k wr ht a p n : Int) (w : Nat) : Int := jZ wr ht (hA2 k a n w) (hP2 k p n w) w
/-- exactly so many words to the end, he being OUT between -/
def rc (k wr ht e : Int) (br : Bool) : Nat → Int → Int → Int → Prop
  | 0, _, _, _ => False
  | d + 1, a, p, n => ∃ w : Nat, w < 6 ∧ sayB br w = true ∧ ((d = 0 ∧ nB k wr ht a p n w = e) ∨ (d ≠ 0 ∧ nB k wr ht a p n w = 0 ∧ rc k wr ht e br d (hA2 k a n w) (hP2 k p n w) (n + 1)))
def cw (k wr ht e : Int) (br : Bool) (d : Nat) (a p n : Int) (w : Nat) : Prop := sayB br w = true ∧ ((d = 0 ∧ nB k wr ht a p n w = e) ∨ (d ≠ 0 ∧ nB k wr ht a p n w = 0 ∧ rc k wr ht e br d (hA2 k a n w) (hP2 k p n w) (n + 1)))
theorem rc_s {k wr ht e : Int} {br : Bool} {d : Nat} {a p n : Int} : rc k wr ht e br (d + 1) a p n ↔ ∃ w : Nat, w < 6 ∧ cw k wr ht e br d a p n w := Iff.rfl
def rowR (k wr ht e : Int) (br : Bool) : Nat → Int → Int → Int → (Nat → Int) → Prop
  | 0, _, _, _, _ => True
  | d + 1, a, p, n, g => ∃ w : Nat, w < 6 ∧ g 0 = (w : Int) ∧ cw k wr ht e br d a p n w ∧ (∀ w', w' < w → ¬ cw k wr ht e br d a p n w') ∧ rowR k wr ht e br d (hA2 k a n w) (hP2 k p n w) (n + 1) (fun j => g (j + 1))
theorem rowR_eq {k wr ht e : Int} {br : Bool} : ∀ (d : Nat) (a p n : Int) (g g' : Nat → Int), rowR k wr ht e br d a p n g → rowR k wr ht e br d a p n g' → ∀ j, j < d → g j = g' j
  | 0, _, _, _, _, _, _, _, j, hj => absurd hj (by omega)
  | d + 1, a, p, n, g, g', h, h', j, hj => by
    obtain ⟨w, h1, h2, h3, h4, h5⟩ := h
    obtain ⟨w', h1', h2', h3', h4', h5'⟩ := h'
    have e1 : w = w' := by
      rcases Nat.lt_trichotomy w w' with q | q | q
      · exact absurd h3 (h4' w q)
      · exact q
      · exact absurd h3' (h4 w' q)
    subst e1
    cases j with
    | zero => rw [h2, h2']
    | succ j => exact rowR_eq d _ _ _ _ _ h5 h5' j (by omega)
theorem rowR_congr {k wr ht e : Int} {br : Bool} : ∀ (d : Nat) (a p n : Int) (g g' : Nat → Int), (∀ j, j < d → g j = g' j) → rowR k wr ht e br d a p n g → rowR k wr ht e br d a p n g'
  | 0, _, _, _, _, _, _, _ => trivial
  | d + 1, a, p, n, g, g', hg, h => by
    obtain ⟨w, h1, h2, h3, h4, h5⟩ := h
    exact ⟨w, h1, by rw [← hg 0 (by omega)]; exact h2, h3, h4, rowR_congr d _ _ _ _ _ (fun j hj => hg (j + 1) (by omega)) h5⟩
theorem rowR_rc {k wr ht e : Int} {br : Bool} {d : Nat} {a p n : Int} {g : Nat → Int} (h : rowR k wr ht e br (d + 1) a p n g) : rc k wr ht e br (d + 1) a p n := by
  obtain ⟨w, h1, h2, h3, h4, h5⟩ := h
  exact ⟨w, h1, h3⟩
theorem rowR_w {k wr ht e : Int} {br : Bool} : ∀ (d : Nat) (a p n : Int) (g : Nat → Int), rowR k wr ht e br d a p n g → ∀ j, j < d → 0 ≤ g j ∧ g j ≤ 5
  | 0, _, _, _, _, _, j, hj => absurd hj (by omega)
  | d + 1, a, p, n, g, h, j, hj => by
    obtain ⟨w, h1, h2, h3, h4, h5⟩ := h
    cases j with
    | zero => rw [h2]; omega
    | succ j => exact rowR_w d _ _ _ _ h5 j (by omega)
theorem aZ_par {k w n n' : Int} (h : n % 2 = n' % 2) : aZ k w n = aZ k w n' := by unfold aZ; rw [h]
theorem pZ_par {k w n n' : Int} (h : n % 2 = n' % 2) : pZ k w n = pZ k w n' := by unfold pZ; rw [h]
theorem hA2_par {k a w n n' : Int} (h : n % 2 = n' % 2) : hA2 k a n w = hA2 k a n' w := by unfold hA2; rw [aZ_par h]
theorem hP2_par {k p w n n' : Int} (h : n % 2 = n' % 2) : hP2 k p n w = hP2 k p n' w := by unfold hP2; rw [pZ_par h]
theorem nB_par {k wr ht a p n n' : Int} {w : Nat} (h : n % 2 = n' % 2) : nB k wr ht a p n w = nB k wr ht a p n' w := by unfold nB; rw [hA2_par h, hP2_par h]
theorem rc_par {k wr ht e : Int} {br : Bool} : ∀ (d : Nat) (a p n n' : Int), n % 2 = n' % 2 → rc k wr ht e br d a p n → rc k wr ht e br d a p n'
  | 0, _, _, _, _, _, h => h
  | d + 1, a, p, n, n', hn, h => by
    obtain ⟨w, h1, h2, h3⟩ := h
    refine ⟨w, h1, h2, ?_⟩
    rw [← nB_par hn, ← hA2_par hn, ← hP2_par hn]
    rcases h3 with h3 | ⟨h3, h4, h5⟩
    · exact Or.inl h3
    · exact Or.inr ⟨h3, h4, rc_par d _ _ _ _ (by omega) h5⟩
theorem kZ_le {x y : Int} (h : x ≤ y) (h0 : 0 ≤ y) : kZ x ≤ y := by unfold kZ; omega
theorem kZ_1 {x y : Int} (h : 1 ≤ y) (hk : y ≤ kZ x) : y ≤ x := by unfold kZ at hk; omega
theorem jZ_1 {wr ht a p w : Int} (h : jZ wr ht a p w = 1) : w = 1 ∧ ht ≤ p := by unfold jZ at h; omega
/-- even the proudest words leave too little -/
theorem hop {k wr ht mp dp : Int} {br : Bool} (hht : 1 ≤ ht) (hmp : 0 ≤ mp) (hm : ∀ (w : Nat) (n : Int), w < 6 → pZ k w n ≤ mp) (hd : ∀ n : Int, pZ k 1 n ≤ dp) : ∀ (d : Nat) (a p n : Int), 0 ≤ p → rc k wr ht 1 br (d + 1) a p n → ht ≤ p + (d : Int) * mp + dp
  | 0, a, p, n, hp, h => by
    obtain ⟨w, h1, h2, h3⟩ := h
    rcases h3 with ⟨-, h4⟩ | ⟨h3, -⟩
    · obtain ⟨hw, h5⟩ := jZ_1 h4
      rw [hw] at h5
      have h6 := kZ_1 hht h5
      have h7 := hd n
      simp only [Int.natCast_zero, Int.zero_mul] at *
      omega
    · exact absurd rfl h3
  | d + 1, a, p, n, hp, h => by
    obtain ⟨w, h1, h2, h3⟩ := h
    rcases h3 with ⟨h3, -⟩ | ⟨-, h4, h5⟩
    · omega
    · have h6 := hop hht hmp hm hd d _ _ _ (hP2_rng k p n w).1 h5
      have h7 : hP2 k p n w ≤ p + mp := kZ_le (by have := hm w n h1; omega) (by omega)
      have h8 : ((d + 1 : Nat) : Int) * mp = (d : Int) * mp + mp := by rw [Int.natCast_add, Int.add_mul]; omega
      omega
theorem pZ_0 {k w n : Int} : pZ k w n ≤ pZ k w 0 ∨ pZ k w n ≤ 0 := by unfold pZ; omega
theorem pZ_d {k n : Int} : pZ k 1 n ≤ pZ k 1 0 := by
  have e : pP 1 = 3 := rfl
  unfold pZ; rw [e]; omega
/-- marks -/
def mkS (l : Nat) (n : Int) : Nat := l + (if n % 2 = 0 then 0 else 13)
def mkI (i : Nat) : Int32 := (1 : Int32) <<< (iZ (i : Int) &&& 31)
theorem mk_ne : ∀ i j : Fin 26, i ≠ j → mkI (i : Nat) &&& mkI (j : Nat) = 0 := by decide +kernel
theorem mkS_lt {l : Nat} {n : Int} (h : l ≤ 12) : mkS l n < 26 := by unfold mkS; split <;> omega
theorem mkS_eq {l l' : Nat} {n n' : Int} (h : l ≤ 12) (h' : l' ≤ 12) (h1 : 1 ≤ l) (h1' : 1 ≤ l') (e : mkS l n = mkS l' n') : l = l' ∧ n % 2 = n' % 2 := by
  unfold mkS at e
  split at e <;> split at e <;> omega
theorem ior_and (x y z : Int32) : (x ||| y) &&& z = (x &&& z) ||| (y &&& z) := Int32.toBitVec_inj.1 BitVec.and_or_distrib_right
theorem mk_or {x : Int32} {i j : Nat} (hi : i < 26) (hj : j < 26) (hij : i ≠ j) (h : (x ||| mkI i) &&& mkI j ≠ 0) : x &&& mkI j ≠ 0 := by
  intro h0
  apply h
  rw [ior_and, h0, mk_ne ⟨i, hi⟩ ⟨j, hj⟩ (fun z => hij (by have := congrArg Fin.val z; exact this))]
  rfl
def tk (k wr ht e mp dp : Int) (br : Bool) (μ : JM) : Prop := (μ.1 1 0).toInt = k ∧ (μ.1 1 1).toInt = wr ∧ (μ.1 1 2).toInt = ht ∧ ¬ μ.1 23 2 = 0 ∧ (μ.1 23 3).toInt = e ∧ (μ.1 23 4).toInt = (if br = true then 1 else 0) ∧ (μ.1 23 5).toInt = mp ∧ (μ.1 23 6).toInt = dp
def fr45 (c μ : JM) : Prop := (∀ o, o ≠ 24 → o ≠ 25 → μ.1 o = c.1 o) ∧ μ.2 = c.2
theorem fr_rf (c : JM) : fr45 c c := ⟨fun _ _ _ => rfl, rfl⟩
theorem fr_tr {a b c : JM} (h : fr45 a b) (h' : fr45 b c) : fr45 a c := ⟨fun o h1 h2 => (h'.1 o h1 h2).trans (h.1 o h1 h2), h'.2.trans h.2⟩
theorem fr_24 {c : JM} {k : Nat} {x : Int32} : fr45 c (jI c 24 k x) := ⟨fun o h _ => jI_ne h, rfl⟩
theorem fr_25 {c : JM} {k : Nat} {x : Int32} : fr45 c (jI c 25 k x) := ⟨fun o _ h => jI_ne h, rfl⟩
theorem tk_fr {k wr ht e mp dp : Int} {br : Bool} {c μ : JM} (h : tk k wr ht e mp dp br c) (hf : fr45 c μ) : tk k wr ht e mp dp br μ := by
  unfold tk
  rw [hf.1 1 (by omega) (by omega), hf.1 23 (by omega) (by omega)]
  exact h
/-- what failed is marked, and nothing else -/
def FI (k wr ht e : Int) (br : Bool) (μ : JM) : Prop := ∀ (a p n : Int) (l : Nat), (0 ≤ a ∧ a ≤ 99 ∧ 0 ≤ p ∧ p ≤ 99) → (1 ≤ l ∧ l ≤ 12) → (μ.1 25 (a * 100 + p).toNat) &&& mkI (mkS l n) ≠ 0 → ¬ rc k wr ht e br l a p n
theorem FI_24 {k wr ht e : Int} {br : Bool} {μ : JM} {j : Nat} {x : Int32} (h : FI k wr ht e br μ) : FI k wr ht e br (jI μ 24 j x) := by
  intro a p n l hr hl hb
  rw [jI_ne (by omega)] at hb
  exact h a p n l hr hl hb
theorem FI_25 {k wr ht e : Int} {br : Bool} {μ : JM} {a p n : Int} {l : Nat} (hr : 0 ≤ a ∧ a ≤ 99 ∧ 0 ≤ p ∧ p ≤ 99) (hl : 1 ≤ l ∧ l ≤ 12) (h : FI k wr ht e br μ) (hn : ¬ rc k wr ht e br l a p n) : FI k wr ht e br (jI μ 25 (a * 100 + p).toNat (μ.1 25 (a * 100 + p).toNat ||| mkI (mkS l n))) := by
  intro a' p' n' l' hr' hl' hb
  rw [jI_i] at hb
  by_cases e1 : (a' * 100 + p').toNat = (a * 100 + p).toNat
  · rw [if_pos ⟨rfl, e1⟩] at hb
    obtain rfl : a' = a := by omega
    obtain rfl : p' = p := by omega
    by_cases e2 : mkS l n = mkS l' n'
    · obtain ⟨rfl, e3⟩ := mkS_eq hl.2 hl'.2 hl.1 hl'.1 e2
      exact fun hh => hn (rc_par _ _ _ _ _ e3.symm hh)
    · exact h a' p' n' l' hr' hl' (mk_or (mkS_lt hl.2) (mkS_lt hl'.2) e2 hb)
  · rw [if_neg (fun z => e1 z.2)] at hb
    exact h a' p' n' l' hr' hl' hb
theorem FI_0 {k wr ht e : Int} {br : Bool} {μ : JM} (h : ∀ j, j < 10000 → μ.1 25 j = 0) : FI k wr ht e br μ := by
  intro a p n l hr hl hb
  rw [h _ (by omega)] at hb
  exact absurd Int32.zero_and hb
theorem re_R {Mc : JMth} (d : Nat) (h1 : Mc.2.2.2.2.1 + 1 ≤ 10) (h2 : 8 + (Mc.2.2.1 + 11) + Mc.2.2.2.2.2 ≤ 300) : j_R (mX2_reaches d) Mc := ⟨by show _ ≤ 2 * (4 + d) + 2; omega, by show _ ≤ 60 * (4 + d) + 60; omega⟩
variable {G : JG}
set_option maxRecDepth 100000 in
set_option maxHeartbeats 4000000 in
theorem c_X2_isHopeless {c : JM} {k wr ht e mp dp : Int} {br : Bool} (hT : tk k wr ht e mp dp br c) (hmp : 0 ≤ mp ∧ mp ≤ 4) (hdp : -4 ≤ dp ∧ dp ≤ 4) {a p : Int} {d : Nat} (hr : 0 ≤ a ∧ a ≤ 99 ∧ 0 ≤ p ∧ p ≤ 99) (hd : d ≤ 11) {mv lv : Int32} (hm : mv.toInt = mZ a p 0) (hl : lv.toInt = (d : Int) + 1) : Con G shC mX2_isHopeless [.ref 23, .int mv, .int lv] c (j_b (e = 1 ∧ p + (d : Int) * mp + dp < ht) c c) := by
  obtain ⟨hk, hwr, hht, hjn, he, hbr, hmp1, hdp1⟩ := hT
  obtain ⟨d1, d2, d3⟩ := mZ_d (b := 0) hr
  have hm0 : 0 ≤ mZ a p 0 := by unfold mZ; omega
  have hmul : 0 ≤ (d : Int) * mp ∧ (d : Int) * mp ≤ 11 * 4 := ⟨Int.mul_nonneg (by omega) hmp.1, Int.mul_le_mul (by omega) hmp.2 hmp.1 (by omega)⟩
  refine Con_of [some (.ref 23), some (.int mv), some (.int lv), none] (by decide +kernel) (Nat.le_of_ble_eq_true rfl) (fun _ h => h) ?_
  refine J_iload_n (pc := 0) dX2_isHopeless_0 rfl ?_
  refine J_callSz (pc := 1) fC_X2_98 dX2_isHopeless_1 (c_X3_prideOf (mZ a p 0) hm (by omega)) rfl ⟨Nat.le_of_ble_eq_true rfl, Nat.le_of_ble_eq_true rfl⟩ rfl (Nat.le_of_ble_eq_true rfl) (fun z1 e1 => ?_)
  have q1 : z1.toInt = p := by rw [e1, d2]
  refine J_iload_n (pc := 4) dX2_isHopeless_4 rfl ?_
  refine J_iconst (pc := 5) (v := 1) dX2_isHopeless_5 (by decide) ?_
  refine J_isubW (pc := 6) ((d : Int) + 1) 1 hl rfl dX2_isHopeless_6 (by omega) (fun z6 e6 => ?_)
  have q6 : z6.toInt = (d : Int) := by omega
  refine J_aload_n (pc := 7) dX2_isHopeless_7 rfl ?_
  refine J_getI (pc := 8) fF_X2_78 rfl rfl dX2_isHopeless_8 ?_
  refine J_imulW (pc := 11) (d : Int) mp q6 hmp1 dX2_isHopeless_11 (by omega) (fun z11 e11 => ?_)
  refine J_iaddW (pc := 12) p ((d : Int) * mp) q1 e11 dX2_isHopeless_12 (by omega) (fun z12 e12 => ?_)
  refine J_aload_n (pc := 13) dX2_isHopeless_13 rfl ?_
  refine J_getI (pc := 14) fF_X2_75 rfl rfl dX2_isHopeless_14 ?_
  refine J_iaddW (pc := 17) (p + ((d : Int) * mp)) dp e12 hdp1 dX2_isHopeless_17 (by omega) (fun z17 e17 => ?_)
  refine J_istore_n (pc := 18) (lv' := [some (.ref 23), some (.int mv), some (.int lv), some (.int z17)]) dX2_isHopeless_18 (Nat.le_of_ble_eq_true rfl) rfl rfl ?_
  refine J_aload_n (pc := 19) dX2_isHopeless_19 rfl ?_
  refine J_getI (pc := 20) fF_X2_55 rfl rfl dX2_isHopeless_20 ?_
  refine J_iconst (pc := 23) (v := 1) dX2_isHopeless_23 (by decide) ?_
  refine J_icmp_neW (pc := 24) e 1 he rfl 49 dX2_isHopeless_24 (by decide) (fun h24 => ?_) (fun h24 => ?_)
  · refine J_iconst (pc := 49) (v := 0) dX2_isHopeless_49 (by decide) ?_
    refine J_zret (pc := 50) dX2_isHopeless_50 rfl (by decide) ?_
    exact Or.inr ⟨fun hh => by have h1 := hh.1; have h2 := hh.2; omega, rfl, rfl⟩
  · refine J_aload_n (pc := 27) dX2_isHopeless_27 rfl ?_
    refine J_getN1 (pc := 28) 1 fF_X2_18 rfl rfl (by assumption) dX2_isHopeless_28 ?_
    refine J_ifnull (pc := 31) dX2_isHopeless_31 ?_
    refine J_iload_n (pc := 34) dX2_isHopeless_34 rfl ?_
    refine J_aload_n (pc := 35) dX2_isHopeless_35 rfl ?_
    refine J_getN1 (pc := 36) 1 fF_X2_18 rfl rfl (by assumption) dX2_isHopeless_36 ?_
    refine J_getI (pc := 39) fF_X2_101 rfl rfl dX2_isHopeless_39 ?_
    refine J_icmp_geW (pc := 42) ((p + ((d : Int) * mp)) + dp) ht e17 hht 49 dX2_isHopeless_42 (by decide) (fun h42 => ?_) (fun h42 => ?_)
    · refine J_iconst (pc := 49) (v := 0) dX2_isHopeless_49 (by decide) ?_
      refine J_zret (pc := 50) dX2_isHopeless_50 rfl (by decide) ?_
      exact Or.inr ⟨fun hh => by have h1 := hh.1; have h2 := hh.2; omega, rfl, rfl⟩
    · refine J_iconst (pc := 45) (v := 1) dX2_isHopeless_45 (by decide) ?_
      refine J_goto (pc := 46) 50 dX2_isHopeless_46 (by decide) ?_
      refine J_zret (pc := 50) dX2_isHopeless_50 rfl (by decide) ?_
      exact Or.inl ⟨⟨by omega, by omega⟩, rfl, rfl⟩
set_option maxRecDepth 100000 in
set_option maxHeartbeats 4000000 in
theorem l_reach0 {k wr ht e mp dp : Int} {br : Bool} (hdp : True) {c : JM} {mv nv pv lv mk mo : Int32} {a p n : Int} {q : Nat} (hm : mv.toInt = mZ a p 0) (hn : nv.toInt = n) (hp : pv.toInt = (q : Int)) (hl : lv.toInt = (1 : Nat)) (hr : 0 ≤ a ∧ a ≤ 99 ∧ 0 ≤ p ∧ p ≤ 99) (hn0 : 0 ≤ n ∧ n + ((1 : Nat) : Int) < 300000) (hq : q + (1) ≤ 12) (hmk : mk = mkI (mkS (1) n)) (hmo : mo.toInt = a * 100 + p)  : ∀ r : Nat, ∀ (i : Nat) (wv : Int32) (μ : JM), i + r = 6 → wv.toInt = (i : Int) → FI k wr ht e br μ → tk k wr ht e mp dp br μ → fr45 c μ → (∀ w', w' < i → ¬ cw k wr ht e br 0 a p n w') → J G shC (mX2_reaches 0) 80 [some (.ref 23), some (.int mv), some (.int nv), some (.int pv), some (.int lv), some (.int mk), some (.int mo), some (.int wv), none, none] [] μ (fun v μ' => ((v = some (.int 1) ∧ rowR k wr ht e br (1) a p n (fun j => (μ'.1 24 (q + j)).toInt)) ∨ (¬ rc k wr ht e br (1) a p n ∧ v = some (.int 0))) ∧ FI k wr ht e br μ' ∧ fr45 c μ') := by
  intro r
  induction r with
  | zero =>
    intro i wv μ hr6 hi hFI hT hfr hno
    have hT' := hT
    obtain ⟨hk, hwr, hht, hjn, he, hbr, hmp1, hdp1⟩ := hT'
    have hbr0 := hbr
    obtain ⟨d1, d2, d3⟩ := mZ_d (b := 0) hr
    have hm0 : 0 ≤ mZ a p 0 := by unfold mZ; omega
    have g1 := hA2_rng k a n (i : Int)
    have g2 := hP2_rng k p n (i : Int)
    have g3 := jZ_rng wr ht (hA2 k a n (i : Int)) (hP2 k p n (i : Int)) (i : Int)
    obtain ⟨y1, y2, y3⟩ := mZ_d (b := (jZ wr ht (hA2 k a n (i : Int)) (hP2 k p n (i : Int)) (i : Int))) ⟨g1.1, g1.2, g2.1, g2.2⟩
    have hm1 : 0 ≤ (mZ (hA2 k a n (i : Int)) (hP2 k p n (i : Int)) (jZ wr ht (hA2 k a n (i : Int)) (hP2 k p n (i : Int)) (i : Int))) := by unfold mZ; omega
    refine J_iload (pc := 80) dX2_reaches_80 rfl ?_
    refine J_bipush (pc := 82) (v := 6) dX2_reaches_82 (by decide) ?_
    refine J_icmp_geW (pc := 84) (i : Int) 6 hi rfl 205 dX2_reaches_84 (by decide) (fun h84 => ?_) (fun h84 => ?_)
    · have hnr : ¬ rc k wr ht e br (1) a p n := fun hh => by obtain ⟨w, h1, h2⟩ := hh; exact hno w (by omega) h2
      obtain rfl : i = 6 := by omega
      refine J_aload_n (pc := 205) dX2_reaches_205 rfl ?_
      refine J_getR (pc := 206) 25 fF_X2_15 rfl rfl dX2_reaches_206 ?_
      refine J_iload (pc := 209) dX2_reaches_209 rfl ?_
      refine J_aload_n (pc := 211) dX2_reaches_211 rfl ?_
      refine J_getR (pc := 212) 25 fF_X2_15 rfl rfl dX2_reaches_212 ?_
      refine J_iload (pc := 215) dX2_reaches_215 rfl ?_
      refine J_callSe (pc := 217) fC_X2_91 dX2_reaches_217 (c_X3_at rfl (a * 100 + p).toNat (by omega) (by omega) (by omega)) rfl (re_R _ (Nat.le_of_ble_eq_true rfl) (Nat.le_of_ble_eq_true rfl)) rfl (Nat.le_of_ble_eq_true rfl) ?_
      refine J_iload (pc := 220) dX2_reaches_220 rfl ?_
      refine J_ior (pc := 222) dX2_reaches_222 ?_
      refine J_callSv (pc := 223) fC_X2_30 dX2_reaches_223 (c_X3_put rfl (a * 100 + p).toNat (by omega) (by omega) (by omega)) rfl (re_R _ (Nat.le_of_ble_eq_true rfl) (Nat.le_of_ble_eq_true rfl)) rfl (Nat.le_of_ble_eq_true rfl) (fun μ223 m223 => ?_)
      refine J_iconst (pc := 226) (v := 0) dX2_reaches_226 (by decide) ?_
      refine J_zret (pc := 227) dX2_reaches_227 rfl (by decide) ?_
      refine ⟨Or.inr ⟨hnr, rfl⟩, ?_, ?_⟩
      · rw [m223, hmk]; exact FI_25 hr ⟨by omega, by omega⟩ hFI hnr
      · rw [m223]; exact fr_tr hfr fr_25
    · exfalso; omega
  | succ r ihr =>
    intro i wv μ hr6 hi hFI hT hfr hno
    have hT' := hT
    obtain ⟨hk, hwr, hht, hjn, he, hbr, hmp1, hdp1⟩ := hT'
    have hbr0 := hbr
    obtain ⟨d1, d2, d3⟩ := mZ_d (b := 0) hr
    have hm0 : 0 ≤ mZ a p 0 := by unfold mZ; omega
    have g1 := hA2_rng k a n (i : Int)
    have g2 := hP2_rng k p n (i : Int)
    have g3 := jZ_rng wr ht (hA2 k a n (i : Int)) (hP2 k p n (i : Int)) (i : Int)
    obtain ⟨y1, y2, y3⟩ := mZ_d (b := (jZ wr ht (hA2 k a n (i : Int)) (hP2 k p n (i : Int)) (i : Int))) ⟨g1.1, g1.2, g2.1, g2.2⟩
    have hm1 : 0 ≤ (mZ (hA2 k a n (i : Int)) (hP2 k p n (i : Int)) (jZ wr ht (hA2 k a n (i : Int)) (hP2 k p n (i : Int)) (i : Int))) := by unfold mZ; omega
    refine J_iload (pc := 80) dX2_reaches_80 rfl ?_
    refine J_bipush (pc := 82) (v := 6) dX2_reaches_82 (by decide) ?_
    refine J_icmp_geW (pc := 84) (i : Int) 6 hi rfl 205 dX2_reaches_84 (by decide) (fun h84 => ?_) (fun h84 => ?_)
    · exfalso; omega
    · refine J_aload_n (pc := 87) dX2_reaches_87 rfl ?_
      refine J_getI (pc := 88) fF_X2_58 rfl rfl dX2_reaches_88 ?_
      refine J_if_eqW (pc := 91) (if br = true then 1 else 0) hbr 109 dX2_reaches_91 (by decide) (fun h91 => ?_) (fun h91 => ?_)
      · have hsay : sayB br i = true := by
          by_cases hb : br = true
          · rw [if_pos hb] at h91
            have h1 : i ≠ 3 ∧ i ≠ 4 := by omega
            simp [sayB, h1.1, h1.2]
          · simp [sayB, hb]
        refine J_aload_n (pc := 109) dX2_reaches_109 rfl ?_
        refine J_getN1 (pc := 110) 1 fF_X2_18 rfl rfl (hjn) dX2_reaches_110 ?_
        refine J_iload_n (pc := 113) dX2_reaches_113 rfl ?_
        refine J_iload_n (pc := 114) dX2_reaches_114 rfl ?_
        refine J_iload (pc := 115) dX2_reaches_115 rfl ?_
        refine J_callVz (pc := 117) fC_X2_95 rfl dX2_reaches_117 (c_X0_hear jarAt_1 (mZ a p 0) n (i : Int) hm hn hi (by omega)) rfl (re_R _ (Nat.le_of_ble_eq_true rfl) (Nat.le_of_ble_eq_true rfl)) rfl (Nat.le_of_ble_eq_true rfl) (fun z117 e117 => ?_)
        have q117 : z117.toInt = (mZ (hA2 k a n (i : Int)) (hP2 k p n (i : Int)) (jZ wr ht (hA2 k a n (i : Int)) (hP2 k p n (i : Int)) (i : Int))) := by rw [e117, hk, hwr, hht, hM_2 hr]
        refine J_istore (pc := 120) (lv' := [some (.ref 23), some (.int mv), some (.int nv), some (.int pv), some (.int lv), some (.int mk), some (.int mo), some (.int wv), some (.int z117), none]) dX2_reaches_120 (Nat.le_of_ble_eq_true rfl) rfl rfl ?_
        refine J_iload (pc := 122) dX2_reaches_122 rfl ?_
        refine J_iconst (pc := 124) (v := 1) dX2_reaches_124 (by decide) ?_
        refine J_icmp_neW (pc := 125) ((1 : Nat) : Int) 1 hl rfl 148 dX2_reaches_125 (by decide) (fun h125 => ?_) (fun h125 => ?_)
        · exfalso; omega
        · refine J_iload (pc := 128) dX2_reaches_128 rfl ?_
          refine J_callSz (pc := 130) fC_X2_40 dX2_reaches_130 (c_X3_beingOf (mZ (hA2 k a n (i : Int)) (hP2 k p n (i : Int)) (jZ wr ht (hA2 k a n (i : Int)) (hP2 k p n (i : Int)) (i : Int))) q117 (by omega)) rfl (re_R _ (Nat.le_of_ble_eq_true rfl) (Nat.le_of_ble_eq_true rfl)) rfl (Nat.le_of_ble_eq_true rfl) (fun z130 e130 => ?_)
          have q130 : z130.toInt = (jZ wr ht (hA2 k a n (i : Int)) (hP2 k p n (i : Int)) (i : Int)) := by rw [e130, y3]
          refine J_aload_n (pc := 133) dX2_reaches_133 rfl ?_
          refine J_getI (pc := 134) fF_X2_55 rfl rfl dX2_reaches_134 ?_
          refine J_icmp_neW (pc := 137) (jZ wr ht (hA2 k a n (i : Int)) (hP2 k p n (i : Int)) (i : Int)) e q130 he 144 dX2_reaches_137 (by decide) (fun h137 => ?_) (fun h137 => ?_)
          · refine J_iconst (pc := 144) (v := 0) dX2_reaches_144 (by decide) ?_
            refine J_goto (pc := 145) 180 dX2_reaches_145 (by decide) ?_
            refine J_istore (pc := 180) (lv' := [some (.ref 23), some (.int mv), some (.int nv), some (.int pv), some (.int lv), some (.int mk), some (.int mo), some (.int wv), some (.int z117), some (.int 0)]) dX2_reaches_180 (Nat.le_of_ble_eq_true rfl) rfl rfl ?_
            refine J_iload (pc := 182) dX2_reaches_182 rfl ?_
            refine J_if_eq_T (pc := 184) 199 dX2_reaches_184 (by decide) (by decide) ?_
            refine J_iincW' (pc := 199) (i : Int) hi (lv' := fun iq_ => [some (.ref 23), some (.int mv), some (.int nv), some (.int pv), some (.int lv), some (.int mk), some (.int mo), some (.int iq_), some (.int z117), some (.int 0)]) dX2_reaches_199 rfl (by omega) (by decide) (Nat.le_of_ble_eq_true rfl) rfl (fun _ => rfl) (fun z199 e199 => ?_)
            refine J_goto (pc := 202) 80 dX2_reaches_202 (by decide) ?_
            refine J_lv' (lv' := [some (.ref 23), some (.int mv), some (.int nv), some (.int pv), some (.int lv), some (.int mk), some (.int mo), some (.int z199), none, none]) (by repeat' constructor) (ihr (i + 1) z199 μ (by omega) (by omega) hFI hT hfr (fun w' hw' => ?_))
            have hcase : w' < i ∨ w' = i := by omega
            rcases hcase with hlt | rfl
            · exact hno w' hlt
            · exact fun hh => by rcases hh.2 with ⟨-, h1⟩ | ⟨h1, -⟩; exact h137 h1; exact absurd rfl h1
          · refine J_iconst (pc := 140) (v := 1) dX2_reaches_140 (by decide) ?_
            refine J_goto (pc := 141) 180 dX2_reaches_141 (by decide) ?_
            refine J_istore (pc := 180) (lv' := [some (.ref 23), some (.int mv), some (.int nv), some (.int pv), some (.int lv), some (.int mk), some (.int mo), some (.int wv), some (.int z117), some (.int 1)]) dX2_reaches_180 (Nat.le_of_ble_eq_true rfl) rfl rfl ?_
            refine J_iload (pc := 182) dX2_reaches_182 rfl ?_
            refine J_if_eq_F (pc := 184) 199 dX2_reaches_184 (by decide) (by decide) ?_
            refine J_aload_n (pc := 187) dX2_reaches_187 rfl ?_
            refine J_getR (pc := 188) 24 fF_X2_9 rfl rfl dX2_reaches_188 ?_
            refine J_iload_n (pc := 191) dX2_reaches_191 rfl ?_
            refine J_iload (pc := 192) dX2_reaches_192 rfl ?_
            refine J_callSv (pc := 194) fC_X2_30 dX2_reaches_194 (c_X3_put rfl q (by omega) (by omega) (by omega)) rfl (re_R _ (Nat.le_of_ble_eq_true rfl) (Nat.le_of_ble_eq_true rfl)) rfl (Nat.le_of_ble_eq_true rfl) (fun μ194 m194 => ?_)
            refine J_iconst (pc := 197) (v := 1) dX2_reaches_197 (by decide) ?_
            refine J_zret (pc := 198) dX2_reaches_198 rfl (by decide) ?_
            refine ⟨Or.inl ⟨rfl, i, by omega, ?_, ⟨hsay, Or.inl ⟨rfl, h137⟩⟩, hno, trivial⟩, ?_, ?_⟩
            · show (μ194.1 24 (q + 0)).toInt = _; rw [m194, jI_i, if_pos ⟨rfl, by omega⟩]; exact hi
            · rw [m194]; exact FI_24 hFI
            · rw [m194]; exact fr_tr hfr fr_24
      · refine J_iload (pc := 94) dX2_reaches_94 rfl ?_
        refine J_iconst (pc := 96) (v := 3) dX2_reaches_96 (by decide) ?_
        refine J_icmp_eqW (pc := 97) (i : Int) 3 hi rfl 199 dX2_reaches_97 (by decide) (fun h97 => ?_) (fun h97 => ?_)
        · refine J_iincW' (pc := 199) (i : Int) hi (lv' := fun iq_ => [some (.ref 23), some (.int mv), some (.int nv), some (.int pv), some (.int lv), some (.int mk), some (.int mo), some (.int iq_), none, none]) dX2_reaches_199 rfl (by omega) (by decide) (Nat.le_of_ble_eq_true rfl) rfl (fun _ => rfl) (fun z199 e199 => ?_)
          refine J_goto (pc := 202) 80 dX2_reaches_202 (by decide) ?_
          refine J_lv' (lv' := [some (.ref 23), some (.int mv), some (.int nv), some (.int pv), some (.int lv), some (.int mk), some (.int mo), some (.int z199), none, none]) (by repeat' constructor) (ihr (i + 1) z199 μ (by omega) (by omega) hFI hT hfr (fun w' hw' => ?_))
          have hcase : w' < i ∨ w' = i := by omega
          rcases hcase with hlt | rfl
          · exact hno w' hlt
          · exact fun hh => by have h1 := hh.1; have hb1 : br = true := (by by_cases hb : br = true; exact hb; rw [if_neg hb] at h91; exact absurd rfl h91); subst hb1; have h34 : w' = 3 ∨ w' = 4 := (by omega); rcases h34 with rfl | rfl <;> exact absurd h1 (by decide)
        · refine J_iload (pc := 100) dX2_reaches_100 rfl ?_
          refine J_iconst (pc := 102) (v := 4) dX2_reaches_102 (by decide) ?_
          refine J_icmp_neW (pc := 103) (i : Int) 4 hi rfl 109 dX2_reaches_103 (by decide) (fun h103 => ?_) (fun h103 => ?_)
          · have hsay : sayB br i = true := by
              by_cases hb : br = true
              · rw [if_pos hb] at h91
                have h1 : i ≠ 3 ∧ i ≠ 4 := by omega
                simp [sayB, h1.1, h1.2]
              · simp [sayB, hb]
            refine J_aload_n (pc := 109) dX2_reaches_109 rfl ?_
            refine J_getN1 (pc := 110) 1 fF_X2_18 rfl rfl (hjn) dX2_reaches_110 ?_
            refine J_iload_n (pc := 113) dX2_reaches_113 rfl ?_
            refine J_iload_n (pc := 114) dX2_reaches_114 rfl ?_
            refine J_iload (pc := 115) dX2_reaches_115 rfl ?_
            refine J_callVz (pc := 117) fC_X2_95 rfl dX2_reaches_117 (c_X0_hear jarAt_1 (mZ a p 0) n (i : Int) hm hn hi (by omega)) rfl (re_R _ (Nat.le_of_ble_eq_true rfl) (Nat.le_of_ble_eq_true rfl)) rfl (Nat.le_of_ble_eq_true rfl) (fun z117 e117 => ?_)
            have q117 : z117.toInt = (mZ (hA2 k a n (i : Int)) (hP2 k p n (i : Int)) (jZ wr ht (hA2 k a n (i : Int)) (hP2 k p n (i : Int)) (i : Int))) := by rw [e117, hk, hwr, hht, hM_2 hr]
            refine J_istore (pc := 120) (lv' := [some (.ref 23), some (.int mv), some (.int nv), some (.int pv), some (.int lv), some (.int mk), some (.int mo), some (.int wv), some (.int z117), none]) dX2_reaches_120 (Nat.le_of_ble_eq_true rfl) rfl rfl ?_
            refine J_iload (pc := 122) dX2_reaches_122 rfl ?_
            refine J_iconst (pc := 124) (v := 1) dX2_reaches_124 (by decide) ?_
            refine J_icmp_neW (pc := 125) ((1 : Nat) : Int) 1 hl rfl 148 dX2_reaches_125 (by decide) (fun h125 => ?_) (fun h125 => ?_)
            · exfalso; omega
            · refine J_iload (pc := 128) dX2_reaches_128 rfl ?_
              refine J_callSz (pc := 130) fC_X2_40 dX2_reaches_130 (c_X3_beingOf (mZ (hA2 k a n (i : Int)) (hP2 k p n (i : Int)) (jZ wr ht (hA2 k a n (i : Int)) (hP2 k p n (i : Int)) (i : Int))) q117 (by omega)) rfl (re_R _ (Nat.le_of_ble_eq_true rfl) (Nat.le_of_ble_eq_true rfl)) rfl (Nat.le_of_ble_eq_true rfl) (fun z130 e130 => ?_)
              have q130 : z130.toInt = (jZ wr ht (hA2 k a n (i : Int)) (hP2 k p n (i : Int)) (i : Int)) := by rw [e130, y3]
              refine J_aload_n (pc := 133) dX2_reaches_133 rfl ?_
              refine J_getI (pc := 134) fF_X2_55 rfl rfl dX2_reaches_134 ?_
              refine J_icmp_neW (pc := 137) (jZ wr ht (hA2 k a n (i : Int)) (hP2 k p n (i : Int)) (i : Int)) e q130 he 144 dX2_reaches_137 (by decide) (fun h137 => ?_) (fun h137 => ?_)
              · refine J_iconst (pc := 144) (v := 0) dX2_reaches_144 (by decide) ?_
                refine J_goto (pc := 145) 180 dX2_reaches_145 (by decide) ?_
                refine J_istore (pc := 180) (lv' := [some (.ref 23), some (.int mv), some (.int nv), some (.int pv), some (.int lv), some (.int mk), some (.int mo), some (.int wv), some (.int z117), some (.int 0)]) dX2_reaches_180 (Nat.le_of_ble_eq_true rfl) rfl rfl ?_
                refine J_iload (pc := 182) dX2_reaches_182 rfl ?_
                refine J_if_eq_T (pc := 184) 199 dX2_reaches_184 (by decide) (by decide) ?_
                refine J_iincW' (pc := 199) (i : Int) hi (lv' := fun iq_ => [some (.ref 23), some (.int mv), some (.int nv), some (.int pv), some (.int lv), some (.int mk), some (.int mo), some (.int iq_), some (.int z117), some (.int 0)]) dX2_reaches_199 rfl (by omega) (by decide) (Nat.le_of_ble_eq_true rfl) rfl (fun _ => rfl) (fun z199 e199 => ?_)
                refine J_goto (pc := 202) 80 dX2_reaches_202 (by decide) ?_
                refine J_lv' (lv' := [some (.ref 23), some (.int mv), some (.int nv), some (.int pv), some (.int lv), some (.int mk), some (.int mo), some (.int z199), none, none]) (by repeat' constructor) (ihr (i + 1) z199 μ (by omega) (by omega) hFI hT hfr (fun w' hw' => ?_))
                have hcase : w' < i ∨ w' = i := by omega
                rcases hcase with hlt | rfl
                · exact hno w' hlt
                · exact fun hh => by rcases hh.2 with ⟨-, h1⟩ | ⟨h1, -⟩; exact h137 h1; exact absurd rfl h1
              · refine J_iconst (pc := 140) (v := 1) dX2_reaches_140 (by decide) ?_
                refine J_goto (pc := 141) 180 dX2_reaches_141 (by decide) ?_
                refine J_istore (pc := 180) (lv' := [some (.ref 23), some (.int mv), some (.int nv), some (.int pv), some (.int lv), some (.int mk), some (.int mo), some (.int wv), some (.int z117), some (.int 1)]) dX2_reaches_180 (Nat.le_of_ble_eq_true rfl) rfl rfl ?_
                refine J_iload (pc := 182) dX2_reaches_182 rfl ?_
                refine J_if_eq_F (pc := 184) 199 dX2_reaches_184 (by decide) (by decide) ?_
                refine J_aload_n (pc := 187) dX2_reaches_187 rfl ?_
                refine J_getR (pc := 188) 24 fF_X2_9 rfl rfl dX2_reaches_188 ?_
                refine J_iload_n (pc := 191) dX2_reaches_191 rfl ?_
                refine J_iload (pc := 192) dX2_reaches_192 rfl ?_
                refine J_callSv (pc := 194) fC_X2_30 dX2_reaches_194 (c_X3_put rfl q (by omega) (by omega) (by omega)) rfl (re_R _ (Nat.le_of_ble_eq_true rfl) (Nat.le_of_ble_eq_true rfl)) rfl (Nat.le_of_ble_eq_true rfl) (fun μ194 m194 => ?_)
                refine J_iconst (pc := 197) (v := 1) dX2_reaches_197 (by decide) ?_
                refine J_zret (pc := 198) dX2_reaches_198 rfl (by decide) ?_
                refine ⟨Or.inl ⟨rfl, i, by omega, ?_, ⟨hsay, Or.inl ⟨rfl, h137⟩⟩, hno, trivial⟩, ?_, ?_⟩
                · show (μ194.1 24 (q + 0)).toInt = _; rw [m194, jI_i, if_pos ⟨rfl, by omega⟩]; exact hi
                · rw [m194]; exact FI_24 hFI
                · rw [m194]; exact fr_tr hfr fr_24
          · refine J_goto (pc := 106) 199 dX2_reaches_106 (by decide) ?_
            refine J_iincW' (pc := 199) (i : Int) hi (lv' := fun iq_ => [some (.ref 23), some (.int mv), some (.int nv), some (.int pv), some (.int lv), some (.int mk), some (.int mo), some (.int iq_), none, none]) dX2_reaches_199 rfl (by omega) (by decide) (Nat.le_of_ble_eq_true rfl) rfl (fun _ => rfl) (fun z199 e199 => ?_)
            refine J_goto (pc := 202) 80 dX2_reaches_202 (by decide) ?_
            refine J_lv' (lv' := [some (.ref 23), some (.int mv), some (.int nv), some (.int pv), some (.int lv), some (.int mk), some (.int mo), some (.int z199), none, none]) (by repeat' constructor) (ihr (i + 1) z199 μ (by omega) (by omega) hFI hT hfr (fun w' hw' => ?_))
            have hcase : w' < i ∨ w' = i := by omega
            rcases hcase with hlt | rfl
            · exact hno w' hlt
            · exact fun hh => by have h1 := hh.1; have hb1 : br = true := (by by_cases hb : br = true; exact hb; rw [if_neg hb] at h91; exact absurd rfl h91); subst hb1; have h34 : w' = 3 ∨ w' = 4 := (by omega); rcases h34 with rfl | rfl <;> exact absurd h1 (by decide)
set_option maxRecDepth 100000 in
set_option maxHeartbeats 4000000 in
theorem l_reach1 {k wr ht e mp dp : Int} {br : Bool} (hdp : True) {d : Nat} (ih : ∀ (c : JM) (mv nv pv lv : Int32) (a p n : Int) (q : Nat), tk k wr ht e mp dp br c → FI k wr ht e br c → mv.toInt = mZ a p 0 → nv.toInt = n → pv.toInt = (q : Int) → lv.toInt = ((d + 1 : Nat) : Int) → (0 ≤ a ∧ a ≤ 99 ∧ 0 ≤ p ∧ p ≤ 99) → (0 ≤ n ∧ n + ((d + 1 : Nat) : Int) < 300000) → (q + (d + 1) ≤ 12) → Con G shC (mX2_reaches d) [.ref 23, .int mv, .int nv, .int pv, .int lv] c (fun v μ' => ((v = some (.int 1) ∧ rowR k wr ht e br (d + 1) a p n (fun j => (μ'.1 24 (q + j)).toInt)) ∨ (¬ rc k wr ht e br (d + 1) a p n ∧ v = some (.int 0))) ∧ FI k wr ht e br μ' ∧ fr45 c μ')) {c : JM} {mv nv pv lv mk mo : Int32} {a p n : Int} {q : Nat} (hm : mv.toInt = mZ a p 0) (hn : nv.toInt = n) (hp : pv.toInt = (q : Int)) (hl : lv.toInt = (d + 2 : Nat)) (hr : 0 ≤ a ∧ a ≤ 99 ∧ 0 ≤ p ∧ p ≤ 99) (hn0 : 0 ≤ n ∧ n + ((d + 2 : Nat) : Int) < 300000) (hq : q + (d + 2) ≤ 12) (hmk : mk = mkI (mkS (d + 2) n)) (hmo : mo.toInt = a * 100 + p)  : ∀ r : Nat, ∀ (i : Nat) (wv : Int32) (μ : JM), i + r = 6 → wv.toInt = (i : Int) → FI k wr ht e br μ → tk k wr ht e mp dp br μ → fr45 c μ → (∀ w', w' < i → ¬ cw k wr ht e br (d + 1) a p n w') → J G shC (mX2_reaches (d + 1)) 80 [some (.ref 23), some (.int mv), some (.int nv), some (.int pv), some (.int lv), some (.int mk), some (.int mo), some (.int wv), none, none] [] μ (fun v μ' => ((v = some (.int 1) ∧ rowR k wr ht e br (d + 2) a p n (fun j => (μ'.1 24 (q + j)).toInt)) ∨ (¬ rc k wr ht e br (d + 2) a p n ∧ v = some (.int 0))) ∧ FI k wr ht e br μ' ∧ fr45 c μ') := by
  intro r
  induction r with
  | zero =>
    intro i wv μ hr6 hi hFI hT hfr hno
    have hT' := hT
    obtain ⟨hk, hwr, hht, hjn, he, hbr, hmp1, hdp1⟩ := hT'
    have hbr0 := hbr
    obtain ⟨d1, d2, d3⟩ := mZ_d (b := 0) hr
    have hm0 : 0 ≤ mZ a p 0 := by unfold mZ; omega
    have g1 := hA2_rng k a n (i : Int)
    have g2 := hP2_rng k p n (i : Int)
    have g3 := jZ_rng wr ht (hA2 k a n (i : Int)) (hP2 k p n (i : Int)) (i : Int)
    obtain ⟨y1, y2, y3⟩ := mZ_d (b := (jZ wr ht (hA2 k a n (i : Int)) (hP2 k p n (i : Int)) (i : Int))) ⟨g1.1, g1.2, g2.1, g2.2⟩
    have hm1 : 0 ≤ (mZ (hA2 k a n (i : Int)) (hP2 k p n (i : Int)) (jZ wr ht (hA2 k a n (i : Int)) (hP2 k p n (i : Int)) (i : Int))) := by unfold mZ; omega
    refine J_iload (pc := 80) dX2_reaches_80 rfl ?_
    refine J_bipush (pc := 82) (v := 6) dX2_reaches_82 (by decide) ?_
    refine J_icmp_geW (pc := 84) (i : Int) 6 hi rfl 205 dX2_reaches_84 (by decide) (fun h84 => ?_) (fun h84 => ?_)
    · have hnr : ¬ rc k wr ht e br (d + 2) a p n := fun hh => by obtain ⟨w, h1, h2⟩ := hh; exact hno w (by omega) h2
      obtain rfl : i = 6 := by omega
      refine J_aload_n (pc := 205) dX2_reaches_205 rfl ?_
      refine J_getR (pc := 206) 25 fF_X2_15 rfl rfl dX2_reaches_206 ?_
      refine J_iload (pc := 209) dX2_reaches_209 rfl ?_
      refine J_aload_n (pc := 211) dX2_reaches_211 rfl ?_
      refine J_getR (pc := 212) 25 fF_X2_15 rfl rfl dX2_reaches_212 ?_
      refine J_iload (pc := 215) dX2_reaches_215 rfl ?_
      refine J_callSe (pc := 217) fC_X2_91 dX2_reaches_217 (c_X3_at rfl (a * 100 + p).toNat (by omega) (by omega) (by omega)) rfl (re_R _ (Nat.le_of_ble_eq_true rfl) (Nat.le_of_ble_eq_true rfl)) rfl (Nat.le_of_ble_eq_true rfl) ?_
      refine J_iload (pc := 220) dX2_reaches_220 rfl ?_
      refine J_ior (pc := 222) dX2_reaches_222 ?_
      refine J_callSv (pc := 223) fC_X2_30 dX2_reaches_223 (c_X3_put rfl (a * 100 + p).toNat (by omega) (by omega) (by omega)) rfl (re_R _ (Nat.le_of_ble_eq_true rfl) (Nat.le_of_ble_eq_true rfl)) rfl (Nat.le_of_ble_eq_true rfl) (fun μ223 m223 => ?_)
      refine J_iconst (pc := 226) (v := 0) dX2_reaches_226 (by decide) ?_
      refine J_zret (pc := 227) dX2_reaches_227 rfl (by decide) ?_
      refine ⟨Or.inr ⟨hnr, rfl⟩, ?_, ?_⟩
      · rw [m223, hmk]; exact FI_25 hr ⟨by omega, by omega⟩ hFI hnr
      · rw [m223]; exact fr_tr hfr fr_25
    · exfalso; omega
  | succ r ihr =>
    intro i wv μ hr6 hi hFI hT hfr hno
    have hT' := hT
    obtain ⟨hk, hwr, hht, hjn, he, hbr, hmp1, hdp1⟩ := hT'
    have hbr0 := hbr
    obtain ⟨d1, d2, d3⟩ := mZ_d (b := 0) hr
    have hm0 : 0 ≤ mZ a p 0 := by unfold mZ; omega
    have g1 := hA2_rng k a n (i : Int)
    have g2 := hP2_rng k p n (i : Int)
    have g3 := jZ_rng wr ht (hA2 k a n (i : Int)) (hP2 k p n (i : Int)) (i : Int)
    obtain ⟨y1, y2, y3⟩ := mZ_d (b := (jZ wr ht (hA2 k a n (i : Int)) (hP2 k p n (i : Int)) (i : Int))) ⟨g1.1, g1.2, g2.1, g2.2⟩
    have hm1 : 0 ≤ (mZ (hA2 k a n (i : Int)) (hP2 k p n (i : Int)) (jZ wr ht (hA2 k a n (i : Int)) (hP2 k p n (i : Int)) (i : Int))) := by unfold mZ; omega
    refine J_iload (pc := 80) dX2_reaches_80 rfl ?_
    refine J_bipush (pc := 82) (v := 6) dX2_reaches_82 (by decide) ?_
    refine J_icmp_geW (pc := 84) (i : Int) 6 hi rfl 205 dX2_reaches_84 (by decide) (fun h84 => ?_) (fun h84 => ?_)
    · exfalso; omega
    · refine J_aload_n (pc := 87) dX2_reaches_87 rfl ?_
      refine J_getI (pc := 88) fF_X2_58 rfl rfl dX2_reaches_88 ?_
      refine J_if_eqW (pc := 91) (if br = true then 1 else 0) hbr 109 dX2_reaches_91 (by decide) (fun h91 => ?_) (fun h91 => ?_)
      · have hsay : sayB br i = true := by
          by_cases hb : br = true
          · rw [if_pos hb] at h91
            have h1 : i ≠ 3 ∧ i ≠ 4 := by omega
            simp [sayB, h1.1, h1.2]
          · simp [sayB, hb]
        refine J_aload_n (pc := 109) dX2_reaches_109 rfl ?_
        refine J_getN1 (pc := 110) 1 fF_X2_18 rfl rfl (hjn) dX2_reaches_110 ?_
        refine J_iload_n (pc := 113) dX2_reaches_113 rfl ?_
        refine J_iload_n (pc := 114) dX2_reaches_114 rfl ?_
        refine J_iload (pc := 115) dX2_reaches_115 rfl ?_
        refine J_callVz (pc := 117) fC_X2_95 rfl dX2_reaches_117 (c_X0_hear jarAt_1 (mZ a p 0) n (i : Int) hm hn hi (by omega)) rfl (re_R _ (Nat.le_of_ble_eq_true rfl) (Nat.le_of_ble_eq_true rfl)) rfl (Nat.le_of_ble_eq_true rfl) (fun z117 e117 => ?_)
        have q117 : z117.toInt = (mZ (hA2 k a n (i : Int)) (hP2 k p n (i : Int)) (jZ wr ht (hA2 k a n (i : Int)) (hP2 k p n (i : Int)) (i : Int))) := by rw [e117, hk, hwr, hht, hM_2 hr]
        refine J_istore (pc := 120) (lv' := [some (.ref 23), some (.int mv), some (.int nv), some (.int pv), some (.int lv), some (.int mk), some (.int mo), some (.int wv), some (.int z117), none]) dX2_reaches_120 (Nat.le_of_ble_eq_true rfl) rfl rfl ?_
        refine J_iload (pc := 122) dX2_reaches_122 rfl ?_
        refine J_iconst (pc := 124) (v := 1) dX2_reaches_124 (by decide) ?_
        refine J_icmp_neW (pc := 125) ((d + 2 : Nat) : Int) 1 hl rfl 148 dX2_reaches_125 (by decide) (fun h125 => ?_) (fun h125 => ?_)
        · refine J_iload (pc := 148) dX2_reaches_148 rfl ?_
          refine J_callSz (pc := 150) fC_X2_40 dX2_reaches_150 (c_X3_beingOf (mZ (hA2 k a n (i : Int)) (hP2 k p n (i : Int)) (jZ wr ht (hA2 k a n (i : Int)) (hP2 k p n (i : Int)) (i : Int))) q117 (by omega)) rfl (re_R _ (Nat.le_of_ble_eq_true rfl) (Nat.le_of_ble_eq_true rfl)) rfl (Nat.le_of_ble_eq_true rfl) (fun z150 e150 => ?_)
          have q150 : z150.toInt = (jZ wr ht (hA2 k a n (i : Int)) (hP2 k p n (i : Int)) (i : Int)) := by rw [e150, y3]
          refine J_if_neW (pc := 153) (jZ wr ht (hA2 k a n (i : Int)) (hP2 k p n (i : Int)) (i : Int)) q150 179 dX2_reaches_153 (by decide) (fun h153 => ?_) (fun h153 => ?_)
          · refine J_iconst (pc := 179) (v := 0) dX2_reaches_179 (by decide) ?_
            refine J_istore (pc := 180) (lv' := [some (.ref 23), some (.int mv), some (.int nv), some (.int pv), some (.int lv), some (.int mk), some (.int mo), some (.int wv), some (.int z117), some (.int 0)]) dX2_reaches_180 (Nat.le_of_ble_eq_true rfl) rfl rfl ?_
            refine J_iload (pc := 182) dX2_reaches_182 rfl ?_
            refine J_if_eq_T (pc := 184) 199 dX2_reaches_184 (by decide) (by decide) ?_
            refine J_iincW' (pc := 199) (i : Int) hi (lv' := fun iq_ => [some (.ref 23), some (.int mv), some (.int nv), some (.int pv), some (.int lv), some (.int mk), some (.int mo), some (.int iq_), some (.int z117), some (.int 0)]) dX2_reaches_199 rfl (by omega) (by decide) (Nat.le_of_ble_eq_true rfl) rfl (fun _ => rfl) (fun z199 e199 => ?_)
            refine J_goto (pc := 202) 80 dX2_reaches_202 (by decide) ?_
            refine J_lv' (lv' := [some (.ref 23), some (.int mv), some (.int nv), some (.int pv), some (.int lv), some (.int mk), some (.int mo), some (.int z199), none, none]) (by repeat' constructor) (ihr (i + 1) z199 μ (by omega) (by omega) hFI hT hfr (fun w' hw' => ?_))
            have hcase : w' < i ∨ w' = i := by omega
            rcases hcase with hlt | rfl
            · exact hno w' hlt
            · exact fun hh => by rcases hh.2 with ⟨h1, -⟩ | ⟨-, h1, -⟩; omega; exact h153 h1
          · refine J_aload_n (pc := 156) dX2_reaches_156 rfl ?_
            refine J_iload (pc := 157) dX2_reaches_157 rfl ?_
            refine J_iload_n (pc := 159) dX2_reaches_159 rfl ?_
            refine J_iconst (pc := 160) (v := 1) dX2_reaches_160 (by decide) ?_
            refine J_iaddW (pc := 161) n 1 hn rfl dX2_reaches_161 (by omega) (fun z161 e161 => ?_)
            refine J_iload_n (pc := 162) dX2_reaches_162 rfl ?_
            refine J_iconst (pc := 163) (v := 1) dX2_reaches_163 (by decide) ?_
            refine J_iaddW (pc := 164) (q : Int) 1 hp rfl dX2_reaches_164 (by omega) (fun z164 e164 => ?_)
            refine J_iload (pc := 165) dX2_reaches_165 rfl ?_
            refine J_iconst (pc := 167) (v := 1) dX2_reaches_167 (by decide) ?_
            refine J_isubW (pc := 168) ((d + 2 : Nat) : Int) 1 hl rfl dX2_reaches_168 (by omega) (fun z168 e168 => ?_)
            refine J_callSq (pc := 169) (fC_X2_51 d) dX2_reaches_169 (ih μ _ _ _ _ (hA2 k a n (i : Int)) (hP2 k p n (i : Int)) (n + 1) (q + 1) hT hFI (by rw [q117, h153]) (e161) (by omega) (by omega) ⟨g1.1, g1.2, g2.1, g2.2⟩ (by omega) (by omega)) rfl ⟨by show 2 * (4 + d) + 2 + 1 ≤ 2 * (4 + (d + 1)) + 2; omega, by show 8 + (10 + 11) + (60 * (4 + d) + 60) ≤ 60 * (4 + (d + 1)) + 60; omega⟩ rfl (Nat.le_of_ble_eq_true rfl) (fun v169 μ169 q169 => ?_)
            obtain ⟨q169, hFI2, hfr2⟩ := q169
            rcases q169 with ⟨rfl, hrow⟩ | ⟨hnr, rfl⟩
            · refine J_if_eq_F (pc := 172) 179 dX2_reaches_172 (by decide) (by decide) ?_
              refine J_iconst (pc := 175) (v := 1) dX2_reaches_175 (by decide) ?_
              refine J_goto (pc := 176) 180 dX2_reaches_176 (by decide) ?_
              refine J_istore (pc := 180) (lv' := [some (.ref 23), some (.int mv), some (.int nv), some (.int pv), some (.int lv), some (.int mk), some (.int mo), some (.int wv), some (.int z117), some (.int 1)]) dX2_reaches_180 (Nat.le_of_ble_eq_true rfl) rfl rfl ?_
              refine J_iload (pc := 182) dX2_reaches_182 rfl ?_
              refine J_if_eq_F (pc := 184) 199 dX2_reaches_184 (by decide) (by decide) ?_
              refine J_aload_n (pc := 187) dX2_reaches_187 rfl ?_
              refine J_getR (pc := 188) 24 fF_X2_9 rfl rfl dX2_reaches_188 ?_
              refine J_iload_n (pc := 191) dX2_reaches_191 rfl ?_
              refine J_iload (pc := 192) dX2_reaches_192 rfl ?_
              refine J_callSv (pc := 194) fC_X2_30 dX2_reaches_194 (c_X3_put rfl q (by omega) (by omega) (by omega)) rfl (re_R _ (Nat.le_of_ble_eq_true rfl) (Nat.le_of_ble_eq_true rfl)) rfl (Nat.le_of_ble_eq_true rfl) (fun μ194 m194 => ?_)
              refine J_iconst (pc := 197) (v := 1) dX2_reaches_197 (by decide) ?_
              refine J_zret (pc := 198) dX2_reaches_198 rfl (by decide) ?_
              refine ⟨Or.inl ⟨rfl, i, by omega, ?_, ⟨?_, Or.inr ⟨by omega, h153, rowR_rc hrow⟩⟩, hno, ?_⟩, ?_, ?_⟩
              · show (μ194.1 24 (q + 0)).toInt = _; rw [m194, jI_i, if_pos ⟨rfl, by omega⟩]; exact hi
              · exact hsay
              · refine rowR_congr _ _ _ _ _ _ (fun j hj => ?_) hrow
                show _ = (μ194.1 24 (q + (j + 1))).toInt
                rw [m194, jI_i, if_neg (by omega), show q + 1 + j = q + (j + 1) by omega]
              · rw [m194]; exact FI_24 hFI2
              · rw [m194]; exact fr_tr (fr_tr hfr hfr2) fr_24
            · refine J_if_eq_T (pc := 172) 179 dX2_reaches_172 (by decide) (by decide) ?_
              refine J_iconst (pc := 179) (v := 0) dX2_reaches_179 (by decide) ?_
              refine J_istore (pc := 180) (lv' := [some (.ref 23), some (.int mv), some (.int nv), some (.int pv), some (.int lv), some (.int mk), some (.int mo), some (.int wv), some (.int z117), some (.int 0)]) dX2_reaches_180 (Nat.le_of_ble_eq_true rfl) rfl rfl ?_
              refine J_iload (pc := 182) dX2_reaches_182 rfl ?_
              refine J_if_eq_T (pc := 184) 199 dX2_reaches_184 (by decide) (by decide) ?_
              refine J_iincW' (pc := 199) (i : Int) hi (lv' := fun iq_ => [some (.ref 23), some (.int mv), some (.int nv), some (.int pv), some (.int lv), some (.int mk), some (.int mo), some (.int iq_), some (.int z117), some (.int 0)]) dX2_reaches_199 rfl (by omega) (by decide) (Nat.le_of_ble_eq_true rfl) rfl (fun _ => rfl) (fun z199 e199 => ?_)
              refine J_goto (pc := 202) 80 dX2_reaches_202 (by decide) ?_
              refine J_lv' (lv' := [some (.ref 23), some (.int mv), some (.int nv), some (.int pv), some (.int lv), some (.int mk), some (.int mo), some (.int z199), none, none]) (by repeat' constructor) (ihr (i + 1) z199 μ169 (by omega) (by omega) hFI2 (tk_fr hT hfr2) (fr_tr hfr hfr2) (fun w' hw' => ?_))
              have hcase : w' < i ∨ w' = i := by omega
              rcases hcase with hlt | rfl
              · exact hno w' hlt
              · exact fun hh => by rcases hh.2 with ⟨h1, -⟩ | ⟨-, -, h1⟩; omega; exact hnr h1
        · exfalso; omega
      · refine J_iload (pc := 94) dX2_reaches_94 rfl ?_
        refine J_iconst (pc := 96) (v := 3) dX2_reaches_96 (by decide) ?_
        refine J_icmp_eqW (pc := 97) (i : Int) 3 hi rfl 199 dX2_reaches_97 (by decide) (fun h97 => ?_) (fun h97 => ?_)
        · refine J_iincW' (pc := 199) (i : Int) hi (lv' := fun iq_ => [some (.ref 23), some (.int mv), some (.int nv), some (.int pv), some (.int lv), some (.int mk), some (.int mo), some (.int iq_), none, none]) dX2_reaches_199 rfl (by omega) (by decide) (Nat.le_of_ble_eq_true rfl) rfl (fun _ => rfl) (fun z199 e199 => ?_)
          refine J_goto (pc := 202) 80 dX2_reaches_202 (by decide) ?_
          refine J_lv' (lv' := [some (.ref 23), some (.int mv), some (.int nv), some (.int pv), some (.int lv), some (.int mk), some (.int mo), some (.int z199), none, none]) (by repeat' constructor) (ihr (i + 1) z199 μ (by omega) (by omega) hFI hT hfr (fun w' hw' => ?_))
          have hcase : w' < i ∨ w' = i := by omega
          rcases hcase with hlt | rfl
          · exact hno w' hlt
          · exact fun hh => by have h1 := hh.1; have hb1 : br = true := (by by_cases hb : br = true; exact hb; rw [if_neg hb] at h91; exact absurd rfl h91); subst hb1; have h34 : w' = 3 ∨ w' = 4 := (by omega); rcases h34 with rfl | rfl <;> exact absurd h1 (by decide)
        · refine J_iload (pc := 100) dX2_reaches_100 rfl ?_
          refine J_iconst (pc := 102) (v := 4) dX2_reaches_102 (by decide) ?_
          refine J_icmp_neW (pc := 103) (i : Int) 4 hi rfl 109 dX2_reaches_103 (by decide) (fun h103 => ?_) (fun h103 => ?_)
          · have hsay : sayB br i = true := by
              by_cases hb : br = true
              · rw [if_pos hb] at h91
                have h1 : i ≠ 3 ∧ i ≠ 4 := by omega
                simp [sayB, h1.1, h1.2]
              · simp [sayB, hb]
            refine J_aload_n (pc := 109) dX2_reaches_109 rfl ?_
            refine J_getN1 (pc := 110) 1 fF_X2_18 rfl rfl (hjn) dX2_reaches_110 ?_
            refine J_iload_n (pc := 113) dX2_reaches_113 rfl ?_
            refine J_iload_n (pc := 114) dX2_reaches_114 rfl ?_
            refine J_iload (pc := 115) dX2_reaches_115 rfl ?_
            refine J_callVz (pc := 117) fC_X2_95 rfl dX2_reaches_117 (c_X0_hear jarAt_1 (mZ a p 0) n (i : Int) hm hn hi (by omega)) rfl (re_R _ (Nat.le_of_ble_eq_true rfl) (Nat.le_of_ble_eq_true rfl)) rfl (Nat.le_of_ble_eq_true rfl) (fun z117 e117 => ?_)
            have q117 : z117.toInt = (mZ (hA2 k a n (i : Int)) (hP2 k p n (i : Int)) (jZ wr ht (hA2 k a n (i : Int)) (hP2 k p n (i : Int)) (i : Int))) := by rw [e117, hk, hwr, hht, hM_2 hr]
            refine J_istore (pc := 120) (lv' := [some (.ref 23), some (.int mv), some (.int nv), some (.int pv), some (.int lv), some (.int mk), some (.int mo), some (.int wv), some (.int z117), none]) dX2_reaches_120 (Nat.le_of_ble_eq_true rfl) rfl rfl ?_
            refine J_iload (pc := 122) dX2_reaches_122 rfl ?_
            refine J_iconst (pc := 124) (v := 1) dX2_reaches_124 (by decide) ?_
            refine J_icmp_neW (pc := 125) ((d + 2 : Nat) : Int) 1 hl rfl 148 dX2_reaches_125 (by decide) (fun h125 => ?_) (fun h125 => ?_)
            · refine J_iload (pc := 148) dX2_reaches_148 rfl ?_
              refine J_callSz (pc := 150) fC_X2_40 dX2_reaches_150 (c_X3_beingOf (mZ (hA2 k a n (i : Int)) (hP2 k p n (i : Int)) (jZ wr ht (hA2 k a n (i : Int)) (hP2 k p n (i : Int)) (i : Int))) q117 (by omega)) rfl (re_R _ (Nat.le_of_ble_eq_true rfl) (Nat.le_of_ble_eq_true rfl)) rfl (Nat.le_of_ble_eq_true rfl) (fun z150 e150 => ?_)
              have q150 : z150.toInt = (jZ wr ht (hA2 k a n (i : Int)) (hP2 k p n (i : Int)) (i : Int)) := by rw [e150, y3]
              refine J_if_neW (pc := 153) (jZ wr ht (hA2 k a n (i : Int)) (hP2 k p n (i : Int)) (i : Int)) q150 179 dX2_reaches_153 (by decide) (fun h153 => ?_) (fun h153 => ?_)
              · refine J_iconst (pc := 179) (v := 0) dX2_reaches_179 (by decide) ?_
                refine J_istore (pc := 180) (lv' := [some (.ref 23), some (.int mv), some (.int nv), some (.int pv), some (.int lv), some (.int mk), some (.int mo), some (.int wv), some (.int z117), some (.int 0)]) dX2_reaches_180 (Nat.le_of_ble_eq_true rfl) rfl rfl ?_
                refine J_iload (pc := 182) dX2_reaches_182 rfl ?_
                refine J_if_eq_T (pc := 184) 199 dX2_reaches_184 (by decide) (by decide) ?_
                refine J_iincW' (pc := 199) (i : Int) hi (lv' := fun iq_ => [some (.ref 23), some (.int mv), some (.int nv), some (.int pv), some (.int lv), some (.int mk), some (.int mo), some (.int iq_), some (.int z117), some (.int 0)]) dX2_reaches_199 rfl (by omega) (by decide) (Nat.le_of_ble_eq_true rfl) rfl (fun _ => rfl) (fun z199 e199 => ?_)
                refine J_goto (pc := 202) 80 dX2_reaches_202 (by decide) ?_
                refine J_lv' (lv' := [some (.ref 23), some (.int mv), some (.int nv), some (.int pv), some (.int lv), some (.int mk), some (.int mo), some (.int z199), none, none]) (by repeat' constructor) (ihr (i + 1) z199 μ (by omega) (by omega) hFI hT hfr (fun w' hw' => ?_))
                have hcase : w' < i ∨ w' = i := by omega
                rcases hcase with hlt | rfl
                · exact hno w' hlt
                · exact fun hh => by rcases hh.2 with ⟨h1, -⟩ | ⟨-, h1, -⟩; omega; exact h153 h1
              · refine J_aload_n (pc := 156) dX2_reaches_156 rfl ?_
                refine J_iload (pc := 157) dX2_reaches_157 rfl ?_
                refine J_iload_n (pc := 159) dX2_reaches_159 rfl ?_
                refine J_iconst (pc := 160) (v := 1) dX2_reaches_160 (by decide) ?_
                refine J_iaddW (pc := 161) n 1 hn rfl dX2_reaches_161 (by omega) (fun z161 e161 => ?_)
                refine J_iload_n (pc := 162) dX2_reaches_162 rfl ?_
                refine J_iconst (pc := 163) (v := 1) dX2_reaches_163 (by decide) ?_
                refine J_iaddW (pc := 164) (q : Int) 1 hp rfl dX2_reaches_164 (by omega) (fun z164 e164 => ?_)
                refine J_iload (pc := 165) dX2_reaches_165 rfl ?_
                refine J_iconst (pc := 167) (v := 1) dX2_reaches_167 (by decide) ?_
                refine J_isubW (pc := 168) ((d + 2 : Nat) : Int) 1 hl rfl dX2_reaches_168 (by omega) (fun z168 e168 => ?_)
                refine J_callSq (pc := 169) (fC_X2_51 d) dX2_reaches_169 (ih μ _ _ _ _ (hA2 k a n (i : Int)) (hP2 k p n (i : Int)) (n + 1) (q + 1) hT hFI (by rw [q117, h153]) (e161) (by omega) (by omega) ⟨g1.1, g1.2, g2.1, g2.2⟩ (by omega) (by omega)) rfl ⟨by show 2 * (4 + d) + 2 + 1 ≤ 2 * (4 + (d + 1)) + 2; omega, by show 8 + (10 + 11) + (60 * (4 + d) + 60) ≤ 60 * (4 + (d + 1)) + 60; omega⟩ rfl (Nat.le_of_ble_eq_true rfl) (fun v169 μ169 q169 => ?_)
                obtain ⟨q169, hFI2, hfr2⟩ := q169
                rcases q169 with ⟨rfl, hrow⟩ | ⟨hnr, rfl⟩
                · refine J_if_eq_F (pc := 172) 179 dX2_reaches_172 (by decide) (by decide) ?_
                  refine J_iconst (pc := 175) (v := 1) dX2_reaches_175 (by decide) ?_
                  refine J_goto (pc := 176) 180 dX2_reaches_176 (by decide) ?_
                  refine J_istore (pc := 180) (lv' := [some (.ref 23), some (.int mv), some (.int nv), some (.int pv), some (.int lv), some (.int mk), some (.int mo), some (.int wv), some (.int z117), some (.int 1)]) dX2_reaches_180 (Nat.le_of_ble_eq_true rfl) rfl rfl ?_
                  refine J_iload (pc := 182) dX2_reaches_182 rfl ?_
                  refine J_if_eq_F (pc := 184) 199 dX2_reaches_184 (by decide) (by decide) ?_
                  refine J_aload_n (pc := 187) dX2_reaches_187 rfl ?_
                  refine J_getR (pc := 188) 24 fF_X2_9 rfl rfl dX2_reaches_188 ?_
                  refine J_iload_n (pc := 191) dX2_reaches_191 rfl ?_
                  refine J_iload (pc := 192) dX2_reaches_192 rfl ?_
                  refine J_callSv (pc := 194) fC_X2_30 dX2_reaches_194 (c_X3_put rfl q (by omega) (by omega) (by omega)) rfl (re_R _ (Nat.le_of_ble_eq_true rfl) (Nat.le_of_ble_eq_true rfl)) rfl (Nat.le_of_ble_eq_true rfl) (fun μ194 m194 => ?_)
                  refine J_iconst (pc := 197) (v := 1) dX2_reaches_197 (by decide) ?_
                  refine J_zret (pc := 198) dX2_reaches_198 rfl (by decide) ?_
                  refine ⟨Or.inl ⟨rfl, i, by omega, ?_, ⟨?_, Or.inr ⟨by omega, h153, rowR_rc hrow⟩⟩, hno, ?_⟩, ?_, ?_⟩
                  · show (μ194.1 24 (q + 0)).toInt = _; rw [m194, jI_i, if_pos ⟨rfl, by omega⟩]; exact hi
                  · exact hsay
                  · refine rowR_congr _ _ _ _ _ _ (fun j hj => ?_) hrow
                    show _ = (μ194.1 24 (q + (j + 1))).toInt
                    rw [m194, jI_i, if_neg (by omega), show q + 1 + j = q + (j + 1) by omega]
                  · rw [m194]; exact FI_24 hFI2
                  · rw [m194]; exact fr_tr (fr_tr hfr hfr2) fr_24
                · refine J_if_eq_T (pc := 172) 179 dX2_reaches_172 (by decide) (by decide) ?_
                  refine J_iconst (pc := 179) (v := 0) dX2_reaches_179 (by decide) ?_
                  refine J_istore (pc := 180) (lv' := [some (.ref 23), some (.int mv), some (.int nv), some (.int pv), some (.int lv), some (.int mk), some (.int mo), some (.int wv), some (.int z117), some (.int 0)]) dX2_reaches_180 (Nat.le_of_ble_eq_true rfl) rfl rfl ?_
                  refine J_iload (pc := 182) dX2_reaches_182 rfl ?_
                  refine J_if_eq_T (pc := 184) 199 dX2_reaches_184 (by decide) (by decide) ?_
                  refine J_iincW' (pc := 199) (i : Int) hi (lv' := fun iq_ => [some (.ref 23), some (.int mv), some (.int nv), some (.int pv), some (.int lv), some (.int mk), some (.int mo), some (.int iq_), some (.int z117), some (.int 0)]) dX2_reaches_199 rfl (by omega) (by decide) (Nat.le_of_ble_eq_true rfl) rfl (fun _ => rfl) (fun z199 e199 => ?_)
                  refine J_goto (pc := 202) 80 dX2_reaches_202 (by decide) ?_
                  refine J_lv' (lv' := [some (.ref 23), some (.int mv), some (.int nv), some (.int pv), some (.int lv), some (.int mk), some (.int mo), some (.int z199), none, none]) (by repeat' constructor) (ihr (i + 1) z199 μ169 (by omega) (by omega) hFI2 (tk_fr hT hfr2) (fr_tr hfr hfr2) (fun w' hw' => ?_))
                  have hcase : w' < i ∨ w' = i := by omega
                  rcases hcase with hlt | rfl
                  · exact hno w' hlt
                  · exact fun hh => by rcases hh.2 with ⟨h1, -⟩ | ⟨-, -, h1⟩; omega; exact hnr h1
            · exfalso; omega
          · refine J_goto (pc := 106) 199 dX2_reaches_106 (by decide) ?_
            refine J_iincW' (pc := 199) (i : Int) hi (lv' := fun iq_ => [some (.ref 23), some (.int mv), some (.int nv), some (.int pv), some (.int lv), some (.int mk), some (.int mo), some (.int iq_), none, none]) dX2_reaches_199 rfl (by omega) (by decide) (Nat.le_of_ble_eq_true rfl) rfl (fun _ => rfl) (fun z199 e199 => ?_)
            refine J_goto (pc := 202) 80 dX2_reaches_202 (by decide) ?_
            refine J_lv' (lv' := [some (.ref 23), some (.int mv), some (.int nv), some (.int pv), some (.int lv), some (.int mk), some (.int mo), some (.int z199), none, none]) (by repeat' constructor) (ihr (i + 1) z199 μ (by omega) (by omega) hFI hT hfr (fun w' hw' => ?_))
            have hcase : w' < i ∨ w' = i := by omega
            rcases hcase with hlt | rfl
            · exact hno w' hlt
            · exact fun hh => by have h1 := hh.1; have hb1 : br = true := (by by_cases hb : br = true; exact hb; rw [if_neg hb] at h91; exact absurd rfl h91); subst hb1; have h34 : w' = 3 ∨ w' = 4 := (by omega); rcases h34 with rfl | rfl <;> exact absurd h1 (by decide)
set_option maxRecDepth 100000 in
set_option maxHeartbeats 4000000 in
theorem c_X2_reaches {k wr ht e mp dp : Int} {br : Bool} (hht1 : 1 ≤ ht) (hmp : 0 ≤ mp ∧ mp ≤ 4) (hdp : -4 ≤ dp ∧ dp ≤ 4) (hmP : ∀ (w : Nat) (n : Int), w < 6 → pZ k w n ≤ mp) (hdP : ∀ n : Int, pZ k 1 n ≤ dp) : ∀ (d : Nat) (c : JM) (mv nv pv lv : Int32) (a p n : Int) (q : Nat), tk k wr ht e mp dp br c → FI k wr ht e br c → mv.toInt = mZ a p 0 → nv.toInt = n → pv.toInt = (q : Int) → lv.toInt = ((d + 1 : Nat) : Int) → (0 ≤ a ∧ a ≤ 99 ∧ 0 ≤ p ∧ p ≤ 99) → (0 ≤ n ∧ n + ((d + 1 : Nat) : Int) < 300000) → (q + (d + 1) ≤ 12) → Con G shC (mX2_reaches d) [.ref 23, .int mv, .int nv, .int pv, .int lv] c (fun v μ' => ((v = some (.int 1) ∧ rowR k wr ht e br (d + 1) a p n (fun j => (μ'.1 24 (q + j)).toInt)) ∨ (¬ rc k wr ht e br (d + 1) a p n ∧ v = some (.int 0))) ∧ FI k wr ht e br μ' ∧ fr45 c μ') := by
  intro d
  induction d with
  | zero =>
    intro c mv nv pv lv a p n q hT hFI hm hn hp hl hr hn0 hq
    have hT' := hT
    obtain ⟨hk, hwr, hht, hjn, he, hbr, hmp1, hdp1⟩ := hT'
    have hm0 : 0 ≤ mZ a p 0 := by unfold mZ; omega
    refine Con_of [some (.ref 23), some (.int mv), some (.int nv), some (.int pv), some (.int lv), none, none, none, none, none] (show plainName (mX2_reaches 0).1.cls = true by decide +kernel) (Nat.le_of_ble_eq_true rfl) (fun _ h => h) ?_
    refine J_aload_n (pc := 0) dX2_reaches_0 rfl ?_
    refine J_getN1 (pc := 1) 1 fF_X2_18 rfl rfl (hjn) dX2_reaches_1 ?_
    refine J_ifnull (pc := 4) dX2_reaches_4 ?_
    refine J_iload (pc := 7) dX2_reaches_7 rfl ?_
    refine J_iconst (pc := 9) (v := 1) dX2_reaches_9 (by decide) ?_
    refine J_icmp_ltW (pc := 10) ((0 + 1 : Nat) : Int) 1 hl rfl 32 dX2_reaches_10 (by decide) (fun h10 => ?_) (fun h10 => ?_)
    · exfalso; omega
    · refine J_iload_n (pc := 13) dX2_reaches_13 rfl ?_
      refine J_iload (pc := 14) dX2_reaches_14 rfl ?_
      refine J_iaddW (pc := 16) (q : Int) ((0 + 1 : Nat) : Int) hp hl dX2_reaches_16 (by omega) (fun z16 e16 => ?_)
      refine J_bipush (pc := 17) (v := 12) dX2_reaches_17 (by decide) ?_
      refine J_icmp_gtW (pc := 19) ((q : Int) + ((0 + 1 : Nat) : Int)) 12 e16 rfl 32 dX2_reaches_19 (by decide) (fun h19 => ?_) (fun h19 => ?_)
      · exfalso; omega
      · refine J_aload_n (pc := 22) dX2_reaches_22 rfl ?_
        refine J_iload_n (pc := 23) dX2_reaches_23 rfl ?_
        refine J_iload (pc := 24) dX2_reaches_24 rfl ?_
        refine J_callSc (pc := 26) fC_X2_87 dX2_reaches_26 (c_X2_isHopeless hT hmp hdp (d := 0) hr (by omega) hm (by omega)) rfl (re_R _ (Nat.le_of_ble_eq_true rfl) (Nat.le_of_ble_eq_true rfl)) rfl (Nat.le_of_ble_eq_true rfl) (fun h26 => ?_) (fun h26 => ?_)
        · refine J_if_eq_F (pc := 29) 34 dX2_reaches_29 (by decide) (by decide) ?_
          refine J_iconst (pc := 32) (v := 0) dX2_reaches_32 (by decide) ?_
          refine J_zret (pc := 33) dX2_reaches_33 rfl (by decide) ?_
          exact ⟨Or.inr ⟨fun hh => by obtain ⟨h26a, h26b⟩ := h26; subst h26a; have := hop hht1 hmp.1 hmP hdP 0 a p n hr.2.2.1 hh; omega, rfl⟩, hFI, fr_rf c⟩
        · refine J_if_eq_T (pc := 29) 34 dX2_reaches_29 (by decide) (by decide) ?_
          refine J_iconst (pc := 34) (v := 1) dX2_reaches_34 (by decide) ?_
          refine J_iload (pc := 35) dX2_reaches_35 rfl ?_
          refine J_iload_n (pc := 37) dX2_reaches_37 rfl ?_
          refine J_iconst (pc := 38) (v := 2) dX2_reaches_38 (by decide) ?_
          refine J_iremW (pc := 39) n 2 hn rfl dX2_reaches_39 (by omega) (fun z39 e39 => ?_)
          refine J_if_neW (pc := 40) (n % 2) e39 47 dX2_reaches_40 (by decide) (fun h40 => ?_) (fun h40 => ?_)
          · refine J_bipush (pc := 47) (v := 13) dX2_reaches_47 (by decide) ?_
            refine J_iaddW (pc := 49) ((0 + 1 : Nat) : Int) 13 hl rfl dX2_reaches_49 (by omega) (fun z49 e49 => ?_)
            refine J_ishl (pc := 50) dX2_reaches_50 ?_
            have hmk : (((1 : Int32) <<< (z49 &&& 31)) : Int32) = mkI (mkS (0 + 1) n) := by unfold mkI; rw [show z49 = iZ ((mkS (0 + 1) n : Nat) : Int) from iZ_of (by unfold mkS; first | (rw [if_pos (by omega)]; omega) | (rw [if_neg (by omega)]; omega))]
            refine J_istore (pc := 51) (lv' := [some (.ref 23), some (.int mv), some (.int nv), some (.int pv), some (.int lv), some (.int ((1 : Int32) <<< (z49 &&& 31))), none, none, none, none]) dX2_reaches_51 (Nat.le_of_ble_eq_true rfl) rfl rfl ?_
            refine J_iload_n (pc := 53) dX2_reaches_53 rfl ?_
            refine J_sipush (pc := 54) (v := 10000) dX2_reaches_54 (by decide) ?_
            refine J_iremW (pc := 57) (mZ a p 0) 10000 hm rfl dX2_reaches_57 (by omega) (fun z57 e57 => ?_)
            have q57 : z57.toInt = (a * 100 + p) := by rw [e57]; unfold mZ; omega
            refine J_istore (pc := 58) (lv' := [some (.ref 23), some (.int mv), some (.int nv), some (.int pv), some (.int lv), some (.int ((1 : Int32) <<< (z49 &&& 31))), some (.int z57), none, none, none]) dX2_reaches_58 (Nat.le_of_ble_eq_true rfl) rfl rfl ?_
            refine J_aload_n (pc := 60) dX2_reaches_60 rfl ?_
            refine J_getR (pc := 61) 25 fF_X2_15 rfl rfl dX2_reaches_61 ?_
            refine J_iload (pc := 64) dX2_reaches_64 rfl ?_
            refine J_callSe (pc := 66) fC_X2_91 dX2_reaches_66 (c_X3_at rfl (a * 100 + p).toNat (by omega) (by omega) (by omega)) rfl (re_R _ (Nat.le_of_ble_eq_true rfl) (Nat.le_of_ble_eq_true rfl)) rfl (Nat.le_of_ble_eq_true rfl) ?_
            refine J_iload (pc := 69) dX2_reaches_69 rfl ?_
            refine J_iand (pc := 71) dX2_reaches_71 ?_
            refine J_if_eqW (pc := 72) (((c.1 25 (a * 100 + p).toNat) &&& ((1 : Int32) <<< (z49 &&& 31))).toInt) rfl 77 dX2_reaches_72 (by decide) (fun h72 => ?_) (fun h72 => ?_)
            · refine J_iconst (pc := 77) (v := 0) dX2_reaches_77 (by decide) ?_
              refine J_istore (pc := 78) (lv' := [some (.ref 23), some (.int mv), some (.int nv), some (.int pv), some (.int lv), some (.int ((1 : Int32) <<< (z49 &&& 31))), some (.int z57), some (.int 0), none, none]) dX2_reaches_78 (Nat.le_of_ble_eq_true rfl) rfl rfl ?_
              refine J_lv' (lv' := [some (.ref 23), some (.int mv), some (.int nv), some (.int pv), some (.int lv), some (.int ((1 : Int32) <<< (z49 &&& 31))), some (.int z57), some (.int 0), none, none]) (by repeat' constructor) ?_
              exact l_reach0 trivial hm hn hp hl hr hn0 hq hmk q57 6 0 0 c (by omega) rfl hFI hT (fr_rf c) (fun w' hw' => absurd hw' (by omega))
            · refine J_iconst (pc := 75) (v := 0) dX2_reaches_75 (by decide) ?_
              refine J_zret (pc := 76) dX2_reaches_76 rfl (by decide) ?_
              exact ⟨Or.inr ⟨hFI a p n (0 + 1) hr ⟨by omega, by omega⟩ (fun z => h72 (by rw [hmk, z]; rfl)), rfl⟩, hFI, fr_rf c⟩
          · refine J_iconst (pc := 43) (v := 0) dX2_reaches_43 (by decide) ?_
            refine J_goto (pc := 44) 49 dX2_reaches_44 (by decide) ?_
            refine J_iaddW (pc := 49) ((0 + 1 : Nat) : Int) 0 hl rfl dX2_reaches_49 (by omega) (fun z49 e49 => ?_)
            refine J_ishl (pc := 50) dX2_reaches_50 ?_
            have hmk : (((1 : Int32) <<< (z49 &&& 31)) : Int32) = mkI (mkS (0 + 1) n) := by unfold mkI; rw [show z49 = iZ ((mkS (0 + 1) n : Nat) : Int) from iZ_of (by unfold mkS; first | (rw [if_pos (by omega)]; omega) | (rw [if_neg (by omega)]; omega))]
            refine J_istore (pc := 51) (lv' := [some (.ref 23), some (.int mv), some (.int nv), some (.int pv), some (.int lv), some (.int ((1 : Int32) <<< (z49 &&& 31))), none, none, none, none]) dX2_reaches_51 (Nat.le_of_ble_eq_true rfl) rfl rfl ?_
            refine J_iload_n (pc := 53) dX2_reaches_53 rfl ?_
            refine J_sipush (pc := 54) (v := 10000) dX2_reaches_54 (by decide) ?_
            refine J_iremW (pc := 57) (mZ a p 0) 10000 hm rfl dX2_reaches_57 (by omega) (fun z57 e57 => ?_)
            have q57 : z57.toInt = (a * 100 + p) := by rw [e57]; unfold mZ; omega
            refine J_istore (pc := 58) (lv' := [some (.ref 23), some (.int mv), some (.int nv), some (.int pv), some (.int lv), some (.int ((1 : Int32) <<< (z49 &&& 31))), some (.int z57), none, none, none]) dX2_reaches_58 (Nat.le_of_ble_eq_true rfl) rfl rfl ?_
            refine J_aload_n (pc := 60) dX2_reaches_60 rfl ?_
            refine J_getR (pc := 61) 25 fF_X2_15 rfl rfl dX2_reaches_61 ?_
            refine J_iload (pc := 64) dX2_reaches_64 rfl ?_
            refine J_callSe (pc := 66) fC_X2_91 dX2_reaches_66 (c_X3_at rfl (a * 100 + p).toNat (by omega) (by omega) (by omega)) rfl (re_R _ (Nat.le_of_ble_eq_true rfl) (Nat.le_of_ble_eq_true rfl)) rfl (Nat.le_of_ble_eq_true rfl) ?_
            refine J_iload (pc := 69) dX2_reaches_69 rfl ?_
            refine J_iand (pc := 71) dX2_reaches_71 ?_
            refine J_if_eqW (pc := 72) (((c.1 25 (a * 100 + p).toNat) &&& ((1 : Int32) <<< (z49 &&& 31))).toInt) rfl 77 dX2_reaches_72 (by decide) (fun h72 => ?_) (fun h72 => ?_)
            · refine J_iconst (pc := 77) (v := 0) dX2_reaches_77 (by decide) ?_
              refine J_istore (pc := 78) (lv' := [some (.ref 23), some (.int mv), some (.int nv), some (.int pv), some (.int lv), some (.int ((1 : Int32) <<< (z49 &&& 31))), some (.int z57), some (.int 0), none, none]) dX2_reaches_78 (Nat.le_of_ble_eq_true rfl) rfl rfl ?_
              refine J_lv' (lv' := [some (.ref 23), some (.int mv), some (.int nv), some (.int pv), some (.int lv), some (.int ((1 : Int32) <<< (z49 &&& 31))), some (.int z57), some (.int 0), none, none]) (by repeat' constructor) ?_
              exact l_reach0 trivial hm hn hp hl hr hn0 hq hmk q57 6 0 0 c (by omega) rfl hFI hT (fr_rf c) (fun w' hw' => absurd hw' (by omega))
            · refine J_iconst (pc := 75) (v := 0) dX2_reaches_75 (by decide) ?_
              refine J_zret (pc := 76) dX2_reaches_76 rfl (by decide) ?_
              exact ⟨Or.inr ⟨hFI a p n (0 + 1) hr ⟨by omega, by omega⟩ (fun z => h72 (by rw [hmk, z]; rfl)), rfl⟩, hFI, fr_rf c⟩
  | succ d ih =>
    intro c mv nv pv lv a p n q hT hFI hm hn hp hl hr hn0 hq
    have hT' := hT
    obtain ⟨hk, hwr, hht, hjn, he, hbr, hmp1, hdp1⟩ := hT'
    have hm0 : 0 ≤ mZ a p 0 := by unfold mZ; omega
    refine Con_of [some (.ref 23), some (.int mv), some (.int nv), some (.int pv), some (.int lv), none, none, none, none, none] (show plainName (mX2_reaches 0).1.cls = true by decide +kernel) (Nat.le_of_ble_eq_true rfl) (fun _ h => h) ?_
    refine J_aload_n (pc := 0) dX2_reaches_0 rfl ?_
    refine J_getN1 (pc := 1) 1 fF_X2_18 rfl rfl (hjn) dX2_reaches_1 ?_
    refine J_ifnull (pc := 4) dX2_reaches_4 ?_
    refine J_iload (pc := 7) dX2_reaches_7 rfl ?_
    refine J_iconst (pc := 9) (v := 1) dX2_reaches_9 (by decide) ?_
    refine J_icmp_ltW (pc := 10) ((d + 1 + 1 : Nat) : Int) 1 hl rfl 32 dX2_reaches_10 (by decide) (fun h10 => ?_) (fun h10 => ?_)
    · exfalso; omega
    · refine J_iload_n (pc := 13) dX2_reaches_13 rfl ?_
      refine J_iload (pc := 14) dX2_reaches_14 rfl ?_
      refine J_iaddW (pc := 16) (q : Int) ((d + 1 + 1 : Nat) : Int) hp hl dX2_reaches_16 (by omega) (fun z16 e16 => ?_)
      refine J_bipush (pc := 17) (v := 12) dX2_reaches_17 (by decide) ?_
      refine J_icmp_gtW (pc := 19) ((q : Int) + ((d + 1 + 1 : Nat) : Int)) 12 e16 rfl 32 dX2_reaches_19 (by decide) (fun h19 => ?_) (fun h19 => ?_)
      · exfalso; omega
      · refine J_aload_n (pc := 22) dX2_reaches_22 rfl ?_
        refine J_iload_n (pc := 23) dX2_reaches_23 rfl ?_
        refine J_iload (pc := 24) dX2_reaches_24 rfl ?_
        refine J_callSc (pc := 26) fC_X2_87 dX2_reaches_26 (c_X2_isHopeless hT hmp hdp (d := (d + 1)) hr (by omega) hm (by omega)) rfl (re_R _ (Nat.le_of_ble_eq_true rfl) (Nat.le_of_ble_eq_true rfl)) rfl (Nat.le_of_ble_eq_true rfl) (fun h26 => ?_) (fun h26 => ?_)
        · refine J_if_eq_F (pc := 29) 34 dX2_reaches_29 (by decide) (by decide) ?_
          refine J_iconst (pc := 32) (v := 0) dX2_reaches_32 (by decide) ?_
          refine J_zret (pc := 33) dX2_reaches_33 rfl (by decide) ?_
          exact ⟨Or.inr ⟨fun hh => by obtain ⟨h26a, h26b⟩ := h26; subst h26a; have := hop hht1 hmp.1 hmP hdP (d + 1) a p n hr.2.2.1 hh; omega, rfl⟩, hFI, fr_rf c⟩
        · refine J_if_eq_T (pc := 29) 34 dX2_reaches_29 (by decide) (by decide) ?_
          refine J_iconst (pc := 34) (v := 1) dX2_reaches_34 (by decide) ?_
          refine J_iload (pc := 35) dX2_reaches_35 rfl ?_
          refine J_iload_n (pc := 37) dX2_reaches_37 rfl ?_
          refine J_iconst (pc := 38) (v := 2) dX2_reaches_38 (by decide) ?_
          refine J_iremW (pc := 39) n 2 hn rfl dX2_reaches_39 (by omega) (fun z39 e39 => ?_)
          refine J_if_neW (pc := 40) (n % 2) e39 47 dX2_reaches_40 (by decide) (fun h40 => ?_) (fun h40 => ?_)
          · refine J_bipush (pc := 47) (v := 13) dX2_reaches_47 (by decide) ?_
            refine J_iaddW (pc := 49) ((d + 1 + 1 : Nat) : Int) 13 hl rfl dX2_reaches_49 (by omega) (fun z49 e49 => ?_)
            refine J_ishl (pc := 50) dX2_reaches_50 ?_
            have hmk : (((1 : Int32) <<< (z49 &&& 31)) : Int32) = mkI (mkS (d + 1 + 1) n) := by unfold mkI; rw [show z49 = iZ ((mkS (d + 1 + 1) n : Nat) : Int) from iZ_of (by unfold mkS; first | (rw [if_pos (by omega)]; omega) | (rw [if_neg (by omega)]; omega))]
            refine J_istore (pc := 51) (lv' := [some (.ref 23), some (.int mv), some (.int nv), some (.int pv), some (.int lv), some (.int ((1 : Int32) <<< (z49 &&& 31))), none, none, none, none]) dX2_reaches_51 (Nat.le_of_ble_eq_true rfl) rfl rfl ?_
            refine J_iload_n (pc := 53) dX2_reaches_53 rfl ?_
            refine J_sipush (pc := 54) (v := 10000) dX2_reaches_54 (by decide) ?_
            refine J_iremW (pc := 57) (mZ a p 0) 10000 hm rfl dX2_reaches_57 (by omega) (fun z57 e57 => ?_)
            have q57 : z57.toInt = (a * 100 + p) := by rw [e57]; unfold mZ; omega
            refine J_istore (pc := 58) (lv' := [some (.ref 23), some (.int mv), some (.int nv), some (.int pv), some (.int lv), some (.int ((1 : Int32) <<< (z49 &&& 31))), some (.int z57), none, none, none]) dX2_reaches_58 (Nat.le_of_ble_eq_true rfl) rfl rfl ?_
            refine J_aload_n (pc := 60) dX2_reaches_60 rfl ?_
            refine J_getR (pc := 61) 25 fF_X2_15 rfl rfl dX2_reaches_61 ?_
            refine J_iload (pc := 64) dX2_reaches_64 rfl ?_
            refine J_callSe (pc := 66) fC_X2_91 dX2_reaches_66 (c_X3_at rfl (a * 100 + p).toNat (by omega) (by omega) (by omega)) rfl (re_R _ (Nat.le_of_ble_eq_true rfl) (Nat.le_of_ble_eq_true rfl)) rfl (Nat.le_of_ble_eq_true rfl) ?_
            refine J_iload (pc := 69) dX2_reaches_69 rfl ?_
            refine J_iand (pc := 71) dX2_reaches_71 ?_
            refine J_if_eqW (pc := 72) (((c.1 25 (a * 100 + p).toNat) &&& ((1 : Int32) <<< (z49 &&& 31))).toInt) rfl 77 dX2_reaches_72 (by decide) (fun h72 => ?_) (fun h72 => ?_)
            · refine J_iconst (pc := 77) (v := 0) dX2_reaches_77 (by decide) ?_
              refine J_istore (pc := 78) (lv' := [some (.ref 23), some (.int mv), some (.int nv), some (.int pv), some (.int lv), some (.int ((1 : Int32) <<< (z49 &&& 31))), some (.int z57), some (.int 0), none, none]) dX2_reaches_78 (Nat.le_of_ble_eq_true rfl) rfl rfl ?_
              refine J_lv' (lv' := [some (.ref 23), some (.int mv), some (.int nv), some (.int pv), some (.int lv), some (.int ((1 : Int32) <<< (z49 &&& 31))), some (.int z57), some (.int 0), none, none]) (by repeat' constructor) ?_
              exact l_reach1 trivial ih hm hn hp hl hr hn0 hq hmk q57 6 0 0 c (by omega) rfl hFI hT (fr_rf c) (fun w' hw' => absurd hw' (by omega))
            · refine J_iconst (pc := 75) (v := 0) dX2_reaches_75 (by decide) ?_
              refine J_zret (pc := 76) dX2_reaches_76 rfl (by decide) ?_
              exact ⟨Or.inr ⟨hFI a p n (d + 1 + 1) hr ⟨by omega, by omega⟩ (fun z => h72 (by rw [hmk, z]; rfl)), rfl⟩, hFI, fr_rf c⟩
          · refine J_iconst (pc := 43) (v := 0) dX2_reaches_43 (by decide) ?_
            refine J_goto (pc := 44) 49 dX2_reaches_44 (by decide) ?_
            refine J_iaddW (pc := 49) ((d + 1 + 1 : Nat) : Int) 0 hl rfl dX2_reaches_49 (by omega) (fun z49 e49 => ?_)
            refine J_ishl (pc := 50) dX2_reaches_50 ?_
            have hmk : (((1 : Int32) <<< (z49 &&& 31)) : Int32) = mkI (mkS (d + 1 + 1) n) := by unfold mkI; rw [show z49 = iZ ((mkS (d + 1 + 1) n : Nat) : Int) from iZ_of (by unfold mkS; first | (rw [if_pos (by omega)]; omega) | (rw [if_neg (by omega)]; omega))]
            refine J_istore (pc := 51) (lv' := [some (.ref 23), some (.int mv), some (.int nv), some (.int pv), some (.int lv), some (.int ((1 : Int32) <<< (z49 &&& 31))), none, none, none, none]) dX2_reaches_51 (Nat.le_of_ble_eq_true rfl) rfl rfl ?_
            refine J_iload_n (pc := 53) dX2_reaches_53 rfl ?_
            refine J_sipush (pc := 54) (v := 10000) dX2_reaches_54 (by decide) ?_
            refine J_iremW (pc := 57) (mZ a p 0) 10000 hm rfl dX2_reaches_57 (by omega) (fun z57 e57 => ?_)
            have q57 : z57.toInt = (a * 100 + p) := by rw [e57]; unfold mZ; omega
            refine J_istore (pc := 58) (lv' := [some (.ref 23), some (.int mv), some (.int nv), some (.int pv), some (.int lv), some (.int ((1 : Int32) <<< (z49 &&& 31))), some (.int z57), none, none, none]) dX2_reaches_58 (Nat.le_of_ble_eq_true rfl) rfl rfl ?_
            refine J_aload_n (pc := 60) dX2_reaches_60 rfl ?_
            refine J_getR (pc := 61) 25 fF_X2_15 rfl rfl dX2_reaches_61 ?_
            refine J_iload (pc := 64) dX2_reaches_64 rfl ?_
            refine J_callSe (pc := 66) fC_X2_91 dX2_reaches_66 (c_X3_at rfl (a * 100 + p).toNat (by omega) (by omega) (by omega)) rfl (re_R _ (Nat.le_of_ble_eq_true rfl) (Nat.le_of_ble_eq_true rfl)) rfl (Nat.le_of_ble_eq_true rfl) ?_
            refine J_iload (pc := 69) dX2_reaches_69 rfl ?_
            refine J_iand (pc := 71) dX2_reaches_71 ?_
            refine J_if_eqW (pc := 72) (((c.1 25 (a * 100 + p).toNat) &&& ((1 : Int32) <<< (z49 &&& 31))).toInt) rfl 77 dX2_reaches_72 (by decide) (fun h72 => ?_) (fun h72 => ?_)
            · refine J_iconst (pc := 77) (v := 0) dX2_reaches_77 (by decide) ?_
              refine J_istore (pc := 78) (lv' := [some (.ref 23), some (.int mv), some (.int nv), some (.int pv), some (.int lv), some (.int ((1 : Int32) <<< (z49 &&& 31))), some (.int z57), some (.int 0), none, none]) dX2_reaches_78 (Nat.le_of_ble_eq_true rfl) rfl rfl ?_
              refine J_lv' (lv' := [some (.ref 23), some (.int mv), some (.int nv), some (.int pv), some (.int lv), some (.int ((1 : Int32) <<< (z49 &&& 31))), some (.int z57), some (.int 0), none, none]) (by repeat' constructor) ?_
              exact l_reach1 trivial ih hm hn hp hl hr hn0 hq hmk q57 6 0 0 c (by omega) rfl hFI hT (fr_rf c) (fun w' hw' => absurd hw' (by omega))
            · refine J_iconst (pc := 75) (v := 0) dX2_reaches_75 (by decide) ?_
              refine J_zret (pc := 76) dX2_reaches_76 rfl (by decide) ?_
              exact ⟨Or.inr ⟨hFI a p n (d + 1 + 1) hr ⟨by omega, by omega⟩ (fun z => h72 (by rw [hmk, z]; rfl)), rfl⟩, hFI, fr_rf c⟩

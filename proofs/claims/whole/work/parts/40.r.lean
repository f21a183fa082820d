/-! ===== odds ===== -/
/-- the class's weight of what is left; t of 10 are heard -/
def wg (k wr ht : Int) (f : Nat → Int) (t : Int) : Nat → Nat → Int → Int → Int → Int → Int
  | 0, _, _, _, _, b => if b = 1 then 1 else 0
  | d + 1, i, a, p, n, b => if b = 0 then t * wg k wr ht f t d (i + 1) (hA2 k a n (f i)) (hP2 k p n (f i)) (n + 1) (jZ wr ht (hA2 k a n (f i)) (hP2 k p n (f i)) (f i)) + (10 - t) * wg k wr ht f t d (i + 1) a p n b else if b = 1 then pw (d + 1) else 0
/-- one way h of hearing, its lowest bit first -/
def vl (k wr ht : Int) (f : Nat → Int) (t : Int) : Nat → Nat → Nat → Int → Int → Int → Int → Int
  | 0, _, _, _, _, _, b => if b = 1 then 1 else 0
  | d + 1, i, h, a, p, n, b => if h % 2 = 1 then t * (if b = 0 then vl k wr ht f t d (i + 1) (h / 2) (hA2 k a n (f i)) (hP2 k p n (f i)) (n + 1) (jZ wr ht (hA2 k a n (f i)) (hP2 k p n (f i)) (f i)) else vl k wr ht f t d (i + 1) (h / 2) a p n b) else (10 - t) * vl k wr ht f t d (i + 1) (h / 2) a p n b
def sumN (F : Nat → Int) : Nat → Int
  | 0 => 0
  | n + 1 => sumN F n + F n
def po2 : Nat → Nat
  | 0 => 1
  | k + 1 => 2 * po2 k
theorem mulb {t x y : Int} (ht : 0 ≤ t ∧ t ≤ 10) (hx : 0 ≤ x ∧ x ≤ y) : 0 ≤ t * x ∧ t * x ≤ 10 * y :=
  ⟨Int.mul_nonneg ht.1 hx.1, Int.mul_le_mul ht.2 hx.2 hx.1 (by decide)⟩
theorem mulc {t x y : Int} (ht : 0 ≤ t ∧ t ≤ 10) (hx : 0 ≤ x ∧ x ≤ y) : 0 ≤ t * x ∧ t * x ≤ t * y :=
  ⟨Int.mul_nonneg ht.1 hx.1, Int.mul_le_mul_of_nonneg_left hx.2 ht.1⟩
theorem tsum (t y : Int) : t * y + (10 - t) * y = 10 * y := by rw [← Int.add_mul]; congr 1; omega
theorem wg_rng {k wr ht : Int} {f : Nat → Int} {t : Int} (hT : 0 ≤ t ∧ t ≤ 10) : ∀ (d i : Nat) (a p n b : Int), 0 ≤ wg k wr ht f t d i a p n b ∧ wg k wr ht f t d i a p n b ≤ pw d
  | 0, i, a, p, n, b => by rw [wg, pw]; split <;> omega
  | d + 1, i, a, p, n, b => by
    rw [wg, pw]
    have h1 := pw_pos d
    split
    · have a1 := wg_rng (k := k) (wr := wr) (ht := ht) (f := f) hT d (i + 1) (hA2 k a n (f i)) (hP2 k p n (f i)) (n + 1) (jZ wr ht (hA2 k a n (f i)) (hP2 k p n (f i)) (f i))
      have a2 := wg_rng (k := k) (wr := wr) (ht := ht) (f := f) hT d (i + 1) a p n b
      have b1 := mulc hT a1
      have b2 := mulc (t := 10 - t) (by omega) a2
      have b3 := tsum t (pw d)
      omega
    · split <;> omega
theorem vl_rng {k wr ht : Int} {f : Nat → Int} {t : Int} (hT : 0 ≤ t ∧ t ≤ 10) : ∀ (d i h : Nat) (a p n b : Int), 0 ≤ vl k wr ht f t d i h a p n b ∧ vl k wr ht f t d i h a p n b ≤ pw d
  | 0, i, h, a, p, n, b => by rw [vl, pw]; split <;> omega
  | d + 1, i, h, a, p, n, b => by
    rw [vl, pw]
    split
    · split
      · exact mulb hT (vl_rng hT d _ _ _ _ _ _)
      · exact mulb hT (vl_rng hT d _ _ _ _ _ _)
    · exact mulb (t := 10 - t) (by omega) (vl_rng hT d _ _ _ _ _ _)
theorem sumN_2 (F : Nat → Int) : ∀ n, sumN F (2 * n) = sumN (fun h => F (2 * h)) n + sumN (fun h => F (2 * h + 1)) n
  | 0 => rfl
  | n + 1 => by
    have ih := sumN_2 F n
    rw [show 2 * (n + 1) = 2 * n + 1 + 1 by omega, sumN, sumN, ih, sumN, sumN]
    omega
theorem sumN_c (F G : Nat → Int) (c : Int) (h : ∀ i, F i = c * G i) : ∀ n, sumN F n = c * sumN G n
  | 0 => by rw [sumN, sumN, Int.mul_zero]
  | n + 1 => by rw [sumN, sumN, sumN_c F G c h n, h, Int.mul_add]
theorem sumN_rng {F : Nat → Int} (h : ∀ i, 0 ≤ F i ∧ F i ≤ 10000000) : ∀ n : Nat, 0 ≤ sumN F n ∧ sumN F n ≤ (n : Int) * 10000000
  | 0 => by rw [sumN]; omega
  | n + 1 => by have := sumN_rng h n; have := h n; rw [sumN]; omega
theorem sum_vl {k wr ht : Int} {f : Nat → Int} {t : Int} : ∀ (d i : Nat) (a p n b : Int), sumN (fun h => vl k wr ht f t d i h a p n b) (po2 d) = wg k wr ht f t d i a p n b
  | 0, i, a, p, n, b => by
    rw [po2, sumN, sumN, wg, vl, Int.zero_add]
  | d + 1, i, a, p, n, b => by
    have s0 := sum_vl (k := k) (wr := wr) (ht := ht) (f := f) (t := t) d (i + 1) a p n b
    have s1 := sum_vl (k := k) (wr := wr) (ht := ht) (f := f) (t := t) d (i + 1) (hA2 k a n (f i)) (hP2 k p n (f i)) (n + 1) (jZ wr ht (hA2 k a n (f i)) (hP2 k p n (f i)) (f i))
    rw [po2, sumN_2, wg, ← s0, ← s1]
    rw [sumN_c (fun h => vl k wr ht f t (d + 1) i (2 * h) a p n b) (fun h => vl k wr ht f t d (i + 1) h a p n b) (10 - t) (fun h => by rw [vl, if_neg (by omega), show 2 * h / 2 = h by omega])]
    by_cases hb : b = 0
    · rw [if_pos hb, sumN_c (fun h => vl k wr ht f t (d + 1) i (2 * h + 1) a p n b) (fun h => vl k wr ht f t d (i + 1) h (hA2 k a n (f i)) (hP2 k p n (f i)) (n + 1) (jZ wr ht (hA2 k a n (f i)) (hP2 k p n (f i)) (f i))) t (fun h => by rw [vl, if_pos (by omega), if_pos hb, show (2 * h + 1) / 2 = h by omega])]
      omega
    · rw [if_neg hb, sumN_c (fun h => vl k wr ht f t (d + 1) i (2 * h + 1) a p n b) (fun h => vl k wr ht f t d (i + 1) h a p n b) t (fun h => by rw [vl, if_pos (by omega), if_neg hb, show (2 * h + 1) / 2 = h by omega])]
      rw [s0, Int.add_comm, tsum, pw]
      cases d with
      | zero => rw [wg, pw]; split <;> rfl
      | succ d => rw [wg, if_neg hb]; split <;> omega
theorem bit_z : ∀ (h : Fin 128) (i : Fin 7), (((iZ ((h : Nat) : Int) >>> (iZ ((i : Nat) : Int) &&& 31)) &&& 1) : Int32).toInt = ((h : Nat) / po2 (i : Nat) % 2 : Nat) := by decide +kernel
theorem shl_z : ∀ L : Fin 8, ((1 : Int32) <<< (iZ ((L : Nat) : Int) &&& 31)).toInt = (po2 (L : Nat) : Nat) := by decide +kernel
theorem po2_le : ∀ L : Fin 8, 1 ≤ po2 (L : Nat) ∧ po2 (L : Nat) ≤ 128 := by decide +kernel
theorem pw_le : ∀ L : Fin 8, pw (L : Nat) ≤ 10000000 := by decide +kernel
theorem po2_s (h i : Nat) : h / po2 (i + 1) = h / po2 i / 2 := by rw [po2, Nat.mul_comm, Nat.div_div_eq_div_mul]
theorem rw_R {Mc : JMth} (d : Nat) (h1 : Mc.2.2.2.2.1 + 1 ≤ 10) (h2 : 8 + (Mc.2.2.1 + 11) + Mc.2.2.2.2.2 ≤ 300) : j_R (mX2_weigh d) Mc := ⟨by show _ ≤ 2 * (4 + d) + 2; omega, by show _ ≤ 60 * (4 + d) + 60; omega⟩
variable {G : JG}
set_option maxRecDepth 100000 in
set_option maxHeartbeats 4000000 in
theorem c_X2_weigh {c : JM} {k wr ht : Int} (hk : (c.1 1 0).toInt = k) (hwr : (c.1 1 1).toInt = wr) (hht : (c.1 1 2).toInt = ht) (hjn : ¬ c.1 23 2 = 0) {f : Nat → Int} {L : Nat} {t : Int} (hL : (c.1 23 7).toInt = (L : Int)) (hT : (c.1 23 8).toInt = t) (ht10 : 0 ≤ t ∧ t ≤ 10) (hL7 : L ≤ 7) (hf : ∀ j, j < L → (c.1 24 j).toInt = f j ∧ 0 ≤ f j ∧ f j ≤ 5) : ∀ (d i : Nat) (mv nv iv : Int32) (a p n b : Int), i + d = L → mv.toInt = mZ a p b → nv.toInt = n → iv.toInt = (i : Int) → (0 ≤ a ∧ a ≤ 99 ∧ 0 ≤ p ∧ p ≤ 99 ∧ 0 ≤ b ∧ b ≤ 2) → (0 ≤ n ∧ n + (d : Int) < 300000) → Con G shC (mX2_weigh d) [.ref 23, .int mv, .int nv, .int iv] c (fun v μ' => IsL v (wg k wr ht f t d i a p n b) ∧ μ' = c) := by
  intro d
  induction d with
  | zero =>
    intro i mv nv iv a p n b hd hm hn hi hr hn2
    obtain ⟨d1, d2, d3⟩ := mZ_d (b := b) ⟨hr.1, hr.2.1, hr.2.2.1, hr.2.2.2.1⟩
    have hm0 : 0 ≤ mZ a p b := by unfold mZ; omega
    refine Con_of [some (.ref 23), some (.int mv), some (.int nv), some (.int iv), none] (show plainName (mX2_weigh 0).1.cls = true by decide +kernel) (Nat.le_of_ble_eq_true rfl) (fun _ h => h) ?_
    refine J_aload_n (pc := 0) dX2_weigh_0 rfl ?_
    refine J_getN1 (pc := 1) 1 fF_X2_18 rfl rfl (by assumption) dX2_weigh_1 ?_
    refine J_ifnull (pc := 4) dX2_weigh_4 ?_
    refine J_iload_n (pc := 7) dX2_weigh_7 rfl ?_
    refine J_aload_n (pc := 8) dX2_weigh_8 rfl ?_
    refine J_getI (pc := 9) fF_X2_104 rfl rfl dX2_weigh_9 ?_
    refine J_icmp_geW (pc := 12) (i : Int) (L : Int) hi hL 28 dX2_weigh_12 (by decide) (fun h12 => ?_) (fun h12 => ?_)
    · refine J_iload_n (pc := 28) dX2_weigh_28 rfl ?_
      refine J_callSz (pc := 29) fC_X2_40 dX2_weigh_29 (c_X3_beingOf (mZ a p b) hm (by omega)) rfl (rw_R _ (Nat.le_of_ble_eq_true rfl) (Nat.le_of_ble_eq_true rfl)) rfl (Nat.le_of_ble_eq_true rfl) (fun z29 e29 => ?_)
      have q29 : z29.toInt = b := by rw [e29, d3]
      refine J_iconst (pc := 32) (v := 1) dX2_weigh_32 (by decide) ?_
      refine J_icmp_neW (pc := 33) b 1 q29 rfl 48 dX2_weigh_33 (by decide) (fun h33 => ?_) (fun h33 => ?_)
      · refine J_lconst (pc := 48) (v := 0) dX2_weigh_48 (by decide) ?_
        refine J_lret (pc := 49) dX2_weigh_49 rfl ?_
        exact ⟨⟨_, rfl, by rw [wg]; rw [if_neg h33]; rfl⟩, rfl⟩
      · refine J_aload_n (pc := 36) dX2_weigh_36 rfl ?_
        refine J_getI (pc := 37) fF_X2_104 rfl rfl dX2_weigh_37 ?_
        refine J_iload_n (pc := 40) dX2_weigh_40 rfl ?_
        refine J_isubW (pc := 41) (L : Int) (i : Int) hL hi dX2_weigh_41 (by omega) (fun z41 e41 => ?_)
        refine J_callSq (pc := 42) fC_X2_22 dX2_weigh_42 (c_X3_powerOfTen 0 (by omega) (by omega)) rfl (rw_R _ (Nat.le_of_ble_eq_true rfl) (Nat.le_of_ble_eq_true rfl)) rfl (Nat.le_of_ble_eq_true rfl) (fun v42 μ42 q42 => ?_)
        obtain ⟨⟨z42, rfl, e42⟩, q42⟩ := q42
        rw [q42]
        refine J_goto (pc := 45) 49 dX2_weigh_45 (by decide) ?_
        refine J_lret (pc := 49) dX2_weigh_49 rfl ?_
        exact ⟨⟨_, rfl, by rw [wg]; rw [if_pos h33]; exact e42⟩, rfl⟩
    · exfalso; omega
  | succ d ih =>
    intro i mv nv iv a p n b hd hm hn hi hr hn2
    obtain ⟨d1, d2, d3⟩ := mZ_d (b := b) ⟨hr.1, hr.2.1, hr.2.2.1, hr.2.2.2.1⟩
    have hm0 : 0 ≤ mZ a p b := by unfold mZ; omega
    have g1 := hA2_rng k a n (f i)
    have g2 := hP2_rng k p n (f i)
    have g3 := jZ_rng wr ht (hA2 k a n (f i)) (hP2 k p n (f i)) (f i)
    have hfi := (hf i (by omega)).2
    have w1 := wg_rng ht10 (k := k) (wr := wr) (ht := ht) (f := f) d (i + 1) (hA2 k a n (f i)) (hP2 k p n (f i)) (n + 1) (jZ wr ht (hA2 k a n (f i)) (hP2 k p n (f i)) (f i))
    have w0 := wg_rng ht10 (k := k) (wr := wr) (ht := ht) (f := f) d (i + 1) a p n b
    have m1 := mulb ht10 w1
    have m0 := mulb (t := 10 - t) (by omega) w0
    have hpd := pw_rng (show d ≤ 9 by omega)
    refine Con_of [some (.ref 23), some (.int mv), some (.int nv), some (.int iv), none] (show plainName (mX2_weigh 0).1.cls = true by decide +kernel) (Nat.le_of_ble_eq_true rfl) (fun _ h => h) ?_
    refine J_aload_n (pc := 0) dX2_weigh_0 rfl ?_
    refine J_getN1 (pc := 1) 1 fF_X2_18 rfl rfl (by assumption) dX2_weigh_1 ?_
    refine J_ifnull (pc := 4) dX2_weigh_4 ?_
    refine J_iload_n (pc := 7) dX2_weigh_7 rfl ?_
    refine J_aload_n (pc := 8) dX2_weigh_8 rfl ?_
    refine J_getI (pc := 9) fF_X2_104 rfl rfl dX2_weigh_9 ?_
    refine J_icmp_geW (pc := 12) (i : Int) (L : Int) hi hL 28 dX2_weigh_12 (by decide) (fun h12 => ?_) (fun h12 => ?_)
    · exfalso; omega
    · refine J_iload_n (pc := 15) dX2_weigh_15 rfl ?_
      refine J_bipush (pc := 16) (v := 7) dX2_weigh_16 (by decide) ?_
      refine J_icmp_geW (pc := 18) (i : Int) 7 hi rfl 28 dX2_weigh_18 (by decide) (fun h18 => ?_) (fun h18 => ?_)
      · exfalso; omega
      · refine J_iload_n (pc := 21) dX2_weigh_21 rfl ?_
        refine J_callSz (pc := 22) fC_X2_40 dX2_weigh_22 (c_X3_beingOf (mZ a p b) hm (by omega)) rfl (rw_R _ (Nat.le_of_ble_eq_true rfl) (Nat.le_of_ble_eq_true rfl)) rfl (Nat.le_of_ble_eq_true rfl) (fun z22 e22 => ?_)
        have q22 : z22.toInt = b := by rw [e22, d3]
        refine J_if_eqW (pc := 25) b q22 50 dX2_weigh_25 (by decide) (fun h25 => ?_) (fun h25 => ?_)
        · refine J_aload_n (pc := 50) dX2_weigh_50 rfl ?_
          refine J_getN1 (pc := 51) 1 fF_X2_18 rfl rfl (by assumption) dX2_weigh_51 ?_
          refine J_iload_n (pc := 54) dX2_weigh_54 rfl ?_
          refine J_iload_n (pc := 55) dX2_weigh_55 rfl ?_
          refine J_aload_n (pc := 56) dX2_weigh_56 rfl ?_
          refine J_getR (pc := 57) 24 fF_X2_9 rfl rfl dX2_weigh_57 ?_
          refine J_iload_n (pc := 60) dX2_weigh_60 rfl ?_
          refine J_callSe (pc := 61) fC_X2_91 dX2_weigh_61 (c_X3_at rfl i (by omega) (by omega) (by omega)) rfl (rw_R _ (Nat.le_of_ble_eq_true rfl) (Nat.le_of_ble_eq_true rfl)) rfl (Nat.le_of_ble_eq_true rfl) ?_
          refine J_callVz (pc := 64) fC_X2_95 rfl dX2_weigh_64 (c_X0_hear jarAt_1 (mZ a p b) n (f i) hm hn ((hf i (by omega)).1) (by omega)) rfl (rw_R _ (Nat.le_of_ble_eq_true rfl) (Nat.le_of_ble_eq_true rfl)) rfl (Nat.le_of_ble_eq_true rfl) (fun z64 e64 => ?_)
          have q64 : z64.toInt = (mZ (hA2 k a n (f i)) (hP2 k p n (f i)) (jZ wr ht (hA2 k a n (f i)) (hP2 k p n (f i)) (f i))) := by rw [e64, hk, hwr, hht, hM_2 ⟨hr.1, hr.2.1, hr.2.2.1, hr.2.2.2.1⟩]
          refine J_istore (pc := 67) (lv' := [some (.ref 23), some (.int mv), some (.int nv), some (.int iv), some (.int z64)]) dX2_weigh_67 (Nat.le_of_ble_eq_true rfl) rfl rfl ?_
          refine J_aload_n (pc := 69) dX2_weigh_69 rfl ?_
          refine J_getI (pc := 70) fF_X2_107 rfl rfl dX2_weigh_70 ?_
          refine J_i2l (pc := 73) dX2_weigh_73 rfl ?_
          refine J_aload_n (pc := 74) dX2_weigh_74 rfl ?_
          refine J_iload (pc := 75) dX2_weigh_75 rfl ?_
          refine J_iload_n (pc := 77) dX2_weigh_77 rfl ?_
          refine J_iconst (pc := 78) (v := 1) dX2_weigh_78 (by decide) ?_
          refine J_iaddW (pc := 79) n 1 hn rfl dX2_weigh_79 (by omega) (fun z79 e79 => ?_)
          refine J_iload_n (pc := 80) dX2_weigh_80 rfl ?_
          refine J_iconst (pc := 81) (v := 1) dX2_weigh_81 (by decide) ?_
          refine J_iaddW (pc := 82) (i : Int) 1 hi rfl dX2_weigh_82 (by omega) (fun z82 e82 => ?_)
          refine J_callSq (pc := 83) (fC_X2_110 d) dX2_weigh_83 (ih (i + 1) _ _ _ (hA2 k a n (f i)) (hP2 k p n (f i)) (n + 1) (jZ wr ht (hA2 k a n (f i)) (hP2 k p n (f i)) (f i)) (by omega) (q64) (e79) (e82) (by omega) (by omega)) rfl ⟨by show 2 * (4 + d) + 2 + 1 ≤ 2 * (4 + (d + 1)) + 2; omega, by show 8 + (5 + 11) + (60 * (4 + d) + 60) ≤ 60 * (4 + (d + 1)) + 60; omega⟩ rfl (Nat.le_of_ble_eq_true rfl) (fun v83 μ83 q83 => ?_)
          obtain ⟨⟨z83, rfl, e83⟩, q83⟩ := q83
          rw [q83]
          refine J_lmulW (pc := 86) t (wg k wr ht f t d (i + 1) (hA2 k a n (f i)) (hP2 k p n (f i)) (n + 1) (jZ wr ht (hA2 k a n (f i)) (hP2 k p n (f i)) (f i))) (i2l_z hT) e83 dX2_weigh_86 (by omega) (fun z86 e86 => ?_)
          refine J_bipush (pc := 87) (v := 10) dX2_weigh_87 (by decide) ?_
          refine J_aload_n (pc := 89) dX2_weigh_89 rfl ?_
          refine J_getI (pc := 90) fF_X2_107 rfl rfl dX2_weigh_90 ?_
          refine J_isubW (pc := 93) 10 t rfl hT dX2_weigh_93 (by omega) (fun z93 e93 => ?_)
          refine J_i2l (pc := 94) dX2_weigh_94 rfl ?_
          refine J_aload_n (pc := 95) dX2_weigh_95 rfl ?_
          refine J_iload_n (pc := 96) dX2_weigh_96 rfl ?_
          refine J_iload_n (pc := 97) dX2_weigh_97 rfl ?_
          refine J_iload_n (pc := 98) dX2_weigh_98 rfl ?_
          refine J_iconst (pc := 99) (v := 1) dX2_weigh_99 (by decide) ?_
          refine J_iaddW (pc := 100) (i : Int) 1 hi rfl dX2_weigh_100 (by omega) (fun z100 e100 => ?_)
          refine J_callSq (pc := 101) (fC_X2_110 d) dX2_weigh_101 (ih (i + 1) _ _ _ a p n b (by omega) (hm) (hn) (e100) (by omega) (by omega)) rfl ⟨by show 2 * (4 + d) + 2 + 1 ≤ 2 * (4 + (d + 1)) + 2; omega, by show 8 + (5 + 11) + (60 * (4 + d) + 60) ≤ 60 * (4 + (d + 1)) + 60; omega⟩ rfl (Nat.le_of_ble_eq_true rfl) (fun v101 μ101 q101 => ?_)
          obtain ⟨⟨z101, rfl, e101⟩, q101⟩ := q101
          rw [q101]
          refine J_lmulW (pc := 104) (10 - t) (wg k wr ht f t d (i + 1) a p n b) (i2l_z e93) e101 dX2_weigh_104 (by omega) (fun z104 e104 => ?_)
          refine J_laddW (pc := 105) (t * (wg k wr ht f t d (i + 1) (hA2 k a n (f i)) (hP2 k p n (f i)) (n + 1) (jZ wr ht (hA2 k a n (f i)) (hP2 k p n (f i)) (f i)))) ((10 - t) * (wg k wr ht f t d (i + 1) a p n b)) e86 e104 dX2_weigh_105 (by omega) (fun z105 e105 => ?_)
          refine J_lret (pc := 106) dX2_weigh_106 rfl ?_
          exact ⟨⟨_, rfl, by rw [wg, if_pos h25]; exact e105⟩, rfl⟩
        · refine J_iload_n (pc := 28) dX2_weigh_28 rfl ?_
          refine J_callSz (pc := 29) fC_X2_40 dX2_weigh_29 (c_X3_beingOf (mZ a p b) hm (by omega)) rfl (rw_R _ (Nat.le_of_ble_eq_true rfl) (Nat.le_of_ble_eq_true rfl)) rfl (Nat.le_of_ble_eq_true rfl) (fun z29 e29 => ?_)
          have q29 : z29.toInt = b := by rw [e29, d3]
          refine J_iconst (pc := 32) (v := 1) dX2_weigh_32 (by decide) ?_
          refine J_icmp_neW (pc := 33) b 1 q29 rfl 48 dX2_weigh_33 (by decide) (fun h33 => ?_) (fun h33 => ?_)
          · refine J_lconst (pc := 48) (v := 0) dX2_weigh_48 (by decide) ?_
            refine J_lret (pc := 49) dX2_weigh_49 rfl ?_
            exact ⟨⟨_, rfl, by rw [wg, if_neg h25]; rw [if_neg h33]; rfl⟩, rfl⟩
          · refine J_aload_n (pc := 36) dX2_weigh_36 rfl ?_
            refine J_getI (pc := 37) fF_X2_104 rfl rfl dX2_weigh_37 ?_
            refine J_iload_n (pc := 40) dX2_weigh_40 rfl ?_
            refine J_isubW (pc := 41) (L : Int) (i : Int) hL hi dX2_weigh_41 (by omega) (fun z41 e41 => ?_)
            refine J_callSq (pc := 42) fC_X2_22 dX2_weigh_42 (c_X3_powerOfTen (d + 1) (by omega) (by omega)) rfl (rw_R _ (Nat.le_of_ble_eq_true rfl) (Nat.le_of_ble_eq_true rfl)) rfl (Nat.le_of_ble_eq_true rfl) (fun v42 μ42 q42 => ?_)
            obtain ⟨⟨z42, rfl, e42⟩, q42⟩ := q42
            rw [q42]
            refine J_goto (pc := 45) 49 dX2_weigh_45 (by decide) ?_
            refine J_lret (pc := 49) dX2_weigh_49 rfl ?_
            exact ⟨⟨_, rfl, by rw [wg, if_neg h25]; rw [if_pos h33]; exact e42⟩, rfl⟩
set_option maxRecDepth 100000 in
set_option maxHeartbeats 4000000 in
theorem c_X2_weighIn {c : JM} {k wr ht a p n b : Int} (hk : (c.1 1 0).toInt = k) (hwr : (c.1 1 1).toInt = wr) (hht : (c.1 1 2).toInt = ht) (h3 : (c.1 1 3).toInt = mZ a p b) (h4 : (c.1 1 4).toInt = n) (hr : 0 ≤ a ∧ a ≤ 99 ∧ 0 ≤ p ∧ p ≤ 99 ∧ 0 ≤ b ∧ b ≤ 2) (hn : 0 ≤ n ∧ n < 200000) {f : Nat → Int} {L : Nat} {t : Int} {lv tv : Int32} (hL : lv.toInt = (L : Int)) (hT : tv.toInt = t) (ht10 : 0 ≤ t ∧ t ≤ 10) (hL7 : L ≤ 7) (hf : ∀ j, j < L → (c.1 24 j).toInt = f j ∧ 0 ≤ f j ∧ f j ≤ 5)  : Con G shC mX2_weighIn [.ref 23, .ref 1, .int lv, .int tv] c (fun v μ' => IsL v (wg k wr ht f t L 0 a p n b) ∧ (∀ o, o ≠ 23 → μ'.1 o = c.1 o) ∧ μ'.2 = c.2) := by
  refine Con_of [some (.ref 23), some (.ref 1), some (.int lv), some (.int tv)] (by decide +kernel) (Nat.le_of_ble_eq_true rfl) (fun _ h => h) ?_
  refine J_aload_n (pc := 0) dX2_weighIn_0 rfl ?_
  refine J_aload_n (pc := 1) dX2_weighIn_1 rfl ?_
  refine J_putNW (pc := 2) fF_X2_18 rfl rfl dX2_weighIn_2 (fun μ2 m2 => ?_)
  refine J_aload_n (pc := 5) dX2_weighIn_5 rfl ?_
  refine J_iload_n (pc := 6) dX2_weighIn_6 rfl ?_
  refine J_putIW (pc := 7) fF_X2_104 rfl rfl dX2_weighIn_7 (fun μ7 m7 => ?_)
  refine J_aload_n (pc := 10) dX2_weighIn_10 rfl ?_
  refine J_iload_n (pc := 11) dX2_weighIn_11 rfl ?_
  refine J_putIW (pc := 12) fF_X2_107 rfl rfl dX2_weighIn_12 (fun μ12 m12 => ?_)
  refine J_aload_n (pc := 15) dX2_weighIn_15 rfl ?_
  refine J_aload_n (pc := 16) dX2_weighIn_16 rfl ?_
  refine J_getI (pc := 17) fF_X2_34 rfl rfl dX2_weighIn_17 ?_
  refine J_aload_n (pc := 20) dX2_weighIn_20 rfl ?_
  refine J_getI (pc := 21) fF_X2_48 rfl rfl dX2_weighIn_21 ?_
  refine J_iconst (pc := 24) (v := 0) dX2_weighIn_24 (by decide) ?_
  refine J_callSq (pc := 25) (fC_X2_110 L) dX2_weighIn_25 (c_X2_weigh (k := k) (wr := wr) (ht := ht) (by rw [m12, jI_ne (by decide), m7, jI_ne (by decide), m2, jI_ne (by decide)]; exact hk) (by rw [m12, jI_ne (by decide), m7, jI_ne (by decide), m2, jI_ne (by decide)]; exact hwr) (by rw [m12, jI_ne (by decide), m7, jI_ne (by decide), m2, jI_ne (by decide)]; exact hht) (by rw [m12, m7, m2]; simp [jI_i]) (L := L) (f := f) (t := t) (by rw [m12, jI_i, if_neg (by decide), m7, jI_i, if_pos ⟨rfl, rfl⟩]; exact hL) (by rw [m12, jI_i, if_pos ⟨rfl, rfl⟩]; exact hT) ht10 hL7 (fun j hj => ⟨(by rw [m12, jI_ne (by decide), m7, jI_ne (by decide), m2, jI_ne (by decide)]; exact (hf j hj).1), (hf j hj).2⟩) L 0 _ _ _ a p n b (by omega) ((show (μ12.1 1 3).toInt = (mZ a p b) by simp [m12, m7, jI_i]; exact (by rw [m2, jI_ne (by decide)]; exact h3))) ((show (μ12.1 1 4).toInt = n by simp [m12, m7, jI_i]; exact (by rw [m2, jI_ne (by decide)]; exact h4))) rfl hr (by omega)) rfl ⟨by show 2 * (4 + L) + 2 + 1 ≤ 30; omega, by show 8 + (5 + 11) + (60 * (4 + L) + 60) ≤ 900; omega⟩ rfl (Nat.le_of_ble_eq_true rfl) (fun v25 μ25 q25 => ?_)
  obtain ⟨⟨z25, rfl, e25⟩, q25⟩ := q25
  rw [q25]
  refine J_lret (pc := 28) dX2_weighIn_28 rfl ?_
  refine ⟨⟨_, rfl, e25⟩, fun o ho => ?_, by rw [m12, m7, m2]; rfl⟩
  rw [m12, jI_ne ho, m7, jI_ne ho, m2, jI_ne ho]
set_option maxRecDepth 100000 in
set_option maxHeartbeats 4000000 in
theorem k_odds {N : Int} {c m : JM} (h : Inv N c m) (hN : 150 ≤ N ∧ N < 100000) {a b : Int32}  : Con G shC mX3_odds [.ref 0, .int a, .int b] c (fun v μ' => (¬(okR a.toInt 7 ∧ 0 ≤ b.toInt ∧ b.toInt ≤ 10) ∧ IsZ v (-2) ∧ eqC (jI c 0 8 (c.1 0 8 + 1)) μ') ∨ ((okR a.toInt 7 ∧ 0 ≤ b.toInt ∧ b.toInt ≤ 10) ∧ IsZ v 1 ∧ ∃ c1, eqC c c1 ∧ FrS 6 (wg (m.1 1 0).toInt (m.1 1 3).toInt (m.1 1 4).toInt (wd (lnD 9 a.toInt) a.toInt) b.toInt (lnD 9 a.toInt) 0 (m.1 1 1).toInt (m.1 1 2).toInt (m.1 1 5).toInt (m.1 1 6).toInt) (pw (lnD 9 a.toInt)) c1 μ')) := by
  obtain ⟨q0, q1, q2, q3, q4, q5, q6⟩ := Inv_q h
  obtain ⟨r0, r1, r2, r3, r4, r5, r6, r15, r40, r9⟩ := Inv_r h
  have hc := h.1
  have qt : (c.1 21 1).toInt = (m.1 0 9).toInt := by rw [h.2.2.2.2.1.1]
  have qs0 : (c.1 0 8).toInt = (m.1 4 0).toInt := by rw [h.2.2.2.2.2.2.1]
  have qs1 : (c.1 0 9).toInt = (m.1 4 1).toInt := by rw [h.2.2.2.2.2.2.2.1]
  have qs2 : (c.1 0 10).toInt = (m.1 4 2).toInt := by rw [h.2.2.2.2.2.2.2.2]
  refine Con_of [some (.ref 0), some (.int a), some (.int b), none] (by decide +kernel) (Nat.le_of_ble_eq_true rfl) (fun _ h => h) ?_
  refine J_aload_n (pc := 0) dX3_odds_0 rfl ?_
  refine J_getR (pc := 1) 23 fF_X3_35 rfl rfl dX3_odds_1 ?_
  refine J_iload_n (pc := 4) dX3_odds_4 rfl ?_
  refine J_bipush (pc := 5) (v := 7) dX3_odds_5 (by decide) ?_
  refine J_callVq (pc := 7) fC_X3_153 rfl dX3_odds_7 (c_X2_spell7 (z := a) rfl) rfl ⟨Nat.le_of_ble_eq_true rfl, Nat.le_of_ble_eq_true rfl⟩ rfl (Nat.le_of_ble_eq_true rfl) (fun v7 μ7 q7 => ?_)
  rcases q7 with ⟨⟨hok, z10, rfl, e10⟩ | ⟨hok, z10, rfl, e10⟩, hrow⟩ | ⟨hok, ⟨z10, rfl, e10⟩, rfl⟩
  · have hln := okR_ln (by decide) hok
    have hpw := pw_rng (show lnD 9 a.toInt ≤ 9 by omega)
    have hw := fun (e : 0 ≤ b.toInt ∧ b.toInt ≤ 10) => wg_rng e (k := (m.1 1 0).toInt) (wr := (m.1 1 3).toInt) (ht := (m.1 1 4).toInt) (f := (wd (lnD 9 a.toInt) a.toInt)) (lnD 9 a.toInt) 0 (m.1 1 1).toInt (m.1 1 2).toInt (m.1 1 5).toInt (m.1 1 6).toInt
    refine J_istore_n (pc := 10) (lv' := [some (.ref 0), some (.int a), some (.int b), some (.int z10)]) dX3_odds_10 (Nat.le_of_ble_eq_true rfl) rfl rfl ?_
    refine J_iload_n (pc := 11) dX3_odds_11 rfl ?_
    refine J_iconst (pc := 12) (v := (-1)) dX3_odds_12 (by decide) ?_
    refine J_icmp_eq_F (pc := 13) 26 dX3_odds_13 (by decide) (fun e => by rw [e] at e10; have t : (-1 : Int32).toInt = -1 := (by decide); omega) ?_
    refine J_iload_n (pc := 16) dX3_odds_16 rfl ?_
    refine J_iconst (pc := 17) (v := 0) dX3_odds_17 (by decide) ?_
    refine J_bipush (pc := 18) (v := 10) dX3_odds_18 (by decide) ?_
    refine J_callSc (pc := 20) fC_X3_60 dX3_odds_20 (c_X3_within b.toInt 0 10 rfl rfl rfl) rfl ⟨Nat.le_of_ble_eq_true rfl, Nat.le_of_ble_eq_true rfl⟩ rfl (Nat.le_of_ble_eq_true rfl) (fun h20 => ?_) (fun h20 => ?_)
    · refine J_if_ne_T (pc := 23) 33 dX3_odds_23 (by decide) (by decide) ?_
      refine J_aload_n (pc := 33) dX3_odds_33 rfl ?_
      refine J_aload_n (pc := 34) dX3_odds_34 rfl ?_
      refine J_getR (pc := 35) 23 fF_X3_35 rfl rfl dX3_odds_35 ?_
      refine J_aload_n (pc := 38) dX3_odds_38 rfl ?_
      refine J_getR (pc := 39) 1 fF_X3_12 rfl rfl dX3_odds_39 ?_
      refine J_iload_n (pc := 42) dX3_odds_42 rfl ?_
      refine J_iload_n (pc := 43) dX3_odds_43 rfl ?_
      refine J_callVq (pc := 44) fC_X3_198 rfl dX3_odds_44 (c_X2_weighIn (k := (m.1 1 0).toInt) (wr := (m.1 1 3).toInt) (ht := (m.1 1 4).toInt) (n := (m.1 1 5).toInt) (by rw [hrow.1 1 (by omega)]; exact q0) (by rw [hrow.1 1 (by omega)]; exact q1) (by rw [hrow.1 1 (by omega)]; exact q2) (b := (m.1 1 6).toInt) (a := (m.1 1 1).toInt) (p := (m.1 1 2).toInt) (by rw [hrow.1 1 (by omega), q3, mZ]) (by rw [hrow.1 1 (by omega)]; exact q4) (by omega) (by omega) e10 rfl (by omega) hln (f := (wd (lnD 9 a.toInt) a.toInt)) (fun j hj => ⟨hrow.2.2.2 hok.2.2 j hj, wd_rng _ _ hok.2.2 j hj⟩)) rfl ⟨Nat.le_of_ble_eq_true rfl, Nat.le_of_ble_eq_true rfl⟩ rfl (Nat.le_of_ble_eq_true rfl) (fun v44 μ44 q44 => ?_)
      obtain ⟨⟨z44, rfl, e44⟩, q44⟩ := q44
      refine J_iload_n (pc := 47) dX3_odds_47 rfl ?_
      refine J_callSq (pc := 48) fC_X3_202 dX3_odds_48 (c_X3_powerOfTen (lnD 9 a.toInt) e10 (by omega)) rfl ⟨Nat.le_of_ble_eq_true rfl, Nat.le_of_ble_eq_true rfl⟩ rfl (Nat.le_of_ble_eq_true rfl) (fun v48 μ48 q48 => ?_)
      obtain ⟨⟨z48, rfl, e48⟩, q48⟩ := q48
      rw [q48]
      refine J_callVq (pc := 51) fC_X3_174 rfl dX3_odds_51 (c_X3_setFraction (wg (m.1 1 0).toInt (m.1 1 3).toInt (m.1 1 4).toInt (wd (lnD 9 a.toInt) a.toInt) b.toInt (lnD 9 a.toInt) 0 (m.1 1 1).toInt (m.1 1 2).toInt (m.1 1 5).toInt (m.1 1 6).toInt) (pw (lnD 9 a.toInt)) e44 e48 (by omega)) rfl ⟨Nat.le_of_ble_eq_true rfl, Nat.le_of_ble_eq_true rfl⟩ rfl (Nat.le_of_ble_eq_true rfl) (fun v51 μ51 q51 => ?_)
      obtain ⟨rfl, q2⟩ := q51
      refine J_iconst (pc := 54) (v := 1) dX3_odds_54 (by decide) ?_
      refine J_iret (pc := 55) dX3_odds_55 rfl ?_
      exact Or.inr ⟨⟨hok, by omega⟩, ⟨_, rfl, rfl⟩, _, ⟨fun o ho => by rw [q44.1 o (by omega), hrow.1 o (by omega)], by rw [q44.1 21 (by omega), hrow.1 21 (by omega)], by rw [q44.2, hrow.2.1]⟩, q2⟩
    · refine J_if_ne_F (pc := 23) 33 dX3_odds_23 (by decide) (by decide) ?_
      refine J_aload_n (pc := 26) dX3_odds_26 rfl ?_
      refine J_bipush (pc := 27) (v := (-2)) dX3_odds_27 (by decide) ?_
      refine J_callVim (pc := 29) fC_X3_64 rfl dX3_odds_29 (c_X3_refuse2) rfl ⟨Nat.le_of_ble_eq_true rfl, Nat.le_of_ble_eq_true rfl⟩ rfl (Nat.le_of_ble_eq_true rfl) (fun z29 μ29 d29 m29 => ?_)
      refine J_iret (pc := 32) dX3_odds_32 rfl ?_
      refine Or.inl ⟨fun h => by omega, ⟨_, rfl, by rw [d29]; rfl⟩, ?_⟩
      rw [m29]
      exact eqC_no hrow.1 hrow.2.1
  · refine J_istore_n (pc := 10) (lv' := [some (.ref 0), some (.int a), some (.int b), some (.int z10)]) dX3_odds_10 (Nat.le_of_ble_eq_true rfl) rfl rfl ?_
    refine J_iload_n (pc := 11) dX3_odds_11 rfl ?_
    refine J_iconst (pc := 12) (v := (-1)) dX3_odds_12 (by decide) ?_
    refine J_icmp_eq_T (pc := 13) 26 dX3_odds_13 (by decide) (z_eq e10) ?_
    refine J_aload_n (pc := 26) dX3_odds_26 rfl ?_
    refine J_bipush (pc := 27) (v := (-2)) dX3_odds_27 (by decide) ?_
    refine J_callVim (pc := 29) fC_X3_64 rfl dX3_odds_29 (c_X3_refuse2) rfl ⟨Nat.le_of_ble_eq_true rfl, Nat.le_of_ble_eq_true rfl⟩ rfl (Nat.le_of_ble_eq_true rfl) (fun z29 μ29 d29 m29 => ?_)
    refine J_iret (pc := 32) dX3_odds_32 rfl ?_
    refine Or.inl ⟨fun h => hok h.1, ⟨_, rfl, by rw [d29]; rfl⟩, ?_⟩
    rw [m29]
    exact eqC_no hrow.1 hrow.2.1
  · refine J_istore_n (pc := 10) (lv' := [some (.ref 0), some (.int a), some (.int b), some (.int z10)]) dX3_odds_10 (Nat.le_of_ble_eq_true rfl) rfl rfl ?_
    refine J_iload_n (pc := 11) dX3_odds_11 rfl ?_
    refine J_iconst (pc := 12) (v := (-1)) dX3_odds_12 (by decide) ?_
    refine J_icmp_eq_T (pc := 13) 26 dX3_odds_13 (by decide) (z_eq e10) ?_
    refine J_aload_n (pc := 26) dX3_odds_26 rfl ?_
    refine J_bipush (pc := 27) (v := (-2)) dX3_odds_27 (by decide) ?_
    refine J_callVim (pc := 29) fC_X3_64 rfl dX3_odds_29 (c_X3_refuse2) rfl ⟨Nat.le_of_ble_eq_true rfl, Nat.le_of_ble_eq_true rfl⟩ rfl (Nat.le_of_ble_eq_true rfl) (fun z29 μ29 d29 m29 => ?_)
    refine J_iret (pc := 32) dX3_odds_32 rfl ?_
    subst_vars
    exact Or.inl ⟨fun h => hok h.1, ⟨_, rfl, rfl⟩, eqC_rf _⟩
theorem oddE0 {P b : Int} : (if b = 1 then P else 0) = P * (if b = 1 then 1 else 0) := by by_cases h : b = 1 <;> simp [h]
set_option maxRecDepth 100000 in
set_option maxHeartbeats 4000000 in
theorem l_n_oddA {ν : JM} {L : Nat} (hL7 : L ≤ 7) (hw : (ν.1 0 16).toInt = (L : Int)) {av bv : Int32} {Q : Option Value → JM → Prop} : ∀ d : Nat, ∀ (i : Nat) (iv : Int32) (x : Int64), i + d = L → iv.toInt = (i : Int) → x.toInt = pw i → (∀ x' : Int64, x'.toInt = pw L → J G shM mX4_odds 55 [some (.ref 0), some (.int av), some (.int bv), some (.long x'), none, none, none, none, none, none, none, none] [] ν Q) → J G shM mX4_odds 34 [some (.ref 0), some (.int av), some (.int bv), some (.long x), none, some (.int iv), none, none, none, none, none, none] [] ν Q := by
  intro d
  induction d with
  | zero =>
    intro i iv x hd hi hx hk2
    have hpi := pw_rng (show i ≤ 9 by omega)
    refine J_iload (pc := 34) dX4_odds_34 rfl ?_
    refine J_aload_n (pc := 36) dX4_odds_36 rfl ?_
    refine J_getI (pc := 37) fF_X4_173 rfl rfl dX4_odds_37 ?_
    refine J_icmp_geW (pc := 40) (i : Int) (L : Int) hi hw 55 dX4_odds_40 (by decide) (fun h40 => ?_) (fun h40 => ?_)
    · exact J_lv' (lv' := [some (.ref 0), some (.int av), some (.int bv), some (.long x), none, none, none, none, none, none, none, none]) (by repeat' constructor) (hk2 x (by rw [hx, show i = L by omega]))
    · exfalso; omega
  | succ d ih =>
    intro i iv x hd hi hx hk2
    have hpi := pw_rng (show i ≤ 9 by omega)
    refine J_iload (pc := 34) dX4_odds_34 rfl ?_
    refine J_aload_n (pc := 36) dX4_odds_36 rfl ?_
    refine J_getI (pc := 37) fF_X4_173 rfl rfl dX4_odds_37 ?_
    refine J_icmp_geW (pc := 40) (i : Int) (L : Int) hi hw 55 dX4_odds_40 (by decide) (fun h40 => ?_) (fun h40 => ?_)
    · exfalso; omega
    · refine J_lload_n (pc := 43) dX4_odds_43 rfl ?_
      refine J_ldc2 (pc := 44) fK_X4_236 dX4_odds_44 ?_
      refine J_lmulW (pc := 47) (pw i) 10 hx rfl dX4_odds_47 (by omega) (fun z47 e47 => ?_)
      refine J_lstore_n (pc := 48) (lv' := [some (.ref 0), some (.int av), some (.int bv), some (.long z47), none, some (.int iv), none, none, none, none, none, none]) dX4_odds_48 (Nat.le_of_ble_eq_true rfl) rfl rfl ?_
      refine J_iincW' (pc := 49) (i : Int) hi (lv' := fun iq_ => [some (.ref 0), some (.int av), some (.int bv), some (.long z47), none, some (.int iq_), none, none, none, none, none, none]) dX4_odds_49 rfl (by omega) (by decide) (Nat.le_of_ble_eq_true rfl) rfl (fun _ => rfl) (fun z49 e49 => ?_)
      refine J_goto (pc := 52) 34 dX4_odds_52 (by decide) ?_
      exact J_lv' (lv' := [some (.ref 0), some (.int av), some (.int bv), some (.long z47), none, some (.int z49), none, none, none, none, none, none]) (by repeat' constructor) (ih (i + 1) z49 z47 (by omega) (by omega) (by rw [e47, pw]; omega) hk2)
set_option maxRecDepth 100000 in
set_option maxHeartbeats 4000000 in
theorem l_n_oddC {m : JM} (hc : constM m) {f : Nat → Int} {L : Nat} (hL7 : L ≤ 7) {t : Int} {bv : Int32} (hbv : bv.toInt = t) (ht10 : 0 ≤ t ∧ t ≤ 10) {h : Nat} {hv : Int32} (hh : hv.toInt = (h : Int)) (hh7 : h < 128) {av : Int32} {x sv : Int64} {Q : Option Value → JM → Prop} : ∀ d : Nat, ∀ (i : Nat) (kv : Int32) (pv : Int64) (ν : JM) (P a p n b : Int), i + d = L → kv.toInt = (i : Int) → pv.toInt = P → (0 ≤ P ∧ P ≤ pw i) → mst m ν a p n b → rwM ν L f → (0 ≤ a ∧ a ≤ 99 ∧ 0 ≤ p ∧ p ≤ 99) → (0 ≤ n ∧ n + (d : Int) < 300000) → (∀ (pv' : Int64) (ν' : JM) (P' b' : Int), pv'.toInt = P' → (0 ≤ P' ∧ P' ≤ pw L) → eqM m ν' → (ν'.1 0 7).toInt = b' → rwM ν' L f → (if b' = 1 then P' else 0) = P * (vl (m.1 1 0).toInt (m.1 1 3).toInt (m.1 1 4).toInt f t d i (h / po2 i) a p n b) → J G shM mX4_odds 159 [some (.ref 0), some (.int av), some (.int bv), some (.long x), none, some (.long sv), none, some (.int hv), some (.long pv'), none, none, none] [] ν' Q) → J G shM mX4_odds 82 [some (.ref 0), some (.int av), some (.int bv), some (.long x), none, some (.long sv), none, some (.int hv), some (.long pv), none, some (.int kv), none] [] ν Q := by
  intro d
  induction d with
  | zero =>
    intro i kv pv ν P a p n b hd hi hp hP hs hw hr hn hk2
    have g1 := hA2_rng (m.1 1 0).toInt a n (f i)
    have g2 := hP2_rng (m.1 1 0).toInt p n (f i)
    have hpi := pw_rng (show i ≤ 9 by omega)
    have hPt : 0 ≤ P * t ∧ P * t ≤ 10 * pw i := by rw [Int.mul_comm]; exact mulb ht10 hP
    have hPu : 0 ≤ P * (10 - t) ∧ P * (10 - t) ≤ 10 * pw i := by rw [Int.mul_comm]; exact mulb (t := 10 - t) (by omega) hP
    have hbit : i < 7 → ((hv >>> (kv &&& 31)) &&& 1).toInt = ((h / po2 i % 2 : Nat) : Int) := fun hi7 => by rw [iZ_of hh, iZ_of hi]; exact bit_z ⟨h, hh7⟩ ⟨i, hi7⟩
    refine J_iload (pc := 82) dX4_odds_82 rfl ?_
    refine J_aload_n (pc := 84) dX4_odds_84 rfl ?_
    refine J_getI (pc := 85) fF_X4_173 rfl rfl dX4_odds_85 ?_
    refine J_icmp_geW (pc := 88) (i : Int) (L : Int) hi hw.1 159 dX4_odds_88 (by decide) (fun h88 => ?_) (fun h88 => ?_)
    · exact J_lv' (lv' := [some (.ref 0), some (.int av), some (.int bv), some (.long x), none, some (.long sv), none, some (.int hv), some (.long pv), none, none, none]) (by repeat' constructor) (hk2 pv ν P b hp (by rw [show L = i by omega]; exact hP) hs.1 hs.2.2.2.2 hw (by rw [vl]; exact oddE0))
    · exfalso; omega
  | succ d ih =>
    intro i kv pv ν P a p n b hd hi hp hP hs hw hr hn hk2
    have g1 := hA2_rng (m.1 1 0).toInt a n (f i)
    have g2 := hP2_rng (m.1 1 0).toInt p n (f i)
    have hpi := pw_rng (show i ≤ 9 by omega)
    have hPt : 0 ≤ P * t ∧ P * t ≤ 10 * pw i := by rw [Int.mul_comm]; exact mulb ht10 hP
    have hPu : 0 ≤ P * (10 - t) ∧ P * (10 - t) ≤ 10 * pw i := by rw [Int.mul_comm]; exact mulb (t := 10 - t) (by omega) hP
    have hbit : i < 7 → ((hv >>> (kv &&& 31)) &&& 1).toInt = ((h / po2 i % 2 : Nat) : Int) := fun hi7 => by rw [iZ_of hh, iZ_of hi]; exact bit_z ⟨h, hh7⟩ ⟨i, hi7⟩
    refine J_iload (pc := 82) dX4_odds_82 rfl ?_
    refine J_aload_n (pc := 84) dX4_odds_84 rfl ?_
    refine J_getI (pc := 85) fF_X4_173 rfl rfl dX4_odds_85 ?_
    refine J_icmp_geW (pc := 88) (i : Int) (L : Int) hi hw.1 159 dX4_odds_88 (by decide) (fun h88 => ?_) (fun h88 => ?_)
    · exfalso; omega
    · refine J_iload (pc := 91) dX4_odds_91 rfl ?_
      refine J_iload (pc := 93) dX4_odds_93 rfl ?_
      refine J_ishr (pc := 95) dX4_odds_95 ?_
      refine J_iconst (pc := 96) (v := 1) dX4_odds_96 (by decide) ?_
      refine J_iand (pc := 97) dX4_odds_97 ?_
      refine J_iconst (pc := 98) (v := 1) dX4_odds_98 (by decide) ?_
      refine J_icmp_neW (pc := 99) (((hv >>> (kv &&& 31)) &&& 1).toInt) 1 rfl rfl 106 dX4_odds_99 (by decide) (fun h99 => ?_) (fun h99 => ?_)
      · refine J_iconst (pc := 106) (v := 0) dX4_odds_106 (by decide) ?_
        refine J_istore (pc := 107) (lv' := [some (.ref 0), some (.int av), some (.int bv), some (.long x), none, some (.long sv), none, some (.int hv), some (.long pv), none, some (.int kv), some (.int 0)]) dX4_odds_107 (Nat.le_of_ble_eq_true rfl) rfl rfl ?_
        refine J_lload (pc := 109) dX4_odds_109 rfl ?_
        refine J_iload (pc := 111) dX4_odds_111 rfl ?_
        refine J_if_eq_T (pc := 113) 121 dX4_odds_113 (by decide) (by decide) ?_
        refine J_bipush (pc := 121) (v := 10) dX4_odds_121 (by decide) ?_
        refine J_iload_n (pc := 123) dX4_odds_123 rfl ?_
        refine J_isubW (pc := 124) 10 t rfl hbv dX4_odds_124 (by omega) (fun z124 e124 => ?_)
        refine J_i2l (pc := 125) dX4_odds_125 rfl ?_
        refine J_lmulW (pc := 126) P (10 - t) hp (i2l_z e124) dX4_odds_126 (by omega) (fun z126 e126 => ?_)
        refine J_lstore (pc := 127) (lv' := [some (.ref 0), some (.int av), some (.int bv), some (.long x), none, some (.long sv), none, some (.int hv), some (.long z126), none, some (.int kv), some (.int 0)]) dX4_odds_127 (Nat.le_of_ble_eq_true rfl) rfl rfl ?_
        refine J_iload (pc := 129) dX4_odds_129 rfl ?_
        refine J_if_eq_T (pc := 131) 153 dX4_odds_131 (by decide) (by decide) ?_
        refine J_iincW' (pc := 153) (i : Int) hi (lv' := fun iq_ => [some (.ref 0), some (.int av), some (.int bv), some (.long x), none, some (.long sv), none, some (.int hv), some (.long z126), none, some (.int iq_), some (.int 0)]) dX4_odds_153 rfl (by omega) (by decide) (Nat.le_of_ble_eq_true rfl) rfl (fun _ => rfl) (fun z153 e153 => ?_)
        refine J_goto (pc := 156) 82 dX4_odds_156 (by decide) ?_
        have hodd : ¬ h / po2 i % 2 = 1 := by omega
        refine J_lv' (lv' := [some (.ref 0), some (.int av), some (.int bv), some (.long x), none, some (.long sv), none, some (.int hv), some (.long z126), none, some (.int z153), none]) (by repeat' constructor) (ih (i + 1) z153 z126 ν (P * (10 - t)) a p n b (by omega) (by omega) (e126) (by rw [pw]; omega) hs hw hr (by omega) (fun pv' ν' P' b' h1 h2 h3 h4 h5 h6 => hk2 pv' ν' P' b' h1 h2 h3 h4 h5 ?_))
        rw [po2_s] at h6
        rw [h6, vl, if_neg hodd, Int.mul_assoc]
      · refine J_iconst (pc := 102) (v := 1) dX4_odds_102 (by decide) ?_
        refine J_goto (pc := 103) 107 dX4_odds_103 (by decide) ?_
        refine J_istore (pc := 107) (lv' := [some (.ref 0), some (.int av), some (.int bv), some (.long x), none, some (.long sv), none, some (.int hv), some (.long pv), none, some (.int kv), some (.int 1)]) dX4_odds_107 (Nat.le_of_ble_eq_true rfl) rfl rfl ?_
        refine J_lload (pc := 109) dX4_odds_109 rfl ?_
        refine J_iload (pc := 111) dX4_odds_111 rfl ?_
        refine J_if_eq_F (pc := 113) 121 dX4_odds_113 (by decide) (by decide) ?_
        refine J_iload_n (pc := 116) dX4_odds_116 rfl ?_
        refine J_i2l (pc := 117) dX4_odds_117 rfl ?_
        refine J_goto (pc := 118) 126 dX4_odds_118 (by decide) ?_
        refine J_lmulW (pc := 126) P t hp (i2l_z hbv) dX4_odds_126 (by omega) (fun z126 e126 => ?_)
        refine J_lstore (pc := 127) (lv' := [some (.ref 0), some (.int av), some (.int bv), some (.long x), none, some (.long sv), none, some (.int hv), some (.long z126), none, some (.int kv), some (.int 1)]) dX4_odds_127 (Nat.le_of_ble_eq_true rfl) rfl rfl ?_
        refine J_iload (pc := 129) dX4_odds_129 rfl ?_
        refine J_if_eq_F (pc := 131) 153 dX4_odds_131 (by decide) (by decide) ?_
        refine J_aload_n (pc := 134) dX4_odds_134 rfl ?_
        refine J_getI (pc := 135) fF_X4_76 rfl rfl dX4_odds_135 ?_
        refine J_if_neW (pc := 138) b hs.2.2.2.2 153 dX4_odds_138 (by decide) (fun h138 => ?_) (fun h138 => ?_)
        · refine J_iincW' (pc := 153) (i : Int) hi (lv' := fun iq_ => [some (.ref 0), some (.int av), some (.int bv), some (.long x), none, some (.long sv), none, some (.int hv), some (.long z126), none, some (.int iq_), some (.int 1)]) dX4_odds_153 rfl (by omega) (by decide) (Nat.le_of_ble_eq_true rfl) rfl (fun _ => rfl) (fun z153 e153 => ?_)
          refine J_goto (pc := 156) 82 dX4_odds_156 (by decide) ?_
          have hodd : h / po2 i % 2 = 1 := by omega
          refine J_lv' (lv' := [some (.ref 0), some (.int av), some (.int bv), some (.long x), none, some (.long sv), none, some (.int hv), some (.long z126), none, some (.int z153), none]) (by repeat' constructor) (ih (i + 1) z153 z126 ν (P * t) a p n b (by omega) (by omega) (e126) (by rw [pw]; omega) hs hw hr (by omega) (fun pv' ν' P' b' h1 h2 h3 h4 h5 h6 => hk2 pv' ν' P' b' h1 h2 h3 h4 h5 ?_))
          rw [po2_s] at h6
          rw [h6, vl, if_pos hodd, if_neg h138, Int.mul_assoc]
        · refine J_aload_n (pc := 141) dX4_odds_141 rfl ?_
          refine J_aload_n (pc := 142) dX4_odds_142 rfl ?_
          refine J_getR (pc := 143) 7 fF_X4_28 rfl rfl dX4_odds_143 ?_
          refine J_iload (pc := 146) dX4_odds_146 rfl ?_
          refine J_ialdW (pc := 148) i (hi) rfl (by omega) dX4_odds_148 ?_
          refine J_iconst (pc := 149) (v := 1) dX4_odds_149 (by decide) ?_
          refine J_callVv (pc := 150) fC_X4_139 rfl dX4_odds_150 (c_X4_hear1 (mst_c hs hc) (f i) (hw.2 i (by omega)).1 (hw.2 i (by omega)).2 (by rw [hs.2.1]; omega) (by rw [hs.2.2.1]; omega) (by rw [hs.2.2.2.1]; omega)) rfl ⟨Nat.le_of_ble_eq_true rfl, Nat.le_of_ble_eq_true rfl⟩ rfl (Nat.le_of_ble_eq_true rfl) (fun μ150 m150 => ?_)
          refine J_iincW' (pc := 153) (i : Int) hi (lv' := fun iq_ => [some (.ref 0), some (.int av), some (.int bv), some (.long x), none, some (.long sv), none, some (.int hv), some (.long z126), none, some (.int iq_), some (.int 1)]) dX4_odds_153 rfl (by omega) (by decide) (Nat.le_of_ble_eq_true rfl) rfl (fun _ => rfl) (fun z153 e153 => ?_)
          refine J_goto (pc := 156) 82 dX4_odds_156 (by decide) ?_
          have hodd : h / po2 i % 2 = 1 := by omega
          refine J_lv' (lv' := [some (.ref 0), some (.int av), some (.int bv), some (.long x), none, some (.long sv), none, some (.int hv), some (.long z126), none, some (.int z153), none]) (by repeat' constructor) (ih (i + 1) z153 z126 μ150 (P * t) (hA2 (m.1 1 0).toInt a n (f i)) (hP2 (m.1 1 0).toInt p n (f i)) (n + 1) (jZ (m.1 1 3).toInt (m.1 1 4).toInt (hA2 (m.1 1 0).toInt a n (f i)) (hP2 (m.1 1 0).toInt p n (f i)) (f i)) (by omega) (by omega) (e126) (by rw [pw]; omega) (by rw [m150]; exact mst_hear (w := f i) hs (by omega)) (by rw [m150]; exact rwM_hear hw) (by omega) (by omega) (fun pv' ν' P' b' h1 h2 h3 h4 h5 h6 => hk2 pv' ν' P' b' h1 h2 h3 h4 h5 ?_))
          rw [po2_s] at h6
          rw [h6, vl, if_pos hodd, if_pos h138, Int.mul_assoc]
set_option maxRecDepth 100000 in
set_option maxHeartbeats 4000000 in
theorem l_n_oddB {m : JM} (hc : constM m) (hmr : 0 ≤ (m.1 1 1).toInt ∧ (m.1 1 1).toInt ≤ 99 ∧ 0 ≤ (m.1 1 2).toInt ∧ (m.1 1 2).toInt ≤ 99 ∧ 0 ≤ (m.1 1 5).toInt ∧ (m.1 1 5).toInt < 200000) {f : Nat → Int} {L : Nat} (hL7 : L ≤ 7) {t : Int} {bv : Int32} (hbv : bv.toInt = t) (ht10 : 0 ≤ t ∧ t ≤ 10) {F : Nat → Int} (hF : ∀ h, F h = vl (m.1 1 0).toInt (m.1 1 3).toInt (m.1 1 4).toInt f t L 0 h (m.1 1 1).toInt (m.1 1 2).toInt (m.1 1 5).toInt (m.1 1 6).toInt) (hFr : ∀ h, 0 ≤ F h ∧ F h ≤ 10000000) {av : Int32} {x : Int64} {Q : Option Value → JM → Prop} : ∀ d : Nat, ∀ (h : Nat) (hv : Int32) (ν : JM) (sv : Int64), h + d = po2 L → hv.toInt = (h : Int) → eqM m ν → rwM ν L f → sv.toInt = sumN F h → (∀ (ν' : JM) (sv' : Int64), eqM m ν' → sv'.toInt = sumN F (po2 L) → J G shM mX4_odds 184 [some (.ref 0), some (.int av), some (.int bv), some (.long x), none, some (.long sv'), none, none, none, none, none, none] [] ν' Q) → J G shM mX4_odds 61 [some (.ref 0), some (.int av), some (.int bv), some (.long x), none, some (.long sv), none, some (.int hv), none, none, none, none] [] ν Q := by
  intro d
  induction d with
  | zero =>
    intro h hv ν sv hd hh hE hw hsv hk2
    have hpl := pw_le ⟨L, by omega⟩
    have hp2 := po2_le ⟨L, by omega⟩
    have hsh : ((1 : Int32) <<< ((ν.1 0 16) &&& 31)).toInt = (po2 L : Nat) := by rw [iZ_of hw.1]; exact shl_z ⟨L, by omega⟩
    simp only at hpl hp2
    refine J_iload (pc := 61) dX4_odds_61 rfl ?_
    refine J_iconst (pc := 63) (v := 1) dX4_odds_63 (by decide) ?_
    refine J_aload_n (pc := 64) dX4_odds_64 rfl ?_
    refine J_getI (pc := 65) fF_X4_173 rfl rfl dX4_odds_65 ?_
    refine J_ishl (pc := 68) dX4_odds_68 ?_
    refine J_icmp_geW (pc := 69) (h : Int) (((1 : Int32) <<< ((ν.1 0 16) &&& 31)).toInt) hh rfl 184 dX4_odds_69 (by decide) (fun h69 => ?_) (fun h69 => ?_)
    · exact J_lv' (lv' := [some (.ref 0), some (.int av), some (.int bv), some (.long x), none, some (.long sv), none, none, none, none, none, none]) (by repeat' constructor) (hk2 ν sv hE (by rw [hsv, show h = po2 L by omega]))
    · exfalso; omega
  | succ d ih =>
    intro h hv ν sv hd hh hE hw hsv hk2
    have hpl := pw_le ⟨L, by omega⟩
    have hp2 := po2_le ⟨L, by omega⟩
    have hsh : ((1 : Int32) <<< ((ν.1 0 16) &&& 31)).toInt = (po2 L : Nat) := by rw [iZ_of hw.1]; exact shl_z ⟨L, by omega⟩
    simp only at hpl hp2
    refine J_iload (pc := 61) dX4_odds_61 rfl ?_
    refine J_iconst (pc := 63) (v := 1) dX4_odds_63 (by decide) ?_
    refine J_aload_n (pc := 64) dX4_odds_64 rfl ?_
    refine J_getI (pc := 65) fF_X4_173 rfl rfl dX4_odds_65 ?_
    refine J_ishl (pc := 68) dX4_odds_68 ?_
    refine J_icmp_geW (pc := 69) (h : Int) (((1 : Int32) <<< ((ν.1 0 16) &&& 31)).toInt) hh rfl 184 dX4_odds_69 (by decide) (fun h69 => ?_) (fun h69 => ?_)
    · exfalso; omega
    · refine J_aload_n (pc := 72) dX4_odds_72 rfl ?_
      refine J_callVv (pc := 73) fC_X4_136 rfl dX4_odds_73 (c_X4_begin) rfl ⟨Nat.le_of_ble_eq_true rfl, Nat.le_of_ble_eq_true rfl⟩ rfl (Nat.le_of_ble_eq_true rfl) (fun μ73 m73 => ?_)
      refine J_lconst (pc := 76) (v := 1) dX4_odds_76 (by decide) ?_
      refine J_lstore (pc := 77) (lv' := [some (.ref 0), some (.int av), some (.int bv), some (.long x), none, some (.long sv), none, some (.int hv), some (.long 1), none, none, none]) dX4_odds_77 (Nat.le_of_ble_eq_true rfl) rfl rfl ?_
      refine J_iconst (pc := 79) (v := 0) dX4_odds_79 (by decide) ?_
      refine J_istore (pc := 80) (lv' := [some (.ref 0), some (.int av), some (.int bv), some (.long x), none, some (.long sv), none, some (.int hv), some (.long 1), none, some (.int 0), none]) dX4_odds_80 (Nat.le_of_ble_eq_true rfl) rfl rfl ?_
      have hs0 := mst_begin hE
      rw [← m73] at hs0
      have hw0 := rwM_begin hw
      rw [← m73] at hw0
      refine J_lv' (lv' := [some (.ref 0), some (.int av), some (.int bv), some (.long x), none, some (.long sv), none, some (.int hv), some (.long 1), none, some (.int 0), none]) (by repeat' constructor) (l_n_oddC hc hL7 hbv ht10 hh (by omega) L 0 0 1 μ73 1 (m.1 1 1).toInt (m.1 1 2).toInt (m.1 1 5).toInt (m.1 1 6).toInt (by omega) rfl rfl (by rw [pw]; omega) hs0 hw0 (by omega) (by omega) (fun pv' ν' P' b' h1 h2 h3 h4 h5 h6 => ?_))
      have hF1 : (if b' = 1 then P' else 0) = F h := by rw [h6, Int.one_mul, hF, show h / po2 0 = h from Nat.div_one h]
      have hsn := sumN_rng hFr h
      refine J_lload (pc := 159) dX4_odds_159 rfl ?_
      refine J_aload_n (pc := 161) dX4_odds_161 rfl ?_
      refine J_getI (pc := 162) fF_X4_76 rfl rfl dX4_odds_162 ?_
      refine J_iconst (pc := 165) (v := 1) dX4_odds_165 (by decide) ?_
      refine J_icmp_neW (pc := 166) b' 1 h4 rfl 174 dX4_odds_166 (by decide) (fun h166 => ?_) (fun h166 => ?_)
      · refine J_lconst (pc := 174) (v := 0) dX4_odds_174 (by decide) ?_
        refine J_laddW (pc := 175) (sumN F h) 0 hsv rfl dX4_odds_175 (by omega) (fun z175 e175 => ?_)
        refine J_lstore (pc := 176) (lv' := [some (.ref 0), some (.int av), some (.int bv), some (.long x), none, some (.long z175), none, some (.int hv), some (.long pv'), none, none, none]) dX4_odds_176 (Nat.le_of_ble_eq_true rfl) rfl rfl ?_
        refine J_iincW' (pc := 178) (h : Int) hh (lv' := fun iq_ => [some (.ref 0), some (.int av), some (.int bv), some (.long x), none, some (.long z175), none, some (.int iq_), some (.long pv'), none, none, none]) dX4_odds_178 rfl (by omega) (by decide) (Nat.le_of_ble_eq_true rfl) rfl (fun _ => rfl) (fun z178 e178 => ?_)
        refine J_goto (pc := 181) 61 dX4_odds_181 (by decide) ?_
        refine J_lv' (lv' := [some (.ref 0), some (.int av), some (.int bv), some (.long x), none, some (.long z175), none, some (.int z178), none, none, none, none]) (by repeat' constructor) (ih (h + 1) z178 ν' z175 (by omega) (by omega) h3 h5 (by rw [e175, sumN]; omega) hk2)
      · refine J_lload (pc := 169) dX4_odds_169 rfl ?_
        refine J_goto (pc := 171) 175 dX4_odds_171 (by decide) ?_
        refine J_laddW (pc := 175) (sumN F h) P' hsv h1 dX4_odds_175 (by omega) (fun z175 e175 => ?_)
        refine J_lstore (pc := 176) (lv' := [some (.ref 0), some (.int av), some (.int bv), some (.long x), none, some (.long z175), none, some (.int hv), some (.long pv'), none, none, none]) dX4_odds_176 (Nat.le_of_ble_eq_true rfl) rfl rfl ?_
        refine J_iincW' (pc := 178) (h : Int) hh (lv' := fun iq_ => [some (.ref 0), some (.int av), some (.int bv), some (.long x), none, some (.long z175), none, some (.int iq_), some (.long pv'), none, none, none]) dX4_odds_178 rfl (by omega) (by decide) (Nat.le_of_ble_eq_true rfl) rfl (fun _ => rfl) (fun z178 e178 => ?_)
        refine J_goto (pc := 181) 61 dX4_odds_181 (by decide) ?_
        refine J_lv' (lv' := [some (.ref 0), some (.int av), some (.int bv), some (.long x), none, some (.long z175), none, some (.int z178), none, none, none, none]) (by repeat' constructor) (ih (h + 1) z178 ν' z175 (by omega) (by omega) h3 h5 (by rw [e175, sumN]; omega) hk2)
set_option maxRecDepth 100000 in
set_option maxHeartbeats 4000000 in
theorem n_odds {N : Int} {c m : JM} (h : Inv N c m) (hN : 150 ≤ N ∧ N < 100000) {a b : Int32}  : Con G shM mX4_odds [.ref 0, .int a, .int b] m (fun v μ' => (¬(okR a.toInt 7 ∧ 0 ≤ b.toInt ∧ b.toInt ≤ 10) ∧ IsZ v (-2) ∧ eqM (jI m 4 0 (m.1 4 0 + 1)) μ') ∨ ((okR a.toInt 7 ∧ 0 ≤ b.toInt ∧ b.toInt ≤ 10) ∧ IsZ v 1 ∧ ∃ c1, eqM m c1 ∧ FrS 20 (wg (m.1 1 0).toInt (m.1 1 3).toInt (m.1 1 4).toInt (wd (lnD 9 a.toInt) a.toInt) b.toInt (lnD 9 a.toInt) 0 (m.1 1 1).toInt (m.1 1 2).toInt (m.1 1 5).toInt (m.1 1 6).toInt) (pw (lnD 9 a.toInt)) c1 μ')) := by
  obtain ⟨q0, q1, q2, q3, q4, q5, q6⟩ := Inv_q h
  obtain ⟨r0, r1, r2, r3, r4, r5, r6, r15, r40, r9⟩ := Inv_r h
  have hc := h.1
  have qt : (c.1 21 1).toInt = (m.1 0 9).toInt := by rw [h.2.2.2.2.1.1]
  have qs0 : (c.1 0 8).toInt = (m.1 4 0).toInt := by rw [h.2.2.2.2.2.2.1]
  have qs1 : (c.1 0 9).toInt = (m.1 4 1).toInt := by rw [h.2.2.2.2.2.2.2.1]
  have qs2 : (c.1 0 10).toInt = (m.1 4 2).toInt := by rw [h.2.2.2.2.2.2.2.2]
  refine Con_of [some (.ref 0), some (.int a), some (.int b), none, none, none, none, none, none, none, none, none] (by decide +kernel) (Nat.le_of_ble_eq_true rfl) (fun _ h => h) ?_
  refine J_aload_n (pc := 0) dX4_odds_0 rfl ?_
  refine J_iload_n (pc := 1) dX4_odds_1 rfl ?_
  refine J_bipush (pc := 2) (v := 7) dX4_odds_2 (by decide) ?_
  refine J_callVq (pc := 4) fC_X4_176 rfl dX4_odds_4 (c_X4_takeRow7 (z := a) rfl) rfl ⟨Nat.le_of_ble_eq_true rfl, Nat.le_of_ble_eq_true rfl⟩ rfl (Nat.le_of_ble_eq_true rfl) (fun v4 μ4 q4 => ?_)
  obtain ⟨q4, hT⟩ := q4
  have hE := eqT_eqM hT
  rcases q4 with ⟨hok, rfl, hw⟩ | ⟨hok, rfl⟩
  · refine J_if_eq_F (pc := 7) 22 dX4_odds_7 (by decide) (by decide) ?_
    refine J_iload_n (pc := 10) dX4_odds_10 rfl ?_
    refine J_i2l (pc := 11) dX4_odds_11 rfl ?_
    refine J_lconst (pc := 12) (v := 0) dX4_odds_12 (by decide) ?_
    refine J_ldc2 (pc := 13) fK_X4_236 dX4_odds_13 ?_
    refine J_callSc (pc := 16) fC_X4_58 dX4_odds_16 (c_X4_in b.toInt 0 10 (i2l_z rfl) rfl rfl) rfl ⟨Nat.le_of_ble_eq_true rfl, Nat.le_of_ble_eq_true rfl⟩ rfl (Nat.le_of_ble_eq_true rfl) (fun h16 => ?_) (fun h16 => ?_)
    · refine J_if_ne_T (pc := 19) 29 dX4_odds_19 (by decide) (by decide) ?_
      refine J_lconst (pc := 29) (v := 1) dX4_odds_29 (by decide) ?_
      refine J_lstore_n (pc := 30) (lv' := [some (.ref 0), some (.int a), some (.int b), some (.long 1), none, none, none, none, none, none, none, none]) dX4_odds_30 (Nat.le_of_ble_eq_true rfl) rfl rfl ?_
      refine J_iconst (pc := 31) (v := 0) dX4_odds_31 (by decide) ?_
      refine J_istore (pc := 32) (lv' := [some (.ref 0), some (.int a), some (.int b), some (.long 1), none, some (.int 0), none, none, none, none, none, none]) dX4_odds_32 (Nat.le_of_ble_eq_true rfl) rfl rfl ?_
      have hln := okR_ln (by decide) hok
      have ht10 : 0 ≤ b.toInt ∧ b.toInt ≤ 10 := by omega
      refine J_lv' (lv' := [some (.ref 0), some (.int a), some (.int b), some (.long 1), none, some (.int 0), none, none, none, none, none, none]) (by repeat' constructor) (l_n_oddA hln hw.1 (lnD 9 a.toInt) 0 0 1 (by omega) rfl rfl (fun x' hx' => ?_))
      refine J_lconst (pc := 55) (v := 0) dX4_odds_55 (by decide) ?_
      refine J_lstore (pc := 56) (lv' := [some (.ref 0), some (.int a), some (.int b), some (.long x'), none, some (.long 0), none, none, none, none, none, none]) dX4_odds_56 (Nat.le_of_ble_eq_true rfl) rfl rfl ?_
      refine J_iconst (pc := 58) (v := 0) dX4_odds_58 (by decide) ?_
      refine J_istore (pc := 59) (lv' := [some (.ref 0), some (.int a), some (.int b), some (.long x'), none, some (.long 0), none, some (.int 0), none, none, none, none]) dX4_odds_59 (Nat.le_of_ble_eq_true rfl) rfl rfl ?_
      have hpl := pw_le ⟨(lnD 9 a.toInt), by omega⟩
      simp only at hpl
      refine J_lv' (lv' := [some (.ref 0), some (.int a), some (.int b), some (.long x'), none, some (.long 0), none, some (.int 0), none, none, none, none]) (by repeat' constructor) (l_n_oddB hc (by omega) (f := (wd (lnD 9 a.toInt) a.toInt)) hln rfl ht10 (F := fun h => vl (m.1 1 0).toInt (m.1 1 3).toInt (m.1 1 4).toInt (wd (lnD 9 a.toInt) a.toInt) b.toInt (lnD 9 a.toInt) 0 h (m.1 1 1).toInt (m.1 1 2).toInt (m.1 1 5).toInt (m.1 1 6).toInt) (fun _ => rfl) (fun h => by have := vl_rng ht10 (k := (m.1 1 0).toInt) (wr := (m.1 1 3).toInt) (ht := (m.1 1 4).toInt) (f := (wd (lnD 9 a.toInt) a.toInt)) (lnD 9 a.toInt) 0 h (m.1 1 1).toInt (m.1 1 2).toInt (m.1 1 5).toInt (m.1 1 6).toInt; exact ⟨this.1, by omega⟩) (po2 (lnD 9 a.toInt)) 0 0 μ4 0 (by omega) rfl hE hw rfl (fun ν' sv' hE' hs' => ?_))
      rw [sum_vl] at hs'
      have hwr := wg_rng ht10 (k := (m.1 1 0).toInt) (wr := (m.1 1 3).toInt) (ht := (m.1 1 4).toInt) (f := (wd (lnD 9 a.toInt) a.toInt)) (lnD 9 a.toInt) 0 (m.1 1 1).toInt (m.1 1 2).toInt (m.1 1 5).toInt (m.1 1 6).toInt
      have hpp := pw_pos (lnD 9 a.toInt)
      refine J_aload_n (pc := 184) dX4_odds_184 rfl ?_
      refine J_lload (pc := 185) dX4_odds_185 rfl ?_
      refine J_lload_n (pc := 187) dX4_odds_187 rfl ?_
      refine J_callVq (pc := 188) fC_X4_218 rfl dX4_odds_188 (c_X4_fraction (wg (m.1 1 0).toInt (m.1 1 3).toInt (m.1 1 4).toInt (wd (lnD 9 a.toInt) a.toInt) b.toInt (lnD 9 a.toInt) 0 (m.1 1 1).toInt (m.1 1 2).toInt (m.1 1 5).toInt (m.1 1 6).toInt) (pw (lnD 9 a.toInt)) hs' hx' (by omega)) rfl ⟨Nat.le_of_ble_eq_true rfl, Nat.le_of_ble_eq_true rfl⟩ rfl (Nat.le_of_ble_eq_true rfl) (fun v188 μ188 q188 => ?_)
      obtain ⟨rfl, q2⟩ := q188
      refine J_iconst (pc := 191) (v := 1) dX4_odds_191 (by decide) ?_
      refine J_iret (pc := 192) dX4_odds_192 rfl ?_
      exact Or.inr ⟨⟨hok, by omega⟩, ⟨_, rfl, rfl⟩, _, hE', q2⟩
    · refine J_if_ne_F (pc := 19) 29 dX4_odds_19 (by decide) (by decide) ?_
      refine J_aload_n (pc := 22) dX4_odds_22 rfl ?_
      refine J_bipush (pc := 23) (v := (-2)) dX4_odds_23 (by decide) ?_
      refine J_callVim (pc := 25) fC_X4_91 rfl dX4_odds_25 (c_X4_no2) rfl ⟨Nat.le_of_ble_eq_true rfl, Nat.le_of_ble_eq_true rfl⟩ rfl (Nat.le_of_ble_eq_true rfl) (fun z25 μ25 d25 m25 => ?_)
      refine J_iret (pc := 28) dX4_odds_28 rfl ?_
      exact Or.inl ⟨fun h => by have h2 := h.2; omega, ⟨_, rfl, by rw [d25]; rfl⟩, by rw [m25]; exact eqM_no hE⟩
  · refine J_if_eq_T (pc := 7) 22 dX4_odds_7 (by decide) (by decide) ?_
    refine J_aload_n (pc := 22) dX4_odds_22 rfl ?_
    refine J_bipush (pc := 23) (v := (-2)) dX4_odds_23 (by decide) ?_
    refine J_callVim (pc := 25) fC_X4_91 rfl dX4_odds_25 (c_X4_no2) rfl ⟨Nat.le_of_ble_eq_true rfl, Nat.le_of_ble_eq_true rfl⟩ rfl (Nat.le_of_ble_eq_true rfl) (fun z25 μ25 d25 m25 => ?_)
    refine J_iret (pc := 28) dX4_odds_28 rfl ?_
    exact Or.inl ⟨fun h => hok h.1, ⟨_, rfl, by rw [d25]; rfl⟩, by rw [m25]; exact eqM_no hE⟩
theorem pr_odds {G : JG × JG} {N : Int} {c m : JM} (h : Inv N c m) (hN : 150 ≤ N ∧ N < 100000) {a b : Int32} : Pair G N c m mX3_odds mX4_odds [.int a, .int b] := by
  refine ⟨_, _, k_odds h hN, n_odds h hN, fun v c' w m' hC hM => ?_⟩
  rcases hC with ⟨a1, a2, a3⟩ | ⟨a1, a2, c1, a3, a4⟩
  · rcases hM with ⟨b1, b2, b3⟩ | ⟨b1, b2, b3⟩
    · exact ⟨IsZ_eq a2 b2, Inv_eq (by omega) (Inv_no (Int.le_refl N) h 0 (by decide)) a3 b3⟩
    · exact absurd b1 a1
  · rcases hM with ⟨b1, b2, b3⟩ | ⟨b1, b2, m1, b3, b4⟩
    · exact absurd a1 b1
    · exact ⟨IsZ_eq a2 b2, Inv_fr (Inv_eq (by omega) h a3 b3) a4 b4⟩

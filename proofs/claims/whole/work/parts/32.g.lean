/-! ===== jars by a seed ===== -/
theorem y_bm {a : Int} (h : -9223372036854775808 ≤ a ∧ a < 9223372036854775808) : a.bmod (2 ^ 64) = a := by
  rw [Int.bmod_eq_of_le] <;> omega
theorem y_add {x y : Int64} (h : -9223372036854775808 ≤ x.toInt + y.toInt ∧ x.toInt + y.toInt < 9223372036854775808) : (x + y).toInt = x.toInt + y.toInt := by rw [Int64.toInt_add, y_bm h]
theorem y_sub {x y : Int64} (h : -9223372036854775808 ≤ x.toInt - y.toInt ∧ x.toInt - y.toInt < 9223372036854775808) : (x - y).toInt = x.toInt - y.toInt := by rw [Int64.toInt_sub, y_bm h]
theorem y_mul {x y : Int64} (h : -9223372036854775808 ≤ x.toInt * y.toInt ∧ x.toInt * y.toInt < 9223372036854775808) : (x * y).toInt = x.toInt * y.toInt := by rw [Int64.toInt_mul, y_bm h]
theorem y_rng (x : Int64) : -9223372036854775808 ≤ x.toInt ∧ x.toInt < 9223372036854775808 := ⟨x.le_toInt, x.toInt_lt⟩
theorem y_div {x y : Int64} (hx : 0 ≤ x.toInt) (hy : 0 < y.toInt) : (x / y).toInt = x.toInt / y.toInt := by
  have h1 := y_rng x
  have e : x.toInt / y.toInt ≤ x.toInt := Int.ediv_le_self _ hx
  have e2 : 0 ≤ x.toInt / y.toInt := Int.ediv_nonneg hx (by omega)
  rw [Int64.toInt_div, Int.tdiv_eq_ediv_of_nonneg hx, y_bm (by omega)]
theorem y_rem {x y : Int64} (hx : 0 ≤ x.toInt) (hy : 0 < y.toInt) : (x - x / y * y).toInt = x.toInt % y.toInt := by
  have h1 := y_rng x
  have h2 := y_div hx hy
  have h3 := Int.emod_def x.toInt y.toInt
  have h4 := Int.emod_nonneg x.toInt (show y.toInt ≠ 0 by omega)
  have h5 := Int.emod_lt_of_pos x.toInt hy
  have h7 : 0 ≤ y.toInt * (x.toInt / y.toInt) := Int.mul_nonneg (by omega) (Int.ediv_nonneg hx (by omega))
  have h6 : (x / y * y).toInt = x.toInt / y.toInt * y.toInt := by
    rw [y_mul] <;> rw [h2]
    rw [Int.mul_comm]
    omega
  rw [y_sub] <;> rw [h6, Int.mul_comm (x.toInt / y.toInt)]
  · omega
  · omega
def lcg (x : Int64) : Int64 := ((x * 1103515245) + 12345) - ((x * 1103515245) + 12345) / 2147483648 * 2147483648
def wrd (x : Int64) : Int32 := ((x / 65536) - (x / 65536) / 6 * 6).toInt32
theorem lcg_rng {x : Int64} (h : 0 ≤ x.toInt ∧ x.toInt < 2147483648) : 0 ≤ (lcg x).toInt ∧ (lcg x).toInt < 2147483648 := by
  have e1 : (1103515245 : Int64).toInt = 1103515245 := rfl
  have e2 : (12345 : Int64).toInt = 12345 := rfl
  have e3 : (2147483648 : Int64).toInt = 2147483648 := rfl
  have m1 : (x * 1103515245).toInt = x.toInt * 1103515245 := by rw [y_mul] <;> rw [e1]; omega
  have m2 : (x * 1103515245 + 12345).toInt = x.toInt * 1103515245 + 12345 := by rw [y_add] <;> rw [m1, e2]; omega
  unfold lcg
  rw [y_rem (by omega) (by omega), m2, e3]
  omega
theorem wrd_rng {x : Int64} (h : 0 ≤ x.toInt) : 0 ≤ (wrd x).toInt ∧ (wrd x).toInt ≤ 5 := by
  have e1 : (65536 : Int64).toInt = 65536 := rfl
  have e2 : (6 : Int64).toInt = 6 := rfl
  have m1 : (x / 65536).toInt = x.toInt / 65536 := by rw [y_div h (by omega), e1]
  have m2 : ((x / 65536) - (x / 65536) / 6 * 6).toInt = x.toInt / 65536 % 6 := by rw [y_rem (by omega) (by omega), m1, e2]
  unfold wrd
  rw [Int64.toInt_toInt32, m2, z_bm (by omega)]
  omega
def jin (k wr ht : Int) : Nat → Int64 → Int → Int → Int → Int → Int64 × Int
  | 0, x, _, _, _, b => (x, b)
  | d + 1, x, a, p, n, b => if b = 0 then jin k wr ht d (lcg x) (hA2 k a n (wrd (lcg x)).toInt) (hP2 k p n (wrd (lcg x)).toInt) (n + 1) (jZ wr ht (hA2 k a n (wrd (lcg x)).toInt) (hP2 k p n (wrd (lcg x)).toInt) (wrd (lcg x)).toInt) else (x, b)
theorem jin_x {k wr ht : Int} : ∀ (d : Nat) (x : Int64) (a p n b : Int), 0 ≤ x.toInt ∧ x.toInt < 2147483648 → 0 ≤ (jin k wr ht d x a p n b).1.toInt ∧ (jin k wr ht d x a p n b).1.toInt < 2147483648 := by
  intro d
  induction d with
  | zero => exact fun x a p n b h => h
  | succ d ih =>
    intro x a p n b h
    rw [jin]
    split
    · exact ih _ _ _ _ _ (lcg_rng h)
    · exact h
def jout (k wr ht a p n b : Int) : Nat → Int64 → Int → Int
  | 0, _, s => s
  | d + 1, x, s => jout k wr ht a p n b d (jin k wr ht 20 x a p n b).1 (s + if (jin k wr ht 20 x a p n b).2 = 1 then 1 else 0)
variable {G : JG}
set_option maxRecDepth 100000 in
set_option maxHeartbeats 4000000 in
theorem l_k_jin {c : JM} {k wr ht n0 : Int} (hk : (c.1 1 0).toInt = k) (hwr : (c.1 1 1).toInt = wr) (hht : (c.1 1 2).toInt = ht) (h4 : (c.1 1 4).toInt = n0) (hn0 : 0 ≤ n0 ∧ n0 < 200000) {sd nn sv tv : Int32} {Q : Option Value → JM → Prop} : ∀ d : Nat, ∀ (i : Nat) (iv mv : Int32) (x : Int64) (a p b : Int), i + d = 20 → iv.toInt = (i : Int) → mv.toInt = mZ a p b → (0 ≤ a ∧ a ≤ 99 ∧ 0 ≤ p ∧ p ≤ 99 ∧ 0 ≤ b ∧ b ≤ 2) → (0 ≤ x.toInt ∧ x.toInt < 2147483648) → (∀ (mv : Int32) (a' p' : Int), (0 ≤ a' ∧ a' ≤ 99 ∧ 0 ≤ p' ∧ p' ≤ 99 ∧ 0 ≤ (jin k wr ht d x a p (n0 + (i : Int)) b).2 ∧ (jin k wr ht d x a p (n0 + (i : Int)) b).2 ≤ 2) → mv.toInt = mZ a' p' (jin k wr ht d x a p (n0 + (i : Int)) b).2 → J G shC mX3_jars 120 [some (.ref 0), some (.int sd), some (.int nn), some (.long (jin k wr ht d x a p (n0 + (i : Int)) b).1), none, some (.int sv), some (.int tv), some (.int mv), none] [] c Q) → J G shC mX3_jars 54 [some (.ref 0), some (.int sd), some (.int nn), some (.long x), none, some (.int sv), some (.int tv), some (.int mv), some (.int iv)] [] c Q := by
  intro d
  induction d with
  | zero =>
    intro i iv mv x a p b hd hi hm hr hx hk2
    obtain ⟨d1, d2, d3⟩ := mZ_d (b := b) ⟨hr.1, hr.2.1, hr.2.2.1, hr.2.2.2.1⟩
    have hm0 : 0 ≤ mZ a p b := by unfold mZ; omega
    have hx1 := lcg_rng hx
    have hw5 := wrd_rng hx1.1
    have g1 := hA2_rng k a (n0 + (i : Int)) (wrd (lcg x)).toInt
    have g2 := hP2_rng k p (n0 + (i : Int)) (wrd (lcg x)).toInt
    have g3 := jZ_rng wr ht (hA2 k a (n0 + (i : Int)) (wrd (lcg x)).toInt) (hP2 k p (n0 + (i : Int)) (wrd (lcg x)).toInt) (wrd (lcg x)).toInt
    refine J_iload (pc := 54) dX3_jars_54 rfl ?_
    refine J_bipush (pc := 56) (v := 20) dX3_jars_56 (by decide) ?_
    refine J_icmp_geW (pc := 58) (i : Int) 20 hi rfl 120 dX3_jars_58 (by decide) (fun h58 => ?_) (fun h58 => ?_)
    · exact J_lv' (lv' := [some (.ref 0), some (.int sd), some (.int nn), some (.long x), none, some (.int sv), some (.int tv), some (.int mv), none]) (by repeat' constructor) (hk2 mv a p hr hm)
    · exfalso; omega
  | succ d ih =>
    intro i iv mv x a p b hd hi hm hr hx hk2
    obtain ⟨d1, d2, d3⟩ := mZ_d (b := b) ⟨hr.1, hr.2.1, hr.2.2.1, hr.2.2.2.1⟩
    have hm0 : 0 ≤ mZ a p b := by unfold mZ; omega
    have hx1 := lcg_rng hx
    have hw5 := wrd_rng hx1.1
    have g1 := hA2_rng k a (n0 + (i : Int)) (wrd (lcg x)).toInt
    have g2 := hP2_rng k p (n0 + (i : Int)) (wrd (lcg x)).toInt
    have g3 := jZ_rng wr ht (hA2 k a (n0 + (i : Int)) (wrd (lcg x)).toInt) (hP2 k p (n0 + (i : Int)) (wrd (lcg x)).toInt) (wrd (lcg x)).toInt
    refine J_iload (pc := 54) dX3_jars_54 rfl ?_
    refine J_bipush (pc := 56) (v := 20) dX3_jars_56 (by decide) ?_
    refine J_icmp_geW (pc := 58) (i : Int) 20 hi rfl 120 dX3_jars_58 (by decide) (fun h58 => ?_) (fun h58 => ?_)
    · exfalso; omega
    · refine J_iload (pc := 61) dX3_jars_61 rfl ?_
      refine J_callSz (pc := 63) fC_X3_120 dX3_jars_63 (c_X3_beingOf (mZ a p b) hm (by omega)) rfl ⟨Nat.le_of_ble_eq_true rfl, Nat.le_of_ble_eq_true rfl⟩ rfl (Nat.le_of_ble_eq_true rfl) (fun z63 e63 => ?_)
      have q63 : z63.toInt = b := by rw [e63, d3]
      refine J_if_neW (pc := 66) b q63 120 dX3_jars_66 (by decide) (fun h66 => ?_) (fun h66 => ?_)
      · have := hk2 mv a p
        rw [jin, if_neg h66] at this
        exact J_lv' (lv' := [some (.ref 0), some (.int sd), some (.int nn), some (.long x), none, some (.int sv), some (.int tv), some (.int mv), none]) (by repeat' constructor) (this hr hm)
      · refine J_lload_n (pc := 69) dX3_jars_69 rfl ?_
        refine J_ldc2 (pc := 70) fK_X3_207 dX3_jars_70 ?_
        refine J_lmul (pc := 73) dX3_jars_73 ?_
        refine J_ldc2 (pc := 74) fK_X3_209 dX3_jars_74 ?_
        refine J_ladd (pc := 77) dX3_jars_77 ?_
        refine J_ldc2 (pc := 78) fK_X3_211 dX3_jars_78 ?_
        refine J_lrem (pc := 81) dX3_jars_81 (by decide) ?_
        obtain ⟨x1, ex1⟩ : ∃ y : Int64, y = lcg x := ⟨_, rfl⟩
        rw [show (x * 1103515245 + 12345 - (x * 1103515245 + 12345) / 2147483648 * 2147483648) = x1 from ex1.symm]
        rw [← ex1] at hx1 hw5 g1 g2 g3
        refine J_lstore_n (pc := 82) (lv' := [some (.ref 0), some (.int sd), some (.int nn), some (.long x1), none, some (.int sv), some (.int tv), some (.int mv), some (.int iv)]) dX3_jars_82 (Nat.le_of_ble_eq_true rfl) rfl rfl ?_
        refine J_aload_n (pc := 83) dX3_jars_83 rfl ?_
        refine J_getR (pc := 84) 1 fF_X3_12 rfl rfl dX3_jars_84 ?_
        refine J_iload (pc := 87) dX3_jars_87 rfl ?_
        refine J_aload_n (pc := 89) dX3_jars_89 rfl ?_
        refine J_getR (pc := 90) 1 fF_X3_12 rfl rfl dX3_jars_90 ?_
        refine J_getI (pc := 93) fF_X3_68 rfl rfl dX3_jars_93 ?_
        refine J_iload (pc := 96) dX3_jars_96 rfl ?_
        refine J_iaddW (pc := 98) n0 (i : Int) h4 hi dX3_jars_98 (by omega) (fun z98 e98 => ?_)
        refine J_lload_n (pc := 99) dX3_jars_99 rfl ?_
        refine J_ldc2 (pc := 100) fK_X3_213 dX3_jars_100 ?_
        refine J_ldiv (pc := 103) dX3_jars_103 (by decide) ?_
        refine J_ldc2 (pc := 104) fK_X3_215 dX3_jars_104 ?_
        refine J_lrem (pc := 107) dX3_jars_107 (by decide) ?_
        refine J_l2i (pc := 108) dX3_jars_108 rfl ?_
        obtain ⟨w1, ew1⟩ : ∃ y : Int32, y = wrd x1 := ⟨_, rfl⟩
        rw [show (x1 / 65536 - x1 / 65536 / 6 * 6).toInt32 = w1 from ew1.symm]
        rw [← ew1] at hw5 g1 g2 g3
        refine J_callVz (pc := 109) fC_X3_160 rfl dX3_jars_109 (c_X0_hear jarAt_1 (mZ a p b) (n0 + (i : Int)) w1.toInt hm e98 rfl (by omega)) rfl ⟨Nat.le_of_ble_eq_true rfl, Nat.le_of_ble_eq_true rfl⟩ rfl (Nat.le_of_ble_eq_true rfl) (fun z109 e109 => ?_)
        have q109 : z109.toInt = (mZ (hA2 k a (n0 + (i : Int)) w1.toInt) (hP2 k p (n0 + (i : Int)) w1.toInt) (jZ wr ht (hA2 k a (n0 + (i : Int)) w1.toInt) (hP2 k p (n0 + (i : Int)) w1.toInt) w1.toInt)) := by rw [e109, hk, hwr, hht, hM_2 ⟨hr.1, hr.2.1, hr.2.2.1, hr.2.2.2.1⟩]
        refine J_istore (pc := 112) (lv' := [some (.ref 0), some (.int sd), some (.int nn), some (.long x1), none, some (.int sv), some (.int tv), some (.int z109), some (.int iv)]) dX3_jars_112 (Nat.le_of_ble_eq_true rfl) rfl rfl ?_
        refine J_iincW' (pc := 114) (i : Int) hi (lv' := fun v => [some (.ref 0), some (.int sd), some (.int nn), some (.long x1), none, some (.int sv), some (.int tv), some (.int z109), some (.int v)]) dX3_jars_114 rfl (by omega) (by decide) (Nat.le_of_ble_eq_true rfl) rfl (fun _ => rfl) (fun z114 e114 => ?_)
        refine J_goto (pc := 117) 54 dX3_jars_117 (by decide) ?_
        refine ih (i + 1) z114 z109 x1 (hA2 k a (n0 + (i : Int)) w1.toInt) (hP2 k p (n0 + (i : Int)) w1.toInt) (jZ wr ht (hA2 k a (n0 + (i : Int)) w1.toInt) (hP2 k p (n0 + (i : Int)) w1.toInt) w1.toInt) (by omega) (by omega) q109 (by omega) hx1 (fun mv' a' p' hr' hm' => ?_)
        have := hk2 mv' a' p'
        rw [jin, if_pos h66, ← ex1, ← ew1] at this
        rw [show (n0 + ((i + 1 : Nat) : Int)) = (n0 + (i : Int)) + 1 by omega] at hr' hm' ⊢
        exact this hr' hm'
set_option maxRecDepth 100000 in
set_option maxHeartbeats 4000000 in
theorem l_k_jout {c : JM} {k wr ht n0 : Int} (hk : (c.1 1 0).toInt = k) (hwr : (c.1 1 1).toInt = wr) (hht : (c.1 1 2).toInt = ht) (h4 : (c.1 1 4).toInt = n0) (hn0 : 0 ≤ n0 ∧ n0 < 200000) {a p b : Int} (h3 : (c.1 1 3).toInt = mZ a p b) (hr : 0 ≤ a ∧ a ≤ 99 ∧ 0 ≤ p ∧ p ≤ 99 ∧ 0 ≤ b ∧ b ≤ 2) {sd nn : Int32} {N : Nat} (hnn : nn.toInt = (N : Int)) (hN60 : N ≤ 60) : ∀ d : Nat, ∀ (t : Nat) (tv sv : Int32) (x : Int64) (s : Int), t + d = N → tv.toInt = (t : Int) → sv.toInt = s → (0 ≤ s ∧ s ≤ t) → (0 ≤ x.toInt ∧ x.toInt < 2147483648) → J G shC mX3_jars 36 [some (.ref 0), some (.int sd), some (.int nn), some (.long x), none, some (.int sv), some (.int tv), none, none] [] c (fun v μ' => IsZ v (jout k wr ht a p n0 b d x s) ∧ μ' = c) := by
  intro d
  induction d with
  | zero =>
    intro t tv sv x s hd ht2 hsv hs hx
    refine J_iload (pc := 36) dX3_jars_36 rfl ?_
    refine J_iload_n (pc := 38) dX3_jars_38 rfl ?_
    refine J_icmp_geW (pc := 39) (t : Int) (N : Int) ht2 hnn 138 dX3_jars_39 (by decide) (fun h39 => ?_) (fun h39 => ?_)
    · refine J_iload (pc := 138) dX3_jars_138 rfl ?_
      refine J_iret (pc := 140) dX3_jars_140 rfl ?_
      exact ⟨⟨_, rfl, hsv⟩, rfl⟩
    · exfalso; omega
  | succ d ih =>
    intro t tv sv x s hd ht2 hsv hs hx
    refine J_iload (pc := 36) dX3_jars_36 rfl ?_
    refine J_iload_n (pc := 38) dX3_jars_38 rfl ?_
    refine J_icmp_geW (pc := 39) (t : Int) (N : Int) ht2 hnn 138 dX3_jars_39 (by decide) (fun h39 => ?_) (fun h39 => ?_)
    · exfalso; omega
    · refine J_aload_n (pc := 42) dX3_jars_42 rfl ?_
      refine J_getR (pc := 43) 1 fF_X3_12 rfl rfl dX3_jars_43 ?_
      refine J_getI (pc := 46) fF_X3_78 rfl rfl dX3_jars_46 ?_
      refine J_istore (pc := 49) (lv' := [some (.ref 0), some (.int sd), some (.int nn), some (.long x), none, some (.int sv), some (.int tv), some (.int (c.1 1 3)), none]) dX3_jars_49 (Nat.le_of_ble_eq_true rfl) rfl rfl ?_
      refine J_iconst (pc := 51) (v := 0) dX3_jars_51 (by decide) ?_
      refine J_istore (pc := 52) (lv' := [some (.ref 0), some (.int sd), some (.int nn), some (.long x), none, some (.int sv), some (.int tv), some (.int (c.1 1 3)), some (.int 0)]) dX3_jars_52 (Nat.le_of_ble_eq_true rfl) rfl rfl ?_
      have hj := jin_x (k := k) (wr := wr) (ht := ht) 20 x a p n0 b hx
      refine l_k_jin hk hwr hht h4 hn0 20 0 0 (c.1 1 3) x a p b rfl rfl h3 hr hx (fun mv' a' p' hr' hm' => ?_)
      rw [show n0 + ((0 : Nat) : Int) = n0 by omega] at hr' hm' ⊢
      obtain ⟨d1, d2, d3⟩ := mZ_d (b := (jin k wr ht 20 x a p n0 b).2) ⟨hr'.1, hr'.2.1, hr'.2.2.1, hr'.2.2.2.1⟩
      have hm0 : 0 ≤ mZ a' p' (jin k wr ht 20 x a p n0 b).2 := by unfold mZ; omega
      refine J_iload (pc := 120) dX3_jars_120 rfl ?_
      refine J_callSz (pc := 122) fC_X3_120 dX3_jars_122 (c_X3_beingOf (mZ a' p' (jin k wr ht 20 x a p n0 b).2) hm' (by omega)) rfl ⟨Nat.le_of_ble_eq_true rfl, Nat.le_of_ble_eq_true rfl⟩ rfl (Nat.le_of_ble_eq_true rfl) (fun z122 e122 => ?_)
      have q122 : z122.toInt = (jin k wr ht 20 x a p n0 b).2 := by rw [e122, d3]
      refine J_iconst (pc := 125) (v := 1) dX3_jars_125 (by decide) ?_
      refine J_icmp_neW (pc := 126) ((jin k wr ht 20 x a p n0 b).2) 1 q122 rfl 132 dX3_jars_126 (by decide) (fun h126 => ?_) (fun h126 => ?_)
      · refine J_iincW' (pc := 132) (t : Int) ht2 (lv' := fun v => [some (.ref 0), some (.int sd), some (.int nn), some (.long ((jin k wr ht 20 x a p n0 b).1)), none, some (.int sv), some (.int v), some (.int mv'), none]) dX3_jars_132 rfl (by omega) (by decide) (Nat.le_of_ble_eq_true rfl) rfl (fun _ => rfl) (fun z132 e132 => ?_)
        refine J_goto (pc := 135) 36 dX3_jars_135 (by decide) ?_
        refine J_mono (J_lv' (lv' := [some (.ref 0), some (.int sd), some (.int nn), some (.long (jin k wr ht 20 x a p n0 b).1), none, some (.int sv), some (.int z132), none, none]) (by repeat' constructor) (ih (t + 1) z132 sv (jin k wr ht 20 x a p n0 b).1 (s + 0) (by omega) (by omega) (by omega) (by omega) hj)) (fun v μ' hh => ⟨?_, hh.2⟩)
        rw [jout, if_neg h126]
        exact hh.1
      · refine J_iincW' (pc := 129) s hsv (lv' := fun v => [some (.ref 0), some (.int sd), some (.int nn), some (.long ((jin k wr ht 20 x a p n0 b).1)), none, some (.int v), some (.int tv), some (.int mv'), none]) dX3_jars_129 rfl (by omega) (by decide) (Nat.le_of_ble_eq_true rfl) rfl (fun _ => rfl) (fun z129 e129 => ?_)
        refine J_iincW' (pc := 132) (t : Int) ht2 (lv' := fun v => [some (.ref 0), some (.int sd), some (.int nn), some (.long ((jin k wr ht 20 x a p n0 b).1)), none, some (.int z129), some (.int v), some (.int mv'), none]) dX3_jars_132 rfl (by omega) (by decide) (Nat.le_of_ble_eq_true rfl) rfl (fun _ => rfl) (fun z132 e132 => ?_)
        refine J_goto (pc := 135) 36 dX3_jars_135 (by decide) ?_
        refine J_mono (J_lv' (lv' := [some (.ref 0), some (.int sd), some (.int nn), some (.long (jin k wr ht 20 x a p n0 b).1), none, some (.int z129), some (.int z132), none, none]) (by repeat' constructor) (ih (t + 1) z132 z129 (jin k wr ht 20 x a p n0 b).1 (s + 1) (by omega) (by omega) (by omega) (by omega) hj)) (fun v μ' hh => ⟨?_, hh.2⟩)
        rw [jout, if_pos h126]
        exact hh.1
set_option maxRecDepth 100000 in
set_option maxHeartbeats 4000000 in
theorem l_n_jin {m : JM} (hc : constM m) {sd nn sv tv : Int32} {Q : Option Value → JM → Prop} : ∀ d : Nat, ∀ (i : Nat) (iv : Int32) (ν : JM) (x : Int64) (a p n b : Int), i + d = 20 → iv.toInt = (i : Int) → mst m ν a p n b → (0 ≤ a ∧ a ≤ 99 ∧ 0 ≤ p ∧ p ≤ 99) → (0 ≤ n ∧ n + (d : Int) < 300000) → (0 ≤ x.toInt ∧ x.toInt < 2147483648) → (∀ (ν : JM) (a' p' n' : Int), mst m ν a' p' n' (jin (m.1 1 0).toInt (m.1 1 3).toInt (m.1 1 4).toInt d x a p n b).2 → J G shM mX4_jars 102 [some (.ref 0), some (.int sd), some (.int nn), some (.long (jin (m.1 1 0).toInt (m.1 1 3).toInt (m.1 1 4).toInt d x a p n b).1), none, some (.int sv), some (.int tv), none] [] ν Q) → J G shM mX4_jars 53 [some (.ref 0), some (.int sd), some (.int nn), some (.long x), none, some (.int sv), some (.int tv), some (.int iv)] [] ν Q := by
  intro d
  induction d with
  | zero =>
    intro i iv ν x a p n b hd hi hs hr hn hx hk2
    have hx1 := lcg_rng hx
    have hw5 := wrd_rng hx1.1
    have g1 := hA2_rng (m.1 1 0).toInt a n (wrd (lcg x)).toInt
    have g2 := hP2_rng (m.1 1 0).toInt p n (wrd (lcg x)).toInt
    refine J_iload (pc := 53) dX4_jars_53 rfl ?_
    refine J_bipush (pc := 55) (v := 20) dX4_jars_55 (by decide) ?_
    refine J_icmp_geW (pc := 57) (i : Int) 20 hi rfl 102 dX4_jars_57 (by decide) (fun h57 => ?_) (fun h57 => ?_)
    · exact J_lv' (lv' := [some (.ref 0), some (.int sd), some (.int nn), some (.long x), none, some (.int sv), some (.int tv), none]) (by repeat' constructor) (hk2 ν a p n hs)
    · exfalso; omega
  | succ d ih =>
    intro i iv ν x a p n b hd hi hs hr hn hx hk2
    have hx1 := lcg_rng hx
    have hw5 := wrd_rng hx1.1
    have g1 := hA2_rng (m.1 1 0).toInt a n (wrd (lcg x)).toInt
    have g2 := hP2_rng (m.1 1 0).toInt p n (wrd (lcg x)).toInt
    refine J_iload (pc := 53) dX4_jars_53 rfl ?_
    refine J_bipush (pc := 55) (v := 20) dX4_jars_55 (by decide) ?_
    refine J_icmp_geW (pc := 57) (i : Int) 20 hi rfl 102 dX4_jars_57 (by decide) (fun h57 => ?_) (fun h57 => ?_)
    · exfalso; omega
    · refine J_aload_n (pc := 60) dX4_jars_60 rfl ?_
      refine J_getI (pc := 61) fF_X4_76 rfl rfl dX4_jars_61 ?_
      refine J_if_neW (pc := 64) b hs.2.2.2.2 102 dX4_jars_64 (by decide) (fun h64 => ?_) (fun h64 => ?_)
      · have := hk2 ν a p n
        rw [jin, if_neg h64] at this
        exact J_lv' (lv' := [some (.ref 0), some (.int sd), some (.int nn), some (.long x), none, some (.int sv), some (.int tv), none]) (by repeat' constructor) (this hs)
      · refine J_lload_n (pc := 67) dX4_jars_67 rfl ?_
        refine J_ldc2 (pc := 68) fK_X4_242 dX4_jars_68 ?_
        refine J_lmul (pc := 71) dX4_jars_71 ?_
        refine J_ldc2 (pc := 72) fK_X4_244 dX4_jars_72 ?_
        refine J_ladd (pc := 75) dX4_jars_75 ?_
        refine J_ldc2 (pc := 76) fK_X4_246 dX4_jars_76 ?_
        refine J_lrem (pc := 79) dX4_jars_79 (by decide) ?_
        obtain ⟨x1, ex1⟩ : ∃ y : Int64, y = lcg x := ⟨_, rfl⟩
        rw [show (x * 1103515245 + 12345 - (x * 1103515245 + 12345) / 2147483648 * 2147483648) = x1 from ex1.symm]
        rw [← ex1] at hx1 hw5 g1 g2
        refine J_lstore_n (pc := 80) (lv' := [some (.ref 0), some (.int sd), some (.int nn), some (.long x1), none, some (.int sv), some (.int tv), some (.int iv)]) dX4_jars_80 (Nat.le_of_ble_eq_true rfl) rfl rfl ?_
        refine J_aload_n (pc := 81) dX4_jars_81 rfl ?_
        refine J_lload_n (pc := 82) dX4_jars_82 rfl ?_
        refine J_ldc2 (pc := 83) fK_X4_248 dX4_jars_83 ?_
        refine J_ldiv (pc := 86) dX4_jars_86 (by decide) ?_
        refine J_ldc2 (pc := 87) fK_X4_171 dX4_jars_87 ?_
        refine J_lrem (pc := 90) dX4_jars_90 (by decide) ?_
        refine J_l2i (pc := 91) dX4_jars_91 rfl ?_
        obtain ⟨w1, ew1⟩ : ∃ y : Int32, y = wrd x1 := ⟨_, rfl⟩
        rw [show (x1 / 65536 - x1 / 65536 / 6 * 6).toInt32 = w1 from ew1.symm]
        rw [← ew1] at hw5 g1 g2
        refine J_iconst (pc := 92) (v := 1) dX4_jars_92 (by decide) ?_
        refine J_callVv (pc := 93) fC_X4_139 rfl dX4_jars_93 (c_X4_hear1 (mst_c hs hc) w1.toInt rfl (by omega) (by rw [hs.2.1]; omega) (by rw [hs.2.2.1]; omega) (by rw [hs.2.2.2.1]; omega)) rfl ⟨Nat.le_of_ble_eq_true rfl, Nat.le_of_ble_eq_true rfl⟩ rfl (Nat.le_of_ble_eq_true rfl) (fun μ93 m93 => ?_)
        have hs2 := mst_hear (w := w1.toInt) hs (by omega)
        rw [← m93] at hs2
        refine J_iincW' (pc := 96) (i : Int) hi (lv' := fun v => [some (.ref 0), some (.int sd), some (.int nn), some (.long x1), none, some (.int sv), some (.int tv), some (.int v)]) dX4_jars_96 rfl (by omega) (by decide) (Nat.le_of_ble_eq_true rfl) rfl (fun _ => rfl) (fun z96 e96 => ?_)
        refine J_goto (pc := 99) 53 dX4_jars_99 (by decide) ?_
        refine ih (i + 1) z96 μ93 x1 (hA2 (m.1 1 0).toInt a n w1.toInt) (hP2 (m.1 1 0).toInt p n w1.toInt) (n + 1) (jZ (m.1 1 3).toInt (m.1 1 4).toInt (hA2 (m.1 1 0).toInt a n w1.toInt) (hP2 (m.1 1 0).toInt p n w1.toInt) w1.toInt) (by omega) (by omega) hs2 (by omega) (by omega) hx1 (fun ν' a' p' n' hs' => ?_)
        have := hk2 ν' a' p' n'
        rw [jin, if_pos h64, ← ex1, ← ew1] at this
        exact this hs'
set_option maxRecDepth 100000 in
set_option maxHeartbeats 4000000 in
theorem l_n_jout {m : JM} (hc : constM m) (hq : (0 ≤ (m.1 1 1).toInt ∧ (m.1 1 1).toInt ≤ 99) ∧ (0 ≤ (m.1 1 2).toInt ∧ (m.1 1 2).toInt ≤ 99) ∧ (0 ≤ (m.1 1 5).toInt ∧ (m.1 1 5).toInt < 200000)) {sd nn : Int32} {N : Nat} (hnn : nn.toInt = (N : Int)) (hN60 : N ≤ 60) : ∀ d : Nat, ∀ (t : Nat) (tv sv : Int32) (ν : JM) (x : Int64) (s : Int), t + d = N → tv.toInt = (t : Int) → sv.toInt = s → (0 ≤ s ∧ s ≤ t) → (0 ≤ x.toInt ∧ x.toInt < 2147483648) → eqM m ν → J G shM mX4_jars 40 [some (.ref 0), some (.int sd), some (.int nn), some (.long x), none, some (.int sv), some (.int tv), none] [] ν (fun v μ' => IsZ v (jout (m.1 1 0).toInt (m.1 1 3).toInt (m.1 1 4).toInt (m.1 1 1).toInt (m.1 1 2).toInt (m.1 1 5).toInt (m.1 1 6).toInt d x s) ∧ eqM m μ') := by
  intro d
  induction d with
  | zero =>
    intro t tv sv ν x s hd ht2 hsv hs hx hs0
    refine J_iload (pc := 40) dX4_jars_40 rfl ?_
    refine J_iload_n (pc := 42) dX4_jars_42 rfl ?_
    refine J_icmp_geW (pc := 43) (t : Int) (N : Int) ht2 hnn 126 dX4_jars_43 (by decide) (fun h43 => ?_) (fun h43 => ?_)
    · refine J_iload (pc := 126) dX4_jars_126 rfl ?_
      refine J_iret (pc := 128) dX4_jars_128 rfl ?_
      exact ⟨⟨_, rfl, hsv⟩, hs0⟩
    · exfalso; omega
  | succ d ih =>
    intro t tv sv ν x s hd ht2 hsv hs hx hs0
    refine J_iload (pc := 40) dX4_jars_40 rfl ?_
    refine J_iload_n (pc := 42) dX4_jars_42 rfl ?_
    refine J_icmp_geW (pc := 43) (t : Int) (N : Int) ht2 hnn 126 dX4_jars_43 (by decide) (fun h43 => ?_) (fun h43 => ?_)
    · exfalso; omega
    · refine J_aload_n (pc := 46) dX4_jars_46 rfl ?_
      refine J_callVv (pc := 47) fC_X4_136 rfl dX4_jars_47 (c_X4_begin) rfl ⟨Nat.le_of_ble_eq_true rfl, Nat.le_of_ble_eq_true rfl⟩ rfl (Nat.le_of_ble_eq_true rfl) (fun μ47 m47 => ?_)
      refine J_iconst (pc := 50) (v := 0) dX4_jars_50 (by decide) ?_
      refine J_istore (pc := 51) (lv' := [some (.ref 0), some (.int sd), some (.int nn), some (.long x), none, some (.int sv), some (.int tv), some (.int 0)]) dX4_jars_51 (Nat.le_of_ble_eq_true rfl) rfl rfl ?_
      have hj := jin_x (k := (m.1 1 0).toInt) (wr := (m.1 1 3).toInt) (ht := (m.1 1 4).toInt) 20 x (m.1 1 1).toInt (m.1 1 2).toInt (m.1 1 5).toInt (m.1 1 6).toInt hx
      have hs := mst_begin hs0
      rw [← m47] at hs
      refine l_n_jin hc 20 0 0 μ47 x (m.1 1 1).toInt (m.1 1 2).toInt (m.1 1 5).toInt (m.1 1 6).toInt rfl rfl hs (by omega) (by omega) hx (fun ν' a' p' n' hs' => ?_)
      refine J_iload (pc := 102) dX4_jars_102 rfl ?_
      refine J_aload_n (pc := 104) dX4_jars_104 rfl ?_
      refine J_getI (pc := 105) fF_X4_76 rfl rfl dX4_jars_105 ?_
      refine J_iconst (pc := 108) (v := 1) dX4_jars_108 (by decide) ?_
      refine J_icmp_neW (pc := 109) ((jin (m.1 1 0).toInt (m.1 1 3).toInt (m.1 1 4).toInt 20 x (m.1 1 1).toInt (m.1 1 2).toInt (m.1 1 5).toInt (m.1 1 6).toInt).2) 1 hs'.2.2.2.2 rfl 116 dX4_jars_109 (by decide) (fun h109 => ?_) (fun h109 => ?_)
      · refine J_iconst (pc := 116) (v := 0) dX4_jars_116 (by decide) ?_
        refine J_iaddW (pc := 117) s 0 hsv rfl dX4_jars_117 (by omega) (fun z117 e117 => ?_)
        refine J_istore (pc := 118) (lv' := [some (.ref 0), some (.int sd), some (.int nn), some (.long ((jin (m.1 1 0).toInt (m.1 1 3).toInt (m.1 1 4).toInt 20 x (m.1 1 1).toInt (m.1 1 2).toInt (m.1 1 5).toInt (m.1 1 6).toInt).1)), none, some (.int z117), some (.int tv), none]) dX4_jars_118 (Nat.le_of_ble_eq_true rfl) rfl rfl ?_
        refine J_iincW' (pc := 120) (t : Int) ht2 (lv' := fun v => [some (.ref 0), some (.int sd), some (.int nn), some (.long ((jin (m.1 1 0).toInt (m.1 1 3).toInt (m.1 1 4).toInt 20 x (m.1 1 1).toInt (m.1 1 2).toInt (m.1 1 5).toInt (m.1 1 6).toInt).1)), none, some (.int z117), some (.int v), none]) dX4_jars_120 rfl (by omega) (by decide) (Nat.le_of_ble_eq_true rfl) rfl (fun _ => rfl) (fun z120 e120 => ?_)
        refine J_goto (pc := 123) 40 dX4_jars_123 (by decide) ?_
        refine J_mono (J_lv' (lv' := [some (.ref 0), some (.int sd), some (.int nn), some (.long (jin (m.1 1 0).toInt (m.1 1 3).toInt (m.1 1 4).toInt 20 x (m.1 1 1).toInt (m.1 1 2).toInt (m.1 1 5).toInt (m.1 1 6).toInt).1), none, some (.int z117), some (.int z120), none]) (by repeat' constructor) (ih (t + 1) z120 z117 ν' (jin (m.1 1 0).toInt (m.1 1 3).toInt (m.1 1 4).toInt 20 x (m.1 1 1).toInt (m.1 1 2).toInt (m.1 1 5).toInt (m.1 1 6).toInt).1 (s + 0) (by omega) (by omega) (by omega) (by omega) hj hs'.1)) (fun v μ' hh => ⟨?_, hh.2⟩)
        rw [jout, if_neg h109]
        exact hh.1
      · refine J_iconst (pc := 112) (v := 1) dX4_jars_112 (by decide) ?_
        refine J_goto (pc := 113) 117 dX4_jars_113 (by decide) ?_
        refine J_iaddW (pc := 117) s 1 hsv rfl dX4_jars_117 (by omega) (fun z117 e117 => ?_)
        refine J_istore (pc := 118) (lv' := [some (.ref 0), some (.int sd), some (.int nn), some (.long ((jin (m.1 1 0).toInt (m.1 1 3).toInt (m.1 1 4).toInt 20 x (m.1 1 1).toInt (m.1 1 2).toInt (m.1 1 5).toInt (m.1 1 6).toInt).1)), none, some (.int z117), some (.int tv), none]) dX4_jars_118 (Nat.le_of_ble_eq_true rfl) rfl rfl ?_
        refine J_iincW' (pc := 120) (t : Int) ht2 (lv' := fun v => [some (.ref 0), some (.int sd), some (.int nn), some (.long ((jin (m.1 1 0).toInt (m.1 1 3).toInt (m.1 1 4).toInt 20 x (m.1 1 1).toInt (m.1 1 2).toInt (m.1 1 5).toInt (m.1 1 6).toInt).1)), none, some (.int z117), some (.int v), none]) dX4_jars_120 rfl (by omega) (by decide) (Nat.le_of_ble_eq_true rfl) rfl (fun _ => rfl) (fun z120 e120 => ?_)
        refine J_goto (pc := 123) 40 dX4_jars_123 (by decide) ?_
        refine J_mono (J_lv' (lv' := [some (.ref 0), some (.int sd), some (.int nn), some (.long (jin (m.1 1 0).toInt (m.1 1 3).toInt (m.1 1 4).toInt 20 x (m.1 1 1).toInt (m.1 1 2).toInt (m.1 1 5).toInt (m.1 1 6).toInt).1), none, some (.int z117), some (.int z120), none]) (by repeat' constructor) (ih (t + 1) z120 z117 ν' (jin (m.1 1 0).toInt (m.1 1 3).toInt (m.1 1 4).toInt 20 x (m.1 1 1).toInt (m.1 1 2).toInt (m.1 1 5).toInt (m.1 1 6).toInt).1 (s + 1) (by omega) (by omega) (by omega) (by omega) hj hs'.1)) (fun v μ' hh => ⟨?_, hh.2⟩)
        rw [jout, if_pos h109]
        exact hh.1
set_option maxRecDepth 100000 in
set_option maxHeartbeats 4000000 in
theorem k_jars {N : Int} {c m : JM} (h : Inv N c m) (hN : 150 ≤ N ∧ N < 100000) {a b : Int32}  : Con G shC mX3_jars [.ref 0, .int a, .int b] c (fun v μ' => (¬(0 ≤ a.toInt ∧ a.toInt ≤ 999999 ∧ 0 ≤ b.toInt ∧ b.toInt ≤ 60) ∧ IsZ v (-2) ∧ μ' = (jI c 0 8 (c.1 0 8 + 1))) ∨ ((0 ≤ a.toInt ∧ a.toInt ≤ 999999 ∧ 0 ≤ b.toInt ∧ b.toInt ≤ 60) ∧ IsZ v (jout (m.1 1 0).toInt (m.1 1 3).toInt (m.1 1 4).toInt (m.1 1 1).toInt (m.1 1 2).toInt (m.1 1 5).toInt (m.1 1 6).toInt b.toInt.toNat a.toInt64 0) ∧ μ' = c)) := by
  obtain ⟨q0, q1, q2, q3, q4, q5, q6⟩ := Inv_q h
  obtain ⟨r0, r1, r2, r3, r4, r5, r6, r15, r40, r9⟩ := Inv_r h
  have hc := h.1
  have qt : (c.1 21 1).toInt = (m.1 0 9).toInt := by rw [h.2.2.2.2.1.1]
  have qs0 : (c.1 0 8).toInt = (m.1 4 0).toInt := by rw [h.2.2.2.2.2.2.1]
  have qs1 : (c.1 0 9).toInt = (m.1 4 1).toInt := by rw [h.2.2.2.2.2.2.2.1]
  have qs2 : (c.1 0 10).toInt = (m.1 4 2).toInt := by rw [h.2.2.2.2.2.2.2.2]
  refine Con_of [some (.ref 0), some (.int a), some (.int b), none, none, none, none, none, none] (by decide +kernel) (Nat.le_of_ble_eq_true rfl) (fun _ h => h) ?_
  refine J_iload_n (pc := 0) dX3_jars_0 rfl ?_
  refine J_iconst (pc := 1) (v := 0) dX3_jars_1 (by decide) ?_
  refine J_ldc (pc := 2) fK_X3_206 dX3_jars_2 ?_
  refine J_callSc (pc := 4) fC_X3_60 dX3_jars_4 (c_X3_within a.toInt 0 999999 rfl rfl rfl) rfl ⟨Nat.le_of_ble_eq_true rfl, Nat.le_of_ble_eq_true rfl⟩ rfl (Nat.le_of_ble_eq_true rfl) (fun h4 => ?_) (fun h4 => ?_)
  · refine J_if_eq_F (pc := 7) 20 dX3_jars_7 (by decide) (by decide) ?_
    refine J_iload_n (pc := 10) dX3_jars_10 rfl ?_
    refine J_iconst (pc := 11) (v := 0) dX3_jars_11 (by decide) ?_
    refine J_bipush (pc := 12) (v := 60) dX3_jars_12 (by decide) ?_
    refine J_callSc (pc := 14) fC_X3_60 dX3_jars_14 (c_X3_within b.toInt 0 60 rfl rfl rfl) rfl ⟨Nat.le_of_ble_eq_true rfl, Nat.le_of_ble_eq_true rfl⟩ rfl (Nat.le_of_ble_eq_true rfl) (fun h14 => ?_) (fun h14 => ?_)
    · refine J_if_ne_T (pc := 17) 27 dX3_jars_17 (by decide) (by decide) ?_
      refine J_iload_n (pc := 27) dX3_jars_27 rfl ?_
      refine J_i2l (pc := 28) dX3_jars_28 rfl ?_
      refine J_lstore_n (pc := 29) (lv' := [some (.ref 0), some (.int a), some (.int b), some (.long a.toInt64), none, none, none, none, none]) dX3_jars_29 (Nat.le_of_ble_eq_true rfl) rfl rfl ?_
      refine J_iconst (pc := 30) (v := 0) dX3_jars_30 (by decide) ?_
      refine J_istore (pc := 31) (lv' := [some (.ref 0), some (.int a), some (.int b), some (.long a.toInt64), none, some (.int 0), none, none, none]) dX3_jars_31 (Nat.le_of_ble_eq_true rfl) rfl rfl ?_
      refine J_iconst (pc := 33) (v := 0) dX3_jars_33 (by decide) ?_
      refine J_istore (pc := 34) (lv' := [some (.ref 0), some (.int a), some (.int b), some (.long a.toInt64), none, some (.int 0), some (.int 0), none, none]) dX3_jars_34 (Nat.le_of_ble_eq_true rfl) rfl rfl ?_
      exact J_mono (l_k_jout (k := (m.1 1 0).toInt) (wr := (m.1 1 3).toInt) (ht := (m.1 1 4).toInt) (n0 := (m.1 1 5).toInt) q0 q1 q2 q4 (by omega) (a := (m.1 1 1).toInt) (p := (m.1 1 2).toInt) (b := (m.1 1 6).toInt) q3 (by omega) (N := b.toInt.toNat) (by omega) (by omega) b.toInt.toNat 0 0 0 a.toInt64 0 (by omega) rfl rfl (by omega) (by rw [Int32.toInt_toInt64]; omega)) (fun v μ' hh => Or.inr ⟨by omega, hh.1, hh.2⟩)
    · refine J_if_ne_F (pc := 17) 27 dX3_jars_17 (by decide) (by decide) ?_
      refine J_aload_n (pc := 20) dX3_jars_20 rfl ?_
      refine J_bipush (pc := 21) (v := (-2)) dX3_jars_21 (by decide) ?_
      refine J_callVim (pc := 23) fC_X3_64 rfl dX3_jars_23 (c_X3_refuse2) rfl ⟨Nat.le_of_ble_eq_true rfl, Nat.le_of_ble_eq_true rfl⟩ rfl (Nat.le_of_ble_eq_true rfl) (fun z23 μ23 d23 m23 => ?_)
      refine J_iret (pc := 26) dX3_jars_26 rfl ?_
      subst_vars
      exact Or.inl ⟨by omega, ⟨_, rfl, rfl⟩, rfl⟩
  · refine J_if_eq_T (pc := 7) 20 dX3_jars_7 (by decide) (by decide) ?_
    refine J_aload_n (pc := 20) dX3_jars_20 rfl ?_
    refine J_bipush (pc := 21) (v := (-2)) dX3_jars_21 (by decide) ?_
    refine J_callVim (pc := 23) fC_X3_64 rfl dX3_jars_23 (c_X3_refuse2) rfl ⟨Nat.le_of_ble_eq_true rfl, Nat.le_of_ble_eq_true rfl⟩ rfl (Nat.le_of_ble_eq_true rfl) (fun z23 μ23 d23 m23 => ?_)
    refine J_iret (pc := 26) dX3_jars_26 rfl ?_
    subst_vars
    exact Or.inl ⟨by omega, ⟨_, rfl, rfl⟩, rfl⟩
set_option maxRecDepth 100000 in
set_option maxHeartbeats 4000000 in
theorem n_jars {N : Int} {c m : JM} (h : Inv N c m) (hN : 150 ≤ N ∧ N < 100000) {a b : Int32}  : Con G shM mX4_jars [.ref 0, .int a, .int b] m (fun v μ' => (¬(0 ≤ a.toInt ∧ a.toInt ≤ 999999 ∧ 0 ≤ b.toInt ∧ b.toInt ≤ 60) ∧ IsZ v (-2) ∧ μ' = (jI m 4 0 (m.1 4 0 + 1))) ∨ ((0 ≤ a.toInt ∧ a.toInt ≤ 999999 ∧ 0 ≤ b.toInt ∧ b.toInt ≤ 60) ∧ IsZ v (jout (m.1 1 0).toInt (m.1 1 3).toInt (m.1 1 4).toInt (m.1 1 1).toInt (m.1 1 2).toInt (m.1 1 5).toInt (m.1 1 6).toInt b.toInt.toNat a.toInt64 0) ∧ eqM m μ')) := by
  obtain ⟨q0, q1, q2, q3, q4, q5, q6⟩ := Inv_q h
  obtain ⟨r0, r1, r2, r3, r4, r5, r6, r15, r40, r9⟩ := Inv_r h
  have hc := h.1
  have qt : (c.1 21 1).toInt = (m.1 0 9).toInt := by rw [h.2.2.2.2.1.1]
  have qs0 : (c.1 0 8).toInt = (m.1 4 0).toInt := by rw [h.2.2.2.2.2.2.1]
  have qs1 : (c.1 0 9).toInt = (m.1 4 1).toInt := by rw [h.2.2.2.2.2.2.2.1]
  have qs2 : (c.1 0 10).toInt = (m.1 4 2).toInt := by rw [h.2.2.2.2.2.2.2.2]
  refine Con_of [some (.ref 0), some (.int a), some (.int b), none, none, none, none, none] (by decide +kernel) (Nat.le_of_ble_eq_true rfl) (fun _ h => h) ?_
  refine J_iload_n (pc := 0) dX4_jars_0 rfl ?_
  refine J_i2l (pc := 1) dX4_jars_1 rfl ?_
  refine J_lconst (pc := 2) (v := 0) dX4_jars_2 (by decide) ?_
  refine J_ldc2 (pc := 3) fK_X4_238 dX4_jars_3 ?_
  refine J_callSc (pc := 6) fC_X4_58 dX4_jars_6 (c_X4_in a.toInt 0 999999 (i2l_z rfl) rfl rfl) rfl ⟨Nat.le_of_ble_eq_true rfl, Nat.le_of_ble_eq_true rfl⟩ rfl (Nat.le_of_ble_eq_true rfl) (fun h6 => ?_) (fun h6 => ?_)
  · refine J_if_eq_F (pc := 9) 24 dX4_jars_9 (by decide) (by decide) ?_
    refine J_iload_n (pc := 12) dX4_jars_12 rfl ?_
    refine J_i2l (pc := 13) dX4_jars_13 rfl ?_
    refine J_lconst (pc := 14) (v := 0) dX4_jars_14 (by decide) ?_
    refine J_ldc2 (pc := 15) fK_X4_240 dX4_jars_15 ?_
    refine J_callSc (pc := 18) fC_X4_58 dX4_jars_18 (c_X4_in b.toInt 0 60 (i2l_z rfl) rfl rfl) rfl ⟨Nat.le_of_ble_eq_true rfl, Nat.le_of_ble_eq_true rfl⟩ rfl (Nat.le_of_ble_eq_true rfl) (fun h18 => ?_) (fun h18 => ?_)
    · refine J_if_ne_T (pc := 21) 31 dX4_jars_21 (by decide) (by decide) ?_
      refine J_iload_n (pc := 31) dX4_jars_31 rfl ?_
      refine J_i2l (pc := 32) dX4_jars_32 rfl ?_
      refine J_lstore_n (pc := 33) (lv' := [some (.ref 0), some (.int a), some (.int b), some (.long a.toInt64), none, none, none, none]) dX4_jars_33 (Nat.le_of_ble_eq_true rfl) rfl rfl ?_
      refine J_iconst (pc := 34) (v := 0) dX4_jars_34 (by decide) ?_
      refine J_istore (pc := 35) (lv' := [some (.ref 0), some (.int a), some (.int b), some (.long a.toInt64), none, some (.int 0), none, none]) dX4_jars_35 (Nat.le_of_ble_eq_true rfl) rfl rfl ?_
      refine J_iconst (pc := 37) (v := 0) dX4_jars_37 (by decide) ?_
      refine J_istore (pc := 38) (lv' := [some (.ref 0), some (.int a), some (.int b), some (.long a.toInt64), none, some (.int 0), some (.int 0), none]) dX4_jars_38 (Nat.le_of_ble_eq_true rfl) rfl rfl ?_
      exact J_mono (l_n_jout hc (by omega) (N := b.toInt.toNat) (by omega) (by omega) b.toInt.toNat 0 0 0 m a.toInt64 0 (by omega) rfl rfl (by omega) (by rw [Int32.toInt_toInt64]; omega) (eqM_rf m)) (fun v μ' hh => Or.inr ⟨by omega, hh.1, hh.2⟩)
    · refine J_if_ne_F (pc := 21) 31 dX4_jars_21 (by decide) (by decide) ?_
      refine J_aload_n (pc := 24) dX4_jars_24 rfl ?_
      refine J_bipush (pc := 25) (v := (-2)) dX4_jars_25 (by decide) ?_
      refine J_callVim (pc := 27) fC_X4_91 rfl dX4_jars_27 (c_X4_no2) rfl ⟨Nat.le_of_ble_eq_true rfl, Nat.le_of_ble_eq_true rfl⟩ rfl (Nat.le_of_ble_eq_true rfl) (fun z27 μ27 d27 m27 => ?_)
      refine J_iret (pc := 30) dX4_jars_30 rfl ?_
      subst_vars
      exact Or.inl ⟨by omega, ⟨_, rfl, rfl⟩, rfl⟩
  · refine J_if_eq_T (pc := 9) 24 dX4_jars_9 (by decide) (by decide) ?_
    refine J_aload_n (pc := 24) dX4_jars_24 rfl ?_
    refine J_bipush (pc := 25) (v := (-2)) dX4_jars_25 (by decide) ?_
    refine J_callVim (pc := 27) fC_X4_91 rfl dX4_jars_27 (c_X4_no2) rfl ⟨Nat.le_of_ble_eq_true rfl, Nat.le_of_ble_eq_true rfl⟩ rfl (Nat.le_of_ble_eq_true rfl) (fun z27 μ27 d27 m27 => ?_)
    refine J_iret (pc := 30) dX4_jars_30 rfl ?_
    subst_vars
    exact Or.inl ⟨by omega, ⟨_, rfl, rfl⟩, rfl⟩
theorem pr_jars {G : JG × JG} {N : Int} {c m : JM} (h : Inv N c m) (hN : 150 ≤ N ∧ N < 100000) {a b : Int32} : Pair G N c m mX3_jars mX4_jars [.int a, .int b] := by
  refine ⟨_, _, k_jars h hN, n_jars h hN, fun v c' w m' hC hM => ?_⟩
  rcases hC with ⟨a1, a2, a3⟩ | ⟨a1, a2, a3⟩
  · rcases hM with ⟨b1, b2, b3⟩ | ⟨b1, b2, b3⟩
    · exact ⟨IsZ_eq a2 b2, by rw [a3, b3]; exact Inv_no (by omega) h 0 (by decide)⟩
    · exact absurd b1 a1
  · rcases hM with ⟨b1, b2, b3⟩ | ⟨b1, b2, b3⟩
    · exact absurd a1 b1
    · exact ⟨IsZ_eq a2 b2, by rw [a3]; exact Inv_eq (by omega) h (eqC_rf _) b3⟩

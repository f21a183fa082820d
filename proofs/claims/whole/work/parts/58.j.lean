/-! ===== what the Statement gives of the start; the law's loop; the law ===== -/
def j_ix (i : Nat) : Nat := match i with
  | 0 => 285
  | 1 => 297
  | 2 => 302
  | 3 => 307
  | _ => 312
set_option maxRecDepth 100000 in
set_option maxHeartbeats 4000000 in
theorem j_E0 {s : State} {b : Nat} (hts : ∀ w ∈ lw_tbl, w.before #[Value.ref b] s = true) (hgv : (Jvm.Cond.and given_1 narrow_1).before #[Value.ref b] s = true) : ∃ sa : Nat → Nat, j_E sa (lw_A s) s s.heap := by
  have hs := flat_of_before _ hgv
  have hA : ∀ a : Nat, a < s.heap.size → ¬ lw_A s a := fun a h => Nat.not_le.mpr h
  have ht : ∀ w ∈ tables_1, w.before #[Value.ref b] s = true := fun w h => hts w (List.mem_append_right _ h)
  have hiC : (Cond.initialized RX3).before #[Value.ref b] s = true := ht _ (List.mem_of_getElem? (i := 1) (by decide +kernel))
  obtain ⟨t0, e0, T0⟩ := va_Tof (args := #[Value.ref b]) (s := s) (tm := .static RX3 "PLAIN_ANGER" "[I") (ty := .int) (N := 6) (f := fun i => .int (j_tA i)) (A := lw_A s) (by decide) (hs _ (by decide +kernel)) (va_eqt (hs _ (by decide +kernel))) (fun j hj => by
    rcases (by omega : j = 0 ∨ j = 1 ∨ j = 2 ∨ j = 3 ∨ j = 4 ∨ j = 5) with rfl | rfl | rfl | rfl | rfl | rfl <;> exact va_eqt (hs _ (by decide +kernel))) hA
  have Z0 : va_Z RX3 "PLAIN_ANGER" "[I" (.ref t0) (lw_A s) s s.heap := va_Zof (args := #[Value.ref b]) (ht _ (List.mem_of_getElem? (i := 362) (by decide +kernel))) hiC e0 hA
  obtain ⟨t1, e1, T1⟩ := va_Tof (args := #[Value.ref b]) (s := s) (tm := .static RX3 "PLAIN_PRIDE" "[I") (ty := .int) (N := 6) (f := fun i => .int (j_tP i)) (A := lw_A s) (by decide) (hs _ (by decide +kernel)) (va_eqt (hs _ (by decide +kernel))) (fun j hj => by
    rcases (by omega : j = 0 ∨ j = 1 ∨ j = 2 ∨ j = 3 ∨ j = 4 ∨ j = 5) with rfl | rfl | rfl | rfl | rfl | rfl <;> exact va_eqt (hs _ (by decide +kernel))) hA
  have Z1 : va_Z RX3 "PLAIN_PRIDE" "[I" (.ref t1) (lw_A s) s s.heap := va_Zof (args := #[Value.ref b]) (ht _ (List.mem_of_getElem? (i := 379) (by decide +kernel))) hiC e1 hA
  obtain ⟨t2, e2, T2⟩ := va_Tof (args := #[Value.ref b]) (s := s) (tm := .static RX3 "FIRST_VOWS" "[I") (ty := .int) (N := 8) (f := fun i => .int (j_tV i)) (A := lw_A s) (by decide) (hs _ (by decide +kernel)) (va_eqt (hs _ (by decide +kernel))) (fun j hj => by
    rcases (by omega : j = 0 ∨ j = 1 ∨ j = 2 ∨ j = 3 ∨ j = 4 ∨ j = 5 ∨ j = 6 ∨ j = 7) with rfl | rfl | rfl | rfl | rfl | rfl | rfl | rfl <;> exact va_eqt (hs _ (by decide +kernel))) hA
  have Z2 : va_Z RX3 "FIRST_VOWS" "[I" (.ref t2) (lw_A s) s s.heap := va_Zof (args := #[Value.ref b]) (ht _ (List.mem_of_getElem? (i := 153) (by decide +kernel))) hiC e2 hA
  obtain ⟨adK, adV, hSS, hev⟩ := vk_Sof (args := #[Value.ref b]) (s := s) (N := 5) (tm := fun i => .string RX3 (j_ix i)) (len := j_tl) (byt := j_tbt) (A := lw_A s) (fun i hi => by rcases (by omega : i = 0 ∨ i = 1 ∨ i = 2 ∨ i = 3 ∨ i = 4) with rfl | rfl | rfl | rfl | rfl <;> decide)
    (fun i hi => by rcases (by omega : i = 0 ∨ i = 1 ∨ i = 2 ∨ i = 3 ∨ i = 4) with rfl | rfl | rfl | rfl | rfl <;> exact hs _ (by decide +kernel))
    (fun i hi => by rcases (by omega : i = 0 ∨ i = 1 ∨ i = 2 ∨ i = 3 ∨ i = 4) with rfl | rfl | rfl | rfl | rfl <;> exact hs _ (by decide +kernel))
    (fun i hi => by rcases (by omega : i = 0 ∨ i = 1 ∨ i = 2 ∨ i = 3 ∨ i = 4) with rfl | rfl | rfl | rfl | rfl <;> exact hs _ (by decide +kernel))
    (fun i hi => by rcases (by omega : i = 0 ∨ i = 1 ∨ i = 2 ∨ i = 3 ∨ i = 4) with rfl | rfl | rfl | rfl | rfl <;> exact hs _ (by decide +kernel))
    (fun i hi j hj => by
      have hj5 : j < 5 := by
        rcases (by omega : i = 0 ∨ i = 1 ∨ i = 2 ∨ i = 3 ∨ i = 4) with rfl | rfl | rfl | rfl | rfl
        · have : j < 3 := hj
          omega
        · have : j < 4 := hj
          omega
        · have : j < 5 := hj
          omega
        · have : j < 3 := hj
          omega
        · have : j < 3 := hj
          omega
      rcases (by omega : i = 0 ∨ i = 1 ∨ i = 2 ∨ i = 3 ∨ i = 4) with rfl | rfl | rfl | rfl | rfl <;> rcases (by omega : j = 0 ∨ j = 1 ∨ j = 2 ∨ j = 3 ∨ j = 4) with rfl | rfl | rfl | rfl | rfl <;> first | exact absurd hj (by decide) | exact hs _ (by decide +kernel))
    (fun i j hi hj hij => by
      rcases (by omega : i = 0 ∨ i = 1 ∨ i = 2 ∨ i = 3 ∨ i = 4) with rfl | rfl | rfl | rfl | rfl <;> rcases (by omega : j = 0 ∨ j = 1 ∨ j = 2 ∨ j = 3 ∨ j = 4) with rfl | rfl | rfl | rfl | rfl <;> first | exact absurd rfl hij | exact Or.inl (hs _ (by decide +kernel)) | exact Or.inr (hs _ (by decide +kernel))) hA
  obtain ⟨sa, hsa⟩ : ∃ sa : Nat → Nat, sa = fun o => if o = 1000 then t0 else if o = 1001 then t1 else if o = 1002 then t2 else if o < 1020 then adK (o - 1010) else adV (o - 1020) := ⟨_, rfl⟩
  have s0 : sa (1000 + 0) = t0 := by rw [hsa]; rfl
  have s1 : sa (1000 + 1) = t1 := by rw [hsa]; rfl
  have s2 : sa (1000 + 2) = t2 := by rw [hsa]; rfl
  have k1 : ∀ i, i < 5 → sa (1010 + i) = adK i := fun i hi => by
    rw [hsa]
    show (if 1010 + i = 1000 then t0 else if 1010 + i = 1001 then t1 else if 1010 + i = 1002 then t2 else if 1010 + i < 1020 then adK (1010 + i - 1010) else adV (1010 + i - 1020)) = _
    rw [if_neg (by omega), if_neg (by omega), if_neg (by omega), if_pos (by omega), Nat.add_sub_cancel_left]
  have k2 : ∀ i, i < 5 → sa (1020 + i) = adV i := fun i hi => by
    rw [hsa]
    show (if 1020 + i = 1000 then t0 else if 1020 + i = 1001 then t1 else if 1020 + i = 1002 then t2 else if 1020 + i < 1020 then adK (1020 + i - 1010) else adV (1020 + i - 1020)) = _
    rw [if_neg (by omega), if_neg (by omega), if_neg (by omega), if_neg (by omega), Nat.add_sub_cancel_left]
  refine ⟨sa, fun w hw => ?_, fun j x hx => ?_, ⟨⟨fun i hi => ?_, fun i j hi hj e => ?_⟩, fun i x hx => ?_⟩, ?_, ?_⟩
  · have hw1 := List.mem_filter.mp hw
    have hb := ht w hw1.1
    have h1 := hw1.2
    cases w <;> first | exact va_Nw.of rfl hb | cases h1
  · match j, hx with
    | 0, hx => cases hx; rw [s0]; exact ⟨Z0, T0⟩
    | 1, hx => cases hx; rw [s1]; exact ⟨Z1, T1⟩
    | 2, hx => cases hx; rw [s2]; exact ⟨Z2, T2⟩
    | j + 3, hx => simp [j_tb] at hx
  · show va_O "java/lang/String" (sa (1010 + i)) _ _ _ ∧ va_OF "java/lang/String" "coder" "B" (.int 0) (sa (1010 + i)) _ _ _ ∧ va_OF "java/lang/String" "value" "[B" (.ref (sa (1020 + i))) (sa (1010 + i)) _ _ _ ∧ va_T .byte (sa (1020 + i)) _ _ _ _ _
    rw [k1 i hi, k2 i hi]
    exact hSS.1 i hi
  · have e : sa (1010 + i) = sa (1010 + j) := e
    rw [k1 i hi, k1 j hj] at e
    exact hSS.2 i j hi hj e
  · match i, hx with
    | 0, hx => cases hx; rw [k1 0 (by decide)]; exact vk_R.of (A := #[Value.ref b]) (ht _ (List.mem_of_getElem? (i := 270) (by decide +kernel))) (hev 0 (by decide))
    | 1, hx => cases hx; rw [k1 1 (by decide)]; exact vk_R.of (A := #[Value.ref b]) (ht _ (List.mem_of_getElem? (i := 332) (by decide +kernel))) (hev 1 (by decide))
    | 2, hx => cases hx; rw [k1 2 (by decide)]; exact vk_R.of (A := #[Value.ref b]) (ht _ (List.mem_of_getElem? (i := 336) (by decide +kernel))) (hev 2 (by decide))
    | 3, hx => cases hx; rw [k1 3 (by decide)]; exact vk_R.of (A := #[Value.ref b]) (ht _ (List.mem_of_getElem? (i := 340) (by decide +kernel))) (hev 3 (by decide))
    | 4, hx => cases hx; rw [k1 4 (by decide)]; exact vk_R.of (A := #[Value.ref b]) (ht _ (List.mem_of_getElem? (i := 344) (by decide +kernel))) (hev 4 (by decide))
    | i + 5, hx => simp [j_tx] at hx
  · exact va_Zof (args := #[Value.ref b]) (ht _ (List.mem_of_getElem? (i := 284) (by decide +kernel))) (ht _ (List.mem_of_getElem? (i := 7) (by decide +kernel))) (va_eqi (hs _ (by decide +kernel))) hA
  · exact va_Zqof (args := #[Value.ref b]) (ht _ (List.mem_of_getElem? (i := 300) (by decide +kernel))) (ht _ (List.mem_of_getElem? (i := 9) (by decide +kernel))) (hs _ (by decide +kernel)) hA
theorem and31 (y : Int32) : 0 ≤ (y &&& 31).toInt ∧ (y &&& 31).toInt ≤ 31 := by
  have h : (y &&& 31).toBitVec.toNat ≤ 31 := by
    rw [Int32.toBitVec_and, BitVec.toNat_and]
    exact Nat.le_trans Nat.and_le_right (by decide)
  have e : (y &&& 31).toInt = ((y &&& 31).toBitVec.toNat : Int) := by
    show (y &&& 31).toBitVec.toInt = _
    rw [BitVec.toInt_eq_toNat_of_lt (by omega)]
  omega
set_option maxRecDepth 100000 in
set_option maxHeartbeats 4000000 in
theorem law_loop {p : Program} {l : Launch} {e : Env} {s : State} {mt : MethodId} {below : List Frame} {meth : Method} {cd : Code} {b L : Nat} {xs : Nat → Int32} {D : va_G} {cI cZ : ClassId} {aC aM : Nat → Nat} (hL : L ≤ 320) (F : LF p s mt meth cd b L xs D cI cZ aC aM) :
    ∀ (n i : Nat) (x3 : Int32) (N : Int), L + 1 ≤ i + n → x3.toInt = (i : Int) → i ≤ L → 150 ≤ N ∧ N ≤ 150 + (i : Int) → ∀ (c m : JM), Inv N c m → ∀ (H : Heap) (locs : List Loc), LW s D cI cZ aC aM H locs c m → ∀ ls : Array Slot, lv_has ls 4 [(0, .ref b), (1, .ref (aC 0)), (2, .ref (aM 0)), (3, .int x3)] →
    W p l e room_1 s mt #[Value.ref b] below meth cd H locs 39 290932 (lw_Z below #[Value.ref b] s) (F0 mt 18 ls []) := by
  obtain ⟨hx, hb, hr0, hml, hown, hts, hX, hbl, hlocks, hgv⟩ := F.1
  have hbA : ¬ lw_A s b := Nat.not_le.mpr hbl
  have hcs : 39 ≤ room_1.cells ∧ 290932 ≤ room_1.slots := ⟨Nat.le_of_ble_eq_true rfl, Nat.le_of_ble_eq_true rfl⟩
  intro n
  induction n with
  | zero =>
    intro i x3 N h1 h2 h3
    exact absurd h1 (by omega)
  | succ n ih =>
    intro i x3 N h1 hi hiL hN c m hI H locs X ls hl
    refine lv_iload_n hx hb dL_law_18 rfl (lv_at hl 3 rfl) ?_
    refine lv_aload_n hx hb dL_law_19 rfl (lv_at hl 0 rfl) ?_
    refine va_slen hx hb hX hbl hbA X.2.2.2.2 dL_law_20 ?_
    refine lv_iconst (v := 5) hx hb dL_law_21 (by decide) ?_
    refine lv_isub hx hb dL_law_22 ?_
    have eL0 : (Int32.ofNat L).toInt = (L : Int) := nI_toInt (by omega)
    have e5 : (5 : Int32).toInt = 5 := rfl
    have eL : (Int32.ofNat L - 5).toInt = (L : Int) - 5 := by
      rw [z_sub (by rw [eL0, e5]; omega), eL0, e5]
    refine lv_icmp_gt (tgt := 950) hx hb dL_law_23 (by decide) (fun hc => ?_) (fun hc => ?_)
    · refine lv_iconst (v := 1) hx hb dL_law_950 (by decide) ?_
      refine va_forget (fun q hq => X.2.2.2.2.2.2 q hq) ?_
      refine W.widen (k := 600000) (n := 7302250) (Nat.le_of_ble_eq_true rfl) (Nat.le_of_ble_eq_true rfl) ?_
      exact lw_ret hx hb hr0 hlocks dL_law_951
    · rw [Int32.lt_iff_toInt_lt, eL, hi] at hc
      have h5 : i + 5 ≤ L := by omega
      refine lv_aload_n hx hb dL_law_26 rfl (lv_at hl 0 rfl) ?_
      refine lv_iload_n hx hb dL_law_27 rfl (lv_at hl 3 rfl) ?_
      refine va_sld hx hb hX hbl hbA X.2.2.2.2 (vin_z (by rw [hi]; omega)) dL_law_28 ?_
      refine lv_bipush (v := 31) hx hb dL_law_29 (by decide) ?_
      refine lv_iand hx hb dL_law_31 ?_
      generalize xs x3.toNatClampNeg = y0
      have hr := and31 y0
      generalize (y0 &&& 31) = y at hr ⊢
      have back : ∀ (c1 m1 : JM) (H1 : Heap) (locs1 : List Loc), Inv (N + 1) c1 m1 → LW s D cI cZ aC aM H1 locs1 c1 m1 → W p l e room_1 s mt #[Value.ref b] below meth cd H1 locs1 39 290932 (lw_Z below #[Value.ref b] s) (F0 mt 944 ls []) := by
        intro c1 m1 H1 locs1 hI1 X1
        refine lv_iinc (v := x3 + 5) (lv' := [(3, .int (x3 + 5)), (0, .ref b), (1, .ref (aC 0)), (2, .ref (aM 0))]) hx hb dL_law_944 hl (k := 3) rfl rfl (by decide) rfl (fun ls hl => ?_)
        refine lv_goto (tgt := 18) hx hb dL_law_947 (by decide) ?_
        exact ih (i + 5) (x3 + 5) (N + 1) (by omega) (by rw [z_add (by rw [hi, e5]; omega), hi, e5]; omega) (by omega) (by omega) c1 m1 hI1 H1 locs1 X1 ls (lv_sub hl [1, 2, 3, 0] rfl)
      obtain ⟨z, hz0⟩ : ∃ z, z = y.toInt := ⟨_, rfl⟩
      rw [← hz0] at hr
      rcases (by omega : z = 0 ∨ z = 1 ∨ z = 2 ∨ z = 3 ∨ z = 4 ∨ z = 5 ∨ z = 6 ∨ z = 7 ∨ z = 8 ∨ z = 9 ∨ z = 10 ∨ z = 11 ∨ z = 12 ∨ z = 13 ∨ z = 14 ∨ z = 15 ∨ z = 16 ∨ z = 17 ∨ z = 18 ∨ z = 19 ∨ z = 20 ∨ z = 21 ∨ z = 22 ∨ z = 23 ∨ z = 24 ∨ z = 25 ∨ z = 26 ∨ z = 27 ∨ z = 28 ∨ z = 29 ∨ z = 30 ∨ z = 31) with hz | hz | hz | hz | hz | hz | hz | hz | hz | hz | hz | hz | hz | hz | hz | hz | hz | hz | hz | hz | hz | hz | hz | hz | hz | hz | hz | hz | hz | hz | hz | hz
      · exact lv_tableIn (tgt := 176) (off := 144) hx hb dL_law_32 (by omega) (by omega) (by rw [← hz0, hz]; rfl) (by decide) (lw_case0 F X hI (by omega) hi h5 hL hl hcs back)
      · exact lv_tableIn (tgt := 199) (off := 167) hx hb dL_law_32 (by omega) (by omega) (by rw [← hz0, hz]; rfl) (by decide) (lw_case1 F X hI (by omega) hi h5 hL hl hcs back)
      · exact lv_tableIn (tgt := 232) (off := 200) hx hb dL_law_32 (by omega) (by omega) (by rw [← hz0, hz]; rfl) (by decide) (lw_case2 F X hI (by omega) hi h5 hL hl hcs back)
      · exact lv_tableIn (tgt := 265) (off := 233) hx hb dL_law_32 (by omega) (by omega) (by rw [← hz0, hz]; rfl) (by decide) (lw_case3 F X hI (by omega) hi h5 hL hl hcs back)
      · exact lv_tableIn (tgt := 298) (off := 266) hx hb dL_law_32 (by omega) (by omega) (by rw [← hz0, hz]; rfl) (by decide) (lw_case4 F X hI (by omega) hi h5 hL hl hcs back)
      · exact lv_tableIn (tgt := 321) (off := 289) hx hb dL_law_32 (by omega) (by omega) (by rw [← hz0, hz]; rfl) (by decide) (lw_case5 F X hI (by omega) hi h5 hL hl hcs back)
      · exact lv_tableIn (tgt := 334) (off := 302) hx hb dL_law_32 (by omega) (by omega) (by rw [← hz0, hz]; rfl) (by decide) (lw_case6 F X hI (by omega) hi h5 hL hl hcs back)
      · exact lv_tableIn (tgt := 347) (off := 315) hx hb dL_law_32 (by omega) (by omega) (by rw [← hz0, hz]; rfl) (by decide) (lw_case7 F X hI (by omega) hi h5 hL hl hcs back)
      · exact lv_tableIn (tgt := 370) (off := 338) hx hb dL_law_32 (by omega) (by omega) (by rw [← hz0, hz]; rfl) (by decide) (lw_case8 F X hI (by omega) hi h5 hL hl hcs back)
      · exact lv_tableIn (tgt := 383) (off := 351) hx hb dL_law_32 (by omega) (by omega) (by rw [← hz0, hz]; rfl) (by decide) (lw_case9 F X hI (by omega) hi h5 hL hl hcs back)
      · exact lv_tableIn (tgt := 396) (off := 364) hx hb dL_law_32 (by omega) (by omega) (by rw [← hz0, hz]; rfl) (by decide) (lw_case10 F X hI (by omega) hi h5 hL hl hcs back)
      · exact lv_tableIn (tgt := 419) (off := 387) hx hb dL_law_32 (by omega) (by omega) (by rw [← hz0, hz]; rfl) (by decide) (lw_case11 F X hI (by omega) hi h5 hL hl hcs back)
      · exact lv_tableIn (tgt := 452) (off := 420) hx hb dL_law_32 (by omega) (by omega) (by rw [← hz0, hz]; rfl) (by decide) (lw_case12 F X hI (by omega) hi h5 hL hl hcs back)
      · exact lv_tableIn (tgt := 485) (off := 453) hx hb dL_law_32 (by omega) (by omega) (by rw [← hz0, hz]; rfl) (by decide) (lw_case13 F X hI (by omega) hi h5 hL hl hcs back)
      · exact lv_tableIn (tgt := 508) (off := 476) hx hb dL_law_32 (by omega) (by omega) (by rw [← hz0, hz]; rfl) (by decide) (lw_case14 F X hI (by omega) hi h5 hL hl hcs back)
      · exact lv_tableIn (tgt := 541) (off := 509) hx hb dL_law_32 (by omega) (by omega) (by rw [← hz0, hz]; rfl) (by decide) (lw_case15 F X hI (by omega) hi h5 hL hl hcs back)
      · exact lv_tableIn (tgt := 564) (off := 532) hx hb dL_law_32 (by omega) (by omega) (by rw [← hz0, hz]; rfl) (by decide) (lw_case16 F X hI (by omega) hi h5 hL hl hcs back)
      · exact lv_tableIn (tgt := 587) (off := 555) hx hb dL_law_32 (by omega) (by omega) (by rw [← hz0, hz]; rfl) (by decide) (lw_case17 F X hI (by omega) hi h5 hL hl hcs back)
      · exact lv_tableIn (tgt := 610) (off := 578) hx hb dL_law_32 (by omega) (by omega) (by rw [← hz0, hz]; rfl) (by decide) (lw_case18 F X hI (by omega) hi h5 hL hl hcs back)
      · exact lv_tableIn (tgt := 633) (off := 601) hx hb dL_law_32 (by omega) (by omega) (by rw [← hz0, hz]; rfl) (by decide) (lw_case19 F X hI (by omega) hi h5 hL hl hcs back)
      · exact lv_tableIn (tgt := 686) (off := 654) hx hb dL_law_32 (by omega) (by omega) (by rw [← hz0, hz]; rfl) (by decide) (lw_case20 F X hI (by omega) hi h5 hL hl hcs back)
      · exact lv_tableIn (tgt := 699) (off := 667) hx hb dL_law_32 (by omega) (by omega) (by rw [← hz0, hz]; rfl) (by decide) (lw_case21 F X hI (by omega) hi h5 hL hl hcs back)
      · exact lv_tableIn (tgt := 712) (off := 680) hx hb dL_law_32 (by omega) (by omega) (by rw [← hz0, hz]; rfl) (by decide) (lw_case22 F X hI (by omega) hi h5 hL hl hcs back)
      · exact lv_tableIn (tgt := 725) (off := 693) hx hb dL_law_32 (by omega) (by omega) (by rw [← hz0, hz]; rfl) (by decide) (lw_case23 F X hI (by omega) hi h5 hL hl hcs back)
      · exact lv_tableIn (tgt := 748) (off := 716) hx hb dL_law_32 (by omega) (by omega) (by rw [← hz0, hz]; rfl) (by decide) (lw_case24 F X hI (by omega) hi h5 hL hl hcs back)
      · exact lv_tableIn (tgt := 781) (off := 749) hx hb dL_law_32 (by omega) (by omega) (by rw [← hz0, hz]; rfl) (by decide) (lw_case25 F X hI (by omega) hi h5 hL hl hcs back)
      · exact lv_tableIn (tgt := 814) (off := 782) hx hb dL_law_32 (by omega) (by omega) (by rw [← hz0, hz]; rfl) (by decide) (lw_case26 F X hI (by omega) hi h5 hL hl hcs back)
      · exact lv_tableIn (tgt := 838) (off := 806) hx hb dL_law_32 (by omega) (by omega) (by rw [← hz0, hz]; rfl) (by decide) (lw_case27 F X hI (by omega) hi h5 hL hl hcs back)
      · exact lv_tableIn (tgt := 861) (off := 829) hx hb dL_law_32 (by omega) (by omega) (by rw [← hz0, hz]; rfl) (by decide) (lw_case28 F X hI (by omega) hi h5 hL hl hcs back)
      · exact lv_tableIn (tgt := 884) (off := 852) hx hb dL_law_32 (by omega) (by omega) (by rw [← hz0, hz]; rfl) (by decide) (lw_case29 F X hI (by omega) hi h5 hL hl hcs back)
      · exact lv_tableIn (tgt := 907) (off := 875) hx hb dL_law_32 (by omega) (by omega) (by rw [← hz0, hz]; rfl) (by decide) (lw_case30 F X hI (by omega) hi h5 hL hl hcs back)
      · exact lv_tableIn (tgt := 930) (off := 898) hx hb dL_law_32 (by omega) (by omega) (by rw [← hz0, hz]; rfl) (by decide) (lw_case31 F X hI (by omega) hi h5 hL hl hcs back)
theorem va_P_split {D : va_G} {cl : List vw_C} {w1 w2 : va_W} {H : Heap} (h : va_P D cl (w1 ++ w2) H) : va_P D cl w1 H ∧ va_P D cl w2 H := ⟨fun k q hk => h k q (by rw [List.getElem?_append_left (List.getElem?_eq_some_iff.mp hk).1]; exact hk), fun k q hk => h (w1.length + k) q (by rw [List.getElem?_append_right (by omega), Nat.add_sub_cancel_left]; exact hk)⟩
theorem va_D_split {A : Nat → Prop} {w1 w2 : va_W} (h : va_D A (w1 ++ w2)) : va_D A w1 ∧ va_D A w2 ∧ ∀ (i j : Nat) (p q : Nat × va_E), w1[i]? = some p → w2[j]? = some q → p.1 ≠ q.1 := by
  have g1 : ∀ (i : Nat) (p : Nat × va_E), w1[i]? = some p → (w1 ++ w2)[i]? = some p := fun i p hi => by rw [List.getElem?_append_left (List.getElem?_eq_some_iff.mp hi).1]; exact hi
  have g2 : ∀ (i : Nat) (p : Nat × va_E), w2[i]? = some p → (w1 ++ w2)[w1.length + i]? = some p := fun i p hi => by rw [List.getElem?_append_right (by omega), Nat.add_sub_cancel_left]; exact hi
  refine ⟨⟨fun i j p q hi hj e => h.1 i j p q (g1 i p hi) (g1 j q hj) e, fun k q hk => h.2 k q (g1 k q hk)⟩, ⟨fun i j p q hi hj e => ?_, fun k q hk => h.2 _ q (g2 k q hk)⟩, fun i j p q hi hj e => ?_⟩
  · have := h.1 _ _ p q (g2 i p hi) (g2 j q hj) e
    omega
  · have h1 := h.1 _ _ p q (g1 i p hi) (g2 j q hj) e
    have h2 := (List.getElem?_eq_some_iff.mp hi).1
    omega
theorem lw_good {Mc : JMth} (h : Cond.code Mc.1 Mc.2.1 Mc.2.2.1 Mc.2.2.2.1 ∈ BIGW) : GoodIn lw_tbl (j_ws Mc) := by
  intro w hw
  have hb : w ∈ BIGW := by
    rcases List.mem_cons.mp hw with rfl | h2
    · exact h
    · exact h2
  exact ⟨(List.mem_filter.mp hb).1, big_good hb⟩
theorem lay_T {C : String} {T : u_T} {n : Nat} (h : ∀ w ∈ u_ws C T n, w ∈ BIGW) : ∀ w ∈ u_ws C T n, w ∈ lw_tbl := fun w hw => (List.mem_filter.mp (h w hw)).1
set_option maxRecDepth 100000 in
set_option maxHeartbeats 4000000 in
/-- THE LAW, from its entry -/
theorem whole_start {p : Program} {e : Env} {s : State} {m : MethodId} {below : List Frame} {meth : Method} {c : Code} (l : Launch) (hflags : l.flags = flags0) {b L : Nat} {xs : Nat → Int32} (hL : L ≤ 320) (C0 : lw_At p s m meth c b L xs) : W p l e room_1 s m #[Value.ref b] below meth c s.heap [] 0 0 (lw_Z below #[Value.ref b] s) (entryFrame m ([Value.ref b] : List Value).toArray 4) := by
  obtain ⟨hx, hb, hr, hml, hown, hts, hX, hbl, hlocks, hgv⟩ := id C0
  have hA : ∀ q : Nat, s.heap.size ≤ q → lw_A s q := fun _ h => h
  have hbA : ¬ lw_A s b := Nat.not_le.mpr hbl
  have ht : ∀ w ∈ tables_1, w.before #[Value.ref b] s = true := fun w h => hts w (List.mem_append_right _ h)
  have htb : ∀ w ∈ BIGW, w.before #[Value.ref b] s = true := fun w h => hts w (List.mem_filter.mp h).1
  obtain ⟨sa, hE⟩ := j_E0 hts hgv
  obtain ⟨c0, iS0, hKn0⟩ := u_known (C := RX0) (T := TX0) (N := 12) (n := 12) hts (lay_T lay_0) (ht _ (List.mem_of_getElem? (i := 22) (by decide +kernel)))
  obtain ⟨c1, iS1, hKn1⟩ := u_known (C := RX1) (T := TX1) (N := 6) (n := 6) hts (lay_T lay_1) (ht _ (List.mem_of_getElem? (i := 80) (by decide +kernel)))
  obtain ⟨c2, iS2, hKn2⟩ := u_known (C := RX2) (T := TX2) (N := 9) (n := 9) hts (lay_T lay_2) (ht _ (List.mem_of_getElem? (i := 111) (by decide +kernel)))
  obtain ⟨c3, iS3, hKn3⟩ := u_known (C := RX3) (T := TX3) (N := 11) (n := 11) hts (lay_T lay_3) (ht _ (List.mem_of_getElem? (i := 14) (by decide +kernel)))
  obtain ⟨c4, iS4, hKn4⟩ := u_known (C := RX4) (T := TX4) (N := 24) (n := 24) hts (lay_T lay_4) (ht _ (List.mem_of_getElem? (i := 605) (by decide +kernel)))
  obtain ⟨cI, kI, compI, hI1, hI2, hI3⟩ := Cond.arrayClass_spec (ht (.arrayClass .int) (List.mem_of_getElem? (i := 78) (by decide +kernel)))
  obtain ⟨cZ, kZ, compZ, hZ1, hZ2, hZ3⟩ := Cond.arrayClass_spec (ht (.arrayClass .boolean) (List.mem_of_getElem? (i := 688) (by decide +kernel)))
  obtain ⟨D, hKc⟩ : ∃ D : va_G, ∀ (k : Nat) (q : vw_C), vwCl[k]? = some q → u_Kn s q.1 q.2.1 q.2.2 (D.1 k) (D.2 k) := by
    refine ⟨(fun k => match k with | 0 => c0 | 1 => c1 | 2 => c2 | 3 => c3 | _ => c4, fun k => match k with | 0 => iS0 | 1 => iS1 | 2 => iS2 | 3 => iS3 | _ => iS4), ?_⟩
    intro k q hq
    match k, hq with
    | 0, hq => cases hq; exact hKn0
    | 1, hq => cases hq; exact hKn1
    | 2, hq => cases hq; exact hKn2
    | 3, hq => cases hq; exact hKn3
    | 4, hq => cases hq; exact hKn4
    | k + 5, hq => simp [vwCl] at hq
  have hK : va_K D vwCl [(cI, .int), (cZ, .boolean)] s := by
    refine ⟨hKc, fun k q h => ?_⟩
    match k, h with
    | 0, h => cases h; exact ⟨fun n z => ⟨fun k h => (by cases h), kI, hI2, compI, hI3⟩, hI1⟩
    | 1, h => cases h; exact ⟨fun n z => ⟨fun k h => (by cases h), kZ, hZ2, compZ, hZ3⟩, hZ1⟩
    | k + 2, h => simp at h
  have hS : va_S (lw_A s) s.heap s.heap [] := va_S.rf
  have hP : va_P D vwCl [] s.heap := fun k q h => by simp at h
  have hD : va_D (lw_A s) [] := ⟨fun i j p q h => by simp at h, fun k q h => by simp at h⟩
  have hl := lv_entry ([.ref b]) (n := 4) (Nat.le_of_ble_eq_true rfl)
  rw [lg_entry_eq]
  generalize (lg_sl ([.ref b]) ++ List.replicate (4 - (lg_sl ([.ref b])).length) Slot.unset).toArray = ls at hl ⊢
  have hl : lv_has ls 4 [(0, .ref b)] := hl
  refine va_new (ci := 3) (fs := [.null, .null, .null, .null, .null, .null, .long 0, .long 0, .int 0, .int 0, .int 0]) (C := RX3) (T := TX3) (N := 11) hx hb hts (lay_T lay_3) tyX3 tyX3_ok hown (ht _ (List.mem_of_getElem? (i := 13) (by decide +kernel))) (ht _ (List.mem_of_getElem? (i := 14) (by decide +kernel))) (ht _ (List.mem_of_getElem? (i := 1) (by decide +kernel))) hK hP hD hS hA rfl (fun j hj => by rcases (show j = 0 ∨ j = 1 ∨ j = 2 ∨ j = 3 ∨ j = 4 ∨ j = 5 ∨ j = 6 ∨ j = 7 ∨ j = 8 ∨ j = 9 ∨ j = 10 by omega) with rfl | rfl | rfl | rfl | rfl | rfl | rfl | rfl | rfl | rfl | rfl <;> rfl) (Nat.le_of_ble_eq_true rfl) (Nat.le_of_ble_eq_true rfl) dL_law_0 (fun q0 H hP hD hS => ?_)
  have hP : va_P D vwCl [(q0, .inr (3, [.null, .null, .null, .null, .null, .null, .long 0, .long 0, .int 0, .int 0, .int 0]))] H := hP
  have hD : va_D (lw_A s) [(q0, .inr (3, [.null, .null, .null, .null, .null, .null, .long 0, .long 0, .int 0, .int 0, .int 0]))] := hD
  refine lv_dup hx hb dL_law_3 rfl ?_
  have hFc := va_free (wc := [(q0, .inr (3, [.null, .null, .null, .null, .null, .null, .long 0, .long 0, .int 0, .int 0, .int 0]))]) hD hS hA [0] rfl
  refine va_callv (va_runI (n := 0) (As := []) (rest := [.ref q0]) ⟨hx, hb, hml, hown, hts⟩ (c_X3_init l D cI cZ sa q0 H.size) ⟨callB_of 0 hts (lw_good (big_t 17 (by decide +kernel) (by decide +kernel))) rfl rfl rfl (htb _ (big_t 1 (by decide +kernel) (by decide +kernel))) (htb _ (big_t 15 (by decide +kernel) (by decide +kernel))) ⟨by decide +kernel, by decide +kernel, by decide +kernel⟩ ⟨Nat.le_of_ble_eq_true rfl, Nat.le_of_ble_eq_true rfl⟩, rfl, htb _ (big_t 16 (by decide +kernel) (by decide +kernel))⟩ ⟨fun a U g mk q => by obtain ⟨q0, q1, qP, qK, qD, qE⟩ := q; exact ⟨q0, q1, qP, va_K.moved (u := U) (U := U.calling g mk a) (Vm.Alike.refl U.vm) qK, qD, j_E_same (u := U) (U := U.calling g mk a) rfl qE⟩, fun U hU hW => ⟨rfl, by rw [hU], by rw [hU]; exact hP, hK.moved hW.alike, hD.weaken (fun _ _ _ _ => trivial), by rw [hU]; exact j_E_go hE hW hS.2.1 hFc⟩⟩ rfl rfl hl.1 rfl (lv_room (Nat.le_of_ble_eq_true rfl)) dL_law_4 ⟨Nat.le_of_ble_eq_true rfl, Nat.le_of_ble_eq_true rfl⟩) hS (fun q _ h => hFc q h) hFc (fun u t H1 locs ht1 hvm hw hB hz1 hk1 hS => ?_)
  obtain ⟨hPC, -, hDC⟩ := hB
  obtain ⟨aC, eaC⟩ : ∃ z, z = u := ⟨_, rfl⟩
  rw [← eaC] at hw hPC hDC
  rw [ht1] at hPC
  have hDC : va_D (lw_A s) (j_w cI cZ aC shC (begM mu0C 1 0)) := ⟨hDC.1, fun k q h => hFc _ (hDC.2 k q h)⟩
  have hEC := j_E_ad hw.2 hE
  have haC := hw.1
  clear hw hFc hk1 hP hD hz1 ht1 hvm eaC
  refine lv_astore_n (lv' := [(1, .ref q0), (0, .ref b)]) hx hb dL_law_7 rfl hl (by decide) rfl (fun ls hl => ?_)
  have hP := hPC
  have hD := hDC
  clear hPC hDC
  generalize eWC : j_w cI cZ aC shC (begM mu0C 1 0) = WC at hP hD
  refine va_new (ci := 4) (fs := [.null, .null, .null, .null, .int 0, .int 0, .int 0, .int 0, .null, .int 0, .int 0, .int 0, .int 0, .int 0, .null, .null, .int 0, .null, .null, .null, .long 0, .long 0, .null, .null]) (C := RX4) (T := TX4) (N := 24) hx hb hts (lay_T lay_4) tyX4 tyX4_ok hown (ht _ (List.mem_of_getElem? (i := 604) (by decide +kernel))) (ht _ (List.mem_of_getElem? (i := 605) (by decide +kernel))) (ht _ (List.mem_of_getElem? (i := 6) (by decide +kernel))) hK hP hD hS hA rfl (fun j hj => by rcases (show j = 0 ∨ j = 1 ∨ j = 2 ∨ j = 3 ∨ j = 4 ∨ j = 5 ∨ j = 6 ∨ j = 7 ∨ j = 8 ∨ j = 9 ∨ j = 10 ∨ j = 11 ∨ j = 12 ∨ j = 13 ∨ j = 14 ∨ j = 15 ∨ j = 16 ∨ j = 17 ∨ j = 18 ∨ j = 19 ∨ j = 20 ∨ j = 21 ∨ j = 22 ∨ j = 23 by omega) with rfl | rfl | rfl | rfl | rfl | rfl | rfl | rfl | rfl | rfl | rfl | rfl | rfl | rfl | rfl | rfl | rfl | rfl | rfl | rfl | rfl | rfl | rfl | rfl <;> rfl) (Nat.le_of_ble_eq_true rfl) (Nat.le_of_ble_eq_true rfl) dL_law_8 (fun q1 H hP hD hS => ?_)
  obtain ⟨hPC, hP⟩ := va_P_split hP
  obtain ⟨hDC, hD, hX1⟩ := va_D_split hD
  have hP : va_P D vwCl [(q1, .inr (4, [.null, .null, .null, .null, .int 0, .int 0, .int 0, .int 0, .null, .int 0, .int 0, .int 0, .int 0, .int 0, .null, .null, .int 0, .null, .null, .null, .long 0, .long 0, .null, .null]))] H := hP
  have hD : va_D (lw_A s) [(q1, .inr (4, [.null, .null, .null, .null, .int 0, .int 0, .int 0, .int 0, .null, .int 0, .int 0, .int 0, .int 0, .int 0, .null, .null, .int 0, .null, .null, .null, .long 0, .long 0, .null, .null]))] := hD
  refine lv_dup hx hb dL_law_11 rfl ?_
  have hFc := va_free (wc := [(q1, .inr (4, [.null, .null, .null, .null, .int 0, .int 0, .int 0, .int 0, .null, .int 0, .int 0, .int 0, .int 0, .int 0, .null, .null, .int 0, .null, .null, .null, .long 0, .long 0, .null, .null]))]) hD hS hA [0] rfl
  refine va_callv (va_runI (n := 0) (As := []) (rest := [.ref q1]) ⟨hx, hb, hml, hown, hts⟩ (c_X4_init l D cI cZ sa q1 H.size) ⟨callB_of 0 hts (lw_good (big_t 608 (by decide +kernel) (by decide +kernel))) rfl rfl rfl (htb _ (big_t 6 (by decide +kernel) (by decide +kernel))) (htb _ (big_t 606 (by decide +kernel) (by decide +kernel))) ⟨by decide +kernel, by decide +kernel, by decide +kernel⟩ ⟨Nat.le_of_ble_eq_true rfl, Nat.le_of_ble_eq_true rfl⟩, rfl, htb _ (big_t 607 (by decide +kernel) (by decide +kernel))⟩ ⟨fun a U g mk q => by obtain ⟨q0, q1, qP, qK, qD, qE⟩ := q; exact ⟨q0, q1, qP, va_K.moved (u := U) (U := U.calling g mk a) (Vm.Alike.refl U.vm) qK, qD, j_E_same (u := U) (U := U.calling g mk a) rfl qE⟩, fun U hU hW => ⟨rfl, by rw [hU], by rw [hU]; exact hP, hK.moved hW.alike, hD.weaken (fun _ _ _ _ => trivial), by rw [hU]; exact j_E_go hE hW hS.2.1 hFc⟩⟩ rfl rfl hl.1 rfl (lv_room (Nat.le_of_ble_eq_true rfl)) dL_law_12 ⟨Nat.le_of_ble_eq_true rfl, Nat.le_of_ble_eq_true rfl⟩) hS (fun q _ h => hFc q h) hFc (fun u t H1 locs ht1 hvm hw hB hz1 hk1 hS => ?_)
  obtain ⟨hPM, -, hDM⟩ := hB
  obtain ⟨aM, eaM⟩ : ∃ z, z = u := ⟨_, rfl⟩
  rw [← eaM] at hw hPM hDM
  rw [ht1] at hPM
  have hEM := j_E_ad hw.2 hE
  have haM := hw.1
  subst eWC
  have hcl : ∀ i : Nat, i < 26 → aC i < H.size ∧ aC i ≠ q1 := fun i hi => by
    have hg := j_w_get (cI := cI) (cZ := cZ) (ad := aC) (μ := begM mu0C 1 0) (List.getElem?_eq_getElem (show i < shC.length from hi))
    exact ⟨(hPC i _ hg).lt, hX1 i 0 _ _ hg rfl⟩
  have hPC : va_P D vwCl (j_w cI cZ aC shC (begM mu0C 1 0)) H1 := hPC.kept (fun k q hq => by
    obtain ⟨o, ho, e⟩ := List.mem_map.mp (List.mem_of_getElem? hq)
    have hh := hcl o (List.mem_range.mp ho)
    have e1 : q.1 = aC o := by rw [← e]
    rw [e1]
    refine hk1 _ hh.1 (fun z => ?_)
    rcases z with ⟨k2, e2, hk2⟩ | h2
    · match k2, hk2 with
      | 0, hk2 =>
        have e3 := Option.some.inj hk2
        have e4 : q1 = aC o := congrArg Prod.fst e3
        exact hh.2 e4.symm
      | k2 + 1, hk2 => simp at hk2
    · omega)
  have hne : ∀ i j : Nat, i < 26 → j < 13 → aC i ≠ aM j := fun i j hi hj z => by
    have hg := j_w_get (cI := cI) (cZ := cZ) (ad := aM) (μ := freshM mu0M 0) (List.getElem?_eq_getElem (show j < shM.length from hj))
    have h1 := hDM.2 j _ hg
    have hh := hcl i hi
    rcases h1 with ⟨k2, e2, hk2⟩ | h2
    · match k2, hk2 with
      | 0, hk2 =>
        have e3 := Option.some.inj hk2
        have e4 : q1 = aM j := congrArg Prod.fst e3
        exact hh.2 (by rw [z, e4])
      | k2 + 1, hk2 => simp at hk2
    · have h3 : H.size ≤ aM j := h2
      omega
  have hDM : va_D (lw_A s) (j_w cI cZ aM shM (freshM mu0M 0)) := ⟨hDM.1, fun k q h => hFc _ (hDM.2 k q h)⟩
  refine lv_astore_n (lv' := [(2, .ref q1), (1, .ref q0), (0, .ref b)]) hx hb dL_law_15 rfl hl (by decide) rfl (fun ls hl => ?_)
  refine lv_iconst (v := 0) hx hb dL_law_16 (by decide) ?_
  refine lv_istore_n (lv' := [(3, .int 0), (2, .ref q1), (1, .ref q0), (0, .ref b)]) hx hb dL_law_17 rfl hl (by decide) rfl (fun ls hl => ?_)
  have F : LF p s m meth c b L xs D cI cZ aC aM := ⟨C0, hK, hEC, hEM, hne⟩
  refine W.widen (k := 39) (n := 290932) (Nat.le_of_ble_eq_true rfl) (Nat.le_of_ble_eq_true rfl) ?_
  exact law_loop hL F (L + 1) 0 0 150 (by omega) rfl (Nat.zero_le L) (by omega) _ _ Inv0 H1 _ ⟨hPC, hPM, hDC, hDM, hS⟩ ls (by rw [haC, haM]; exact lv_sub hl [3, 2, 1, 0] rfl)

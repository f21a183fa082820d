/-! ===== the class reads an item: its parts ===== -/
theorem pn_ok {L : Nat} {T : Nat → Int} {i : Nat} {lo hi : Int} {k : Nat → Int → (Nat ⊕ (Nat × (Nat → Int32)))} (h : PNok L T i lo hi) : pn L T i lo hi k = k (FN L T (SK L T i)) (nvT T (SK L T i) (FN L T (SK L T i))) := cif_pos h
theorem pn_no {L : Nat} {T : Nat → Int} {i : Nat} {lo hi : Int} {k : Nat → Int → (Nat ⊕ (Nat × (Nat → Int32)))} (h : ¬ PNok L T i lo hi) : pn L T i lo hi k = .inl (SK L T i) := cif_neg h
theorem FS_le {L : Nat} {T : Nat → Int} {i : Nat} (hi : i ≤ L) (hL : L ≤ 150) : FN L T (SK L T i) ≤ L := (FN_r (SK_r hi hL).2.1 hL).2
theorem FS_gt {L : Nat} {T : Nat → Int} {i : Nat} {lo hi : Int} (h : PNok L T i lo hi) (hi : i ≤ L) (hL : L ≤ 150) : i + 1 ≤ FN L T (SK L T i) := by
  have h1 := FN_1 (T := T) (i := SK L T i) h.1 hL
  have h2 := (SK_r (T := T) hi hL).1
  omega
theorem jrep_mood {c : JM} {f : Nat → Int32} {N a p : Int} (hj : jrep c 6 f) (hw : wfF N f) (ha : 0 ≤ a ∧ a ≤ 99) (hp : 0 ≤ p ∧ p ≤ 99) : jrep (jI c 6 3 (iZ (mZ a p ((c.1 6 3).toInt / 10000)))) 6 (upd (upd f 1 (iZ a)) 2 (iZ p)) ∧ wfF N (upd (upd f 1 (iZ a)) 2 (iZ p)) := by
  have ia := iZ_i (x := a) (by omega)
  have ip := iZ_i (x := p) (by omega)
  have hw' := hw
  have hj' := hj
  obtain ⟨w0, w1, w2, w3, w4, w5, w6, -⟩ := hw'
  obtain ⟨j0, j1, j2, j3, j4, -⟩ := hj'
  have e6 : (c.1 6 3).toInt / 10000 = (f 6).toInt := by rw [j3]; exact (mZ_d ⟨w1.1, w1.2, w2.1, w2.2⟩).2.2
  have u : ∀ j, j ≠ 1 → j ≠ 2 → upd (upd f 1 (iZ a)) 2 (iZ p) j = f j := fun j h1 h2 => by simp [upd, h1, h2]
  have u1 : upd (upd f 1 (iZ a)) 2 (iZ p) 1 = iZ a := by simp [upd]
  have u2 : upd (upd f 1 (iZ a)) 2 (iZ p) 2 = iZ p := by simp [upd]
  constructor
  · refine jrep_low hj (fun o h1 h2 => by rw [jI_ne (by omega)]) (by rw [jI_i, if_neg (by decide)]) (by rw [jI_i, if_neg (by decide)]) (fun j hj => u j (by omega) (by omega)) ?_ ?_ ?_ ?_ ?_
    · rw [u 0 (by decide) (by decide), jI_i, if_neg (by decide)]; exact j0
    · rw [u 3 (by decide) (by decide), jI_i, if_neg (by decide)]; exact j1
    · rw [u 4 (by decide) (by decide), jI_i, if_neg (by decide)]; exact j2
    · rw [u1, u2, u 6 (by decide) (by decide), jI_i, if_pos ⟨rfl, rfl⟩, ia, ip, e6, iZ_i (by unfold mZ; omega)]
    · rw [u 5 (by decide) (by decide), jI_i, if_neg (by decide)]; exact j4
  · refine wfF_low hw (fun j hj => u j (by omega) (by omega)) ?_ ?_ ?_ ?_ ?_ ?_ ?_
    · rw [u 0 (by decide) (by decide)]; exact w0
    · rw [u1, ia]; exact ha
    · rw [u2, ip]; exact hp
    · rw [u 3 (by decide) (by decide)]; exact w3
    · rw [u 4 (by decide) (by decide)]; exact w4
    · rw [u 5 (by decide) (by decide)]; exact w5
    · rw [u 6 (by decide) (by decide)]; exact w6
theorem jrep_bound {c : JM} {f : Nat → Int32} {N a p : Int} (hj : jrep c 6 f) (hw : wfF N f) (ha : 1 ≤ a ∧ a ≤ 99) (hp : 1 ≤ p ∧ p ≤ 99) : jrep (jI (jI c 6 1 (iZ a)) 6 2 (iZ p)) 6 (upd (upd f 3 (iZ a)) 4 (iZ p)) ∧ wfF N (upd (upd f 3 (iZ a)) 4 (iZ p)) := by
  have ia := iZ_i (x := a) (by omega)
  have ip := iZ_i (x := p) (by omega)
  have hw' := hw
  have hj' := hj
  obtain ⟨w0, w1, w2, w3, w4, w5, w6, -⟩ := hw'
  obtain ⟨j0, j1, j2, j3, j4, -⟩ := hj'
  have u : ∀ j, j ≠ 3 → j ≠ 4 → upd (upd f 3 (iZ a)) 4 (iZ p) j = f j := fun j h1 h2 => by simp [upd, h1, h2]
  have u1 : upd (upd f 3 (iZ a)) 4 (iZ p) 3 = iZ a := by simp [upd]
  have u2 : upd (upd f 3 (iZ a)) 4 (iZ p) 4 = iZ p := by simp [upd]
  have g : ∀ k, k ≠ 1 → k ≠ 2 → (jI (jI c 6 1 (iZ a)) 6 2 (iZ p)).1 6 k = c.1 6 k := fun k h1 h2 => by rw [jI_i, if_neg (fun z => h2 z.2), jI_i, if_neg (fun z => h1 z.2)]
  constructor
  · refine jrep_low hj (fun o h1 h2 => by rw [jI_ne (by omega), jI_ne (by omega)]) (g 5 (by decide) (by decide)) (g 6 (by decide) (by decide)) (fun j hj => u j (by omega) (by omega)) ?_ ?_ ?_ ?_ ?_
    · rw [u 0 (by decide) (by decide), g 0 (by decide) (by decide)]; exact j0
    · rw [u1, jI_i, if_neg (by decide), jI_i, if_pos ⟨rfl, rfl⟩]
    · rw [u2, jI_i, if_pos ⟨rfl, rfl⟩]
    · rw [u 1 (by decide) (by decide), u 2 (by decide) (by decide), u 6 (by decide) (by decide), g 3 (by decide) (by decide)]; exact j3
    · rw [u 5 (by decide) (by decide), g 4 (by decide) (by decide)]; exact j4
  · refine wfF_low hw (fun j hj => u j (by omega) (by omega)) ?_ ?_ ?_ ?_ ?_ ?_ ?_
    · rw [u 0 (by decide) (by decide)]; exact w0
    · rw [u 1 (by decide) (by decide)]; exact w1
    · rw [u 2 (by decide) (by decide)]; exact w2
    · rw [u1, ia]; exact ha
    · rw [u2, ip]; exact hp
    · rw [u 5 (by decide) (by decide)]; exact w5
    · rw [u 6 (by decide) (by decide)]; exact w6
theorem jrep_vow {c : JM} {f : Nat → Int32} {N : Int} {q : Nat} {v : Int} (hj : jrep c 6 f) (hw : wfF N f) (hq : q < 8) (hv : 0 ≤ v ∧ v ≤ 4) : jrep (jI c 7 q (iZ v)) 6 (upd f (7 + q) (iZ v)) ∧ wfF N (upd f (7 + q) (iZ v)) := by
  have iv := iZ_i (x := v) (by omega)
  have w8 := hw.2.2.2.2.2.2.2.2.1
  have w9 := hw.2.2.2.2.2.2.2.2.2.1
  have u : ∀ j, j ≠ 7 + q → upd f (7 + q) (iZ v) j = f j := fun j h => by simp [upd, h]
  constructor
  · obtain ⟨h0, h1, h2, h3, h4, h5, h6, h7, h8, h9⟩ := hj
    unfold jrep
    rw [u 0 (by omega), u 1 (by omega), u 2 (by omega), u 3 (by omega), u 4 (by omega), u 5 (by omega), u 6 (by omega), u 15 (by omega), u 40 (by omega), jI_ne (o := 6) (by decide), jI_ne (o := 6 + 2) (by decide), jI_ne (o := 6 + 3) (by decide), jI_ne (o := 6 + 4) (by decide)]
    refine ⟨h0, h1, h2, h3, h4, h5, h6, fun j hj => ?_, fun j hj => ?_, fun j hj => ?_⟩
    · by_cases e : j = q
      · rw [e, jI_i, if_pos ⟨rfl, rfl⟩]; simp [upd]
      · rw [u _ (by omega), jI_i, if_neg (fun z => e z.2)]; exact h7 j hj
    · rw [u _ (by omega)]; exact h8 j hj
    · rw [u _ (by omega), u _ (by omega), u _ (by omega), u _ (by omega)]; exact h9 j hj
  · obtain ⟨h0, h1, h2, h3, h4, h5, h6, h7, h8, h9, ha, hb⟩ := hw
    unfold wfF
    rw [u 0 (by omega), u 1 (by omega), u 2 (by omega), u 3 (by omega), u 4 (by omega), u 5 (by omega), u 6 (by omega), u 15 (by omega), u 40 (by omega)]
    refine ⟨h0, h1, h2, h3, h4, h5, h6, fun j hj => ?_, h8, h9, fun j hj => ?_, fun j hj => ?_⟩
    · by_cases e : j = q
      · rw [e, show upd f (7 + q) (iZ v) (7 + q) = iZ v by simp [upd], iv]; exact hv
      · rw [u _ (by omega)]; exact h7 j hj
    · rw [u _ (by omega), u _ (by omega)]; exact ha j hj
    · rw [u _ (by omega), u _ (by omega), u _ (by omega), u _ (by omega)]; exact hb j hj
theorem frD_6 {c μ : JM} {o k : Nat} {x : Int32} (h : frD c μ) (ho : 6 ≤ o ∧ o ≤ 10) : frD c (jI μ o k x) := ⟨fun q h1 h2 => by rw [jI_ne (fun z => h2 (by omega))]; exact h.1 q h1 h2, by rw [jI_ne (by omega)]; exact h.2.1, h.2.2⟩
variable {G : JG}
set_option maxRecDepth 100000 in
set_option maxHeartbeats 4000000 in
theorem c_X3_readMood {c : JM} {L : Nat} {T : Nat → Int} (hT : TX L T c) {f : Nat → Int32} {N : Int} (hN : 0 ≤ N ∧ N < 1000) {e : Nat} (hn : (c.1 21 2).toInt = (e : Int)) (he : e ≤ L) (hj : jrep c 6 f) (hw : wfF N f) : Con G shC mX3_readMood [.ref 21, .ref 6] c (rdQ (moodP L T e f) L N c) := by
  have hL150 := hT.2.1
  have hw' := hw
  have hj' := hj
  obtain ⟨w0, w1, w2, w3, w4, w5, w6, -⟩ := hw'
  obtain ⟨j0, j1, j2, j3, j4, -⟩ := hj'
  have hmd := mZ_d (b := (f 6).toInt) ⟨w1.1, w1.2, w2.1, w2.2⟩
  refine Con_of [some (.ref 21), some (.ref 6), none] (by decide +kernel) (Nat.le_of_ble_eq_true rfl) (fun _ h => h) ?_
  refine J_aload_n (pc := 0) dX3_readMood_0 rfl ?_
  refine J_iconst (pc := 1) (v := 0) dX3_readMood_1 (by decide) ?_
  refine J_aload_n (pc := 2) dX3_readMood_2 rfl ?_
  refine J_getI (pc := 3) fF_X3_71 rfl rfl dX3_readMood_3 ?_
  refine J_iconst (pc := 6) (v := 1) dX3_readMood_6 (by decide) ?_
  refine J_isubW (pc := 7) ((f 3).toInt) 1 (by rw [j1]) rfl dX3_readMood_7 (by omega) (fun z7 e7 => ?_)
  refine J_callVq (pc := 8) fC_X3_290 rfl dX3_readMood_8 (c_X1_numberComes hT hn he (lo := 0) (hi := ((f 3).toInt - 1)) (rfl) (e7)) rfl ⟨Nat.le_of_ble_eq_true rfl, Nat.le_of_ble_eq_true rfl⟩ rfl (Nat.le_of_ble_eq_true rfl) (fun v8 μ8 q8 => ?_)
  obtain ⟨q8, hs8, hfr8⟩ := q8
  rcases q8 with ⟨rfl, hok8, hnx8, hvl8⟩ | ⟨rfl, hbad8⟩
  · have hT2 := TX_fr hT hfr8
    have he2 := FS_le (T := T) he hT.2.1
    have hok1 := hok8.2
    refine J_if_ne_T (pc := 11) 16 dX3_readMood_11 (by decide) (by decide) ?_
    refine J_aload_n (pc := 16) dX3_readMood_16 rfl ?_
    refine J_getI (pc := 17) fF_X3_294 rfl rfl dX3_readMood_17 ?_
    refine J_istore_n (pc := 20) (lv' := [some (.ref 21), some (.ref 6), some (.int (μ8.1 21 5))]) dX3_readMood_20 (Nat.le_of_ble_eq_true rfl) rfl rfl ?_
    refine J_aload_n (pc := 21) dX3_readMood_21 rfl ?_
    refine J_iconst (pc := 22) (v := 0) dX3_readMood_22 (by decide) ?_
    refine J_bipush (pc := 23) (v := 99) dX3_readMood_23 (by decide) ?_
    refine J_callVq (pc := 25) fC_X3_290 rfl dX3_readMood_25 (c_X1_numberComes hT2 hnx8 he2 (lo := 0) (hi := 99) (rfl) (rfl)) rfl ⟨Nat.le_of_ble_eq_true rfl, Nat.le_of_ble_eq_true rfl⟩ rfl (Nat.le_of_ble_eq_true rfl) (fun v25 μ25 q25 => ?_)
    obtain ⟨q25, hs25, hfr25⟩ := q25
    rcases q25 with ⟨rfl, hok25, hnx25, hvl25⟩ | ⟨rfl, hbad25⟩
    · have hfr := fr21_tr hfr8 hfr25
      have hj2 := jrep_21 hj hfr
      have hok2 := hok25.2
      have he3 := FS_le (T := T) he2 hT.2.1
      have h63 : 0 ≤ (μ25.1 6 3).toInt ∧ (μ25.1 6 3).toInt < 30000 := by rw [hj2.2.2.2.1]; unfold mZ; omega
      refine J_if_ne_T (pc := 28) 33 dX3_readMood_28 (by decide) (by decide) ?_
      refine J_aload_n (pc := 33) dX3_readMood_33 rfl ?_
      refine J_iload_n (pc := 34) dX3_readMood_34 rfl ?_
      refine J_aload_n (pc := 35) dX3_readMood_35 rfl ?_
      refine J_getI (pc := 36) fF_X3_294 rfl rfl dX3_readMood_36 ?_
      refine J_callVv (pc := 39) fC_X3_74 rfl dX3_readMood_39 (c_X0_feel jarAt_6 (nvT T (SK L T e) (FN L T (SK L T e))) (nvT T (SK L T (FN L T (SK L T e))) (FN L T (SK L T (FN L T (SK L T e))))) hvl8 hvl25 (by omega) h63) rfl ⟨Nat.le_of_ble_eq_true rfl, Nat.le_of_ble_eq_true rfl⟩ rfl (Nat.le_of_ble_eq_true rfl) (fun μ39 m39 => ?_)
      refine J_iconst (pc := 42) (v := 1) dX3_readMood_42 (by decide) ?_
      refine J_zret (pc := 43) dX3_readMood_43 rfl (by decide) ?_
      have hjm := jrep_mood hj2 hw (a := (nvT T (SK L T e) (FN L T (SK L T e)))) (p := (nvT T (SK L T (FN L T (SK L T e))) (FN L T (SK L T (FN L T (SK L T e)))))) (by omega) (by omega)
      rw [← m39] at hjm
      exact ⟨Or.inr ⟨_, _, (pn_ok hok8).trans (pn_ok hok25), rfl, by rw [m39, jI_ne (by decide)]; exact hnx25, he3, hjm⟩, by rw [m39]; exact frD_6 (frD_21 hfr) (by decide)⟩
    · refine J_if_ne_F (pc := 28) 33 dX3_readMood_28 (by decide) (by decide) ?_
      refine J_iconst (pc := 31) (v := 0) dX3_readMood_31 (by decide) ?_
      refine J_zret (pc := 32) dX3_readMood_32 rfl (by decide) ?_
      exact ⟨Or.inl ⟨_, (pn_ok hok8).trans (pn_no hbad25), rfl, hs25⟩, frD_21 (fr21_tr hfr8 hfr25)⟩
  · refine J_if_ne_F (pc := 11) 16 dX3_readMood_11 (by decide) (by decide) ?_
    refine J_iconst (pc := 14) (v := 0) dX3_readMood_14 (by decide) ?_
    refine J_zret (pc := 15) dX3_readMood_15 rfl (by decide) ?_
    exact ⟨Or.inl ⟨_, pn_no hbad8, rfl, hs8⟩, frD_21 hfr8⟩
set_option maxRecDepth 100000 in
set_option maxHeartbeats 4000000 in
theorem c_X3_readBound {c : JM} {L : Nat} {T : Nat → Int} (hT : TX L T c) {f : Nat → Int32} {N : Int} (hN : 0 ≤ N ∧ N < 1000) {e : Nat} (hn : (c.1 21 2).toInt = (e : Int)) (he : e ≤ L) (hj : jrep c 6 f) (hw : wfF N f) : Con G shC mX3_readBound [.ref 21, .ref 6] c (rdQ (boundP L T e f) L N c) := by
  have hL150 := hT.2.1
  have hw' := hw
  have hj' := hj
  obtain ⟨w0, w1, w2, w3, w4, w5, w6, -⟩ := hw'
  obtain ⟨j0, j1, j2, j3, j4, -⟩ := hj'
  have hmd := mZ_d (b := (f 6).toInt) ⟨w1.1, w1.2, w2.1, w2.2⟩
  refine Con_of [some (.ref 21), some (.ref 6), none] (by decide +kernel) (Nat.le_of_ble_eq_true rfl) (fun _ h => h) ?_
  refine J_aload_n (pc := 0) dX3_readBound_0 rfl ?_
  refine J_aload_n (pc := 1) dX3_readBound_1 rfl ?_
  refine J_getI (pc := 2) fF_X3_78 rfl rfl dX3_readBound_2 ?_
  refine J_callSz (pc := 5) fC_X3_81 dX3_readBound_5 (c_X3_angerOf (mZ (f 1).toInt (f 2).toInt (f 6).toInt) j3 (by omega)) rfl ⟨Nat.le_of_ble_eq_true rfl, Nat.le_of_ble_eq_true rfl⟩ rfl (Nat.le_of_ble_eq_true rfl) (fun z5 e5 => ?_)
  have q5 : z5.toInt = (f 1).toInt := by rw [e5, hmd.1]
  refine J_iconst (pc := 8) (v := 1) dX3_readBound_8 (by decide) ?_
  refine J_iaddW (pc := 9) ((f 1).toInt) 1 q5 rfl dX3_readBound_9 (by omega) (fun z9 e9 => ?_)
  refine J_bipush (pc := 10) (v := 99) dX3_readBound_10 (by decide) ?_
  refine J_callVq (pc := 12) fC_X3_290 rfl dX3_readBound_12 (c_X1_numberComes hT hn he (lo := ((f 1).toInt + 1)) (hi := 99) (e9) (rfl)) rfl ⟨Nat.le_of_ble_eq_true rfl, Nat.le_of_ble_eq_true rfl⟩ rfl (Nat.le_of_ble_eq_true rfl) (fun v12 μ12 q12 => ?_)
  obtain ⟨q12, hs12, hfr12⟩ := q12
  rcases q12 with ⟨rfl, hok12, hnx12, hvl12⟩ | ⟨rfl, hbad12⟩
  · have hT2 := TX_fr hT hfr12
    have he2 := FS_le (T := T) he hT.2.1
    have hok1 := hok12.2
    refine J_if_ne_T (pc := 15) 20 dX3_readBound_15 (by decide) (by decide) ?_
    refine J_aload_n (pc := 20) dX3_readBound_20 rfl ?_
    refine J_getI (pc := 21) fF_X3_294 rfl rfl dX3_readBound_21 ?_
    refine J_istore_n (pc := 24) (lv' := [some (.ref 21), some (.ref 6), some (.int (μ12.1 21 5))]) dX3_readBound_24 (Nat.le_of_ble_eq_true rfl) rfl rfl ?_
    refine J_aload_n (pc := 25) dX3_readBound_25 rfl ?_
    refine J_iconst (pc := 26) (v := 1) dX3_readBound_26 (by decide) ?_
    refine J_bipush (pc := 27) (v := 99) dX3_readBound_27 (by decide) ?_
    refine J_callVq (pc := 29) fC_X3_290 rfl dX3_readBound_29 (c_X1_numberComes hT2 hnx12 he2 (lo := 1) (hi := 99) (rfl) (rfl)) rfl ⟨Nat.le_of_ble_eq_true rfl, Nat.le_of_ble_eq_true rfl⟩ rfl (Nat.le_of_ble_eq_true rfl) (fun v29 μ29 q29 => ?_)
    obtain ⟨q29, hs29, hfr29⟩ := q29
    rcases q29 with ⟨rfl, hok29, hnx29, hvl29⟩ | ⟨rfl, hbad29⟩
    · have hfr := fr21_tr hfr12 hfr29
      have hj2 := jrep_21 hj hfr
      have hok2 := hok29.2
      have he3 := FS_le (T := T) he2 hT.2.1
      refine J_if_ne_T (pc := 32) 37 dX3_readBound_32 (by decide) (by decide) ?_
      refine J_aload_n (pc := 37) dX3_readBound_37 rfl ?_
      refine J_iload_n (pc := 38) dX3_readBound_38 rfl ?_
      refine J_putIW (pc := 39) fF_X3_71 rfl rfl dX3_readBound_39 (fun μ39 m39 => ?_)
      refine J_aload_n (pc := 42) dX3_readBound_42 rfl ?_
      refine J_aload_n (pc := 43) dX3_readBound_43 rfl ?_
      refine J_getI (pc := 44) fF_X3_294 rfl rfl dX3_readBound_44 ?_
      refine J_putIW (pc := 47) fF_X3_84 rfl rfl dX3_readBound_47 (fun μ47 m47 => ?_)
      refine J_iconst (pc := 50) (v := 1) dX3_readBound_50 (by decide) ?_
      refine J_zret (pc := 51) dX3_readBound_51 rfl (by decide) ?_
      have ex1 := iZ_of hvl12
      have ex2 : μ29.1 21 5 = iZ (nvT T (SK L T (FN L T (SK L T e))) (FN L T (SK L T (FN L T (SK L T e))))) := iZ_of hvl29
      have hjm := jrep_bound hj2 hw (a := (nvT T (SK L T e) (FN L T (SK L T e)))) (p := (nvT T (SK L T (FN L T (SK L T e))) (FN L T (SK L T (FN L T (SK L T e)))))) (by omega) (by omega)
      have hm : μ47 = jI (jI μ29 6 1 (iZ (nvT T (SK L T e) (FN L T (SK L T e))))) 6 2 (iZ (nvT T (SK L T (FN L T (SK L T e))) (FN L T (SK L T (FN L T (SK L T e)))))) := by rw [m47, m39, jI_ne (by decide), ex1, ex2]
      rw [← hm] at hjm
      exact ⟨Or.inr ⟨_, _, (pn_ok hok12).trans (pn_ok hok29), rfl, by rw [hm, jI_ne (by decide), jI_ne (by decide)]; exact hnx29, he3, hjm⟩, by rw [hm]; exact frD_6 (frD_6 (frD_21 hfr) (by decide)) (by decide)⟩
    · refine J_if_ne_F (pc := 32) 37 dX3_readBound_32 (by decide) (by decide) ?_
      refine J_iconst (pc := 35) (v := 0) dX3_readBound_35 (by decide) ?_
      refine J_zret (pc := 36) dX3_readBound_36 rfl (by decide) ?_
      exact ⟨Or.inl ⟨_, (pn_ok hok12).trans (pn_no hbad29), rfl, hs29⟩, frD_21 (fr21_tr hfr12 hfr29)⟩
  · refine J_if_ne_F (pc := 15) 20 dX3_readBound_15 (by decide) (by decide) ?_
    refine J_iconst (pc := 18) (v := 0) dX3_readBound_18 (by decide) ?_
    refine J_zret (pc := 19) dX3_readBound_19 rfl (by decide) ?_
    exact ⟨Or.inl ⟨_, pn_no hbad12, rfl, hs12⟩, frD_21 hfr12⟩
set_option maxRecDepth 100000 in
set_option maxHeartbeats 4000000 in
theorem c_X3_readVow {c : JM} {L : Nat} {T : Nat → Int} (hT : TX L T c) {f : Nat → Int32} {N : Int} (hN : 0 ≤ N ∧ N < 1000) {e : Nat} (hn : (c.1 21 2).toInt = (e : Int)) (he : e ≤ L) (hj : jrep c 6 f) (hw : wfF N f) : Con G shC mX3_readVow [.ref 21, .ref 6] c (rdQ (vowP L T e f) L N c) := by
  have hL150 := hT.2.1
  have hw' := hw
  have hj' := hj
  obtain ⟨w0, w1, w2, w3, w4, w5, w6, -⟩ := hw'
  obtain ⟨j0, j1, j2, j3, j4, -⟩ := hj'
  have hmd := mZ_d (b := (f 6).toInt) ⟨w1.1, w1.2, w2.1, w2.2⟩
  refine Con_of [some (.ref 21), some (.ref 6), none] (by decide +kernel) (Nat.le_of_ble_eq_true rfl) (fun _ h => h) ?_
  refine J_aload_n (pc := 0) dX3_readVow_0 rfl ?_
  refine J_iconst (pc := 1) (v := 0) dX3_readVow_1 (by decide) ?_
  refine J_bipush (pc := 2) (v := 7) dX3_readVow_2 (by decide) ?_
  refine J_callVq (pc := 4) fC_X3_290 rfl dX3_readVow_4 (c_X1_numberComes hT hn he (lo := 0) (hi := 7) (rfl) (rfl)) rfl ⟨Nat.le_of_ble_eq_true rfl, Nat.le_of_ble_eq_true rfl⟩ rfl (Nat.le_of_ble_eq_true rfl) (fun v4 μ4 q4 => ?_)
  obtain ⟨q4, hs4, hfr4⟩ := q4
  rcases q4 with ⟨rfl, hok4, hnx4, hvl4⟩ | ⟨rfl, hbad4⟩
  · have hT2 := TX_fr hT hfr4
    have he2 := FS_le (T := T) he hT.2.1
    have hok1 := hok4.2
    refine J_if_ne_T (pc := 7) 12 dX3_readVow_7 (by decide) (by decide) ?_
    refine J_aload_n (pc := 12) dX3_readVow_12 rfl ?_
    refine J_getI (pc := 13) fF_X3_294 rfl rfl dX3_readVow_13 ?_
    refine J_istore_n (pc := 16) (lv' := [some (.ref 21), some (.ref 6), some (.int (μ4.1 21 5))]) dX3_readVow_16 (Nat.le_of_ble_eq_true rfl) rfl rfl ?_
    refine J_aload_n (pc := 17) dX3_readVow_17 rfl ?_
    refine J_iconst (pc := 18) (v := 0) dX3_readVow_18 (by decide) ?_
    refine J_iconst (pc := 19) (v := 4) dX3_readVow_19 (by decide) ?_
    refine J_callVq (pc := 20) fC_X3_290 rfl dX3_readVow_20 (c_X1_numberComes hT2 hnx4 he2 (lo := 0) (hi := 4) (rfl) (rfl)) rfl ⟨Nat.le_of_ble_eq_true rfl, Nat.le_of_ble_eq_true rfl⟩ rfl (Nat.le_of_ble_eq_true rfl) (fun v20 μ20 q20 => ?_)
    obtain ⟨q20, hs20, hfr20⟩ := q20
    rcases q20 with ⟨rfl, hok20, hnx20, hvl20⟩ | ⟨rfl, hbad20⟩
    · have hfr := fr21_tr hfr4 hfr20
      have hj2 := jrep_21 hj hfr
      have hok2 := hok20.2
      have he3 := FS_le (T := T) he2 hT.2.1
      refine J_if_ne_T (pc := 23) 28 dX3_readVow_23 (by decide) (by decide) ?_
      refine J_aload_n (pc := 28) dX3_readVow_28 rfl ?_
      refine J_getR (pc := 29) 7 fF_X3_87 rfl rfl dX3_readVow_29 ?_
      refine J_iload_n (pc := 32) dX3_readVow_32 rfl ?_
      refine J_aload_n (pc := 33) dX3_readVow_33 rfl ?_
      refine J_getI (pc := 34) fF_X3_294 rfl rfl dX3_readVow_34 ?_
      refine J_callSv (pc := 37) fC_X3_95 dX3_readVow_37 (c_X3_put rfl (nvT T (SK L T e) (FN L T (SK L T e))).toNat (by rw [hvl4]; omega) (by omega) (by omega)) rfl ⟨Nat.le_of_ble_eq_true rfl, Nat.le_of_ble_eq_true rfl⟩ rfl (Nat.le_of_ble_eq_true rfl) (fun μ37 m37 => ?_)
      refine J_iconst (pc := 40) (v := 1) dX3_readVow_40 (by decide) ?_
      refine J_zret (pc := 41) dX3_readVow_41 rfl (by decide) ?_
      have ex2 : μ20.1 21 5 = iZ (nvT T (SK L T (FN L T (SK L T e))) (FN L T (SK L T (FN L T (SK L T e))))) := iZ_of hvl20
      have hjm := jrep_vow hj2 hw (q := (nvT T (SK L T e) (FN L T (SK L T e))).toNat) (v := (nvT T (SK L T (FN L T (SK L T e))) (FN L T (SK L T (FN L T (SK L T e)))))) (by omega) (by omega)
      rw [← ex2, ← m37] at hjm
      exact ⟨Or.inr ⟨_, _, (pn_ok hok4).trans (pn_ok hok20), rfl, by rw [m37, jI_ne (by decide)]; exact hnx20, he3, (by rw [← ex2]; exact hjm)⟩, by rw [m37]; exact frD_6 (frD_21 hfr) (by decide)⟩
    · refine J_if_ne_F (pc := 23) 28 dX3_readVow_23 (by decide) (by decide) ?_
      refine J_iconst (pc := 26) (v := 0) dX3_readVow_26 (by decide) ?_
      refine J_zret (pc := 27) dX3_readVow_27 rfl (by decide) ?_
      exact ⟨Or.inl ⟨_, (pn_ok hok4).trans (pn_no hbad20), rfl, hs20⟩, frD_21 (fr21_tr hfr4 hfr20)⟩
  · refine J_if_ne_F (pc := 7) 12 dX3_readVow_7 (by decide) (by decide) ?_
    refine J_iconst (pc := 10) (v := 0) dX3_readVow_10 (by decide) ?_
    refine J_zret (pc := 11) dX3_readVow_11 rfl (by decide) ?_
    exact ⟨Or.inl ⟨_, pn_no hbad4, rfl, hs4⟩, frD_21 hfr4⟩
theorem rdQ_mono {r : (Nat ⊕ (Nat × (Nat → Int32)))} {L : Nat} {N M : Int} {c : JM} {v : Option Value} {μ' : JM} (hNM : N ≤ M) (h : rdQ r L N c v μ') : rdQ r L M c v μ' := by
  obtain ⟨h1 | ⟨e, f', h2, h3, h4, h5, h6, h7⟩, h8⟩ := h
  · exact ⟨Or.inl h1, h8⟩
  · exact ⟨Or.inr ⟨e, f', h2, h3, h4, h5, h6, wfF_mono hNM h7⟩, h8⟩
theorem rdQ_eq {r r' : (Nat ⊕ (Nat × (Nat → Int32)))} {L : Nat} {N : Int} {c : JM} {v : Option Value} {μ' : JM} (e : r' = r) (h : rdQ r L N c v μ') : rdQ r' L N c v μ' := by rw [e]; exact h
theorem tk_ln {L : Nat} {T : Nat → Int} {s i : Nat} {c : JM} (h : tkR L T s c) (hs : SPL L T s i) : (c.1 21 2).toInt = (LN L T s : Nat) := by
  have h1 := hs.1
  obtain ⟨-, ⟨g1, -⟩ | ⟨g1, g2, g3⟩ | ⟨g1, -⟩ | ⟨g1, -⟩ | ⟨g1, -⟩⟩ := h
  · omega
  · exact g3
  · omega
  · omega
  · omega
theorem frD_lis {c μ : JM} {w : Int} (h : frD c μ) : frD c (listenM μ 6 w) := ⟨fun q h1 h2 => by
  funext k; rw [listenM_o (by omega)]; rw [h.1 q h1 h2], by rw [listenM_o (by omega)]; exact h.2.1, h.2.2⟩
theorem jC_nx {μ : JM} {a o : Nat} {f : Nat → Int32} (h : o ≠ a) : (jC μ a f).1 o = μ.1 o := if_neg h
theorem frD_beg {c μ : JM} {k : Int32} (h : frD c μ) : frD c (begM μ 6 k) := by
  unfold begM
  refine ⟨fun q h1 h2 => ?_, ?_, h.2.2⟩
  · rw [jC_nx (by omega), jI_ne (by omega), jI_ne (by omega), jI_ne (by omega), jI_ne (by omega), jI_ne (by omega), jI_ne (by omega), jI_ne (by omega)]
    exact h.1 q h1 h2
  · rw [jC_nx (by decide), jI_ne (by omega), jI_ne (by omega), jI_ne (by omega), jI_ne (by omega), jI_ne (by omega), jI_ne (by omega), jI_ne (by omega)]
    exact h.2.1
theorem begM_21 {μ : JM} {k : Int32} : (begM μ 6 k).1 21 = μ.1 21 := by
  unfold begM
  rw [jC_nx (by decide), jI_ne (by omega), jI_ne (by omega), jI_ne (by omega), jI_ne (by omega), jI_ne (by omega), jI_ne (by omega), jI_ne (by omega)]
set_option maxRecDepth 100000 in
set_option maxHeartbeats 4000000 in
theorem c_X3_readSay {c : JM} {L : Nat} {T : Nat → Int} (hT : TX L T c) {f : Nat → Int32} {N : Int} (hN : 0 ≤ N ∧ N < 1000) {e : Nat} (hn : (c.1 21 2).toInt = (e : Int)) (he : e ≤ L) (hj : jrep c 6 f) (hw : wfF N f) : Con G shC mX3_readSay [.ref 21, .ref 6] c (rdQ (sayP L T e f) L (N + 1) c) := by
  have hL150 := hT.2.1
  have hw' := hw
  have hj' := hj
  obtain ⟨w0, w1, w2, w3, w4, w5, w6, -⟩ := hw'
  obtain ⟨j0, j1, j2, j3, j4, -⟩ := hj'
  have hmd := mZ_d (b := (f 6).toInt) ⟨w1.1, w1.2, w2.1, w2.2⟩
  refine Con_of [some (.ref 21), some (.ref 6)] (by decide +kernel) (Nat.le_of_ble_eq_true rfl) (fun _ h => h) ?_
  refine J_aload_n (pc := 0) dX3_readSay_0 rfl ?_
  refine J_iconst (pc := 1) (v := 0) dX3_readSay_1 (by decide) ?_
  refine J_iconst (pc := 2) (v := 5) dX3_readSay_2 (by decide) ?_
  refine J_callVq (pc := 3) fC_X3_290 rfl dX3_readSay_3 (c_X1_numberComes hT hn he (lo := 0) (hi := 5) (rfl) (rfl)) rfl ⟨Nat.le_of_ble_eq_true rfl, Nat.le_of_ble_eq_true rfl⟩ rfl (Nat.le_of_ble_eq_true rfl) (fun v3 μ3 q3 => ?_)
  obtain ⟨q3, hs3, hfr3⟩ := q3
  rcases q3 with ⟨rfl, hok3, hnx3, hvl3⟩ | ⟨rfl, hbad3⟩
  · have hj2 := jrep_21 hj hfr3
    have hok2 := hok3.2
    have he2 := FS_le (T := T) he hT.2.1
    refine J_if_eq_F (pc := 6) 19 dX3_readSay_6 (by decide) (by decide) ?_
    refine J_aload_n (pc := 9) dX3_readSay_9 rfl ?_
    refine J_getI (pc := 10) fF_X3_78 rfl rfl dX3_readSay_10 ?_
    refine J_callSz (pc := 13) fC_X3_120 dX3_readSay_13 (c_X3_beingOf (mZ (f 1).toInt (f 2).toInt (f 6).toInt) hj2.2.2.2.1 (by omega)) rfl ⟨Nat.le_of_ble_eq_true rfl, Nat.le_of_ble_eq_true rfl⟩ rfl (Nat.le_of_ble_eq_true rfl) (fun z13 e13 => ?_)
    have q13 : z13.toInt = (f 6).toInt := by rw [e13, hmd.2.2]
    refine J_if_eqW (pc := 16) ((f 6).toInt) q13 21 dX3_readSay_16 (by decide) (fun h16 => ?_) (fun h16 => ?_)
    · refine J_aload_n (pc := 21) dX3_readSay_21 rfl ?_
      refine J_aload_n (pc := 22) dX3_readSay_22 rfl ?_
      refine J_getI (pc := 23) fF_X3_294 rfl rfl dX3_readSay_23 ?_
      refine J_callVv (pc := 26) fC_X3_126 rfl dX3_readSay_26 (c_X0_listen jarAt_6 (nvT T (SK L T e) (FN L T (SK L T e))) hvl3 (by omega) (by rw [hj2.2.2.2.1]; unfold mZ; omega) (by rw [hj2.2.2.2.2.1]; omega)) rfl ⟨Nat.le_of_ble_eq_true rfl, Nat.le_of_ble_eq_true rfl⟩ rfl (Nat.le_of_ble_eq_true rfl) (fun μ26 m26 => ?_)
      refine J_iconst (pc := 29) (v := 1) dX3_readSay_29 (by decide) ?_
      refine J_zret (pc := 30) dX3_readSay_30 rfl (by decide) ?_
      have hjm := jrep_listen (w := (nvT T (SK L T e) (FN L T (SK L T e)))) hw (by omega) hj2
      rw [← m26] at hjm
      exact ⟨Or.inr ⟨_, _, (cif_pos h16).trans (pn_ok hok3), rfl, by rw [m26, listenM_o (by omega)]; exact hnx3, he2, hjm, wfF_list hw (by omega)⟩, by rw [m26]; exact frD_lis (frD_21 hfr3)⟩
    · refine J_iconst (pc := 19) (v := 0) dX3_readSay_19 (by decide) ?_
      refine J_zret (pc := 20) dX3_readSay_20 rfl (by decide) ?_
      exact ⟨Or.inl ⟨_, cif_neg h16, rfl, hs3⟩, frD_21 hfr3⟩
  · refine J_if_eq_T (pc := 6) 19 dX3_readSay_6 (by decide) (by decide) ?_
    refine J_iconst (pc := 19) (v := 0) dX3_readSay_19 (by decide) ?_
    refine J_zret (pc := 20) dX3_readSay_20 rfl (by decide) ?_
    exact ⟨Or.inl ⟨SK L T e, (by unfold sayP; by_cases h6 : (f 6).toInt = 0; exact (cif_pos h6).trans (pn_no hbad3); exact cif_neg h6), rfl, hs3⟩, frD_21 hfr3⟩
set_option maxRecDepth 100000 in
set_option maxHeartbeats 4000000 in
theorem c_X3_readFirst {c : JM} {L : Nat} {T : Nat → Int} (hT : TX L T c) {f : Nat → Int32} {N : Int} (hN : 0 ≤ N ∧ N < 1000) {s : Nat} (hk : tkR L T s c) (hsL : s ≤ L) (hj : jrep c 6 f) (hw : wfF N f) : Con G shC mX3_readFirst [.ref 21, .ref 6] c (rdQ (cif (SPL L T s 0) (jarP L T (LN L T s) f) (.inl s)) L N c) := by
  have hL150 := hT.2.1
  refine Con_of [some (.ref 21), some (.ref 6)] (by decide +kernel) (Nat.le_of_ble_eq_true rfl) (fun _ h => h) ?_
  refine J_aload_n (pc := 0) dX3_readFirst_0 rfl ?_
  refine J_ldcS (pc := 1) (i := 0) rfl rfl dX3_readFirst_1 ?_
  refine J_callVc (pc := 4) fC_X3_286 rfl dX3_readFirst_4 (c_X1_spells hT (i := 0) (by decide) hk) rfl ⟨Nat.le_of_ble_eq_true rfl, Nat.le_of_ble_eq_true rfl⟩ rfl (Nat.le_of_ble_eq_true rfl) (fun h4 => ?_) (fun h4 => ?_)
  · refine J_if_eq_F (pc := 7) 19 dX3_readFirst_7 (by decide) (by decide) ?_
    refine J_aload_n (pc := 10) dX3_readFirst_10 rfl ?_
    refine J_iconst (pc := 11) (v := 0) dX3_readFirst_11 (by decide) ?_
    refine J_iconst (pc := 12) (v := 5) dX3_readFirst_12 (by decide) ?_
    refine J_callVq (pc := 13) fC_X3_290 rfl dX3_readFirst_13 (c_X1_numberComes hT (tk_ln hk h4) (LN_r hsL hT.2.1).2.1 (lo := 0) (hi := 5) (rfl) (rfl)) rfl ⟨Nat.le_of_ble_eq_true rfl, Nat.le_of_ble_eq_true rfl⟩ rfl (Nat.le_of_ble_eq_true rfl) (fun v13 μ13 q13 => ?_)
    obtain ⟨q13, hs13, hfr13⟩ := q13
    rcases q13 with ⟨rfl, hok13, hnx13, hvl13⟩ | ⟨rfl, hbad13⟩
    · have hok2 := hok13.2
      have he2 := FS_le (T := T) (LN_r (T := T) hsL hT.2.1).2.1 hT.2.1
      refine J_if_ne_T (pc := 16) 21 dX3_readFirst_16 (by decide) (by decide) ?_
      refine J_aload_n (pc := 21) dX3_readFirst_21 rfl ?_
      refine J_aload_n (pc := 22) dX3_readFirst_22 rfl ?_
      refine J_getI (pc := 23) fF_X3_294 rfl rfl dX3_readFirst_23 ?_
      refine J_callVv (pc := 26) fC_X3_56 rfl dX3_readFirst_26 (c_X0_begin jarAt_6) rfl ⟨Nat.le_of_ble_eq_true rfl, Nat.le_of_ble_eq_true rfl⟩ rfl (Nat.le_of_ble_eq_true rfl) (fun μ26 m26 => ?_)
      refine J_iconst (pc := 29) (v := 1) dX3_readFirst_29 (by decide) ?_
      refine J_zret (pc := 30) dX3_readFirst_30 rfl (by decide) ?_
      have ek : μ13.1 21 5 = iZ (nvT T (SK L T (LN L T s)) (FN L T (SK L T (LN L T s)))) := iZ_of hvl13
      refine ⟨Or.inr ⟨_, _, (cif_pos h4).trans (pn_ok hok13), rfl, by rw [m26, begM_21]; exact hnx13, he2, ?_, ?_⟩, by rw [m26]; exact frD_beg (frD_21 hfr13)⟩
      · rw [m26, ek]; exact jrep_begin
      · exact wfF_fresh hN.1 (by rw [iZ_i (by omega)]; omega)
    · refine J_if_ne_F (pc := 16) 21 dX3_readFirst_16 (by decide) (by decide) ?_
      refine J_iconst (pc := 19) (v := 0) dX3_readFirst_19 (by decide) ?_
      refine J_zret (pc := 20) dX3_readFirst_20 rfl (by decide) ?_
      exact ⟨Or.inl ⟨_, (cif_pos h4).trans (pn_no hbad13), rfl, hs13⟩, frD_21 hfr13⟩
  · refine J_if_eq_T (pc := 7) 19 dX3_readFirst_7 (by decide) (by decide) ?_
    refine J_iconst (pc := 19) (v := 0) dX3_readFirst_19 (by decide) ?_
    refine J_zret (pc := 20) dX3_readFirst_20 rfl (by decide) ?_
    exact ⟨Or.inl ⟨_, cif_neg h4, rfl, hk.1⟩, frD_21 (fr21_rf c)⟩
set_option maxRecDepth 100000 in
set_option maxHeartbeats 4000000 in
theorem c_X3_readItem {c : JM} {L : Nat} {T : Nat → Int} (hT : TX L T c) {f : Nat → Int32} {N : Int} (hN : 0 ≤ N ∧ N < 1000) {s : Nat} (hk : tkR L T s c) (hsL : s ≤ L) (hj : jrep c 6 f) (hw : wfF N f) : Con G shC mX3_readItem [.ref 21, .ref 6] c (rdQ (cif (SPL L T s 1) (moodP L T (LN L T s) f) (cif (SPL L T s 2) (boundP L T (LN L T s) f) (cif (SPL L T s 3) (vowP L T (LN L T s) f) (cif (SPL L T s 4) (sayP L T (LN L T s) f) (.inl s))))) L (N + 1) c) := by
  have hL150 := hT.2.1
  refine Con_of [some (.ref 21), some (.ref 6)] (by decide +kernel) (Nat.le_of_ble_eq_true rfl) (fun _ h => h) ?_
  refine J_aload_n (pc := 0) dX3_readItem_0 rfl ?_
  refine J_ldcS (pc := 1) (i := 1) rfl rfl dX3_readItem_1 ?_
  refine J_callVc (pc := 4) fC_X3_286 rfl dX3_readItem_4 (c_X1_spells hT (i := 1) (by decide) hk) rfl ⟨Nat.le_of_ble_eq_true rfl, Nat.le_of_ble_eq_true rfl⟩ rfl (Nat.le_of_ble_eq_true rfl) (fun h4 => ?_) (fun h4 => ?_)
  · refine J_if_eq_F (pc := 7) 16 dX3_readItem_7 (by decide) (by decide) ?_
    refine J_aload_n (pc := 10) dX3_readItem_10 rfl ?_
    refine J_aload_n (pc := 11) dX3_readItem_11 rfl ?_
    refine J_callSq (pc := 12) fC_X3_299 dX3_readItem_12 (c_X3_readMood hT hN (tk_ln hk h4) (LN_r hsL hT.2.1).2.1 hj hw) rfl ⟨Nat.le_of_ble_eq_true rfl, Nat.le_of_ble_eq_true rfl⟩ rfl (Nat.le_of_ble_eq_true rfl) (fun v12 μ12 q12 => ?_)
    have q12 : rdQ (cif (SPL L T s 1) (moodP L T (LN L T s) f) (cif (SPL L T s 2) (boundP L T (LN L T s) f) (cif (SPL L T s 3) (vowP L T (LN L T s) f) (cif (SPL L T s 4) (sayP L T (LN L T s) f) (.inl s))))) L (N + 1) c v12 μ12 := rdQ_mono (M := N + 1) (by omega) (rdQ_eq (cif_pos h4) q12)
    obtain ⟨⟨q1, e1, rfl, e2⟩ | ⟨q1, f1, e1, rfl, e2⟩, e3⟩ := q12
    · refine J_zret (pc := 15) dX3_readItem_15 rfl (by decide) ?_
      exact ⟨Or.inl ⟨q1, e1, rfl, e2⟩, e3⟩
    · refine J_zret (pc := 15) dX3_readItem_15 rfl (by decide) ?_
      exact ⟨Or.inr ⟨q1, f1, e1, rfl, e2⟩, e3⟩
  · refine J_if_eq_T (pc := 7) 16 dX3_readItem_7 (by decide) (by decide) ?_
    refine J_aload_n (pc := 16) dX3_readItem_16 rfl ?_
    refine J_ldcS (pc := 17) (i := 2) rfl rfl dX3_readItem_17 ?_
    refine J_callVc (pc := 20) fC_X3_286 rfl dX3_readItem_20 (c_X1_spells hT (i := 2) (by decide) hk) rfl ⟨Nat.le_of_ble_eq_true rfl, Nat.le_of_ble_eq_true rfl⟩ rfl (Nat.le_of_ble_eq_true rfl) (fun h20 => ?_) (fun h20 => ?_)
    · refine J_if_eq_F (pc := 23) 32 dX3_readItem_23 (by decide) (by decide) ?_
      refine J_aload_n (pc := 26) dX3_readItem_26 rfl ?_
      refine J_aload_n (pc := 27) dX3_readItem_27 rfl ?_
      refine J_callSq (pc := 28) fC_X3_304 dX3_readItem_28 (c_X3_readBound hT hN (tk_ln hk h20) (LN_r hsL hT.2.1).2.1 hj hw) rfl ⟨Nat.le_of_ble_eq_true rfl, Nat.le_of_ble_eq_true rfl⟩ rfl (Nat.le_of_ble_eq_true rfl) (fun v28 μ28 q28 => ?_)
      have q28 : rdQ (cif (SPL L T s 1) (moodP L T (LN L T s) f) (cif (SPL L T s 2) (boundP L T (LN L T s) f) (cif (SPL L T s 3) (vowP L T (LN L T s) f) (cif (SPL L T s 4) (sayP L T (LN L T s) f) (.inl s))))) L (N + 1) c v28 μ28 := rdQ_mono (M := N + 1) (by omega) (rdQ_eq ((cif_neg h4).trans (cif_pos h20)) q28)
      obtain ⟨⟨q1, e1, rfl, e2⟩ | ⟨q1, f1, e1, rfl, e2⟩, e3⟩ := q28
      · refine J_zret (pc := 31) dX3_readItem_31 rfl (by decide) ?_
        exact ⟨Or.inl ⟨q1, e1, rfl, e2⟩, e3⟩
      · refine J_zret (pc := 31) dX3_readItem_31 rfl (by decide) ?_
        exact ⟨Or.inr ⟨q1, f1, e1, rfl, e2⟩, e3⟩
    · refine J_if_eq_T (pc := 23) 32 dX3_readItem_23 (by decide) (by decide) ?_
      refine J_aload_n (pc := 32) dX3_readItem_32 rfl ?_
      refine J_ldcS (pc := 33) (i := 3) rfl rfl dX3_readItem_33 ?_
      refine J_callVc (pc := 36) fC_X3_286 rfl dX3_readItem_36 (c_X1_spells hT (i := 3) (by decide) hk) rfl ⟨Nat.le_of_ble_eq_true rfl, Nat.le_of_ble_eq_true rfl⟩ rfl (Nat.le_of_ble_eq_true rfl) (fun h36 => ?_) (fun h36 => ?_)
      · refine J_if_eq_F (pc := 39) 48 dX3_readItem_39 (by decide) (by decide) ?_
        refine J_aload_n (pc := 42) dX3_readItem_42 rfl ?_
        refine J_aload_n (pc := 43) dX3_readItem_43 rfl ?_
        refine J_callSq (pc := 44) fC_X3_309 dX3_readItem_44 (c_X3_readVow hT hN (tk_ln hk h36) (LN_r hsL hT.2.1).2.1 hj hw) rfl ⟨Nat.le_of_ble_eq_true rfl, Nat.le_of_ble_eq_true rfl⟩ rfl (Nat.le_of_ble_eq_true rfl) (fun v44 μ44 q44 => ?_)
        have q44 : rdQ (cif (SPL L T s 1) (moodP L T (LN L T s) f) (cif (SPL L T s 2) (boundP L T (LN L T s) f) (cif (SPL L T s 3) (vowP L T (LN L T s) f) (cif (SPL L T s 4) (sayP L T (LN L T s) f) (.inl s))))) L (N + 1) c v44 μ44 := rdQ_mono (M := N + 1) (by omega) (rdQ_eq ((cif_neg h4).trans ((cif_neg h20).trans (cif_pos h36))) q44)
        obtain ⟨⟨q1, e1, rfl, e2⟩ | ⟨q1, f1, e1, rfl, e2⟩, e3⟩ := q44
        · refine J_zret (pc := 47) dX3_readItem_47 rfl (by decide) ?_
          exact ⟨Or.inl ⟨q1, e1, rfl, e2⟩, e3⟩
        · refine J_zret (pc := 47) dX3_readItem_47 rfl (by decide) ?_
          exact ⟨Or.inr ⟨q1, f1, e1, rfl, e2⟩, e3⟩
      · refine J_if_eq_T (pc := 39) 48 dX3_readItem_39 (by decide) (by decide) ?_
        refine J_aload_n (pc := 48) dX3_readItem_48 rfl ?_
        refine J_ldcS (pc := 49) (i := 4) rfl rfl dX3_readItem_49 ?_
        refine J_callVc (pc := 52) fC_X3_286 rfl dX3_readItem_52 (c_X1_spells hT (i := 4) (by decide) hk) rfl ⟨Nat.le_of_ble_eq_true rfl, Nat.le_of_ble_eq_true rfl⟩ rfl (Nat.le_of_ble_eq_true rfl) (fun h52 => ?_) (fun h52 => ?_)
        · refine J_if_eq_F (pc := 55) 70 dX3_readItem_55 (by decide) (by decide) ?_
          refine J_aload_n (pc := 58) dX3_readItem_58 rfl ?_
          refine J_aload_n (pc := 59) dX3_readItem_59 rfl ?_
          refine J_callSq (pc := 60) fC_X3_314 dX3_readItem_60 (c_X3_readSay hT hN (tk_ln hk h52) (LN_r hsL hT.2.1).2.1 hj hw) rfl ⟨Nat.le_of_ble_eq_true rfl, Nat.le_of_ble_eq_true rfl⟩ rfl (Nat.le_of_ble_eq_true rfl) (fun v60 μ60 q60 => ?_)
          have q60 : rdQ (cif (SPL L T s 1) (moodP L T (LN L T s) f) (cif (SPL L T s 2) (boundP L T (LN L T s) f) (cif (SPL L T s 3) (vowP L T (LN L T s) f) (cif (SPL L T s 4) (sayP L T (LN L T s) f) (.inl s))))) L (N + 1) c v60 μ60 := rdQ_eq ((cif_neg h4).trans ((cif_neg h20).trans ((cif_neg h36).trans (cif_pos h52)))) q60
          obtain ⟨⟨q1, e1, rfl, e2⟩ | ⟨q1, f1, e1, rfl, e2⟩, e3⟩ := q60
          · refine J_if_eq_T (pc := 63) 70 dX3_readItem_63 (by decide) (by decide) ?_
            refine J_iconst (pc := 70) (v := 0) dX3_readItem_70 (by decide) ?_
            refine J_zret (pc := 71) dX3_readItem_71 rfl (by decide) ?_
            exact ⟨Or.inl ⟨q1, e1, rfl, e2⟩, e3⟩
          · refine J_if_eq_F (pc := 63) 70 dX3_readItem_63 (by decide) (by decide) ?_
            refine J_iconst (pc := 66) (v := 1) dX3_readItem_66 (by decide) ?_
            refine J_goto (pc := 67) 71 dX3_readItem_67 (by decide) ?_
            refine J_zret (pc := 71) dX3_readItem_71 rfl (by decide) ?_
            exact ⟨Or.inr ⟨q1, f1, e1, rfl, e2⟩, e3⟩
        · refine J_if_eq_T (pc := 55) 70 dX3_readItem_55 (by decide) (by decide) ?_
          refine J_iconst (pc := 70) (v := 0) dX3_readItem_70 (by decide) ?_
          refine J_zret (pc := 71) dX3_readItem_71 rfl (by decide) ?_
          exact ⟨Or.inl ⟨_, (cif_neg h4).trans ((cif_neg h20).trans ((cif_neg h36).trans (cif_neg h52))), rfl, hk.1⟩, frD_21 (fr21_rf c)⟩

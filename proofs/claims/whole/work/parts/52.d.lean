/-! ===== the model reads an item ===== -/
def mQ (r : (Nat ⊕ (Nat × (Nat → Int32)))) (L : Nat) (c : JM) : Option Value → JM → Prop := fun v μ' => v = none ∧ ((∃ q : Nat, r = .inl q ∧ (μ'.1 0 12).toInt = (q : Int) ∧ (0 ≤ (μ'.1 0 10).toInt ∧ (μ'.1 0 10).toInt ≤ 150)) ∨ (∃ (e : Nat) (f' : Nat → Int32), r = .inr (e, f') ∧ (μ'.1 0 12).toInt = -1 ∧ (μ'.1 0 10).toInt = (e : Int) ∧ e ≤ L ∧ μ'.1 1 = f')) ∧ frR c μ'
theorem mQ_eq {r r' : (Nat ⊕ (Nat × (Nat → Int32)))} {L : Nat} {c : JM} {v : Option Value} {μ' : JM} (e : r' = r) (h : mQ r L c v μ') : mQ r' L c v μ' := by rw [e]; exact h
theorem mQ_tr {r : (Nat ⊕ (Nat × (Nat → Int32)))} {L : Nat} {b c : JM} {v : Option Value} {μ' : JM} (hb : frR b c) (h : mQ r L c v μ') : mQ r L b v μ' := ⟨h.1, h.2.1, frR_tr hb h.2.2⟩
theorem jI_upd {μ : JM} {o k : Nat} {x : Int32} : (jI μ o k x).1 o = upd (μ.1 o) k x := by
  funext j; rw [jI_i]; unfold upd
  by_cases e : j = k
  · rw [if_pos ⟨rfl, e⟩, if_pos e]
  · rw [if_neg (fun z => e z.2), if_neg e]
variable {G : JG}
set_option maxRecDepth 100000 in
set_option maxHeartbeats 4000000 in
theorem c_X4_takeMood {c : JM} {L : Nat} {T : Nat → Int} (hT : TM L T c) {e : Nat} (hn : (c.1 0 10).toInt = (e : Int)) (he : e ≤ L) (hφ : (c.1 0 12).toInt = -1) {f : Nat → Int32} {N : Int} (hrow : c.1 1 = f) (hw : wfF N f) : Con G shM mX4_takeMood [.ref 0] c (mQ (moodP L T e f) L c) := by
  have hL150 := hT.2.1
  have hw' := hw
  obtain ⟨w0, w1, w2, w3, w4, w5, w6, -⟩ := hw'
  refine Con_of [some (.ref 0), none, none] (by decide +kernel) (Nat.le_of_ble_eq_true rfl) (fun _ h => h) ?_
  refine J_aload_n (pc := 0) dX4_takeMood_0 rfl ?_
  refine J_iconst (pc := 1) (v := 0) dX4_takeMood_1 (by decide) ?_
  refine J_aload_n (pc := 2) dX4_takeMood_2 rfl ?_
  refine J_getR (pc := 3) 1 fF_X4_7 rfl rfl dX4_takeMood_3 ?_
  refine J_iconst (pc := 6) (v := 3) dX4_takeMood_6 (by decide) ?_
  refine J_ialdW (pc := 7) 3 (rfl) rfl (by decide) dX4_takeMood_7 ?_
  refine J_iconst (pc := 8) (v := 1) dX4_takeMood_8 (by decide) ?_
  refine J_isubW (pc := 9) ((f 3).toInt) 1 (by rw [hrow]) rfl dX4_takeMood_9 (by omega) (fun z9 e9 => ?_)
  refine J_callVq (pc := 10) fC_X4_132 rfl dX4_takeMood_10 (c_X4_takeNumber hT hn he hφ (lo := 0) (hi := ((f 3).toInt - 1)) (rfl) (e9) (by omega) (by omega)) rfl ⟨Nat.le_of_ble_eq_true rfl, Nat.le_of_ble_eq_true rfl⟩ rfl (Nat.le_of_ble_eq_true rfl) (fun v10 μ10 q10 => ?_)
  obtain ⟨q10, hfr10⟩ := q10
  rcases q10 with ⟨hok10, ⟨z10, rfl, hz10⟩, hat10, hph10⟩ | ⟨hbad10, ⟨z10, rfl⟩, hph10, hat10⟩
  · have hT2 := TM_N hT hfr10
    have he2 := FS_le (T := T) he hT.2.1
    have hok1 := hok10.2
    refine J_istore_n (pc := 13) (lv' := [some (.ref 0), some (.int z10), none]) dX4_takeMood_13 (Nat.le_of_ble_eq_true rfl) rfl rfl ?_
    refine J_aload_n (pc := 14) dX4_takeMood_14 rfl ?_
    refine J_iconst (pc := 15) (v := 0) dX4_takeMood_15 (by decide) ?_
    refine J_bipush (pc := 16) (v := 99) dX4_takeMood_16 (by decide) ?_
    refine J_callVq (pc := 18) fC_X4_132 rfl dX4_takeMood_18 (c_X4_takeNumber hT2 hat10 he2 hph10 (lo := 0) (hi := 99) (rfl) (rfl) (by omega) (by omega)) rfl ⟨Nat.le_of_ble_eq_true rfl, Nat.le_of_ble_eq_true rfl⟩ rfl (Nat.le_of_ble_eq_true rfl) (fun v18 μ18 q18 => ?_)
    obtain ⟨q18, hfr18⟩ := q18
    rcases q18 with ⟨hok18, ⟨z18, rfl, hz18⟩, hat18, hph18⟩ | ⟨hbad18, ⟨z18, rfl⟩, hph18, hat18⟩
    · have hfr := frN_tr hfr10 hfr18
      have hok2 := hok18.2
      have he3 := FS_le (T := T) he2 hT.2.1
      have hrow2 : μ18.1 1 = f := by rw [hfr.1 1 (by decide)]; exact hrow
      refine J_istore_n (pc := 21) (lv' := [some (.ref 0), some (.int z10), some (.int z18)]) dX4_takeMood_21 (Nat.le_of_ble_eq_true rfl) rfl rfl ?_
      refine J_aload_n (pc := 22) dX4_takeMood_22 rfl ?_
      refine J_getI (pc := 23) fF_X4_111 rfl rfl dX4_takeMood_23 ?_
      refine J_if_geW (pc := 26) (-1) hph18 43 dX4_takeMood_26 (by decide) (fun h26 => ?_) (fun h26 => ?_)
      · exfalso; omega
      · refine J_aload_n (pc := 29) dX4_takeMood_29 rfl ?_
        refine J_getR (pc := 30) 1 fF_X4_7 rfl rfl dX4_takeMood_30 ?_
        refine J_iconst (pc := 33) (v := 1) dX4_takeMood_33 (by decide) ?_
        refine J_iload_n (pc := 34) dX4_takeMood_34 rfl ?_
        refine J_iastW (pc := 35) 1 (rfl) rfl (by decide) dX4_takeMood_35 (fun μ35 m35 => ?_)
        refine J_aload_n (pc := 36) dX4_takeMood_36 rfl ?_
        refine J_getR (pc := 37) 1 fF_X4_7 rfl rfl dX4_takeMood_37 ?_
        refine J_iconst (pc := 40) (v := 2) dX4_takeMood_40 (by decide) ?_
        refine J_iload_n (pc := 41) dX4_takeMood_41 rfl ?_
        refine J_iastW (pc := 42) 2 (rfl) rfl (by decide) dX4_takeMood_42 (fun μ42 m42 => ?_)
        refine J_vret (pc := 43) dX4_takeMood_43 rfl ?_
        refine ⟨rfl, Or.inr ⟨_, _, (pn_ok hok10).trans (pn_ok hok18), by rw [m42, jI_ne (by decide), m35, jI_ne (by decide)]; exact hph18, by rw [m42, jI_ne (by decide), m35, jI_ne (by decide)]; exact hat18, he3, ?_⟩, by rw [m42, m35]; exact frR_1 (frR_1 (frR_N hfr))⟩
        rw [m42, jI_upd, m35, jI_upd, hrow2, iZ_of hz10, iZ_of hz18]
    · refine J_istore_n (pc := 21) (lv' := [some (.ref 0), some (.int z10), some (.int z18)]) dX4_takeMood_21 (Nat.le_of_ble_eq_true rfl) rfl rfl ?_
      refine J_aload_n (pc := 22) dX4_takeMood_22 rfl ?_
      refine J_getI (pc := 23) fF_X4_111 rfl rfl dX4_takeMood_23 ?_
      refine J_if_geW (pc := 26) (SK L T (FN L T (SK L T e)) : Int) hph18 43 dX4_takeMood_26 (by decide) (fun h26 => ?_) (fun h26 => ?_)
      · refine J_vret (pc := 43) dX4_takeMood_43 rfl ?_
        exact ⟨rfl, Or.inl ⟨_, (pn_ok hok10).trans (pn_no hbad18), hph18, hat18⟩, frR_N (frN_tr hfr10 hfr18)⟩
      · exfalso; omega
  · refine J_istore_n (pc := 13) (lv' := [some (.ref 0), some (.int z10), none]) dX4_takeMood_13 (Nat.le_of_ble_eq_true rfl) rfl rfl ?_
    refine J_aload_n (pc := 14) dX4_takeMood_14 rfl ?_
    refine J_iconst (pc := 15) (v := 0) dX4_takeMood_15 (by decide) ?_
    refine J_bipush (pc := 16) (v := 99) dX4_takeMood_16 (by decide) ?_
    refine J_callVq (pc := 18) fC_X4_132 rfl dX4_takeMood_18 (c_X4_takeNumber0 (by rw [hph10]; omega)) rfl ⟨Nat.le_of_ble_eq_true rfl, Nat.le_of_ble_eq_true rfl⟩ rfl (Nat.le_of_ble_eq_true rfl) (fun v18 μ18 q18 => ?_)
    obtain ⟨rfl, rfl⟩ := q18
    refine J_istore_n (pc := 21) (lv' := [some (.ref 0), some (.int z10), some (.int 0)]) dX4_takeMood_21 (Nat.le_of_ble_eq_true rfl) rfl rfl ?_
    refine J_aload_n (pc := 22) dX4_takeMood_22 rfl ?_
    refine J_getI (pc := 23) fF_X4_111 rfl rfl dX4_takeMood_23 ?_
    refine J_if_geW (pc := 26) (SK L T e : Int) hph10 43 dX4_takeMood_26 (by decide) (fun h26 => ?_) (fun h26 => ?_)
    · refine J_vret (pc := 43) dX4_takeMood_43 rfl ?_
      exact ⟨rfl, Or.inl ⟨_, pn_no hbad10, hph10, hat10⟩, frR_N hfr10⟩
    · exfalso; omega
set_option maxRecDepth 100000 in
set_option maxHeartbeats 4000000 in
theorem c_X4_takeBound {c : JM} {L : Nat} {T : Nat → Int} (hT : TM L T c) {e : Nat} (hn : (c.1 0 10).toInt = (e : Int)) (he : e ≤ L) (hφ : (c.1 0 12).toInt = -1) {f : Nat → Int32} {N : Int} (hrow : c.1 1 = f) (hw : wfF N f) : Con G shM mX4_takeBound [.ref 0] c (mQ (boundP L T e f) L c) := by
  have hL150 := hT.2.1
  have hw' := hw
  obtain ⟨w0, w1, w2, w3, w4, w5, w6, -⟩ := hw'
  refine Con_of [some (.ref 0), none, none] (by decide +kernel) (Nat.le_of_ble_eq_true rfl) (fun _ h => h) ?_
  refine J_aload_n (pc := 0) dX4_takeBound_0 rfl ?_
  refine J_aload_n (pc := 1) dX4_takeBound_1 rfl ?_
  refine J_getR (pc := 2) 1 fF_X4_7 rfl rfl dX4_takeBound_2 ?_
  refine J_iconst (pc := 5) (v := 1) dX4_takeBound_5 (by decide) ?_
  refine J_ialdW (pc := 6) 1 (rfl) rfl (by decide) dX4_takeBound_6 ?_
  refine J_iconst (pc := 7) (v := 1) dX4_takeBound_7 (by decide) ?_
  refine J_iaddW (pc := 8) ((f 1).toInt) 1 (by rw [hrow]) rfl dX4_takeBound_8 (by omega) (fun z8 e8 => ?_)
  refine J_bipush (pc := 9) (v := 99) dX4_takeBound_9 (by decide) ?_
  refine J_callVq (pc := 11) fC_X4_132 rfl dX4_takeBound_11 (c_X4_takeNumber hT hn he hφ (lo := ((f 1).toInt + 1)) (hi := 99) (e8) (rfl) (by omega) (by omega)) rfl ⟨Nat.le_of_ble_eq_true rfl, Nat.le_of_ble_eq_true rfl⟩ rfl (Nat.le_of_ble_eq_true rfl) (fun v11 μ11 q11 => ?_)
  obtain ⟨q11, hfr11⟩ := q11
  rcases q11 with ⟨hok11, ⟨z11, rfl, hz11⟩, hat11, hph11⟩ | ⟨hbad11, ⟨z11, rfl⟩, hph11, hat11⟩
  · have hT2 := TM_N hT hfr11
    have he2 := FS_le (T := T) he hT.2.1
    have hok1 := hok11.2
    refine J_istore_n (pc := 14) (lv' := [some (.ref 0), some (.int z11), none]) dX4_takeBound_14 (Nat.le_of_ble_eq_true rfl) rfl rfl ?_
    refine J_aload_n (pc := 15) dX4_takeBound_15 rfl ?_
    refine J_iconst (pc := 16) (v := 1) dX4_takeBound_16 (by decide) ?_
    refine J_bipush (pc := 17) (v := 99) dX4_takeBound_17 (by decide) ?_
    refine J_callVq (pc := 19) fC_X4_132 rfl dX4_takeBound_19 (c_X4_takeNumber hT2 hat11 he2 hph11 (lo := 1) (hi := 99) (rfl) (rfl) (by omega) (by omega)) rfl ⟨Nat.le_of_ble_eq_true rfl, Nat.le_of_ble_eq_true rfl⟩ rfl (Nat.le_of_ble_eq_true rfl) (fun v19 μ19 q19 => ?_)
    obtain ⟨q19, hfr19⟩ := q19
    rcases q19 with ⟨hok19, ⟨z19, rfl, hz19⟩, hat19, hph19⟩ | ⟨hbad19, ⟨z19, rfl⟩, hph19, hat19⟩
    · have hfr := frN_tr hfr11 hfr19
      have hok2 := hok19.2
      have he3 := FS_le (T := T) he2 hT.2.1
      have hrow2 : μ19.1 1 = f := by rw [hfr.1 1 (by decide)]; exact hrow
      refine J_istore_n (pc := 22) (lv' := [some (.ref 0), some (.int z11), some (.int z19)]) dX4_takeBound_22 (Nat.le_of_ble_eq_true rfl) rfl rfl ?_
      refine J_aload_n (pc := 23) dX4_takeBound_23 rfl ?_
      refine J_getI (pc := 24) fF_X4_111 rfl rfl dX4_takeBound_24 ?_
      refine J_if_geW (pc := 27) (-1) hph19 44 dX4_takeBound_27 (by decide) (fun h27 => ?_) (fun h27 => ?_)
      · exfalso; omega
      · refine J_aload_n (pc := 30) dX4_takeBound_30 rfl ?_
        refine J_getR (pc := 31) 1 fF_X4_7 rfl rfl dX4_takeBound_31 ?_
        refine J_iconst (pc := 34) (v := 3) dX4_takeBound_34 (by decide) ?_
        refine J_iload_n (pc := 35) dX4_takeBound_35 rfl ?_
        refine J_iastW (pc := 36) 3 (rfl) rfl (by decide) dX4_takeBound_36 (fun μ36 m36 => ?_)
        refine J_aload_n (pc := 37) dX4_takeBound_37 rfl ?_
        refine J_getR (pc := 38) 1 fF_X4_7 rfl rfl dX4_takeBound_38 ?_
        refine J_iconst (pc := 41) (v := 4) dX4_takeBound_41 (by decide) ?_
        refine J_iload_n (pc := 42) dX4_takeBound_42 rfl ?_
        refine J_iastW (pc := 43) 4 (rfl) rfl (by decide) dX4_takeBound_43 (fun μ43 m43 => ?_)
        refine J_vret (pc := 44) dX4_takeBound_44 rfl ?_
        refine ⟨rfl, Or.inr ⟨_, _, (pn_ok hok11).trans (pn_ok hok19), by rw [m43, jI_ne (by decide), m36, jI_ne (by decide)]; exact hph19, by rw [m43, jI_ne (by decide), m36, jI_ne (by decide)]; exact hat19, he3, ?_⟩, by rw [m43, m36]; exact frR_1 (frR_1 (frR_N hfr))⟩
        rw [m43, jI_upd, m36, jI_upd, hrow2, iZ_of hz11, iZ_of hz19]
    · refine J_istore_n (pc := 22) (lv' := [some (.ref 0), some (.int z11), some (.int z19)]) dX4_takeBound_22 (Nat.le_of_ble_eq_true rfl) rfl rfl ?_
      refine J_aload_n (pc := 23) dX4_takeBound_23 rfl ?_
      refine J_getI (pc := 24) fF_X4_111 rfl rfl dX4_takeBound_24 ?_
      refine J_if_geW (pc := 27) (SK L T (FN L T (SK L T e)) : Int) hph19 44 dX4_takeBound_27 (by decide) (fun h27 => ?_) (fun h27 => ?_)
      · refine J_vret (pc := 44) dX4_takeBound_44 rfl ?_
        exact ⟨rfl, Or.inl ⟨_, (pn_ok hok11).trans (pn_no hbad19), hph19, hat19⟩, frR_N (frN_tr hfr11 hfr19)⟩
      · exfalso; omega
  · refine J_istore_n (pc := 14) (lv' := [some (.ref 0), some (.int z11), none]) dX4_takeBound_14 (Nat.le_of_ble_eq_true rfl) rfl rfl ?_
    refine J_aload_n (pc := 15) dX4_takeBound_15 rfl ?_
    refine J_iconst (pc := 16) (v := 1) dX4_takeBound_16 (by decide) ?_
    refine J_bipush (pc := 17) (v := 99) dX4_takeBound_17 (by decide) ?_
    refine J_callVq (pc := 19) fC_X4_132 rfl dX4_takeBound_19 (c_X4_takeNumber0 (by rw [hph11]; omega)) rfl ⟨Nat.le_of_ble_eq_true rfl, Nat.le_of_ble_eq_true rfl⟩ rfl (Nat.le_of_ble_eq_true rfl) (fun v19 μ19 q19 => ?_)
    obtain ⟨rfl, rfl⟩ := q19
    refine J_istore_n (pc := 22) (lv' := [some (.ref 0), some (.int z11), some (.int 0)]) dX4_takeBound_22 (Nat.le_of_ble_eq_true rfl) rfl rfl ?_
    refine J_aload_n (pc := 23) dX4_takeBound_23 rfl ?_
    refine J_getI (pc := 24) fF_X4_111 rfl rfl dX4_takeBound_24 ?_
    refine J_if_geW (pc := 27) (SK L T e : Int) hph11 44 dX4_takeBound_27 (by decide) (fun h27 => ?_) (fun h27 => ?_)
    · refine J_vret (pc := 44) dX4_takeBound_44 rfl ?_
      exact ⟨rfl, Or.inl ⟨_, pn_no hbad11, hph11, hat11⟩, frR_N hfr11⟩
    · exfalso; omega
set_option maxRecDepth 100000 in
set_option maxHeartbeats 4000000 in
theorem c_X4_takeVow {c : JM} {L : Nat} {T : Nat → Int} (hT : TM L T c) {e : Nat} (hn : (c.1 0 10).toInt = (e : Int)) (he : e ≤ L) (hφ : (c.1 0 12).toInt = -1) {f : Nat → Int32} {N : Int} (hrow : c.1 1 = f) (hw : wfF N f) : Con G shM mX4_takeVow [.ref 0] c (mQ (vowP L T e f) L c) := by
  have hL150 := hT.2.1
  have hw' := hw
  obtain ⟨w0, w1, w2, w3, w4, w5, w6, -⟩ := hw'
  refine Con_of [some (.ref 0), none, none] (by decide +kernel) (Nat.le_of_ble_eq_true rfl) (fun _ h => h) ?_
  refine J_aload_n (pc := 0) dX4_takeVow_0 rfl ?_
  refine J_iconst (pc := 1) (v := 0) dX4_takeVow_1 (by decide) ?_
  refine J_bipush (pc := 2) (v := 7) dX4_takeVow_2 (by decide) ?_
  refine J_callVq (pc := 4) fC_X4_132 rfl dX4_takeVow_4 (c_X4_takeNumber hT hn he hφ (lo := 0) (hi := 7) (rfl) (rfl) (by omega) (by omega)) rfl ⟨Nat.le_of_ble_eq_true rfl, Nat.le_of_ble_eq_true rfl⟩ rfl (Nat.le_of_ble_eq_true rfl) (fun v4 μ4 q4 => ?_)
  obtain ⟨q4, hfr4⟩ := q4
  rcases q4 with ⟨hok4, ⟨z4, rfl, hz4⟩, hat4, hph4⟩ | ⟨hbad4, ⟨z4, rfl⟩, hph4, hat4⟩
  · have hT2 := TM_N hT hfr4
    have he2 := FS_le (T := T) he hT.2.1
    have hok1 := hok4.2
    refine J_istore_n (pc := 7) (lv' := [some (.ref 0), some (.int z4), none]) dX4_takeVow_7 (Nat.le_of_ble_eq_true rfl) rfl rfl ?_
    refine J_aload_n (pc := 8) dX4_takeVow_8 rfl ?_
    refine J_iconst (pc := 9) (v := 0) dX4_takeVow_9 (by decide) ?_
    refine J_iconst (pc := 10) (v := 4) dX4_takeVow_10 (by decide) ?_
    refine J_callVq (pc := 11) fC_X4_132 rfl dX4_takeVow_11 (c_X4_takeNumber hT2 hat4 he2 hph4 (lo := 0) (hi := 4) (rfl) (rfl) (by omega) (by omega)) rfl ⟨Nat.le_of_ble_eq_true rfl, Nat.le_of_ble_eq_true rfl⟩ rfl (Nat.le_of_ble_eq_true rfl) (fun v11 μ11 q11 => ?_)
    obtain ⟨q11, hfr11⟩ := q11
    rcases q11 with ⟨hok11, ⟨z11, rfl, hz11⟩, hat11, hph11⟩ | ⟨hbad11, ⟨z11, rfl⟩, hph11, hat11⟩
    · have hfr := frN_tr hfr4 hfr11
      have hok2 := hok11.2
      have he3 := FS_le (T := T) he2 hT.2.1
      have hrow2 : μ11.1 1 = f := by rw [hfr.1 1 (by decide)]; exact hrow
      refine J_istore_n (pc := 14) (lv' := [some (.ref 0), some (.int z4), some (.int z11)]) dX4_takeVow_14 (Nat.le_of_ble_eq_true rfl) rfl rfl ?_
      refine J_aload_n (pc := 15) dX4_takeVow_15 rfl ?_
      refine J_getI (pc := 16) fF_X4_111 rfl rfl dX4_takeVow_16 ?_
      refine J_if_geW (pc := 19) (-1) hph11 32 dX4_takeVow_19 (by decide) (fun h19 => ?_) (fun h19 => ?_)
      · exfalso; omega
      · refine J_aload_n (pc := 22) dX4_takeVow_22 rfl ?_
        refine J_getR (pc := 23) 1 fF_X4_7 rfl rfl dX4_takeVow_23 ?_
        refine J_bipush (pc := 26) (v := 7) dX4_takeVow_26 (by decide) ?_
        refine J_iload_n (pc := 28) dX4_takeVow_28 rfl ?_
        refine J_iaddW (pc := 29) 7 (nvT T (SK L T e) (FN L T (SK L T e))) rfl hz4 dX4_takeVow_29 (by omega) (fun z29 e29 => ?_)
        refine J_iload_n (pc := 30) dX4_takeVow_30 rfl ?_
        refine J_iastW (pc := 31) (7 + (nvT T (SK L T e) (FN L T (SK L T e))).toNat) (by rw [e29]; omega) rfl (by omega) dX4_takeVow_31 (fun μ31 m31 => ?_)
        refine J_vret (pc := 32) dX4_takeVow_32 rfl ?_
        refine ⟨rfl, Or.inr ⟨_, _, (pn_ok hok4).trans (pn_ok hok11), by rw [m31, jI_ne (by decide)]; exact hph11, by rw [m31, jI_ne (by decide)]; exact hat11, he3, ?_⟩, by rw [m31]; exact frR_1 (frR_N hfr)⟩
        rw [m31, jI_upd, hrow2, iZ_of hz11]
    · refine J_istore_n (pc := 14) (lv' := [some (.ref 0), some (.int z4), some (.int z11)]) dX4_takeVow_14 (Nat.le_of_ble_eq_true rfl) rfl rfl ?_
      refine J_aload_n (pc := 15) dX4_takeVow_15 rfl ?_
      refine J_getI (pc := 16) fF_X4_111 rfl rfl dX4_takeVow_16 ?_
      refine J_if_geW (pc := 19) (SK L T (FN L T (SK L T e)) : Int) hph11 32 dX4_takeVow_19 (by decide) (fun h19 => ?_) (fun h19 => ?_)
      · refine J_vret (pc := 32) dX4_takeVow_32 rfl ?_
        exact ⟨rfl, Or.inl ⟨_, (pn_ok hok4).trans (pn_no hbad11), hph11, hat11⟩, frR_N (frN_tr hfr4 hfr11)⟩
      · exfalso; omega
  · refine J_istore_n (pc := 7) (lv' := [some (.ref 0), some (.int z4), none]) dX4_takeVow_7 (Nat.le_of_ble_eq_true rfl) rfl rfl ?_
    refine J_aload_n (pc := 8) dX4_takeVow_8 rfl ?_
    refine J_iconst (pc := 9) (v := 0) dX4_takeVow_9 (by decide) ?_
    refine J_iconst (pc := 10) (v := 4) dX4_takeVow_10 (by decide) ?_
    refine J_callVq (pc := 11) fC_X4_132 rfl dX4_takeVow_11 (c_X4_takeNumber0 (by rw [hph4]; omega)) rfl ⟨Nat.le_of_ble_eq_true rfl, Nat.le_of_ble_eq_true rfl⟩ rfl (Nat.le_of_ble_eq_true rfl) (fun v11 μ11 q11 => ?_)
    obtain ⟨rfl, rfl⟩ := q11
    refine J_istore_n (pc := 14) (lv' := [some (.ref 0), some (.int z4), some (.int 0)]) dX4_takeVow_14 (Nat.le_of_ble_eq_true rfl) rfl rfl ?_
    refine J_aload_n (pc := 15) dX4_takeVow_15 rfl ?_
    refine J_getI (pc := 16) fF_X4_111 rfl rfl dX4_takeVow_16 ?_
    refine J_if_geW (pc := 19) (SK L T e : Int) hph4 32 dX4_takeVow_19 (by decide) (fun h19 => ?_) (fun h19 => ?_)
    · refine J_vret (pc := 32) dX4_takeVow_32 rfl ?_
      exact ⟨rfl, Or.inl ⟨_, pn_no hbad4, hph4, hat4⟩, frR_N hfr4⟩
    · exfalso; omega
set_option maxRecDepth 100000 in
set_option maxHeartbeats 4000000 in
theorem c_X4_takeSay {c : JM} {L : Nat} {T : Nat → Int} (hT : TM L T c) {e : Nat} (hn : (c.1 0 10).toInt = (e : Int)) (he : e ≤ L) (hφ : (c.1 0 12).toInt = -1) {f : Nat → Int32} {N : Int} (hN : N < 1000) (hrow : c.1 1 = f) (hw : wfF N f) (hc : constM c) : Con G shM mX4_takeSay [.ref 0] c (mQ (sayP L T e f) L c) := by
  have hL150 := hT.2.1
  have hw' := hw
  obtain ⟨w0, w1, w2, w3, w4, w5, w6, -⟩ := hw'
  refine Con_of [some (.ref 0), none] (by decide +kernel) (Nat.le_of_ble_eq_true rfl) (fun _ h => h) ?_
  refine J_aload_n (pc := 0) dX4_takeSay_0 rfl ?_
  refine J_getR (pc := 1) 1 fF_X4_7 rfl rfl dX4_takeSay_1 ?_
  refine J_bipush (pc := 4) (v := 6) dX4_takeSay_4 (by decide) ?_
  refine J_ialdW (pc := 6) 6 (rfl) rfl (by decide) dX4_takeSay_6 ?_
  refine J_if_eqW (pc := 7) ((f 6).toInt) (by rw [hrow]) 20 dX4_takeSay_7 (by decide) (fun h7 => ?_) (fun h7 => ?_)
  · refine J_aload_n (pc := 20) dX4_takeSay_20 rfl ?_
    refine J_iconst (pc := 21) (v := 0) dX4_takeSay_21 (by decide) ?_
    refine J_iconst (pc := 22) (v := 5) dX4_takeSay_22 (by decide) ?_
    refine J_callVq (pc := 23) fC_X4_132 rfl dX4_takeSay_23 (c_X4_takeNumber hT hn he hφ (lo := 0) (hi := 5) (rfl) (rfl) (by omega) (by omega)) rfl ⟨Nat.le_of_ble_eq_true rfl, Nat.le_of_ble_eq_true rfl⟩ rfl (Nat.le_of_ble_eq_true rfl) (fun v23 μ23 q23 => ?_)
    obtain ⟨q23, hfr23⟩ := q23
    rcases q23 with ⟨hok23, ⟨z23, rfl, hz23⟩, hat23, hph23⟩ | ⟨hbad23, ⟨z23, rfl⟩, hph23, hat23⟩
    · have hok2 := hok23.2
      have he2 := FS_le (T := T) he hT.2.1
      have hrow2 : μ23.1 1 = f := by rw [hfr23.1 1 (by decide)]; exact hrow
      have hc2 : constM μ23 := ⟨fun j hj => by rw [hfr23.1 2 (by decide)]; exact hc.1 j hj, fun j hj => by rw [hfr23.1 3 (by decide)]; exact hc.2 j hj⟩
      refine J_istore_n (pc := 26) (lv' := [some (.ref 0), some (.int z23)]) dX4_takeSay_26 (Nat.le_of_ble_eq_true rfl) rfl rfl ?_
      refine J_aload_n (pc := 27) dX4_takeSay_27 rfl ?_
      refine J_getI (pc := 28) fF_X4_111 rfl rfl dX4_takeSay_28 ?_
      refine J_if_geW (pc := 31) (-1) hph23 48 dX4_takeSay_31 (by decide) (fun h31 => ?_) (fun h31 => ?_)
      · exfalso; omega
      · refine J_aload_n (pc := 34) dX4_takeSay_34 rfl ?_
        refine J_callVv (pc := 35) fC_X4_136 rfl dX4_takeSay_35 (c_X4_begin) rfl ⟨Nat.le_of_ble_eq_true rfl, Nat.le_of_ble_eq_true rfl⟩ rfl (Nat.le_of_ble_eq_true rfl) (fun μ35 m35 => ?_)
        refine J_aload_n (pc := 38) dX4_takeSay_38 rfl ?_
        refine J_iload_n (pc := 39) dX4_takeSay_39 rfl ?_
        refine J_iconst (pc := 40) (v := 1) dX4_takeSay_40 (by decide) ?_
        refine J_callVv (pc := 41) fC_X4_139 rfl dX4_takeSay_41 (c_X4_hear1 (by rw [m35]; exact hc2) (nvT T (SK L T e) (FN L T (SK L T e))) hz23 (by omega) (by rw [m35, show (beginM μ23).1 0 4 = μ23.1 1 1 from rfl, hrow2]; omega) (by rw [m35, show (beginM μ23).1 0 5 = μ23.1 1 2 from rfl, hrow2]; omega) (by rw [m35, show (beginM μ23).1 0 6 = μ23.1 1 5 from rfl, hrow2]; omega)) rfl ⟨Nat.le_of_ble_eq_true rfl, Nat.le_of_ble_eq_true rfl⟩ rfl (Nat.le_of_ble_eq_true rfl) (fun μ41 m41 => ?_)
        refine J_aload_n (pc := 44) dX4_takeSay_44 rfl ?_
        refine J_callVv (pc := 45) fC_X4_143 rfl dX4_takeSay_45 (c_X4_giveBack) rfl ⟨Nat.le_of_ble_eq_true rfl, Nat.le_of_ble_eq_true rfl⟩ rfl (Nat.le_of_ble_eq_true rfl) (fun μ45 m45 => ?_)
        refine J_vret (pc := 48) dX4_takeSay_48 rfl ?_
        have e : μ45 = giveM (hearM (beginM μ23) (nvT T (SK L T e) (FN L T (SK L T e)))) := by rw [m45, m41, m35]
        refine ⟨rfl, Or.inr ⟨_, _, (cif_pos h7).trans (pn_ok hok23), by rw [e]; exact hph23, by rw [e]; exact hat23, he2, by rw [e, sayM_row, hrow2]⟩, frR_tr (frR_N hfr23) ⟨fun q h1 h2 => by rw [e]; exact sayM_o μ23 _ h1 h2, by rw [e]; rfl, by rw [e]; rfl⟩⟩
    · refine J_istore_n (pc := 26) (lv' := [some (.ref 0), some (.int z23)]) dX4_takeSay_26 (Nat.le_of_ble_eq_true rfl) rfl rfl ?_
      refine J_aload_n (pc := 27) dX4_takeSay_27 rfl ?_
      refine J_getI (pc := 28) fF_X4_111 rfl rfl dX4_takeSay_28 ?_
      refine J_if_geW (pc := 31) (SK L T e : Int) hph23 48 dX4_takeSay_31 (by decide) (fun h31 => ?_) (fun h31 => ?_)
      · refine J_vret (pc := 48) dX4_takeSay_48 rfl ?_
        exact ⟨rfl, Or.inl ⟨_, (cif_pos h7).trans (pn_no hbad23), hph23, hat23⟩, frR_N hfr23⟩
      · exfalso; omega
  · refine J_aload_n (pc := 10) dX4_takeSay_10 rfl ?_
    refine J_callVq (pc := 11) fC_X4_117 rfl dX4_takeSay_11 (c_X4_here hT hn he) rfl ⟨Nat.le_of_ble_eq_true rfl, Nat.le_of_ble_eq_true rfl⟩ rfl (Nat.le_of_ble_eq_true rfl) (fun v11 μ11 q11 => ?_)
    obtain ⟨⟨z11, rfl, e11⟩, g10, g11, hH⟩ := q11
    have hsk := SK_r (T := T) he hT.2.1
    refine J_istore_n (pc := 14) (lv' := [some (.ref 0), some (.int z11)]) dX4_takeSay_14 (Nat.le_of_ble_eq_true rfl) rfl rfl ?_
    refine J_aload_n (pc := 15) dX4_takeSay_15 rfl ?_
    refine J_callVv (pc := 16) fC_X4_125 rfl dX4_takeSay_16 (c_X4_wrong (by rw [hH.1 12 (by decide) (by decide), hφ]; decide)) rfl ⟨Nat.le_of_ble_eq_true rfl, Nat.le_of_ble_eq_true rfl⟩ rfl (Nat.le_of_ble_eq_true rfl) (fun μ16 m16 => ?_)
    refine J_vret (pc := 19) dX4_takeSay_19 rfl ?_
    exact ⟨rfl, Or.inl ⟨_, cif_neg h7, by rw [m16, jI_i, if_pos ⟨rfl, rfl⟩]; exact g11, by rw [m16, jI_i, if_neg (by decide)]; omega⟩, frR_N (by rw [m16]; exact frN_0 (frN_H hH) (by decide))⟩

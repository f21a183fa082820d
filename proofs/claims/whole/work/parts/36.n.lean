/-! ===== lie ===== -/
def gnZ (b : Int) : Int := if b = 1 then 2 else if b = 0 then 1 else 0
/-- moved, sham -/
def gain1 (k wr ht a p n w : Int) : Int := gnZ (jZ wr ht (hA2 k a n w) (hP2 k p n w) w)
def gain0 (wr ht a p w : Int) : Int := gnZ (jZ wr ht a p w)
def GZ (k wr ht a p n w : Int) (q : Nat) : Int := match q with
  | 0 => gain1 k wr ht a p n w
  | 1 => gain1 k wr ht a p n 0
  | 2 => gain0 wr ht a p w
  | _ => gain0 wr ht a p 0
def xo1 (q : Nat) : Nat := match q with
  | 0 => 1
  | 1 => 0
  | 2 => 3
  | _ => 2
def xo2 (q : Nat) : Nat := match q with
  | 0 => 2
  | 1 => 3
  | 2 => 0
  | _ => 1
theorem gn_e {x : Int32} {b : Int} (h : x.toInt = 2 ∧ b = 1 ∨ x.toInt = 1 ∧ b = 0 ∨ x.toInt = 0 ∧ b ≠ 1 ∧ b ≠ 0) : x.toInt = gnZ b := by
  unfold gnZ; omega
theorem gn_1 : (1 : Int32).toInt = 1 := by decide
theorem gn_2 : (2 : Int32).toInt = 2 := by decide
theorem gn_0 : (0 : Int32).toInt = 0 := by decide
def lieI (g : Nat → Int) : Nat → Nat → Int32 → Int32
  | 0, _, b => b
  | d + 1, i, b => lieI g d (i + 1) (if g (xo1 i) ≤ g i ∧ g i ≤ g (xo2 i) then b ||| (1 <<< (iZ (i : Int) &&& 31)) else b)
variable {G : JG}
set_option maxRecDepth 100000 in
set_option maxHeartbeats 4000000 in
theorem c_X3_pairWorth0 {c : JM} {k wr ht a p n b w' : Int} (hk : (c.1 1 0).toInt = k) (hwr : (c.1 1 1).toInt = wr) (hht : (c.1 1 2).toInt = ht) (h3 : (c.1 1 3).toInt = mZ a p b) (h4 : (c.1 1 4).toInt = n) (hr : 0 ≤ a ∧ a ≤ 99 ∧ 0 ≤ p ∧ p ≤ 99 ∧ 0 ≤ b ∧ b ≤ 2) (hn : 0 ≤ n) {w : Int32} (hw : w.toInt = w') (hw5 : 0 ≤ w' ∧ w' ≤ 5) {pv : Int32} (hp : pv.toInt = 0) : Con G shC mX3_pairWorth [.ref 0, .int w, .int pv] c (j_z (GZ k wr ht a p n w' 0) c) := by
  obtain rfl : pv = 0 := z_eq hp
  obtain ⟨d1, d2, d3⟩ := mZ_d (b := b) ⟨hr.1, hr.2.1, hr.2.2.1, hr.2.2.2.1⟩
  have hm0 : 0 ≤ mZ a p b := by unfold mZ; omega
  have g1 := hA2_rng k a n w'
  have g2 := hP2_rng k p n w'
  have g3 := jZ_rng wr ht (hA2 k a n w') (hP2 k p n w') w'
  obtain ⟨y1, y2, y3⟩ := mZ_d (b := (jZ wr ht (hA2 k a n w') (hP2 k p n w') w')) ⟨g1.1, g1.2, g2.1, g2.2⟩
  have hm1 : 0 ≤ mZ (hA2 k a n w') (hP2 k p n w') (jZ wr ht (hA2 k a n w') (hP2 k p n w') w') := by unfold mZ; omega
  refine Con_of [some (.ref 0), some (.int w), some (.int 0), none, none, none] (by decide +kernel) (Nat.le_of_ble_eq_true rfl) (fun _ h => h) ?_
  refine J_iload_n (pc := 0) dX3_pairWorth_0 rfl ?_
  refine J_iconst (pc := 1) (v := 1) dX3_pairWorth_1 (by decide) ?_
  refine J_iand (pc := 2) dX3_pairWorth_2 ?_
  refine J_if_ne_F (pc := 3) 10 dX3_pairWorth_3 (by decide) (by decide) ?_
  refine J_iload_n (pc := 6) dX3_pairWorth_6 rfl ?_
  refine J_goto (pc := 7) 11 dX3_pairWorth_7 (by decide) ?_
  refine J_istore_n (pc := 11) (lv' := [some (.ref 0), some (.int w), some (.int 0), some (.int w), none, none]) dX3_pairWorth_11 (Nat.le_of_ble_eq_true rfl) rfl rfl ?_
  refine J_iload_n (pc := 12) dX3_pairWorth_12 rfl ?_
  refine J_iconst (pc := 13) (v := 2) dX3_pairWorth_13 (by decide) ?_
  refine J_iand (pc := 14) dX3_pairWorth_14 ?_
  refine J_if_eq_T (pc := 15) 22 dX3_pairWorth_15 (by decide) (by decide) ?_
  refine J_iconst (pc := 22) (v := 0) dX3_pairWorth_22 (by decide) ?_
  refine J_istore (pc := 23) (lv' := [some (.ref 0), some (.int w), some (.int 0), some (.int w), some (.int 0), none]) dX3_pairWorth_23 (Nat.le_of_ble_eq_true rfl) rfl rfl ?_
  refine J_iload (pc := 25) dX3_pairWorth_25 rfl ?_
  refine J_if_eq_T (pc := 27) 61 dX3_pairWorth_27 (by decide) (by decide) ?_
  refine J_aload_n (pc := 61) dX3_pairWorth_61 rfl ?_
  refine J_getR (pc := 62) 1 fF_X3_12 rfl rfl dX3_pairWorth_62 ?_
  refine J_aload_n (pc := 65) dX3_pairWorth_65 rfl ?_
  refine J_getR (pc := 66) 1 fF_X3_12 rfl rfl dX3_pairWorth_66 ?_
  refine J_getI (pc := 69) fF_X3_78 rfl rfl dX3_pairWorth_69 ?_
  refine J_aload_n (pc := 72) dX3_pairWorth_72 rfl ?_
  refine J_getR (pc := 73) 1 fF_X3_12 rfl rfl dX3_pairWorth_73 ?_
  refine J_getI (pc := 76) fF_X3_68 rfl rfl dX3_pairWorth_76 ?_
  refine J_iload_n (pc := 79) dX3_pairWorth_79 rfl ?_
  refine J_callVz (pc := 80) fC_X3_160 rfl dX3_pairWorth_80 (c_X0_hear jarAt_1 (mZ a p b) n w' h3 h4 hw (by omega)) rfl ⟨Nat.le_of_ble_eq_true rfl, Nat.le_of_ble_eq_true rfl⟩ rfl (Nat.le_of_ble_eq_true rfl) (fun z80 e80 => ?_)
  have q80 : z80.toInt = (mZ (hA2 k a n w') (hP2 k p n w') (jZ wr ht (hA2 k a n w') (hP2 k p n w') w')) := by rw [e80, hk, hwr, hht, hM_2 ⟨hr.1, hr.2.1, hr.2.2.1, hr.2.2.2.1⟩]
  refine J_istore (pc := 83) (lv' := [some (.ref 0), some (.int w), some (.int 0), some (.int w), some (.int 0), some (.int z80)]) dX3_pairWorth_83 (Nat.le_of_ble_eq_true rfl) rfl rfl ?_
  refine J_iload (pc := 85) dX3_pairWorth_85 rfl ?_
  refine J_callSz (pc := 87) fC_X3_120 dX3_pairWorth_87 (c_X3_beingOf (mZ (hA2 k a n w') (hP2 k p n w') (jZ wr ht (hA2 k a n w') (hP2 k p n w') w')) q80 (by omega)) rfl ⟨Nat.le_of_ble_eq_true rfl, Nat.le_of_ble_eq_true rfl⟩ rfl (Nat.le_of_ble_eq_true rfl) (fun z87 e87 => ?_)
  have q87 : z87.toInt = (jZ wr ht (hA2 k a n w') (hP2 k p n w') w') := by rw [e87, y3]
  rcases (by omega : (jZ wr ht (hA2 k a n w') (hP2 k p n w') w') = 0 ∨ (jZ wr ht (hA2 k a n w') (hP2 k p n w') w') = 1 ∨ ((jZ wr ht (hA2 k a n w') (hP2 k p n w') w') ≠ 0 ∧ (jZ wr ht (hA2 k a n w') (hP2 k p n w') w') ≠ 1)) with h90 | h90 | h90
  · refine J_look (pc := 90) 118 dX3_pairWorth_90 (by decide) (off := 28) (by rw [show z87.toInt = 0 by first | omega | (rw [q87]; omega)]; rfl) (by decide) ?_
    refine J_iconst (pc := 118) (v := 1) dX3_pairWorth_118 (by decide) ?_
    refine J_iret (pc := 119) dX3_pairWorth_119 rfl ?_
    exact ⟨⟨_, rfl, by show _ = gnZ (jZ wr ht (hA2 k a n w') (hP2 k p n w') w'); have t0 := gn_0; have t1 := gn_1; have t2 := gn_2; exact gn_e (by omega)⟩, rfl⟩
  · refine J_look (pc := 90) 116 dX3_pairWorth_90 (by decide) (off := 26) (by rw [show z87.toInt = 1 by first | omega | (rw [q87]; omega)]; rfl) (by decide) ?_
    refine J_iconst (pc := 116) (v := 2) dX3_pairWorth_116 (by decide) ?_
    refine J_iret (pc := 117) dX3_pairWorth_117 rfl ?_
    exact ⟨⟨_, rfl, by show _ = gnZ (jZ wr ht (hA2 k a n w') (hP2 k p n w') w'); have t0 := gn_0; have t1 := gn_1; have t2 := gn_2; exact gn_e (by omega)⟩, rfl⟩
  · have g90 : ¬ 0 = z87.toInt ∧ ¬ 1 = z87.toInt := by first | omega | (rw [q87]; omega)
    refine J_look (pc := 90) 120 dX3_pairWorth_90 (by decide) (off := 30) (by simp [Op.lookupswitch.offset, g90]) (by decide) ?_
    refine J_iconst (pc := 120) (v := 0) dX3_pairWorth_120 (by decide) ?_
    refine J_iret (pc := 121) dX3_pairWorth_121 rfl ?_
    exact ⟨⟨_, rfl, by show _ = gnZ (jZ wr ht (hA2 k a n w') (hP2 k p n w') w'); have t0 := gn_0; have t1 := gn_1; have t2 := gn_2; exact gn_e (by omega)⟩, rfl⟩
set_option maxRecDepth 100000 in
set_option maxHeartbeats 4000000 in
theorem c_X3_pairWorth1 {c : JM} {k wr ht a p n b w' : Int} (hk : (c.1 1 0).toInt = k) (hwr : (c.1 1 1).toInt = wr) (hht : (c.1 1 2).toInt = ht) (h3 : (c.1 1 3).toInt = mZ a p b) (h4 : (c.1 1 4).toInt = n) (hr : 0 ≤ a ∧ a ≤ 99 ∧ 0 ≤ p ∧ p ≤ 99 ∧ 0 ≤ b ∧ b ≤ 2) (hn : 0 ≤ n) {w : Int32} (hw : w.toInt = w') (hw5 : 0 ≤ w' ∧ w' ≤ 5) {pv : Int32} (hp : pv.toInt = 1) : Con G shC mX3_pairWorth [.ref 0, .int w, .int pv] c (j_z (GZ k wr ht a p n w' 1) c) := by
  obtain rfl : pv = 1 := z_eq hp
  obtain ⟨d1, d2, d3⟩ := mZ_d (b := b) ⟨hr.1, hr.2.1, hr.2.2.1, hr.2.2.2.1⟩
  have hm0 : 0 ≤ mZ a p b := by unfold mZ; omega
  have g1 := hA2_rng k a n 0
  have g2 := hP2_rng k p n 0
  have g3 := jZ_rng wr ht (hA2 k a n 0) (hP2 k p n 0) 0
  obtain ⟨y1, y2, y3⟩ := mZ_d (b := (jZ wr ht (hA2 k a n 0) (hP2 k p n 0) 0)) ⟨g1.1, g1.2, g2.1, g2.2⟩
  have hm1 : 0 ≤ mZ (hA2 k a n 0) (hP2 k p n 0) (jZ wr ht (hA2 k a n 0) (hP2 k p n 0) 0) := by unfold mZ; omega
  refine Con_of [some (.ref 0), some (.int w), some (.int 1), none, none, none] (by decide +kernel) (Nat.le_of_ble_eq_true rfl) (fun _ h => h) ?_
  refine J_iload_n (pc := 0) dX3_pairWorth_0 rfl ?_
  refine J_iconst (pc := 1) (v := 1) dX3_pairWorth_1 (by decide) ?_
  refine J_iand (pc := 2) dX3_pairWorth_2 ?_
  refine J_if_ne_T (pc := 3) 10 dX3_pairWorth_3 (by decide) (by decide) ?_
  refine J_iconst (pc := 10) (v := 0) dX3_pairWorth_10 (by decide) ?_
  refine J_istore_n (pc := 11) (lv' := [some (.ref 0), some (.int w), some (.int 1), some (.int 0), none, none]) dX3_pairWorth_11 (Nat.le_of_ble_eq_true rfl) rfl rfl ?_
  refine J_iload_n (pc := 12) dX3_pairWorth_12 rfl ?_
  refine J_iconst (pc := 13) (v := 2) dX3_pairWorth_13 (by decide) ?_
  refine J_iand (pc := 14) dX3_pairWorth_14 ?_
  refine J_if_eq_T (pc := 15) 22 dX3_pairWorth_15 (by decide) (by decide) ?_
  refine J_iconst (pc := 22) (v := 0) dX3_pairWorth_22 (by decide) ?_
  refine J_istore (pc := 23) (lv' := [some (.ref 0), some (.int w), some (.int 1), some (.int 0), some (.int 0), none]) dX3_pairWorth_23 (Nat.le_of_ble_eq_true rfl) rfl rfl ?_
  refine J_iload (pc := 25) dX3_pairWorth_25 rfl ?_
  refine J_if_eq_T (pc := 27) 61 dX3_pairWorth_27 (by decide) (by decide) ?_
  refine J_aload_n (pc := 61) dX3_pairWorth_61 rfl ?_
  refine J_getR (pc := 62) 1 fF_X3_12 rfl rfl dX3_pairWorth_62 ?_
  refine J_aload_n (pc := 65) dX3_pairWorth_65 rfl ?_
  refine J_getR (pc := 66) 1 fF_X3_12 rfl rfl dX3_pairWorth_66 ?_
  refine J_getI (pc := 69) fF_X3_78 rfl rfl dX3_pairWorth_69 ?_
  refine J_aload_n (pc := 72) dX3_pairWorth_72 rfl ?_
  refine J_getR (pc := 73) 1 fF_X3_12 rfl rfl dX3_pairWorth_73 ?_
  refine J_getI (pc := 76) fF_X3_68 rfl rfl dX3_pairWorth_76 ?_
  refine J_iload_n (pc := 79) dX3_pairWorth_79 rfl ?_
  refine J_callVz (pc := 80) fC_X3_160 rfl dX3_pairWorth_80 (c_X0_hear jarAt_1 (mZ a p b) n 0 h3 h4 rfl (by omega)) rfl ⟨Nat.le_of_ble_eq_true rfl, Nat.le_of_ble_eq_true rfl⟩ rfl (Nat.le_of_ble_eq_true rfl) (fun z80 e80 => ?_)
  have q80 : z80.toInt = (mZ (hA2 k a n 0) (hP2 k p n 0) (jZ wr ht (hA2 k a n 0) (hP2 k p n 0) 0)) := by rw [e80, hk, hwr, hht, hM_2 ⟨hr.1, hr.2.1, hr.2.2.1, hr.2.2.2.1⟩]
  refine J_istore (pc := 83) (lv' := [some (.ref 0), some (.int w), some (.int 1), some (.int 0), some (.int 0), some (.int z80)]) dX3_pairWorth_83 (Nat.le_of_ble_eq_true rfl) rfl rfl ?_
  refine J_iload (pc := 85) dX3_pairWorth_85 rfl ?_
  refine J_callSz (pc := 87) fC_X3_120 dX3_pairWorth_87 (c_X3_beingOf (mZ (hA2 k a n 0) (hP2 k p n 0) (jZ wr ht (hA2 k a n 0) (hP2 k p n 0) 0)) q80 (by omega)) rfl ⟨Nat.le_of_ble_eq_true rfl, Nat.le_of_ble_eq_true rfl⟩ rfl (Nat.le_of_ble_eq_true rfl) (fun z87 e87 => ?_)
  have q87 : z87.toInt = (jZ wr ht (hA2 k a n 0) (hP2 k p n 0) 0) := by rw [e87, y3]
  rcases (by omega : (jZ wr ht (hA2 k a n 0) (hP2 k p n 0) 0) = 0 ∨ (jZ wr ht (hA2 k a n 0) (hP2 k p n 0) 0) = 1 ∨ ((jZ wr ht (hA2 k a n 0) (hP2 k p n 0) 0) ≠ 0 ∧ (jZ wr ht (hA2 k a n 0) (hP2 k p n 0) 0) ≠ 1)) with h90 | h90 | h90
  · refine J_look (pc := 90) 118 dX3_pairWorth_90 (by decide) (off := 28) (by rw [show z87.toInt = 0 by first | omega | (rw [q87]; omega)]; rfl) (by decide) ?_
    refine J_iconst (pc := 118) (v := 1) dX3_pairWorth_118 (by decide) ?_
    refine J_iret (pc := 119) dX3_pairWorth_119 rfl ?_
    exact ⟨⟨_, rfl, by show _ = gnZ (jZ wr ht (hA2 k a n 0) (hP2 k p n 0) 0); have t0 := gn_0; have t1 := gn_1; have t2 := gn_2; exact gn_e (by omega)⟩, rfl⟩
  · refine J_look (pc := 90) 116 dX3_pairWorth_90 (by decide) (off := 26) (by rw [show z87.toInt = 1 by first | omega | (rw [q87]; omega)]; rfl) (by decide) ?_
    refine J_iconst (pc := 116) (v := 2) dX3_pairWorth_116 (by decide) ?_
    refine J_iret (pc := 117) dX3_pairWorth_117 rfl ?_
    exact ⟨⟨_, rfl, by show _ = gnZ (jZ wr ht (hA2 k a n 0) (hP2 k p n 0) 0); have t0 := gn_0; have t1 := gn_1; have t2 := gn_2; exact gn_e (by omega)⟩, rfl⟩
  · have g90 : ¬ 0 = z87.toInt ∧ ¬ 1 = z87.toInt := by first | omega | (rw [q87]; omega)
    refine J_look (pc := 90) 120 dX3_pairWorth_90 (by decide) (off := 30) (by simp [Op.lookupswitch.offset, g90]) (by decide) ?_
    refine J_iconst (pc := 120) (v := 0) dX3_pairWorth_120 (by decide) ?_
    refine J_iret (pc := 121) dX3_pairWorth_121 rfl ?_
    exact ⟨⟨_, rfl, by show _ = gnZ (jZ wr ht (hA2 k a n 0) (hP2 k p n 0) 0); have t0 := gn_0; have t1 := gn_1; have t2 := gn_2; exact gn_e (by omega)⟩, rfl⟩
set_option maxRecDepth 100000 in
set_option maxHeartbeats 4000000 in
theorem c_X3_pairWorth2 {c : JM} {k wr ht a p n b w' : Int} (hk : (c.1 1 0).toInt = k) (hwr : (c.1 1 1).toInt = wr) (hht : (c.1 1 2).toInt = ht) (h3 : (c.1 1 3).toInt = mZ a p b) (h4 : (c.1 1 4).toInt = n) (hr : 0 ≤ a ∧ a ≤ 99 ∧ 0 ≤ p ∧ p ≤ 99 ∧ 0 ≤ b ∧ b ≤ 2) (hn : 0 ≤ n) {w : Int32} (hw : w.toInt = w') (hw5 : 0 ≤ w' ∧ w' ≤ 5) {pv : Int32} (hp : pv.toInt = 2) : Con G shC mX3_pairWorth [.ref 0, .int w, .int pv] c (j_z (GZ k wr ht a p n w' 2) c) := by
  obtain rfl : pv = 2 := z_eq hp
  obtain ⟨d1, d2, d3⟩ := mZ_d (b := b) ⟨hr.1, hr.2.1, hr.2.2.1, hr.2.2.2.1⟩
  have hm0 : 0 ≤ mZ a p b := by unfold mZ; omega
  have g3 := jZ_rng wr ht a p w'
  obtain ⟨y1, y2, y3⟩ := mZ_d (b := (jZ wr ht a p w')) ⟨hr.1, hr.2.1, hr.2.2.1, hr.2.2.2.1⟩
  have hm1 : 0 ≤ mZ a p (jZ wr ht a p w') := by unfold mZ; omega
  refine Con_of [some (.ref 0), some (.int w), some (.int 2), none, none, none] (by decide +kernel) (Nat.le_of_ble_eq_true rfl) (fun _ h => h) ?_
  refine J_iload_n (pc := 0) dX3_pairWorth_0 rfl ?_
  refine J_iconst (pc := 1) (v := 1) dX3_pairWorth_1 (by decide) ?_
  refine J_iand (pc := 2) dX3_pairWorth_2 ?_
  refine J_if_ne_F (pc := 3) 10 dX3_pairWorth_3 (by decide) (by decide) ?_
  refine J_iload_n (pc := 6) dX3_pairWorth_6 rfl ?_
  refine J_goto (pc := 7) 11 dX3_pairWorth_7 (by decide) ?_
  refine J_istore_n (pc := 11) (lv' := [some (.ref 0), some (.int w), some (.int 2), some (.int w), none, none]) dX3_pairWorth_11 (Nat.le_of_ble_eq_true rfl) rfl rfl ?_
  refine J_iload_n (pc := 12) dX3_pairWorth_12 rfl ?_
  refine J_iconst (pc := 13) (v := 2) dX3_pairWorth_13 (by decide) ?_
  refine J_iand (pc := 14) dX3_pairWorth_14 ?_
  refine J_if_eq_F (pc := 15) 22 dX3_pairWorth_15 (by decide) (by decide) ?_
  refine J_iconst (pc := 18) (v := 1) dX3_pairWorth_18 (by decide) ?_
  refine J_goto (pc := 19) 23 dX3_pairWorth_19 (by decide) ?_
  refine J_istore (pc := 23) (lv' := [some (.ref 0), some (.int w), some (.int 2), some (.int w), some (.int 1), none]) dX3_pairWorth_23 (Nat.le_of_ble_eq_true rfl) rfl rfl ?_
  refine J_iload (pc := 25) dX3_pairWorth_25 rfl ?_
  refine J_if_eq_F (pc := 27) 61 dX3_pairWorth_27 (by decide) (by decide) ?_
  refine J_aload_n (pc := 30) dX3_pairWorth_30 rfl ?_
  refine J_getR (pc := 31) 1 fF_X3_12 rfl rfl dX3_pairWorth_31 ?_
  refine J_aload_n (pc := 34) dX3_pairWorth_34 rfl ?_
  refine J_getR (pc := 35) 1 fF_X3_12 rfl rfl dX3_pairWorth_35 ?_
  refine J_getI (pc := 38) fF_X3_78 rfl rfl dX3_pairWorth_38 ?_
  refine J_callSz (pc := 41) fC_X3_81 dX3_pairWorth_41 (c_X3_angerOf (mZ a p b) h3 (by omega)) rfl ⟨Nat.le_of_ble_eq_true rfl, Nat.le_of_ble_eq_true rfl⟩ rfl (Nat.le_of_ble_eq_true rfl) (fun z41 e41 => ?_)
  have q41 : z41.toInt = a := by rw [e41, d1]
  refine J_aload_n (pc := 44) dX3_pairWorth_44 rfl ?_
  refine J_getR (pc := 45) 1 fF_X3_12 rfl rfl dX3_pairWorth_45 ?_
  refine J_getI (pc := 48) fF_X3_78 rfl rfl dX3_pairWorth_48 ?_
  refine J_callSz (pc := 51) fC_X3_129 dX3_pairWorth_51 (c_X3_prideOf (mZ a p b) h3 (by omega)) rfl ⟨Nat.le_of_ble_eq_true rfl, Nat.le_of_ble_eq_true rfl⟩ rfl (Nat.le_of_ble_eq_true rfl) (fun z51 e51 => ?_)
  have q51 : z51.toInt = p := by rw [e51, d2]
  refine J_iload_n (pc := 54) dX3_pairWorth_54 rfl ?_
  refine J_callVz (pc := 55) fC_X3_242 rfl dX3_pairWorth_55 (c_X0_judge jarAt_1 a p w' q41 q51 hw (by omega)) rfl ⟨Nat.le_of_ble_eq_true rfl, Nat.le_of_ble_eq_true rfl⟩ rfl (Nat.le_of_ble_eq_true rfl) (fun z55 e55 => ?_)
  have q55 : z55.toInt = (mZ a p (jZ wr ht a p w')) := by rw [e55, hwr, hht]
  refine J_goto (pc := 58) 83 dX3_pairWorth_58 (by decide) ?_
  refine J_istore (pc := 83) (lv' := [some (.ref 0), some (.int w), some (.int 2), some (.int w), some (.int 1), some (.int z55)]) dX3_pairWorth_83 (Nat.le_of_ble_eq_true rfl) rfl rfl ?_
  refine J_iload (pc := 85) dX3_pairWorth_85 rfl ?_
  refine J_callSz (pc := 87) fC_X3_120 dX3_pairWorth_87 (c_X3_beingOf (mZ a p (jZ wr ht a p w')) q55 (by omega)) rfl ⟨Nat.le_of_ble_eq_true rfl, Nat.le_of_ble_eq_true rfl⟩ rfl (Nat.le_of_ble_eq_true rfl) (fun z87 e87 => ?_)
  have q87 : z87.toInt = (jZ wr ht a p w') := by rw [e87, y3]
  rcases (by omega : (jZ wr ht a p w') = 0 ∨ (jZ wr ht a p w') = 1 ∨ ((jZ wr ht a p w') ≠ 0 ∧ (jZ wr ht a p w') ≠ 1)) with h90 | h90 | h90
  · refine J_look (pc := 90) 118 dX3_pairWorth_90 (by decide) (off := 28) (by rw [show z87.toInt = 0 by first | omega | (rw [q87]; omega)]; rfl) (by decide) ?_
    refine J_iconst (pc := 118) (v := 1) dX3_pairWorth_118 (by decide) ?_
    refine J_iret (pc := 119) dX3_pairWorth_119 rfl ?_
    exact ⟨⟨_, rfl, by show _ = gnZ (jZ wr ht a p w'); have t0 := gn_0; have t1 := gn_1; have t2 := gn_2; exact gn_e (by omega)⟩, rfl⟩
  · refine J_look (pc := 90) 116 dX3_pairWorth_90 (by decide) (off := 26) (by rw [show z87.toInt = 1 by first | omega | (rw [q87]; omega)]; rfl) (by decide) ?_
    refine J_iconst (pc := 116) (v := 2) dX3_pairWorth_116 (by decide) ?_
    refine J_iret (pc := 117) dX3_pairWorth_117 rfl ?_
    exact ⟨⟨_, rfl, by show _ = gnZ (jZ wr ht a p w'); have t0 := gn_0; have t1 := gn_1; have t2 := gn_2; exact gn_e (by omega)⟩, rfl⟩
  · have g90 : ¬ 0 = z87.toInt ∧ ¬ 1 = z87.toInt := by first | omega | (rw [q87]; omega)
    refine J_look (pc := 90) 120 dX3_pairWorth_90 (by decide) (off := 30) (by simp [Op.lookupswitch.offset, g90]) (by decide) ?_
    refine J_iconst (pc := 120) (v := 0) dX3_pairWorth_120 (by decide) ?_
    refine J_iret (pc := 121) dX3_pairWorth_121 rfl ?_
    exact ⟨⟨_, rfl, by show _ = gnZ (jZ wr ht a p w'); have t0 := gn_0; have t1 := gn_1; have t2 := gn_2; exact gn_e (by omega)⟩, rfl⟩
set_option maxRecDepth 100000 in
set_option maxHeartbeats 4000000 in
theorem c_X3_pairWorth3 {c : JM} {k wr ht a p n b w' : Int} (hk : (c.1 1 0).toInt = k) (hwr : (c.1 1 1).toInt = wr) (hht : (c.1 1 2).toInt = ht) (h3 : (c.1 1 3).toInt = mZ a p b) (h4 : (c.1 1 4).toInt = n) (hr : 0 ≤ a ∧ a ≤ 99 ∧ 0 ≤ p ∧ p ≤ 99 ∧ 0 ≤ b ∧ b ≤ 2) (hn : 0 ≤ n) {w : Int32} (hw : w.toInt = w') (hw5 : 0 ≤ w' ∧ w' ≤ 5) {pv : Int32} (hp : pv.toInt = 3) : Con G shC mX3_pairWorth [.ref 0, .int w, .int pv] c (j_z (GZ k wr ht a p n w' 3) c) := by
  obtain rfl : pv = 3 := z_eq hp
  obtain ⟨d1, d2, d3⟩ := mZ_d (b := b) ⟨hr.1, hr.2.1, hr.2.2.1, hr.2.2.2.1⟩
  have hm0 : 0 ≤ mZ a p b := by unfold mZ; omega
  have g3 := jZ_rng wr ht a p 0
  obtain ⟨y1, y2, y3⟩ := mZ_d (b := (jZ wr ht a p 0)) ⟨hr.1, hr.2.1, hr.2.2.1, hr.2.2.2.1⟩
  have hm1 : 0 ≤ mZ a p (jZ wr ht a p 0) := by unfold mZ; omega
  refine Con_of [some (.ref 0), some (.int w), some (.int 3), none, none, none] (by decide +kernel) (Nat.le_of_ble_eq_true rfl) (fun _ h => h) ?_
  refine J_iload_n (pc := 0) dX3_pairWorth_0 rfl ?_
  refine J_iconst (pc := 1) (v := 1) dX3_pairWorth_1 (by decide) ?_
  refine J_iand (pc := 2) dX3_pairWorth_2 ?_
  refine J_if_ne_T (pc := 3) 10 dX3_pairWorth_3 (by decide) (by decide) ?_
  refine J_iconst (pc := 10) (v := 0) dX3_pairWorth_10 (by decide) ?_
  refine J_istore_n (pc := 11) (lv' := [some (.ref 0), some (.int w), some (.int 3), some (.int 0), none, none]) dX3_pairWorth_11 (Nat.le_of_ble_eq_true rfl) rfl rfl ?_
  refine J_iload_n (pc := 12) dX3_pairWorth_12 rfl ?_
  refine J_iconst (pc := 13) (v := 2) dX3_pairWorth_13 (by decide) ?_
  refine J_iand (pc := 14) dX3_pairWorth_14 ?_
  refine J_if_eq_F (pc := 15) 22 dX3_pairWorth_15 (by decide) (by decide) ?_
  refine J_iconst (pc := 18) (v := 1) dX3_pairWorth_18 (by decide) ?_
  refine J_goto (pc := 19) 23 dX3_pairWorth_19 (by decide) ?_
  refine J_istore (pc := 23) (lv' := [some (.ref 0), some (.int w), some (.int 3), some (.int 0), some (.int 1), none]) dX3_pairWorth_23 (Nat.le_of_ble_eq_true rfl) rfl rfl ?_
  refine J_iload (pc := 25) dX3_pairWorth_25 rfl ?_
  refine J_if_eq_F (pc := 27) 61 dX3_pairWorth_27 (by decide) (by decide) ?_
  refine J_aload_n (pc := 30) dX3_pairWorth_30 rfl ?_
  refine J_getR (pc := 31) 1 fF_X3_12 rfl rfl dX3_pairWorth_31 ?_
  refine J_aload_n (pc := 34) dX3_pairWorth_34 rfl ?_
  refine J_getR (pc := 35) 1 fF_X3_12 rfl rfl dX3_pairWorth_35 ?_
  refine J_getI (pc := 38) fF_X3_78 rfl rfl dX3_pairWorth_38 ?_
  refine J_callSz (pc := 41) fC_X3_81 dX3_pairWorth_41 (c_X3_angerOf (mZ a p b) h3 (by omega)) rfl ⟨Nat.le_of_ble_eq_true rfl, Nat.le_of_ble_eq_true rfl⟩ rfl (Nat.le_of_ble_eq_true rfl) (fun z41 e41 => ?_)
  have q41 : z41.toInt = a := by rw [e41, d1]
  refine J_aload_n (pc := 44) dX3_pairWorth_44 rfl ?_
  refine J_getR (pc := 45) 1 fF_X3_12 rfl rfl dX3_pairWorth_45 ?_
  refine J_getI (pc := 48) fF_X3_78 rfl rfl dX3_pairWorth_48 ?_
  refine J_callSz (pc := 51) fC_X3_129 dX3_pairWorth_51 (c_X3_prideOf (mZ a p b) h3 (by omega)) rfl ⟨Nat.le_of_ble_eq_true rfl, Nat.le_of_ble_eq_true rfl⟩ rfl (Nat.le_of_ble_eq_true rfl) (fun z51 e51 => ?_)
  have q51 : z51.toInt = p := by rw [e51, d2]
  refine J_iload_n (pc := 54) dX3_pairWorth_54 rfl ?_
  refine J_callVz (pc := 55) fC_X3_242 rfl dX3_pairWorth_55 (c_X0_judge jarAt_1 a p 0 q41 q51 rfl (by omega)) rfl ⟨Nat.le_of_ble_eq_true rfl, Nat.le_of_ble_eq_true rfl⟩ rfl (Nat.le_of_ble_eq_true rfl) (fun z55 e55 => ?_)
  have q55 : z55.toInt = (mZ a p (jZ wr ht a p 0)) := by rw [e55, hwr, hht]
  refine J_goto (pc := 58) 83 dX3_pairWorth_58 (by decide) ?_
  refine J_istore (pc := 83) (lv' := [some (.ref 0), some (.int w), some (.int 3), some (.int 0), some (.int 1), some (.int z55)]) dX3_pairWorth_83 (Nat.le_of_ble_eq_true rfl) rfl rfl ?_
  refine J_iload (pc := 85) dX3_pairWorth_85 rfl ?_
  refine J_callSz (pc := 87) fC_X3_120 dX3_pairWorth_87 (c_X3_beingOf (mZ a p (jZ wr ht a p 0)) q55 (by omega)) rfl ⟨Nat.le_of_ble_eq_true rfl, Nat.le_of_ble_eq_true rfl⟩ rfl (Nat.le_of_ble_eq_true rfl) (fun z87 e87 => ?_)
  have q87 : z87.toInt = (jZ wr ht a p 0) := by rw [e87, y3]
  rcases (by omega : (jZ wr ht a p 0) = 0 ∨ (jZ wr ht a p 0) = 1 ∨ ((jZ wr ht a p 0) ≠ 0 ∧ (jZ wr ht a p 0) ≠ 1)) with h90 | h90 | h90
  · refine J_look (pc := 90) 118 dX3_pairWorth_90 (by decide) (off := 28) (by rw [show z87.toInt = 0 by first | omega | (rw [q87]; omega)]; rfl) (by decide) ?_
    refine J_iconst (pc := 118) (v := 1) dX3_pairWorth_118 (by decide) ?_
    refine J_iret (pc := 119) dX3_pairWorth_119 rfl ?_
    exact ⟨⟨_, rfl, by show _ = gnZ (jZ wr ht a p 0); have t0 := gn_0; have t1 := gn_1; have t2 := gn_2; exact gn_e (by omega)⟩, rfl⟩
  · refine J_look (pc := 90) 116 dX3_pairWorth_90 (by decide) (off := 26) (by rw [show z87.toInt = 1 by first | omega | (rw [q87]; omega)]; rfl) (by decide) ?_
    refine J_iconst (pc := 116) (v := 2) dX3_pairWorth_116 (by decide) ?_
    refine J_iret (pc := 117) dX3_pairWorth_117 rfl ?_
    exact ⟨⟨_, rfl, by show _ = gnZ (jZ wr ht a p 0); have t0 := gn_0; have t1 := gn_1; have t2 := gn_2; exact gn_e (by omega)⟩, rfl⟩
  · have g90 : ¬ 0 = z87.toInt ∧ ¬ 1 = z87.toInt := by first | omega | (rw [q87]; omega)
    refine J_look (pc := 90) 120 dX3_pairWorth_90 (by decide) (off := 30) (by simp [Op.lookupswitch.offset, g90]) (by decide) ?_
    refine J_iconst (pc := 120) (v := 0) dX3_pairWorth_120 (by decide) ?_
    refine J_iret (pc := 121) dX3_pairWorth_121 rfl ?_
    exact ⟨⟨_, rfl, by show _ = gnZ (jZ wr ht a p 0); have t0 := gn_0; have t1 := gn_1; have t2 := gn_2; exact gn_e (by omega)⟩, rfl⟩
set_option maxRecDepth 100000 in
set_option maxHeartbeats 4000000 in
theorem l_k_lie {c : JM} {k wr ht a p n b w' : Int} (hk : (c.1 1 0).toInt = k) (hwr : (c.1 1 1).toInt = wr) (hht : (c.1 1 2).toInt = ht) (h3 : (c.1 1 3).toInt = mZ a p b) (h4 : (c.1 1 4).toInt = n) (hr : 0 ≤ a ∧ a ≤ 99 ∧ 0 ≤ p ∧ p ≤ 99 ∧ 0 ≤ b ∧ b ≤ 2) (hn : 0 ≤ n) {w : Int32} (hw : w.toInt = w') (hw5 : 0 ≤ w' ∧ w' ≤ 5)  : ∀ d : Nat, ∀ (i : Nat) (iv bv : Int32), i + d = 4 → iv.toInt = (i : Int) → J G shC mX3_lie 38 [some (.ref 0), some (.int w), some (.int bv), some (.int iv), none] [] c (fun v μ' => v = some (.int (lieI (GZ k wr ht a p n w') d i bv)) ∧ μ' = c) := by
  intro d
  induction d with
  | zero =>
    intro i iv bv hd hi
    refine J_iload_n (pc := 38) dX3_lie_38 rfl ?_
    refine J_iconst (pc := 39) (v := 4) dX3_lie_39 (by decide) ?_
    refine J_icmp_geW (pc := 40) (i : Int) 4 hi rfl 89 dX3_lie_40 (by decide) (fun h40 => ?_) (fun h40 => ?_)
    · refine J_iload_n (pc := 89) dX3_lie_89 rfl ?_
      refine J_iret (pc := 90) dX3_lie_90 rfl ?_
      exact ⟨rfl, rfl⟩
    · exfalso; omega
  | succ d ih =>
    intro i iv bv hd hi
    refine J_iload_n (pc := 38) dX3_lie_38 rfl ?_
    refine J_iconst (pc := 39) (v := 4) dX3_lie_39 (by decide) ?_
    refine J_icmp_geW (pc := 40) (i : Int) 4 hi rfl 89 dX3_lie_40 (by decide) (fun h40 => ?_) (fun h40 => ?_)
    · exfalso; omega
    · rcases (by omega : i = 0 ∨ i = 1 ∨ i = 2 ∨ i = 3) with rfl | rfl | rfl | rfl
      · obtain rfl : iv = 0 := z_eq hi
        refine J_aload_n (pc := 43) dX3_lie_43 rfl ?_
        refine J_iload_n (pc := 44) dX3_lie_44 rfl ?_
        refine J_iload_n (pc := 45) dX3_lie_45 rfl ?_
        refine J_callVz (pc := 46) fC_X3_195 rfl dX3_lie_46 (c_X3_pairWorth0 hk hwr hht h3 h4 hr hn hw hw5 rfl) rfl ⟨Nat.le_of_ble_eq_true rfl, Nat.le_of_ble_eq_true rfl⟩ rfl (Nat.le_of_ble_eq_true rfl) (fun z46 e46 => ?_)
        refine J_istore (pc := 49) (lv' := [some (.ref 0), some (.int w), some (.int bv), some (.int 0), some (.int z46)]) dX3_lie_49 (Nat.le_of_ble_eq_true rfl) rfl rfl ?_
        refine J_iload (pc := 51) dX3_lie_51 rfl ?_
        refine J_aload_n (pc := 53) dX3_lie_53 rfl ?_
        refine J_iload_n (pc := 54) dX3_lie_54 rfl ?_
        refine J_iload_n (pc := 55) dX3_lie_55 rfl ?_
        refine J_iconst (pc := 56) (v := 1) dX3_lie_56 (by decide) ?_
        refine J_ixor (pc := 57) dX3_lie_57 ?_
        refine J_callVz (pc := 58) fC_X3_195 rfl dX3_lie_58 (c_X3_pairWorth1 hk hwr hht h3 h4 hr hn hw hw5 (by decide)) rfl ⟨Nat.le_of_ble_eq_true rfl, Nat.le_of_ble_eq_true rfl⟩ rfl (Nat.le_of_ble_eq_true rfl) (fun z58 e58 => ?_)
        refine J_icmp_ltW (pc := 61) (GZ k wr ht a p n w' 0) (GZ k wr ht a p n w' 1) e46 e58 83 dX3_lie_61 (by decide) (fun h61 => ?_) (fun h61 => ?_)
        · refine J_iincW' (pc := 83) 0 rfl (lv' := fun iq_ => [some (.ref 0), some (.int w), some (.int bv), some (.int iq_), some (.int z46)]) dX3_lie_83 rfl (by omega) (by decide) (Nat.le_of_ble_eq_true rfl) rfl (fun _ => rfl) (fun z83 e83 => ?_)
          refine J_goto (pc := 86) 38 dX3_lie_86 (by decide) ?_
          refine J_lv' (lv' := [some (.ref 0), some (.int w), some (.int bv), some (.int z83), none]) (by repeat' constructor) (J_mono (ih 1 z83 bv (by omega) (by omega)) (fun v μ' hh => ⟨?_, hh.2⟩))
          rw [hh.1, lieI]
          rw [if_neg (fun z => by have z1 : GZ k wr ht a p n w' 1 ≤ GZ k wr ht a p n w' 0 := z.1; have z2 : GZ k wr ht a p n w' 0 ≤ GZ k wr ht a p n w' 2 := z.2; omega)]
        · refine J_iload (pc := 64) dX3_lie_64 rfl ?_
          refine J_aload_n (pc := 66) dX3_lie_66 rfl ?_
          refine J_iload_n (pc := 67) dX3_lie_67 rfl ?_
          refine J_iload_n (pc := 68) dX3_lie_68 rfl ?_
          refine J_iconst (pc := 69) (v := 2) dX3_lie_69 (by decide) ?_
          refine J_ixor (pc := 70) dX3_lie_70 ?_
          refine J_callVz (pc := 71) fC_X3_195 rfl dX3_lie_71 (c_X3_pairWorth2 hk hwr hht h3 h4 hr hn hw hw5 (by decide)) rfl ⟨Nat.le_of_ble_eq_true rfl, Nat.le_of_ble_eq_true rfl⟩ rfl (Nat.le_of_ble_eq_true rfl) (fun z71 e71 => ?_)
          refine J_icmp_gtW (pc := 74) (GZ k wr ht a p n w' 0) (GZ k wr ht a p n w' 2) e46 e71 83 dX3_lie_74 (by decide) (fun h74 => ?_) (fun h74 => ?_)
          · refine J_iincW' (pc := 83) 0 rfl (lv' := fun iq_ => [some (.ref 0), some (.int w), some (.int bv), some (.int iq_), some (.int z46)]) dX3_lie_83 rfl (by omega) (by decide) (Nat.le_of_ble_eq_true rfl) rfl (fun _ => rfl) (fun z83 e83 => ?_)
            refine J_goto (pc := 86) 38 dX3_lie_86 (by decide) ?_
            refine J_lv' (lv' := [some (.ref 0), some (.int w), some (.int bv), some (.int z83), none]) (by repeat' constructor) (J_mono (ih 1 z83 bv (by omega) (by omega)) (fun v μ' hh => ⟨?_, hh.2⟩))
            rw [hh.1, lieI]
            rw [if_neg (fun z => by have z1 : GZ k wr ht a p n w' 1 ≤ GZ k wr ht a p n w' 0 := z.1; have z2 : GZ k wr ht a p n w' 0 ≤ GZ k wr ht a p n w' 2 := z.2; omega)]
          · refine J_iload_n (pc := 77) dX3_lie_77 rfl ?_
            refine J_iconst (pc := 78) (v := 1) dX3_lie_78 (by decide) ?_
            refine J_iload_n (pc := 79) dX3_lie_79 rfl ?_
            refine J_ishl (pc := 80) dX3_lie_80 ?_
            refine J_ior (pc := 81) dX3_lie_81 ?_
            refine J_istore_n (pc := 82) (lv' := [some (.ref 0), some (.int w), some (.int (bv ||| ((1 : Int32) <<< (0 &&& 31)))), some (.int 0), some (.int z46)]) dX3_lie_82 (Nat.le_of_ble_eq_true rfl) rfl rfl ?_
            refine J_iincW' (pc := 83) 0 rfl (lv' := fun iq_ => [some (.ref 0), some (.int w), some (.int (bv ||| ((1 : Int32) <<< (0 &&& 31)))), some (.int iq_), some (.int z46)]) dX3_lie_83 rfl (by omega) (by decide) (Nat.le_of_ble_eq_true rfl) rfl (fun _ => rfl) (fun z83 e83 => ?_)
            refine J_goto (pc := 86) 38 dX3_lie_86 (by decide) ?_
            refine J_lv' (lv' := [some (.ref 0), some (.int w), some (.int (bv ||| ((1 : Int32) <<< (0 &&& 31)))), some (.int z83), none]) (by repeat' constructor) (J_mono (ih 1 z83 (bv ||| ((1 : Int32) <<< (0 &&& 31))) (by omega) (by omega)) (fun v μ' hh => ⟨?_, hh.2⟩))
            rw [hh.1, lieI]
            rw [if_pos ⟨h61, h74⟩]
            rfl
      · obtain rfl : iv = 1 := z_eq hi
        refine J_aload_n (pc := 43) dX3_lie_43 rfl ?_
        refine J_iload_n (pc := 44) dX3_lie_44 rfl ?_
        refine J_iload_n (pc := 45) dX3_lie_45 rfl ?_
        refine J_callVz (pc := 46) fC_X3_195 rfl dX3_lie_46 (c_X3_pairWorth1 hk hwr hht h3 h4 hr hn hw hw5 rfl) rfl ⟨Nat.le_of_ble_eq_true rfl, Nat.le_of_ble_eq_true rfl⟩ rfl (Nat.le_of_ble_eq_true rfl) (fun z46 e46 => ?_)
        refine J_istore (pc := 49) (lv' := [some (.ref 0), some (.int w), some (.int bv), some (.int 1), some (.int z46)]) dX3_lie_49 (Nat.le_of_ble_eq_true rfl) rfl rfl ?_
        refine J_iload (pc := 51) dX3_lie_51 rfl ?_
        refine J_aload_n (pc := 53) dX3_lie_53 rfl ?_
        refine J_iload_n (pc := 54) dX3_lie_54 rfl ?_
        refine J_iload_n (pc := 55) dX3_lie_55 rfl ?_
        refine J_iconst (pc := 56) (v := 1) dX3_lie_56 (by decide) ?_
        refine J_ixor (pc := 57) dX3_lie_57 ?_
        refine J_callVz (pc := 58) fC_X3_195 rfl dX3_lie_58 (c_X3_pairWorth0 hk hwr hht h3 h4 hr hn hw hw5 (by decide)) rfl ⟨Nat.le_of_ble_eq_true rfl, Nat.le_of_ble_eq_true rfl⟩ rfl (Nat.le_of_ble_eq_true rfl) (fun z58 e58 => ?_)
        refine J_icmp_ltW (pc := 61) (GZ k wr ht a p n w' 1) (GZ k wr ht a p n w' 0) e46 e58 83 dX3_lie_61 (by decide) (fun h61 => ?_) (fun h61 => ?_)
        · refine J_iincW' (pc := 83) 1 rfl (lv' := fun iq_ => [some (.ref 0), some (.int w), some (.int bv), some (.int iq_), some (.int z46)]) dX3_lie_83 rfl (by omega) (by decide) (Nat.le_of_ble_eq_true rfl) rfl (fun _ => rfl) (fun z83 e83 => ?_)
          refine J_goto (pc := 86) 38 dX3_lie_86 (by decide) ?_
          refine J_lv' (lv' := [some (.ref 0), some (.int w), some (.int bv), some (.int z83), none]) (by repeat' constructor) (J_mono (ih 2 z83 bv (by omega) (by omega)) (fun v μ' hh => ⟨?_, hh.2⟩))
          rw [hh.1, lieI]
          rw [if_neg (fun z => by have z1 : GZ k wr ht a p n w' 0 ≤ GZ k wr ht a p n w' 1 := z.1; have z2 : GZ k wr ht a p n w' 1 ≤ GZ k wr ht a p n w' 3 := z.2; omega)]
        · refine J_iload (pc := 64) dX3_lie_64 rfl ?_
          refine J_aload_n (pc := 66) dX3_lie_66 rfl ?_
          refine J_iload_n (pc := 67) dX3_lie_67 rfl ?_
          refine J_iload_n (pc := 68) dX3_lie_68 rfl ?_
          refine J_iconst (pc := 69) (v := 2) dX3_lie_69 (by decide) ?_
          refine J_ixor (pc := 70) dX3_lie_70 ?_
          refine J_callVz (pc := 71) fC_X3_195 rfl dX3_lie_71 (c_X3_pairWorth3 hk hwr hht h3 h4 hr hn hw hw5 (by decide)) rfl ⟨Nat.le_of_ble_eq_true rfl, Nat.le_of_ble_eq_true rfl⟩ rfl (Nat.le_of_ble_eq_true rfl) (fun z71 e71 => ?_)
          refine J_icmp_gtW (pc := 74) (GZ k wr ht a p n w' 1) (GZ k wr ht a p n w' 3) e46 e71 83 dX3_lie_74 (by decide) (fun h74 => ?_) (fun h74 => ?_)
          · refine J_iincW' (pc := 83) 1 rfl (lv' := fun iq_ => [some (.ref 0), some (.int w), some (.int bv), some (.int iq_), some (.int z46)]) dX3_lie_83 rfl (by omega) (by decide) (Nat.le_of_ble_eq_true rfl) rfl (fun _ => rfl) (fun z83 e83 => ?_)
            refine J_goto (pc := 86) 38 dX3_lie_86 (by decide) ?_
            refine J_lv' (lv' := [some (.ref 0), some (.int w), some (.int bv), some (.int z83), none]) (by repeat' constructor) (J_mono (ih 2 z83 bv (by omega) (by omega)) (fun v μ' hh => ⟨?_, hh.2⟩))
            rw [hh.1, lieI]
            rw [if_neg (fun z => by have z1 : GZ k wr ht a p n w' 0 ≤ GZ k wr ht a p n w' 1 := z.1; have z2 : GZ k wr ht a p n w' 1 ≤ GZ k wr ht a p n w' 3 := z.2; omega)]
          · refine J_iload_n (pc := 77) dX3_lie_77 rfl ?_
            refine J_iconst (pc := 78) (v := 1) dX3_lie_78 (by decide) ?_
            refine J_iload_n (pc := 79) dX3_lie_79 rfl ?_
            refine J_ishl (pc := 80) dX3_lie_80 ?_
            refine J_ior (pc := 81) dX3_lie_81 ?_
            refine J_istore_n (pc := 82) (lv' := [some (.ref 0), some (.int w), some (.int (bv ||| ((1 : Int32) <<< (1 &&& 31)))), some (.int 1), some (.int z46)]) dX3_lie_82 (Nat.le_of_ble_eq_true rfl) rfl rfl ?_
            refine J_iincW' (pc := 83) 1 rfl (lv' := fun iq_ => [some (.ref 0), some (.int w), some (.int (bv ||| ((1 : Int32) <<< (1 &&& 31)))), some (.int iq_), some (.int z46)]) dX3_lie_83 rfl (by omega) (by decide) (Nat.le_of_ble_eq_true rfl) rfl (fun _ => rfl) (fun z83 e83 => ?_)
            refine J_goto (pc := 86) 38 dX3_lie_86 (by decide) ?_
            refine J_lv' (lv' := [some (.ref 0), some (.int w), some (.int (bv ||| ((1 : Int32) <<< (1 &&& 31)))), some (.int z83), none]) (by repeat' constructor) (J_mono (ih 2 z83 (bv ||| ((1 : Int32) <<< (1 &&& 31))) (by omega) (by omega)) (fun v μ' hh => ⟨?_, hh.2⟩))
            rw [hh.1, lieI]
            rw [if_pos ⟨h61, h74⟩]
            rfl
      · obtain rfl : iv = 2 := z_eq hi
        refine J_aload_n (pc := 43) dX3_lie_43 rfl ?_
        refine J_iload_n (pc := 44) dX3_lie_44 rfl ?_
        refine J_iload_n (pc := 45) dX3_lie_45 rfl ?_
        refine J_callVz (pc := 46) fC_X3_195 rfl dX3_lie_46 (c_X3_pairWorth2 hk hwr hht h3 h4 hr hn hw hw5 rfl) rfl ⟨Nat.le_of_ble_eq_true rfl, Nat.le_of_ble_eq_true rfl⟩ rfl (Nat.le_of_ble_eq_true rfl) (fun z46 e46 => ?_)
        refine J_istore (pc := 49) (lv' := [some (.ref 0), some (.int w), some (.int bv), some (.int 2), some (.int z46)]) dX3_lie_49 (Nat.le_of_ble_eq_true rfl) rfl rfl ?_
        refine J_iload (pc := 51) dX3_lie_51 rfl ?_
        refine J_aload_n (pc := 53) dX3_lie_53 rfl ?_
        refine J_iload_n (pc := 54) dX3_lie_54 rfl ?_
        refine J_iload_n (pc := 55) dX3_lie_55 rfl ?_
        refine J_iconst (pc := 56) (v := 1) dX3_lie_56 (by decide) ?_
        refine J_ixor (pc := 57) dX3_lie_57 ?_
        refine J_callVz (pc := 58) fC_X3_195 rfl dX3_lie_58 (c_X3_pairWorth3 hk hwr hht h3 h4 hr hn hw hw5 (by decide)) rfl ⟨Nat.le_of_ble_eq_true rfl, Nat.le_of_ble_eq_true rfl⟩ rfl (Nat.le_of_ble_eq_true rfl) (fun z58 e58 => ?_)
        refine J_icmp_ltW (pc := 61) (GZ k wr ht a p n w' 2) (GZ k wr ht a p n w' 3) e46 e58 83 dX3_lie_61 (by decide) (fun h61 => ?_) (fun h61 => ?_)
        · refine J_iincW' (pc := 83) 2 rfl (lv' := fun iq_ => [some (.ref 0), some (.int w), some (.int bv), some (.int iq_), some (.int z46)]) dX3_lie_83 rfl (by omega) (by decide) (Nat.le_of_ble_eq_true rfl) rfl (fun _ => rfl) (fun z83 e83 => ?_)
          refine J_goto (pc := 86) 38 dX3_lie_86 (by decide) ?_
          refine J_lv' (lv' := [some (.ref 0), some (.int w), some (.int bv), some (.int z83), none]) (by repeat' constructor) (J_mono (ih 3 z83 bv (by omega) (by omega)) (fun v μ' hh => ⟨?_, hh.2⟩))
          rw [hh.1, lieI]
          rw [if_neg (fun z => by have z1 : GZ k wr ht a p n w' 3 ≤ GZ k wr ht a p n w' 2 := z.1; have z2 : GZ k wr ht a p n w' 2 ≤ GZ k wr ht a p n w' 0 := z.2; omega)]
        · refine J_iload (pc := 64) dX3_lie_64 rfl ?_
          refine J_aload_n (pc := 66) dX3_lie_66 rfl ?_
          refine J_iload_n (pc := 67) dX3_lie_67 rfl ?_
          refine J_iload_n (pc := 68) dX3_lie_68 rfl ?_
          refine J_iconst (pc := 69) (v := 2) dX3_lie_69 (by decide) ?_
          refine J_ixor (pc := 70) dX3_lie_70 ?_
          refine J_callVz (pc := 71) fC_X3_195 rfl dX3_lie_71 (c_X3_pairWorth0 hk hwr hht h3 h4 hr hn hw hw5 (by decide)) rfl ⟨Nat.le_of_ble_eq_true rfl, Nat.le_of_ble_eq_true rfl⟩ rfl (Nat.le_of_ble_eq_true rfl) (fun z71 e71 => ?_)
          refine J_icmp_gtW (pc := 74) (GZ k wr ht a p n w' 2) (GZ k wr ht a p n w' 0) e46 e71 83 dX3_lie_74 (by decide) (fun h74 => ?_) (fun h74 => ?_)
          · refine J_iincW' (pc := 83) 2 rfl (lv' := fun iq_ => [some (.ref 0), some (.int w), some (.int bv), some (.int iq_), some (.int z46)]) dX3_lie_83 rfl (by omega) (by decide) (Nat.le_of_ble_eq_true rfl) rfl (fun _ => rfl) (fun z83 e83 => ?_)
            refine J_goto (pc := 86) 38 dX3_lie_86 (by decide) ?_
            refine J_lv' (lv' := [some (.ref 0), some (.int w), some (.int bv), some (.int z83), none]) (by repeat' constructor) (J_mono (ih 3 z83 bv (by omega) (by omega)) (fun v μ' hh => ⟨?_, hh.2⟩))
            rw [hh.1, lieI]
            rw [if_neg (fun z => by have z1 : GZ k wr ht a p n w' 3 ≤ GZ k wr ht a p n w' 2 := z.1; have z2 : GZ k wr ht a p n w' 2 ≤ GZ k wr ht a p n w' 0 := z.2; omega)]
          · refine J_iload_n (pc := 77) dX3_lie_77 rfl ?_
            refine J_iconst (pc := 78) (v := 1) dX3_lie_78 (by decide) ?_
            refine J_iload_n (pc := 79) dX3_lie_79 rfl ?_
            refine J_ishl (pc := 80) dX3_lie_80 ?_
            refine J_ior (pc := 81) dX3_lie_81 ?_
            refine J_istore_n (pc := 82) (lv' := [some (.ref 0), some (.int w), some (.int (bv ||| ((1 : Int32) <<< (2 &&& 31)))), some (.int 2), some (.int z46)]) dX3_lie_82 (Nat.le_of_ble_eq_true rfl) rfl rfl ?_
            refine J_iincW' (pc := 83) 2 rfl (lv' := fun iq_ => [some (.ref 0), some (.int w), some (.int (bv ||| ((1 : Int32) <<< (2 &&& 31)))), some (.int iq_), some (.int z46)]) dX3_lie_83 rfl (by omega) (by decide) (Nat.le_of_ble_eq_true rfl) rfl (fun _ => rfl) (fun z83 e83 => ?_)
            refine J_goto (pc := 86) 38 dX3_lie_86 (by decide) ?_
            refine J_lv' (lv' := [some (.ref 0), some (.int w), some (.int (bv ||| ((1 : Int32) <<< (2 &&& 31)))), some (.int z83), none]) (by repeat' constructor) (J_mono (ih 3 z83 (bv ||| ((1 : Int32) <<< (2 &&& 31))) (by omega) (by omega)) (fun v μ' hh => ⟨?_, hh.2⟩))
            rw [hh.1, lieI]
            rw [if_pos ⟨h61, h74⟩]
            rfl
      · obtain rfl : iv = 3 := z_eq hi
        refine J_aload_n (pc := 43) dX3_lie_43 rfl ?_
        refine J_iload_n (pc := 44) dX3_lie_44 rfl ?_
        refine J_iload_n (pc := 45) dX3_lie_45 rfl ?_
        refine J_callVz (pc := 46) fC_X3_195 rfl dX3_lie_46 (c_X3_pairWorth3 hk hwr hht h3 h4 hr hn hw hw5 rfl) rfl ⟨Nat.le_of_ble_eq_true rfl, Nat.le_of_ble_eq_true rfl⟩ rfl (Nat.le_of_ble_eq_true rfl) (fun z46 e46 => ?_)
        refine J_istore (pc := 49) (lv' := [some (.ref 0), some (.int w), some (.int bv), some (.int 3), some (.int z46)]) dX3_lie_49 (Nat.le_of_ble_eq_true rfl) rfl rfl ?_
        refine J_iload (pc := 51) dX3_lie_51 rfl ?_
        refine J_aload_n (pc := 53) dX3_lie_53 rfl ?_
        refine J_iload_n (pc := 54) dX3_lie_54 rfl ?_
        refine J_iload_n (pc := 55) dX3_lie_55 rfl ?_
        refine J_iconst (pc := 56) (v := 1) dX3_lie_56 (by decide) ?_
        refine J_ixor (pc := 57) dX3_lie_57 ?_
        refine J_callVz (pc := 58) fC_X3_195 rfl dX3_lie_58 (c_X3_pairWorth2 hk hwr hht h3 h4 hr hn hw hw5 (by decide)) rfl ⟨Nat.le_of_ble_eq_true rfl, Nat.le_of_ble_eq_true rfl⟩ rfl (Nat.le_of_ble_eq_true rfl) (fun z58 e58 => ?_)
        refine J_icmp_ltW (pc := 61) (GZ k wr ht a p n w' 3) (GZ k wr ht a p n w' 2) e46 e58 83 dX3_lie_61 (by decide) (fun h61 => ?_) (fun h61 => ?_)
        · refine J_iincW' (pc := 83) 3 rfl (lv' := fun iq_ => [some (.ref 0), some (.int w), some (.int bv), some (.int iq_), some (.int z46)]) dX3_lie_83 rfl (by omega) (by decide) (Nat.le_of_ble_eq_true rfl) rfl (fun _ => rfl) (fun z83 e83 => ?_)
          refine J_goto (pc := 86) 38 dX3_lie_86 (by decide) ?_
          refine J_lv' (lv' := [some (.ref 0), some (.int w), some (.int bv), some (.int z83), none]) (by repeat' constructor) (J_mono (ih 4 z83 bv (by omega) (by omega)) (fun v μ' hh => ⟨?_, hh.2⟩))
          rw [hh.1, lieI]
          rw [if_neg (fun z => by have z1 : GZ k wr ht a p n w' 2 ≤ GZ k wr ht a p n w' 3 := z.1; have z2 : GZ k wr ht a p n w' 3 ≤ GZ k wr ht a p n w' 1 := z.2; omega)]
        · refine J_iload (pc := 64) dX3_lie_64 rfl ?_
          refine J_aload_n (pc := 66) dX3_lie_66 rfl ?_
          refine J_iload_n (pc := 67) dX3_lie_67 rfl ?_
          refine J_iload_n (pc := 68) dX3_lie_68 rfl ?_
          refine J_iconst (pc := 69) (v := 2) dX3_lie_69 (by decide) ?_
          refine J_ixor (pc := 70) dX3_lie_70 ?_
          refine J_callVz (pc := 71) fC_X3_195 rfl dX3_lie_71 (c_X3_pairWorth1 hk hwr hht h3 h4 hr hn hw hw5 (by decide)) rfl ⟨Nat.le_of_ble_eq_true rfl, Nat.le_of_ble_eq_true rfl⟩ rfl (Nat.le_of_ble_eq_true rfl) (fun z71 e71 => ?_)
          refine J_icmp_gtW (pc := 74) (GZ k wr ht a p n w' 3) (GZ k wr ht a p n w' 1) e46 e71 83 dX3_lie_74 (by decide) (fun h74 => ?_) (fun h74 => ?_)
          · refine J_iincW' (pc := 83) 3 rfl (lv' := fun iq_ => [some (.ref 0), some (.int w), some (.int bv), some (.int iq_), some (.int z46)]) dX3_lie_83 rfl (by omega) (by decide) (Nat.le_of_ble_eq_true rfl) rfl (fun _ => rfl) (fun z83 e83 => ?_)
            refine J_goto (pc := 86) 38 dX3_lie_86 (by decide) ?_
            refine J_lv' (lv' := [some (.ref 0), some (.int w), some (.int bv), some (.int z83), none]) (by repeat' constructor) (J_mono (ih 4 z83 bv (by omega) (by omega)) (fun v μ' hh => ⟨?_, hh.2⟩))
            rw [hh.1, lieI]
            rw [if_neg (fun z => by have z1 : GZ k wr ht a p n w' 2 ≤ GZ k wr ht a p n w' 3 := z.1; have z2 : GZ k wr ht a p n w' 3 ≤ GZ k wr ht a p n w' 1 := z.2; omega)]
          · refine J_iload_n (pc := 77) dX3_lie_77 rfl ?_
            refine J_iconst (pc := 78) (v := 1) dX3_lie_78 (by decide) ?_
            refine J_iload_n (pc := 79) dX3_lie_79 rfl ?_
            refine J_ishl (pc := 80) dX3_lie_80 ?_
            refine J_ior (pc := 81) dX3_lie_81 ?_
            refine J_istore_n (pc := 82) (lv' := [some (.ref 0), some (.int w), some (.int (bv ||| ((1 : Int32) <<< (3 &&& 31)))), some (.int 3), some (.int z46)]) dX3_lie_82 (Nat.le_of_ble_eq_true rfl) rfl rfl ?_
            refine J_iincW' (pc := 83) 3 rfl (lv' := fun iq_ => [some (.ref 0), some (.int w), some (.int (bv ||| ((1 : Int32) <<< (3 &&& 31)))), some (.int iq_), some (.int z46)]) dX3_lie_83 rfl (by omega) (by decide) (Nat.le_of_ble_eq_true rfl) rfl (fun _ => rfl) (fun z83 e83 => ?_)
            refine J_goto (pc := 86) 38 dX3_lie_86 (by decide) ?_
            refine J_lv' (lv' := [some (.ref 0), some (.int w), some (.int (bv ||| ((1 : Int32) <<< (3 &&& 31)))), some (.int z83), none]) (by repeat' constructor) (J_mono (ih 4 z83 (bv ||| ((1 : Int32) <<< (3 &&& 31))) (by omega) (by omega)) (fun v μ' hh => ⟨?_, hh.2⟩))
            rw [hh.1, lieI]
            rw [if_pos ⟨h61, h74⟩]
            rfl
theorem mst_sham {m ν : JM} {a p n b w : Int} (h : mst m ν a p n b) (hr : 0 ≤ a ∧ a ≤ 99 ∧ 0 ≤ p ∧ p ≤ 99) (hn : 0 ≤ n ∧ n < 1000000) : mst m (shamM ν w) a p (n + 1) (jZ (m.1 1 3).toInt (m.1 1 4).toInt a p w) := by
  obtain ⟨⟨e1, e2, e3⟩, h4, h5, h6, h7⟩ := h
  have f1 : ν.1 1 = m.1 1 := e1 1 (by omega)
  have g3 := jZ_rng (m.1 1 3).toInt (m.1 1 4).toInt a p w
  unfold shamM
  rw [f1, h4, h5, h6]
  refine ⟨⟨fun o ho => ?_, ?_, e3⟩, ?_, ?_, ?_, ?_⟩
  · unfold setS
    rw [jI_ne (by omega), jI_ne (by omega), jI_ne (by omega), jI_ne (by omega)]
    exact e1 o ho
  · rw [← e2]; rfl
  · show (iZ _).toInt = _; rw [iZ_i (by omega)]
  · show (iZ _).toInt = _; rw [iZ_i (by omega)]
  · show (iZ _).toInt = _; rw [iZ_i (by omega)]
  · show (iZ _).toInt = _; rw [iZ_i (by omega)]
set_option maxRecDepth 100000 in
set_option maxHeartbeats 4000000 in
theorem c_X4_gain1 {m ν : JM} (hc : constM m) (hq : (0 ≤ (m.1 1 1).toInt ∧ (m.1 1 1).toInt ≤ 99) ∧ (0 ≤ (m.1 1 2).toInt ∧ (m.1 1 2).toInt ≤ 99) ∧ (0 ≤ (m.1 1 5).toInt ∧ (m.1 1 5).toInt < 200000)) (he : eqM m ν) {w : Int32} {w' : Int} (hw : w.toInt = w') (hw5 : 0 ≤ w' ∧ w' ≤ 5)  : Con G shM mX4_gain [.ref 0, .int w, .int 1] ν (fun v μ' => IsZ v (gain1 (m.1 1 0).toInt (m.1 1 3).toInt (m.1 1 4).toInt (m.1 1 1).toInt (m.1 1 2).toInt (m.1 1 5).toInt w') ∧ eqM m μ') := by
  refine Con_of [some (.ref 0), some (.int w), some (.int 1)] (by decide +kernel) (Nat.le_of_ble_eq_true rfl) (fun _ h => h) ?_
  refine J_aload_n (pc := 0) dX4_gain_0 rfl ?_
  refine J_callVv (pc := 1) fC_X4_136 rfl dX4_gain_1 (c_X4_begin) rfl ⟨Nat.le_of_ble_eq_true rfl, Nat.le_of_ble_eq_true rfl⟩ rfl (Nat.le_of_ble_eq_true rfl) (fun μ1 m1 => ?_)
  have hs := mst_begin he
  rw [← m1] at hs
  refine J_aload_n (pc := 4) dX4_gain_4 rfl ?_
  refine J_iload_n (pc := 5) dX4_gain_5 rfl ?_
  refine J_iload_n (pc := 6) dX4_gain_6 rfl ?_
  refine J_callVv (pc := 7) fC_X4_139 rfl dX4_gain_7 (c_X4_hear1 (mst_c hs hc) w' hw (by omega) (by rw [hs.2.1]; omega) (by rw [hs.2.2.1]; omega) (by rw [hs.2.2.2.1]; omega)) rfl ⟨Nat.le_of_ble_eq_true rfl, Nat.le_of_ble_eq_true rfl⟩ rfl (Nat.le_of_ble_eq_true rfl) (fun μ7 m7 => ?_)
  have hs2 := mst_hear (w := w') hs (by omega)
  rw [← m7] at hs2
  refine J_aload_n (pc := 10) dX4_gain_10 rfl ?_
  refine J_getI (pc := 11) fF_X4_76 rfl rfl dX4_gain_11 ?_
  refine J_iconst (pc := 14) (v := 1) dX4_gain_14 (by decide) ?_
  refine J_icmp_neW (pc := 15) (jZ (m.1 1 3).toInt (m.1 1 4).toInt (hA2 (m.1 1 0).toInt (m.1 1 1).toInt (m.1 1 5).toInt w') (hP2 (m.1 1 0).toInt (m.1 1 2).toInt (m.1 1 5).toInt w') w') 1 hs2.2.2.2.2 rfl 22 dX4_gain_15 (by decide) (fun h15 => ?_) (fun h15 => ?_)
  · refine J_aload_n (pc := 22) dX4_gain_22 rfl ?_
    refine J_getI (pc := 23) fF_X4_76 rfl rfl dX4_gain_23 ?_
    refine J_if_neW (pc := 26) (jZ (m.1 1 3).toInt (m.1 1 4).toInt (hA2 (m.1 1 0).toInt (m.1 1 1).toInt (m.1 1 5).toInt w') (hP2 (m.1 1 0).toInt (m.1 1 2).toInt (m.1 1 5).toInt w') w') hs2.2.2.2.2 33 dX4_gain_26 (by decide) (fun h26 => ?_) (fun h26 => ?_)
    · refine J_iconst (pc := 33) (v := 0) dX4_gain_33 (by decide) ?_
      refine J_iret (pc := 34) dX4_gain_34 rfl ?_
      exact ⟨⟨_, rfl, by show _ = gnZ (jZ (m.1 1 3).toInt (m.1 1 4).toInt (hA2 (m.1 1 0).toInt (m.1 1 1).toInt (m.1 1 5).toInt w') (hP2 (m.1 1 0).toInt (m.1 1 2).toInt (m.1 1 5).toInt w') w'); have t0 := gn_0; have t1 := gn_1; have t2 := gn_2; exact gn_e (by omega)⟩, hs2.1⟩
    · refine J_iconst (pc := 29) (v := 1) dX4_gain_29 (by decide) ?_
      refine J_goto (pc := 30) 34 dX4_gain_30 (by decide) ?_
      refine J_iret (pc := 34) dX4_gain_34 rfl ?_
      exact ⟨⟨_, rfl, by show _ = gnZ (jZ (m.1 1 3).toInt (m.1 1 4).toInt (hA2 (m.1 1 0).toInt (m.1 1 1).toInt (m.1 1 5).toInt w') (hP2 (m.1 1 0).toInt (m.1 1 2).toInt (m.1 1 5).toInt w') w'); have t0 := gn_0; have t1 := gn_1; have t2 := gn_2; exact gn_e (by omega)⟩, hs2.1⟩
  · refine J_iconst (pc := 18) (v := 2) dX4_gain_18 (by decide) ?_
    refine J_goto (pc := 19) 34 dX4_gain_19 (by decide) ?_
    refine J_iret (pc := 34) dX4_gain_34 rfl ?_
    exact ⟨⟨_, rfl, by show _ = gnZ (jZ (m.1 1 3).toInt (m.1 1 4).toInt (hA2 (m.1 1 0).toInt (m.1 1 1).toInt (m.1 1 5).toInt w') (hP2 (m.1 1 0).toInt (m.1 1 2).toInt (m.1 1 5).toInt w') w'); have t0 := gn_0; have t1 := gn_1; have t2 := gn_2; exact gn_e (by omega)⟩, hs2.1⟩
set_option maxRecDepth 100000 in
set_option maxHeartbeats 4000000 in
theorem c_X4_gain0 {m ν : JM} (hc : constM m) (hq : (0 ≤ (m.1 1 1).toInt ∧ (m.1 1 1).toInt ≤ 99) ∧ (0 ≤ (m.1 1 2).toInt ∧ (m.1 1 2).toInt ≤ 99) ∧ (0 ≤ (m.1 1 5).toInt ∧ (m.1 1 5).toInt < 200000)) (he : eqM m ν) {w : Int32} {w' : Int} (hw : w.toInt = w') (hw5 : 0 ≤ w' ∧ w' ≤ 5)  : Con G shM mX4_gain [.ref 0, .int w, .int 0] ν (fun v μ' => IsZ v (gain0 (m.1 1 3).toInt (m.1 1 4).toInt (m.1 1 1).toInt (m.1 1 2).toInt w') ∧ eqM m μ') := by
  refine Con_of [some (.ref 0), some (.int w), some (.int 0)] (by decide +kernel) (Nat.le_of_ble_eq_true rfl) (fun _ h => h) ?_
  refine J_aload_n (pc := 0) dX4_gain_0 rfl ?_
  refine J_callVv (pc := 1) fC_X4_136 rfl dX4_gain_1 (c_X4_begin) rfl ⟨Nat.le_of_ble_eq_true rfl, Nat.le_of_ble_eq_true rfl⟩ rfl (Nat.le_of_ble_eq_true rfl) (fun μ1 m1 => ?_)
  have hs := mst_begin he
  rw [← m1] at hs
  refine J_aload_n (pc := 4) dX4_gain_4 rfl ?_
  refine J_iload_n (pc := 5) dX4_gain_5 rfl ?_
  refine J_iload_n (pc := 6) dX4_gain_6 rfl ?_
  refine J_callVv (pc := 7) fC_X4_139 rfl dX4_gain_7 (c_X4_hear0 w' hw (by omega) (by rw [hs.2.1]; omega) (by rw [hs.2.2.1]; omega) (by rw [hs.2.2.2.1]; omega)) rfl ⟨Nat.le_of_ble_eq_true rfl, Nat.le_of_ble_eq_true rfl⟩ rfl (Nat.le_of_ble_eq_true rfl) (fun μ7 m7 => ?_)
  have hs2 := mst_sham (w := w') hs (by omega) (by omega)
  rw [← m7] at hs2
  refine J_aload_n (pc := 10) dX4_gain_10 rfl ?_
  refine J_getI (pc := 11) fF_X4_76 rfl rfl dX4_gain_11 ?_
  refine J_iconst (pc := 14) (v := 1) dX4_gain_14 (by decide) ?_
  refine J_icmp_neW (pc := 15) (jZ (m.1 1 3).toInt (m.1 1 4).toInt (m.1 1 1).toInt (m.1 1 2).toInt w') 1 hs2.2.2.2.2 rfl 22 dX4_gain_15 (by decide) (fun h15 => ?_) (fun h15 => ?_)
  · refine J_aload_n (pc := 22) dX4_gain_22 rfl ?_
    refine J_getI (pc := 23) fF_X4_76 rfl rfl dX4_gain_23 ?_
    refine J_if_neW (pc := 26) (jZ (m.1 1 3).toInt (m.1 1 4).toInt (m.1 1 1).toInt (m.1 1 2).toInt w') hs2.2.2.2.2 33 dX4_gain_26 (by decide) (fun h26 => ?_) (fun h26 => ?_)
    · refine J_iconst (pc := 33) (v := 0) dX4_gain_33 (by decide) ?_
      refine J_iret (pc := 34) dX4_gain_34 rfl ?_
      exact ⟨⟨_, rfl, by show _ = gnZ (jZ (m.1 1 3).toInt (m.1 1 4).toInt (m.1 1 1).toInt (m.1 1 2).toInt w'); have t0 := gn_0; have t1 := gn_1; have t2 := gn_2; exact gn_e (by omega)⟩, hs2.1⟩
    · refine J_iconst (pc := 29) (v := 1) dX4_gain_29 (by decide) ?_
      refine J_goto (pc := 30) 34 dX4_gain_30 (by decide) ?_
      refine J_iret (pc := 34) dX4_gain_34 rfl ?_
      exact ⟨⟨_, rfl, by show _ = gnZ (jZ (m.1 1 3).toInt (m.1 1 4).toInt (m.1 1 1).toInt (m.1 1 2).toInt w'); have t0 := gn_0; have t1 := gn_1; have t2 := gn_2; exact gn_e (by omega)⟩, hs2.1⟩
  · refine J_iconst (pc := 18) (v := 2) dX4_gain_18 (by decide) ?_
    refine J_goto (pc := 19) 34 dX4_gain_19 (by decide) ?_
    refine J_iret (pc := 34) dX4_gain_34 rfl ?_
    exact ⟨⟨_, rfl, by show _ = gnZ (jZ (m.1 1 3).toInt (m.1 1 4).toInt (m.1 1 1).toInt (m.1 1 2).toInt w'); have t0 := gn_0; have t1 := gn_1; have t2 := gn_2; exact gn_e (by omega)⟩, hs2.1⟩
set_option maxRecDepth 100000 in
set_option maxHeartbeats 4000000 in
theorem l_n_lie {m : JM} (hc : constM m) (hq : (0 ≤ (m.1 1 1).toInt ∧ (m.1 1 1).toInt ≤ 99) ∧ (0 ≤ (m.1 1 2).toInt ∧ (m.1 1 2).toInt ≤ 99) ∧ (0 ≤ (m.1 1 5).toInt ∧ (m.1 1 5).toInt < 200000)) {w : Int32} {w' : Int} (hw : w.toInt = w') (hw5 : 0 ≤ w' ∧ w' ≤ 5)  : ∀ d : Nat, ∀ (i : Nat) (iv bv : Int32) (ν : JM), i + d = 4 → iv.toInt = (i : Int) → eqM m ν → J G shM mX4_lie 40 [some (.ref 0), some (.int w), some (.int bv), some (.int iv), none, none, none, none] [] ν (fun v μ' => v = some (.int (lieI (GZ (m.1 1 0).toInt (m.1 1 3).toInt (m.1 1 4).toInt (m.1 1 1).toInt (m.1 1 2).toInt (m.1 1 5).toInt w') d i bv)) ∧ eqM m μ') := by
  intro d
  induction d with
  | zero =>
    intro i iv bv ν hd hi he
    refine J_iload_n (pc := 40) dX4_lie_40 rfl ?_
    refine J_iconst (pc := 41) (v := 4) dX4_lie_41 (by decide) ?_
    refine J_icmp_geW (pc := 42) (i : Int) 4 hi rfl 157 dX4_lie_42 (by decide) (fun h42 => ?_) (fun h42 => ?_)
    · refine J_iload_n (pc := 157) dX4_lie_157 rfl ?_
      refine J_iret (pc := 158) dX4_lie_158 rfl ?_
      exact ⟨rfl, he⟩
    · exfalso; omega
  | succ d ih =>
    intro i iv bv ν hd hi he
    refine J_iload_n (pc := 40) dX4_lie_40 rfl ?_
    refine J_iconst (pc := 41) (v := 4) dX4_lie_41 (by decide) ?_
    refine J_icmp_geW (pc := 42) (i : Int) 4 hi rfl 157 dX4_lie_42 (by decide) (fun h42 => ?_) (fun h42 => ?_)
    · exfalso; omega
    · rcases (by omega : i = 0 ∨ i = 1 ∨ i = 2 ∨ i = 3) with rfl | rfl | rfl | rfl
      · obtain rfl : iv = 0 := z_eq hi
        refine J_iload_n (pc := 45) dX4_lie_45 rfl ?_
        refine J_iconst (pc := 46) (v := 2) dX4_lie_46 (by decide) ?_
        refine J_irem (pc := 47) dX4_lie_47 (by decide) ?_
        refine J_if_ne_F (pc := 48) 55 dX4_lie_48 (by decide) (by decide) ?_
        refine J_iload_n (pc := 51) dX4_lie_51 rfl ?_
        refine J_goto (pc := 52) 56 dX4_lie_52 (by decide) ?_
        refine J_istore (pc := 56) (lv' := [some (.ref 0), some (.int w), some (.int bv), some (.int 0), some (.int w), none, none, none]) dX4_lie_56 (Nat.le_of_ble_eq_true rfl) rfl rfl ?_
        refine J_iload_n (pc := 58) dX4_lie_58 rfl ?_
        refine J_iconst (pc := 59) (v := 2) dX4_lie_59 (by decide) ?_
        refine J_irem (pc := 60) dX4_lie_60 (by decide) ?_
        refine J_if_ne_F (pc := 61) 68 dX4_lie_61 (by decide) (by decide) ?_
        refine J_iconst (pc := 64) (v := 0) dX4_lie_64 (by decide) ?_
        refine J_goto (pc := 65) 69 dX4_lie_65 (by decide) ?_
        refine J_istore (pc := 69) (lv' := [some (.ref 0), some (.int w), some (.int bv), some (.int 0), some (.int w), some (.int 0), none, none]) dX4_lie_69 (Nat.le_of_ble_eq_true rfl) rfl rfl ?_
        refine J_iload_n (pc := 71) dX4_lie_71 rfl ?_
        refine J_iconst (pc := 72) (v := 2) dX4_lie_72 (by decide) ?_
        refine J_icmp_ge_F (pc := 73) 80 dX4_lie_73 (by decide) (by decide) ?_
        refine J_iconst (pc := 76) (v := 1) dX4_lie_76 (by decide) ?_
        refine J_goto (pc := 77) 81 dX4_lie_77 (by decide) ?_
        refine J_istore (pc := 81) (lv' := [some (.ref 0), some (.int w), some (.int bv), some (.int 0), some (.int w), some (.int 0), some (.int 1), none]) dX4_lie_81 (Nat.le_of_ble_eq_true rfl) rfl rfl ?_
        refine J_aload_n (pc := 83) dX4_lie_83 rfl ?_
        refine J_iload (pc := 84) dX4_lie_84 rfl ?_
        refine J_iload (pc := 86) dX4_lie_86 rfl ?_
        refine J_callVq (pc := 88) fC_X4_232 rfl dX4_lie_88 (c_X4_gain1 hc hq he hw hw5) rfl ⟨Nat.le_of_ble_eq_true rfl, Nat.le_of_ble_eq_true rfl⟩ rfl (Nat.le_of_ble_eq_true rfl) (fun v88 μ88 q88 => ?_)
        obtain ⟨⟨z88, rfl, e88⟩, q88⟩ := q88
        refine J_aload_n (pc := 91) dX4_lie_91 rfl ?_
        refine J_iload (pc := 92) dX4_lie_92 rfl ?_
        refine J_iload (pc := 94) dX4_lie_94 rfl ?_
        refine J_callVq (pc := 96) fC_X4_232 rfl dX4_lie_96 (c_X4_gain1 hc hq q88 (w' := 0) rfl (by decide)) rfl ⟨Nat.le_of_ble_eq_true rfl, Nat.le_of_ble_eq_true rfl⟩ rfl (Nat.le_of_ble_eq_true rfl) (fun v96 μ96 q96 => ?_)
        obtain ⟨⟨z96, rfl, e96⟩, q96⟩ := q96
        refine J_icmp_ltW (pc := 99) (GZ (m.1 1 0).toInt (m.1 1 3).toInt (m.1 1 4).toInt (m.1 1 1).toInt (m.1 1 2).toInt (m.1 1 5).toInt w' 0) (GZ (m.1 1 0).toInt (m.1 1 3).toInt (m.1 1 4).toInt (m.1 1 1).toInt (m.1 1 2).toInt (m.1 1 5).toInt w' 1) e88 e96 133 dX4_lie_99 (by decide) (fun h99 => ?_) (fun h99 => ?_)
        · refine J_iconst (pc := 133) (v := 0) dX4_lie_133 (by decide) ?_
          refine J_istore (pc := 134) (lv' := [some (.ref 0), some (.int w), some (.int bv), some (.int 0), some (.int w), some (.int 0), some (.int 1), some (.int 0)]) dX4_lie_134 (Nat.le_of_ble_eq_true rfl) rfl rfl ?_
          refine J_iload_n (pc := 136) dX4_lie_136 rfl ?_
          refine J_iload (pc := 137) dX4_lie_137 rfl ?_
          refine J_if_eq_T (pc := 139) 148 dX4_lie_139 (by decide) (by decide) ?_
          refine J_iconst (pc := 148) (v := 0) dX4_lie_148 (by decide) ?_
          refine J_ior (pc := 149) dX4_lie_149 ?_
          refine J_istore_n (pc := 150) (lv' := [some (.ref 0), some (.int w), some (.int (bv ||| 0)), some (.int 0), some (.int w), some (.int 0), some (.int 1), some (.int 0)]) dX4_lie_150 (Nat.le_of_ble_eq_true rfl) rfl rfl ?_
          refine J_iincW' (pc := 151) 0 rfl (lv' := fun iq_ => [some (.ref 0), some (.int w), some (.int (bv ||| 0)), some (.int iq_), some (.int w), some (.int 0), some (.int 1), some (.int 0)]) dX4_lie_151 rfl (by omega) (by decide) (Nat.le_of_ble_eq_true rfl) rfl (fun _ => rfl) (fun z151 e151 => ?_)
          refine J_goto (pc := 154) 40 dX4_lie_154 (by decide) ?_
          rw [show (bv ||| 0 : Int32) = bv from Int32.or_zero]
          refine J_lv' (lv' := [some (.ref 0), some (.int w), some (.int bv), some (.int z151), none, none, none, none]) (by repeat' constructor) (J_mono (ih 1 z151 bv μ96 (by omega) (by omega) q96) (fun v μ' hh => ⟨?_, hh.2⟩))
          rw [hh.1, lieI]
          rw [if_neg (fun z => by have z1 : GZ (m.1 1 0).toInt (m.1 1 3).toInt (m.1 1 4).toInt (m.1 1 1).toInt (m.1 1 2).toInt (m.1 1 5).toInt w' 1 ≤ GZ (m.1 1 0).toInt (m.1 1 3).toInt (m.1 1 4).toInt (m.1 1 1).toInt (m.1 1 2).toInt (m.1 1 5).toInt w' 0 := z.1; have z2 : GZ (m.1 1 0).toInt (m.1 1 3).toInt (m.1 1 4).toInt (m.1 1 1).toInt (m.1 1 2).toInt (m.1 1 5).toInt w' 0 ≤ GZ (m.1 1 0).toInt (m.1 1 3).toInt (m.1 1 4).toInt (m.1 1 1).toInt (m.1 1 2).toInt (m.1 1 5).toInt w' 2 := z.2; omega)]
        · refine J_aload_n (pc := 102) dX4_lie_102 rfl ?_
          refine J_iload (pc := 103) dX4_lie_103 rfl ?_
          refine J_iload (pc := 105) dX4_lie_105 rfl ?_
          refine J_callVq (pc := 107) fC_X4_232 rfl dX4_lie_107 (c_X4_gain1 hc hq q96 hw hw5) rfl ⟨Nat.le_of_ble_eq_true rfl, Nat.le_of_ble_eq_true rfl⟩ rfl (Nat.le_of_ble_eq_true rfl) (fun v107 μ107 q107 => ?_)
          obtain ⟨⟨z107, rfl, e107⟩, q107⟩ := q107
          refine J_aload_n (pc := 110) dX4_lie_110 rfl ?_
          refine J_iload (pc := 111) dX4_lie_111 rfl ?_
          refine J_iload (pc := 113) dX4_lie_113 rfl ?_
          refine J_if_ne_T (pc := 115) 122 dX4_lie_115 (by decide) (by decide) ?_
          refine J_iconst (pc := 122) (v := 0) dX4_lie_122 (by decide) ?_
          refine J_callVq (pc := 123) fC_X4_232 rfl dX4_lie_123 (c_X4_gain0 hc hq q107 hw hw5) rfl ⟨Nat.le_of_ble_eq_true rfl, Nat.le_of_ble_eq_true rfl⟩ rfl (Nat.le_of_ble_eq_true rfl) (fun v123 μ123 q123 => ?_)
          obtain ⟨⟨z123, rfl, e123⟩, q123⟩ := q123
          refine J_icmp_gtW (pc := 126) (GZ (m.1 1 0).toInt (m.1 1 3).toInt (m.1 1 4).toInt (m.1 1 1).toInt (m.1 1 2).toInt (m.1 1 5).toInt w' 0) (GZ (m.1 1 0).toInt (m.1 1 3).toInt (m.1 1 4).toInt (m.1 1 1).toInt (m.1 1 2).toInt (m.1 1 5).toInt w' 2) e107 e123 133 dX4_lie_126 (by decide) (fun h126 => ?_) (fun h126 => ?_)
          · refine J_iconst (pc := 133) (v := 0) dX4_lie_133 (by decide) ?_
            refine J_istore (pc := 134) (lv' := [some (.ref 0), some (.int w), some (.int bv), some (.int 0), some (.int w), some (.int 0), some (.int 1), some (.int 0)]) dX4_lie_134 (Nat.le_of_ble_eq_true rfl) rfl rfl ?_
            refine J_iload_n (pc := 136) dX4_lie_136 rfl ?_
            refine J_iload (pc := 137) dX4_lie_137 rfl ?_
            refine J_if_eq_T (pc := 139) 148 dX4_lie_139 (by decide) (by decide) ?_
            refine J_iconst (pc := 148) (v := 0) dX4_lie_148 (by decide) ?_
            refine J_ior (pc := 149) dX4_lie_149 ?_
            refine J_istore_n (pc := 150) (lv' := [some (.ref 0), some (.int w), some (.int (bv ||| 0)), some (.int 0), some (.int w), some (.int 0), some (.int 1), some (.int 0)]) dX4_lie_150 (Nat.le_of_ble_eq_true rfl) rfl rfl ?_
            refine J_iincW' (pc := 151) 0 rfl (lv' := fun iq_ => [some (.ref 0), some (.int w), some (.int (bv ||| 0)), some (.int iq_), some (.int w), some (.int 0), some (.int 1), some (.int 0)]) dX4_lie_151 rfl (by omega) (by decide) (Nat.le_of_ble_eq_true rfl) rfl (fun _ => rfl) (fun z151 e151 => ?_)
            refine J_goto (pc := 154) 40 dX4_lie_154 (by decide) ?_
            rw [show (bv ||| 0 : Int32) = bv from Int32.or_zero]
            refine J_lv' (lv' := [some (.ref 0), some (.int w), some (.int bv), some (.int z151), none, none, none, none]) (by repeat' constructor) (J_mono (ih 1 z151 bv μ123 (by omega) (by omega) q123) (fun v μ' hh => ⟨?_, hh.2⟩))
            rw [hh.1, lieI]
            rw [if_neg (fun z => by have z1 : GZ (m.1 1 0).toInt (m.1 1 3).toInt (m.1 1 4).toInt (m.1 1 1).toInt (m.1 1 2).toInt (m.1 1 5).toInt w' 1 ≤ GZ (m.1 1 0).toInt (m.1 1 3).toInt (m.1 1 4).toInt (m.1 1 1).toInt (m.1 1 2).toInt (m.1 1 5).toInt w' 0 := z.1; have z2 : GZ (m.1 1 0).toInt (m.1 1 3).toInt (m.1 1 4).toInt (m.1 1 1).toInt (m.1 1 2).toInt (m.1 1 5).toInt w' 0 ≤ GZ (m.1 1 0).toInt (m.1 1 3).toInt (m.1 1 4).toInt (m.1 1 1).toInt (m.1 1 2).toInt (m.1 1 5).toInt w' 2 := z.2; omega)]
          · refine J_iconst (pc := 129) (v := 1) dX4_lie_129 (by decide) ?_
            refine J_goto (pc := 130) 134 dX4_lie_130 (by decide) ?_
            refine J_istore (pc := 134) (lv' := [some (.ref 0), some (.int w), some (.int bv), some (.int 0), some (.int w), some (.int 0), some (.int 1), some (.int 1)]) dX4_lie_134 (Nat.le_of_ble_eq_true rfl) rfl rfl ?_
            refine J_iload_n (pc := 136) dX4_lie_136 rfl ?_
            refine J_iload (pc := 137) dX4_lie_137 rfl ?_
            refine J_if_eq_F (pc := 139) 148 dX4_lie_139 (by decide) (by decide) ?_
            refine J_iconst (pc := 142) (v := 1) dX4_lie_142 (by decide) ?_
            refine J_iload_n (pc := 143) dX4_lie_143 rfl ?_
            refine J_ishl (pc := 144) dX4_lie_144 ?_
            refine J_goto (pc := 145) 149 dX4_lie_145 (by decide) ?_
            refine J_ior (pc := 149) dX4_lie_149 ?_
            refine J_istore_n (pc := 150) (lv' := [some (.ref 0), some (.int w), some (.int (bv ||| ((1 : Int32) <<< (0 &&& 31)))), some (.int 0), some (.int w), some (.int 0), some (.int 1), some (.int 1)]) dX4_lie_150 (Nat.le_of_ble_eq_true rfl) rfl rfl ?_
            refine J_iincW' (pc := 151) 0 rfl (lv' := fun iq_ => [some (.ref 0), some (.int w), some (.int (bv ||| ((1 : Int32) <<< (0 &&& 31)))), some (.int iq_), some (.int w), some (.int 0), some (.int 1), some (.int 1)]) dX4_lie_151 rfl (by omega) (by decide) (Nat.le_of_ble_eq_true rfl) rfl (fun _ => rfl) (fun z151 e151 => ?_)
            refine J_goto (pc := 154) 40 dX4_lie_154 (by decide) ?_
            refine J_lv' (lv' := [some (.ref 0), some (.int w), some (.int (bv ||| ((1 : Int32) <<< (0 &&& 31)))), some (.int z151), none, none, none, none]) (by repeat' constructor) (J_mono (ih 1 z151 (bv ||| ((1 : Int32) <<< (0 &&& 31))) μ123 (by omega) (by omega) q123) (fun v μ' hh => ⟨?_, hh.2⟩))
            rw [hh.1, lieI]
            rw [if_pos ⟨h99, h126⟩]
            rfl
      · obtain rfl : iv = 1 := z_eq hi
        refine J_iload_n (pc := 45) dX4_lie_45 rfl ?_
        refine J_iconst (pc := 46) (v := 2) dX4_lie_46 (by decide) ?_
        refine J_irem (pc := 47) dX4_lie_47 (by decide) ?_
        refine J_if_ne_T (pc := 48) 55 dX4_lie_48 (by decide) (by decide) ?_
        refine J_iconst (pc := 55) (v := 0) dX4_lie_55 (by decide) ?_
        refine J_istore (pc := 56) (lv' := [some (.ref 0), some (.int w), some (.int bv), some (.int 1), some (.int 0), none, none, none]) dX4_lie_56 (Nat.le_of_ble_eq_true rfl) rfl rfl ?_
        refine J_iload_n (pc := 58) dX4_lie_58 rfl ?_
        refine J_iconst (pc := 59) (v := 2) dX4_lie_59 (by decide) ?_
        refine J_irem (pc := 60) dX4_lie_60 (by decide) ?_
        refine J_if_ne_T (pc := 61) 68 dX4_lie_61 (by decide) (by decide) ?_
        refine J_iload_n (pc := 68) dX4_lie_68 rfl ?_
        refine J_istore (pc := 69) (lv' := [some (.ref 0), some (.int w), some (.int bv), some (.int 1), some (.int 0), some (.int w), none, none]) dX4_lie_69 (Nat.le_of_ble_eq_true rfl) rfl rfl ?_
        refine J_iload_n (pc := 71) dX4_lie_71 rfl ?_
        refine J_iconst (pc := 72) (v := 2) dX4_lie_72 (by decide) ?_
        refine J_icmp_ge_F (pc := 73) 80 dX4_lie_73 (by decide) (by decide) ?_
        refine J_iconst (pc := 76) (v := 1) dX4_lie_76 (by decide) ?_
        refine J_goto (pc := 77) 81 dX4_lie_77 (by decide) ?_
        refine J_istore (pc := 81) (lv' := [some (.ref 0), some (.int w), some (.int bv), some (.int 1), some (.int 0), some (.int w), some (.int 1), none]) dX4_lie_81 (Nat.le_of_ble_eq_true rfl) rfl rfl ?_
        refine J_aload_n (pc := 83) dX4_lie_83 rfl ?_
        refine J_iload (pc := 84) dX4_lie_84 rfl ?_
        refine J_iload (pc := 86) dX4_lie_86 rfl ?_
        refine J_callVq (pc := 88) fC_X4_232 rfl dX4_lie_88 (c_X4_gain1 hc hq he (w' := 0) rfl (by decide)) rfl ⟨Nat.le_of_ble_eq_true rfl, Nat.le_of_ble_eq_true rfl⟩ rfl (Nat.le_of_ble_eq_true rfl) (fun v88 μ88 q88 => ?_)
        obtain ⟨⟨z88, rfl, e88⟩, q88⟩ := q88
        refine J_aload_n (pc := 91) dX4_lie_91 rfl ?_
        refine J_iload (pc := 92) dX4_lie_92 rfl ?_
        refine J_iload (pc := 94) dX4_lie_94 rfl ?_
        refine J_callVq (pc := 96) fC_X4_232 rfl dX4_lie_96 (c_X4_gain1 hc hq q88 hw hw5) rfl ⟨Nat.le_of_ble_eq_true rfl, Nat.le_of_ble_eq_true rfl⟩ rfl (Nat.le_of_ble_eq_true rfl) (fun v96 μ96 q96 => ?_)
        obtain ⟨⟨z96, rfl, e96⟩, q96⟩ := q96
        refine J_icmp_ltW (pc := 99) (GZ (m.1 1 0).toInt (m.1 1 3).toInt (m.1 1 4).toInt (m.1 1 1).toInt (m.1 1 2).toInt (m.1 1 5).toInt w' 1) (GZ (m.1 1 0).toInt (m.1 1 3).toInt (m.1 1 4).toInt (m.1 1 1).toInt (m.1 1 2).toInt (m.1 1 5).toInt w' 0) e88 e96 133 dX4_lie_99 (by decide) (fun h99 => ?_) (fun h99 => ?_)
        · refine J_iconst (pc := 133) (v := 0) dX4_lie_133 (by decide) ?_
          refine J_istore (pc := 134) (lv' := [some (.ref 0), some (.int w), some (.int bv), some (.int 1), some (.int 0), some (.int w), some (.int 1), some (.int 0)]) dX4_lie_134 (Nat.le_of_ble_eq_true rfl) rfl rfl ?_
          refine J_iload_n (pc := 136) dX4_lie_136 rfl ?_
          refine J_iload (pc := 137) dX4_lie_137 rfl ?_
          refine J_if_eq_T (pc := 139) 148 dX4_lie_139 (by decide) (by decide) ?_
          refine J_iconst (pc := 148) (v := 0) dX4_lie_148 (by decide) ?_
          refine J_ior (pc := 149) dX4_lie_149 ?_
          refine J_istore_n (pc := 150) (lv' := [some (.ref 0), some (.int w), some (.int (bv ||| 0)), some (.int 1), some (.int 0), some (.int w), some (.int 1), some (.int 0)]) dX4_lie_150 (Nat.le_of_ble_eq_true rfl) rfl rfl ?_
          refine J_iincW' (pc := 151) 1 rfl (lv' := fun iq_ => [some (.ref 0), some (.int w), some (.int (bv ||| 0)), some (.int iq_), some (.int 0), some (.int w), some (.int 1), some (.int 0)]) dX4_lie_151 rfl (by omega) (by decide) (Nat.le_of_ble_eq_true rfl) rfl (fun _ => rfl) (fun z151 e151 => ?_)
          refine J_goto (pc := 154) 40 dX4_lie_154 (by decide) ?_
          rw [show (bv ||| 0 : Int32) = bv from Int32.or_zero]
          refine J_lv' (lv' := [some (.ref 0), some (.int w), some (.int bv), some (.int z151), none, none, none, none]) (by repeat' constructor) (J_mono (ih 2 z151 bv μ96 (by omega) (by omega) q96) (fun v μ' hh => ⟨?_, hh.2⟩))
          rw [hh.1, lieI]
          rw [if_neg (fun z => by have z1 : GZ (m.1 1 0).toInt (m.1 1 3).toInt (m.1 1 4).toInt (m.1 1 1).toInt (m.1 1 2).toInt (m.1 1 5).toInt w' 0 ≤ GZ (m.1 1 0).toInt (m.1 1 3).toInt (m.1 1 4).toInt (m.1 1 1).toInt (m.1 1 2).toInt (m.1 1 5).toInt w' 1 := z.1; have z2 : GZ (m.1 1 0).toInt (m.1 1 3).toInt (m.1 1 4).toInt (m.1 1 1).toInt (m.1 1 2).toInt (m.1 1 5).toInt w' 1 ≤ GZ (m.1 1 0).toInt (m.1 1 3).toInt (m.1 1 4).toInt (m.1 1 1).toInt (m.1 1 2).toInt (m.1 1 5).toInt w' 3 := z.2; omega)]
        · refine J_aload_n (pc := 102) dX4_lie_102 rfl ?_
          refine J_iload (pc := 103) dX4_lie_103 rfl ?_
          refine J_iload (pc := 105) dX4_lie_105 rfl ?_
          refine J_callVq (pc := 107) fC_X4_232 rfl dX4_lie_107 (c_X4_gain1 hc hq q96 (w' := 0) rfl (by decide)) rfl ⟨Nat.le_of_ble_eq_true rfl, Nat.le_of_ble_eq_true rfl⟩ rfl (Nat.le_of_ble_eq_true rfl) (fun v107 μ107 q107 => ?_)
          obtain ⟨⟨z107, rfl, e107⟩, q107⟩ := q107
          refine J_aload_n (pc := 110) dX4_lie_110 rfl ?_
          refine J_iload (pc := 111) dX4_lie_111 rfl ?_
          refine J_iload (pc := 113) dX4_lie_113 rfl ?_
          refine J_if_ne_T (pc := 115) 122 dX4_lie_115 (by decide) (by decide) ?_
          refine J_iconst (pc := 122) (v := 0) dX4_lie_122 (by decide) ?_
          refine J_callVq (pc := 123) fC_X4_232 rfl dX4_lie_123 (c_X4_gain0 hc hq q107 (w' := 0) rfl (by decide)) rfl ⟨Nat.le_of_ble_eq_true rfl, Nat.le_of_ble_eq_true rfl⟩ rfl (Nat.le_of_ble_eq_true rfl) (fun v123 μ123 q123 => ?_)
          obtain ⟨⟨z123, rfl, e123⟩, q123⟩ := q123
          refine J_icmp_gtW (pc := 126) (GZ (m.1 1 0).toInt (m.1 1 3).toInt (m.1 1 4).toInt (m.1 1 1).toInt (m.1 1 2).toInt (m.1 1 5).toInt w' 1) (GZ (m.1 1 0).toInt (m.1 1 3).toInt (m.1 1 4).toInt (m.1 1 1).toInt (m.1 1 2).toInt (m.1 1 5).toInt w' 3) e107 e123 133 dX4_lie_126 (by decide) (fun h126 => ?_) (fun h126 => ?_)
          · refine J_iconst (pc := 133) (v := 0) dX4_lie_133 (by decide) ?_
            refine J_istore (pc := 134) (lv' := [some (.ref 0), some (.int w), some (.int bv), some (.int 1), some (.int 0), some (.int w), some (.int 1), some (.int 0)]) dX4_lie_134 (Nat.le_of_ble_eq_true rfl) rfl rfl ?_
            refine J_iload_n (pc := 136) dX4_lie_136 rfl ?_
            refine J_iload (pc := 137) dX4_lie_137 rfl ?_
            refine J_if_eq_T (pc := 139) 148 dX4_lie_139 (by decide) (by decide) ?_
            refine J_iconst (pc := 148) (v := 0) dX4_lie_148 (by decide) ?_
            refine J_ior (pc := 149) dX4_lie_149 ?_
            refine J_istore_n (pc := 150) (lv' := [some (.ref 0), some (.int w), some (.int (bv ||| 0)), some (.int 1), some (.int 0), some (.int w), some (.int 1), some (.int 0)]) dX4_lie_150 (Nat.le_of_ble_eq_true rfl) rfl rfl ?_
            refine J_iincW' (pc := 151) 1 rfl (lv' := fun iq_ => [some (.ref 0), some (.int w), some (.int (bv ||| 0)), some (.int iq_), some (.int 0), some (.int w), some (.int 1), some (.int 0)]) dX4_lie_151 rfl (by omega) (by decide) (Nat.le_of_ble_eq_true rfl) rfl (fun _ => rfl) (fun z151 e151 => ?_)
            refine J_goto (pc := 154) 40 dX4_lie_154 (by decide) ?_
            rw [show (bv ||| 0 : Int32) = bv from Int32.or_zero]
            refine J_lv' (lv' := [some (.ref 0), some (.int w), some (.int bv), some (.int z151), none, none, none, none]) (by repeat' constructor) (J_mono (ih 2 z151 bv μ123 (by omega) (by omega) q123) (fun v μ' hh => ⟨?_, hh.2⟩))
            rw [hh.1, lieI]
            rw [if_neg (fun z => by have z1 : GZ (m.1 1 0).toInt (m.1 1 3).toInt (m.1 1 4).toInt (m.1 1 1).toInt (m.1 1 2).toInt (m.1 1 5).toInt w' 0 ≤ GZ (m.1 1 0).toInt (m.1 1 3).toInt (m.1 1 4).toInt (m.1 1 1).toInt (m.1 1 2).toInt (m.1 1 5).toInt w' 1 := z.1; have z2 : GZ (m.1 1 0).toInt (m.1 1 3).toInt (m.1 1 4).toInt (m.1 1 1).toInt (m.1 1 2).toInt (m.1 1 5).toInt w' 1 ≤ GZ (m.1 1 0).toInt (m.1 1 3).toInt (m.1 1 4).toInt (m.1 1 1).toInt (m.1 1 2).toInt (m.1 1 5).toInt w' 3 := z.2; omega)]
          · refine J_iconst (pc := 129) (v := 1) dX4_lie_129 (by decide) ?_
            refine J_goto (pc := 130) 134 dX4_lie_130 (by decide) ?_
            refine J_istore (pc := 134) (lv' := [some (.ref 0), some (.int w), some (.int bv), some (.int 1), some (.int 0), some (.int w), some (.int 1), some (.int 1)]) dX4_lie_134 (Nat.le_of_ble_eq_true rfl) rfl rfl ?_
            refine J_iload_n (pc := 136) dX4_lie_136 rfl ?_
            refine J_iload (pc := 137) dX4_lie_137 rfl ?_
            refine J_if_eq_F (pc := 139) 148 dX4_lie_139 (by decide) (by decide) ?_
            refine J_iconst (pc := 142) (v := 1) dX4_lie_142 (by decide) ?_
            refine J_iload_n (pc := 143) dX4_lie_143 rfl ?_
            refine J_ishl (pc := 144) dX4_lie_144 ?_
            refine J_goto (pc := 145) 149 dX4_lie_145 (by decide) ?_
            refine J_ior (pc := 149) dX4_lie_149 ?_
            refine J_istore_n (pc := 150) (lv' := [some (.ref 0), some (.int w), some (.int (bv ||| ((1 : Int32) <<< (1 &&& 31)))), some (.int 1), some (.int 0), some (.int w), some (.int 1), some (.int 1)]) dX4_lie_150 (Nat.le_of_ble_eq_true rfl) rfl rfl ?_
            refine J_iincW' (pc := 151) 1 rfl (lv' := fun iq_ => [some (.ref 0), some (.int w), some (.int (bv ||| ((1 : Int32) <<< (1 &&& 31)))), some (.int iq_), some (.int 0), some (.int w), some (.int 1), some (.int 1)]) dX4_lie_151 rfl (by omega) (by decide) (Nat.le_of_ble_eq_true rfl) rfl (fun _ => rfl) (fun z151 e151 => ?_)
            refine J_goto (pc := 154) 40 dX4_lie_154 (by decide) ?_
            refine J_lv' (lv' := [some (.ref 0), some (.int w), some (.int (bv ||| ((1 : Int32) <<< (1 &&& 31)))), some (.int z151), none, none, none, none]) (by repeat' constructor) (J_mono (ih 2 z151 (bv ||| ((1 : Int32) <<< (1 &&& 31))) μ123 (by omega) (by omega) q123) (fun v μ' hh => ⟨?_, hh.2⟩))
            rw [hh.1, lieI]
            rw [if_pos ⟨h99, h126⟩]
            rfl
      · obtain rfl : iv = 2 := z_eq hi
        refine J_iload_n (pc := 45) dX4_lie_45 rfl ?_
        refine J_iconst (pc := 46) (v := 2) dX4_lie_46 (by decide) ?_
        refine J_irem (pc := 47) dX4_lie_47 (by decide) ?_
        refine J_if_ne_F (pc := 48) 55 dX4_lie_48 (by decide) (by decide) ?_
        refine J_iload_n (pc := 51) dX4_lie_51 rfl ?_
        refine J_goto (pc := 52) 56 dX4_lie_52 (by decide) ?_
        refine J_istore (pc := 56) (lv' := [some (.ref 0), some (.int w), some (.int bv), some (.int 2), some (.int w), none, none, none]) dX4_lie_56 (Nat.le_of_ble_eq_true rfl) rfl rfl ?_
        refine J_iload_n (pc := 58) dX4_lie_58 rfl ?_
        refine J_iconst (pc := 59) (v := 2) dX4_lie_59 (by decide) ?_
        refine J_irem (pc := 60) dX4_lie_60 (by decide) ?_
        refine J_if_ne_F (pc := 61) 68 dX4_lie_61 (by decide) (by decide) ?_
        refine J_iconst (pc := 64) (v := 0) dX4_lie_64 (by decide) ?_
        refine J_goto (pc := 65) 69 dX4_lie_65 (by decide) ?_
        refine J_istore (pc := 69) (lv' := [some (.ref 0), some (.int w), some (.int bv), some (.int 2), some (.int w), some (.int 0), none, none]) dX4_lie_69 (Nat.le_of_ble_eq_true rfl) rfl rfl ?_
        refine J_iload_n (pc := 71) dX4_lie_71 rfl ?_
        refine J_iconst (pc := 72) (v := 2) dX4_lie_72 (by decide) ?_
        refine J_icmp_ge_T (pc := 73) 80 dX4_lie_73 (by decide) (by decide) ?_
        refine J_iconst (pc := 80) (v := 0) dX4_lie_80 (by decide) ?_
        refine J_istore (pc := 81) (lv' := [some (.ref 0), some (.int w), some (.int bv), some (.int 2), some (.int w), some (.int 0), some (.int 0), none]) dX4_lie_81 (Nat.le_of_ble_eq_true rfl) rfl rfl ?_
        refine J_aload_n (pc := 83) dX4_lie_83 rfl ?_
        refine J_iload (pc := 84) dX4_lie_84 rfl ?_
        refine J_iload (pc := 86) dX4_lie_86 rfl ?_
        refine J_callVq (pc := 88) fC_X4_232 rfl dX4_lie_88 (c_X4_gain0 hc hq he hw hw5) rfl ⟨Nat.le_of_ble_eq_true rfl, Nat.le_of_ble_eq_true rfl⟩ rfl (Nat.le_of_ble_eq_true rfl) (fun v88 μ88 q88 => ?_)
        obtain ⟨⟨z88, rfl, e88⟩, q88⟩ := q88
        refine J_aload_n (pc := 91) dX4_lie_91 rfl ?_
        refine J_iload (pc := 92) dX4_lie_92 rfl ?_
        refine J_iload (pc := 94) dX4_lie_94 rfl ?_
        refine J_callVq (pc := 96) fC_X4_232 rfl dX4_lie_96 (c_X4_gain0 hc hq q88 (w' := 0) rfl (by decide)) rfl ⟨Nat.le_of_ble_eq_true rfl, Nat.le_of_ble_eq_true rfl⟩ rfl (Nat.le_of_ble_eq_true rfl) (fun v96 μ96 q96 => ?_)
        obtain ⟨⟨z96, rfl, e96⟩, q96⟩ := q96
        refine J_icmp_ltW (pc := 99) (GZ (m.1 1 0).toInt (m.1 1 3).toInt (m.1 1 4).toInt (m.1 1 1).toInt (m.1 1 2).toInt (m.1 1 5).toInt w' 2) (GZ (m.1 1 0).toInt (m.1 1 3).toInt (m.1 1 4).toInt (m.1 1 1).toInt (m.1 1 2).toInt (m.1 1 5).toInt w' 3) e88 e96 133 dX4_lie_99 (by decide) (fun h99 => ?_) (fun h99 => ?_)
        · refine J_iconst (pc := 133) (v := 0) dX4_lie_133 (by decide) ?_
          refine J_istore (pc := 134) (lv' := [some (.ref 0), some (.int w), some (.int bv), some (.int 2), some (.int w), some (.int 0), some (.int 0), some (.int 0)]) dX4_lie_134 (Nat.le_of_ble_eq_true rfl) rfl rfl ?_
          refine J_iload_n (pc := 136) dX4_lie_136 rfl ?_
          refine J_iload (pc := 137) dX4_lie_137 rfl ?_
          refine J_if_eq_T (pc := 139) 148 dX4_lie_139 (by decide) (by decide) ?_
          refine J_iconst (pc := 148) (v := 0) dX4_lie_148 (by decide) ?_
          refine J_ior (pc := 149) dX4_lie_149 ?_
          refine J_istore_n (pc := 150) (lv' := [some (.ref 0), some (.int w), some (.int (bv ||| 0)), some (.int 2), some (.int w), some (.int 0), some (.int 0), some (.int 0)]) dX4_lie_150 (Nat.le_of_ble_eq_true rfl) rfl rfl ?_
          refine J_iincW' (pc := 151) 2 rfl (lv' := fun iq_ => [some (.ref 0), some (.int w), some (.int (bv ||| 0)), some (.int iq_), some (.int w), some (.int 0), some (.int 0), some (.int 0)]) dX4_lie_151 rfl (by omega) (by decide) (Nat.le_of_ble_eq_true rfl) rfl (fun _ => rfl) (fun z151 e151 => ?_)
          refine J_goto (pc := 154) 40 dX4_lie_154 (by decide) ?_
          rw [show (bv ||| 0 : Int32) = bv from Int32.or_zero]
          refine J_lv' (lv' := [some (.ref 0), some (.int w), some (.int bv), some (.int z151), none, none, none, none]) (by repeat' constructor) (J_mono (ih 3 z151 bv μ96 (by omega) (by omega) q96) (fun v μ' hh => ⟨?_, hh.2⟩))
          rw [hh.1, lieI]
          rw [if_neg (fun z => by have z1 : GZ (m.1 1 0).toInt (m.1 1 3).toInt (m.1 1 4).toInt (m.1 1 1).toInt (m.1 1 2).toInt (m.1 1 5).toInt w' 3 ≤ GZ (m.1 1 0).toInt (m.1 1 3).toInt (m.1 1 4).toInt (m.1 1 1).toInt (m.1 1 2).toInt (m.1 1 5).toInt w' 2 := z.1; have z2 : GZ (m.1 1 0).toInt (m.1 1 3).toInt (m.1 1 4).toInt (m.1 1 1).toInt (m.1 1 2).toInt (m.1 1 5).toInt w' 2 ≤ GZ (m.1 1 0).toInt (m.1 1 3).toInt (m.1 1 4).toInt (m.1 1 1).toInt (m.1 1 2).toInt (m.1 1 5).toInt w' 0 := z.2; omega)]
        · refine J_aload_n (pc := 102) dX4_lie_102 rfl ?_
          refine J_iload (pc := 103) dX4_lie_103 rfl ?_
          refine J_iload (pc := 105) dX4_lie_105 rfl ?_
          refine J_callVq (pc := 107) fC_X4_232 rfl dX4_lie_107 (c_X4_gain0 hc hq q96 hw hw5) rfl ⟨Nat.le_of_ble_eq_true rfl, Nat.le_of_ble_eq_true rfl⟩ rfl (Nat.le_of_ble_eq_true rfl) (fun v107 μ107 q107 => ?_)
          obtain ⟨⟨z107, rfl, e107⟩, q107⟩ := q107
          refine J_aload_n (pc := 110) dX4_lie_110 rfl ?_
          refine J_iload (pc := 111) dX4_lie_111 rfl ?_
          refine J_iload (pc := 113) dX4_lie_113 rfl ?_
          refine J_if_ne_F (pc := 115) 122 dX4_lie_115 (by decide) (by decide) ?_
          refine J_iconst (pc := 118) (v := 1) dX4_lie_118 (by decide) ?_
          refine J_goto (pc := 119) 123 dX4_lie_119 (by decide) ?_
          refine J_callVq (pc := 123) fC_X4_232 rfl dX4_lie_123 (c_X4_gain1 hc hq q107 hw hw5) rfl ⟨Nat.le_of_ble_eq_true rfl, Nat.le_of_ble_eq_true rfl⟩ rfl (Nat.le_of_ble_eq_true rfl) (fun v123 μ123 q123 => ?_)
          obtain ⟨⟨z123, rfl, e123⟩, q123⟩ := q123
          refine J_icmp_gtW (pc := 126) (GZ (m.1 1 0).toInt (m.1 1 3).toInt (m.1 1 4).toInt (m.1 1 1).toInt (m.1 1 2).toInt (m.1 1 5).toInt w' 2) (GZ (m.1 1 0).toInt (m.1 1 3).toInt (m.1 1 4).toInt (m.1 1 1).toInt (m.1 1 2).toInt (m.1 1 5).toInt w' 0) e107 e123 133 dX4_lie_126 (by decide) (fun h126 => ?_) (fun h126 => ?_)
          · refine J_iconst (pc := 133) (v := 0) dX4_lie_133 (by decide) ?_
            refine J_istore (pc := 134) (lv' := [some (.ref 0), some (.int w), some (.int bv), some (.int 2), some (.int w), some (.int 0), some (.int 0), some (.int 0)]) dX4_lie_134 (Nat.le_of_ble_eq_true rfl) rfl rfl ?_
            refine J_iload_n (pc := 136) dX4_lie_136 rfl ?_
            refine J_iload (pc := 137) dX4_lie_137 rfl ?_
            refine J_if_eq_T (pc := 139) 148 dX4_lie_139 (by decide) (by decide) ?_
            refine J_iconst (pc := 148) (v := 0) dX4_lie_148 (by decide) ?_
            refine J_ior (pc := 149) dX4_lie_149 ?_
            refine J_istore_n (pc := 150) (lv' := [some (.ref 0), some (.int w), some (.int (bv ||| 0)), some (.int 2), some (.int w), some (.int 0), some (.int 0), some (.int 0)]) dX4_lie_150 (Nat.le_of_ble_eq_true rfl) rfl rfl ?_
            refine J_iincW' (pc := 151) 2 rfl (lv' := fun iq_ => [some (.ref 0), some (.int w), some (.int (bv ||| 0)), some (.int iq_), some (.int w), some (.int 0), some (.int 0), some (.int 0)]) dX4_lie_151 rfl (by omega) (by decide) (Nat.le_of_ble_eq_true rfl) rfl (fun _ => rfl) (fun z151 e151 => ?_)
            refine J_goto (pc := 154) 40 dX4_lie_154 (by decide) ?_
            rw [show (bv ||| 0 : Int32) = bv from Int32.or_zero]
            refine J_lv' (lv' := [some (.ref 0), some (.int w), some (.int bv), some (.int z151), none, none, none, none]) (by repeat' constructor) (J_mono (ih 3 z151 bv μ123 (by omega) (by omega) q123) (fun v μ' hh => ⟨?_, hh.2⟩))
            rw [hh.1, lieI]
            rw [if_neg (fun z => by have z1 : GZ (m.1 1 0).toInt (m.1 1 3).toInt (m.1 1 4).toInt (m.1 1 1).toInt (m.1 1 2).toInt (m.1 1 5).toInt w' 3 ≤ GZ (m.1 1 0).toInt (m.1 1 3).toInt (m.1 1 4).toInt (m.1 1 1).toInt (m.1 1 2).toInt (m.1 1 5).toInt w' 2 := z.1; have z2 : GZ (m.1 1 0).toInt (m.1 1 3).toInt (m.1 1 4).toInt (m.1 1 1).toInt (m.1 1 2).toInt (m.1 1 5).toInt w' 2 ≤ GZ (m.1 1 0).toInt (m.1 1 3).toInt (m.1 1 4).toInt (m.1 1 1).toInt (m.1 1 2).toInt (m.1 1 5).toInt w' 0 := z.2; omega)]
          · refine J_iconst (pc := 129) (v := 1) dX4_lie_129 (by decide) ?_
            refine J_goto (pc := 130) 134 dX4_lie_130 (by decide) ?_
            refine J_istore (pc := 134) (lv' := [some (.ref 0), some (.int w), some (.int bv), some (.int 2), some (.int w), some (.int 0), some (.int 0), some (.int 1)]) dX4_lie_134 (Nat.le_of_ble_eq_true rfl) rfl rfl ?_
            refine J_iload_n (pc := 136) dX4_lie_136 rfl ?_
            refine J_iload (pc := 137) dX4_lie_137 rfl ?_
            refine J_if_eq_F (pc := 139) 148 dX4_lie_139 (by decide) (by decide) ?_
            refine J_iconst (pc := 142) (v := 1) dX4_lie_142 (by decide) ?_
            refine J_iload_n (pc := 143) dX4_lie_143 rfl ?_
            refine J_ishl (pc := 144) dX4_lie_144 ?_
            refine J_goto (pc := 145) 149 dX4_lie_145 (by decide) ?_
            refine J_ior (pc := 149) dX4_lie_149 ?_
            refine J_istore_n (pc := 150) (lv' := [some (.ref 0), some (.int w), some (.int (bv ||| ((1 : Int32) <<< (2 &&& 31)))), some (.int 2), some (.int w), some (.int 0), some (.int 0), some (.int 1)]) dX4_lie_150 (Nat.le_of_ble_eq_true rfl) rfl rfl ?_
            refine J_iincW' (pc := 151) 2 rfl (lv' := fun iq_ => [some (.ref 0), some (.int w), some (.int (bv ||| ((1 : Int32) <<< (2 &&& 31)))), some (.int iq_), some (.int w), some (.int 0), some (.int 0), some (.int 1)]) dX4_lie_151 rfl (by omega) (by decide) (Nat.le_of_ble_eq_true rfl) rfl (fun _ => rfl) (fun z151 e151 => ?_)
            refine J_goto (pc := 154) 40 dX4_lie_154 (by decide) ?_
            refine J_lv' (lv' := [some (.ref 0), some (.int w), some (.int (bv ||| ((1 : Int32) <<< (2 &&& 31)))), some (.int z151), none, none, none, none]) (by repeat' constructor) (J_mono (ih 3 z151 (bv ||| ((1 : Int32) <<< (2 &&& 31))) μ123 (by omega) (by omega) q123) (fun v μ' hh => ⟨?_, hh.2⟩))
            rw [hh.1, lieI]
            rw [if_pos ⟨h99, h126⟩]
            rfl
      · obtain rfl : iv = 3 := z_eq hi
        refine J_iload_n (pc := 45) dX4_lie_45 rfl ?_
        refine J_iconst (pc := 46) (v := 2) dX4_lie_46 (by decide) ?_
        refine J_irem (pc := 47) dX4_lie_47 (by decide) ?_
        refine J_if_ne_T (pc := 48) 55 dX4_lie_48 (by decide) (by decide) ?_
        refine J_iconst (pc := 55) (v := 0) dX4_lie_55 (by decide) ?_
        refine J_istore (pc := 56) (lv' := [some (.ref 0), some (.int w), some (.int bv), some (.int 3), some (.int 0), none, none, none]) dX4_lie_56 (Nat.le_of_ble_eq_true rfl) rfl rfl ?_
        refine J_iload_n (pc := 58) dX4_lie_58 rfl ?_
        refine J_iconst (pc := 59) (v := 2) dX4_lie_59 (by decide) ?_
        refine J_irem (pc := 60) dX4_lie_60 (by decide) ?_
        refine J_if_ne_T (pc := 61) 68 dX4_lie_61 (by decide) (by decide) ?_
        refine J_iload_n (pc := 68) dX4_lie_68 rfl ?_
        refine J_istore (pc := 69) (lv' := [some (.ref 0), some (.int w), some (.int bv), some (.int 3), some (.int 0), some (.int w), none, none]) dX4_lie_69 (Nat.le_of_ble_eq_true rfl) rfl rfl ?_
        refine J_iload_n (pc := 71) dX4_lie_71 rfl ?_
        refine J_iconst (pc := 72) (v := 2) dX4_lie_72 (by decide) ?_
        refine J_icmp_ge_T (pc := 73) 80 dX4_lie_73 (by decide) (by decide) ?_
        refine J_iconst (pc := 80) (v := 0) dX4_lie_80 (by decide) ?_
        refine J_istore (pc := 81) (lv' := [some (.ref 0), some (.int w), some (.int bv), some (.int 3), some (.int 0), some (.int w), some (.int 0), none]) dX4_lie_81 (Nat.le_of_ble_eq_true rfl) rfl rfl ?_
        refine J_aload_n (pc := 83) dX4_lie_83 rfl ?_
        refine J_iload (pc := 84) dX4_lie_84 rfl ?_
        refine J_iload (pc := 86) dX4_lie_86 rfl ?_
        refine J_callVq (pc := 88) fC_X4_232 rfl dX4_lie_88 (c_X4_gain0 hc hq he (w' := 0) rfl (by decide)) rfl ⟨Nat.le_of_ble_eq_true rfl, Nat.le_of_ble_eq_true rfl⟩ rfl (Nat.le_of_ble_eq_true rfl) (fun v88 μ88 q88 => ?_)
        obtain ⟨⟨z88, rfl, e88⟩, q88⟩ := q88
        refine J_aload_n (pc := 91) dX4_lie_91 rfl ?_
        refine J_iload (pc := 92) dX4_lie_92 rfl ?_
        refine J_iload (pc := 94) dX4_lie_94 rfl ?_
        refine J_callVq (pc := 96) fC_X4_232 rfl dX4_lie_96 (c_X4_gain0 hc hq q88 hw hw5) rfl ⟨Nat.le_of_ble_eq_true rfl, Nat.le_of_ble_eq_true rfl⟩ rfl (Nat.le_of_ble_eq_true rfl) (fun v96 μ96 q96 => ?_)
        obtain ⟨⟨z96, rfl, e96⟩, q96⟩ := q96
        refine J_icmp_ltW (pc := 99) (GZ (m.1 1 0).toInt (m.1 1 3).toInt (m.1 1 4).toInt (m.1 1 1).toInt (m.1 1 2).toInt (m.1 1 5).toInt w' 3) (GZ (m.1 1 0).toInt (m.1 1 3).toInt (m.1 1 4).toInt (m.1 1 1).toInt (m.1 1 2).toInt (m.1 1 5).toInt w' 2) e88 e96 133 dX4_lie_99 (by decide) (fun h99 => ?_) (fun h99 => ?_)
        · refine J_iconst (pc := 133) (v := 0) dX4_lie_133 (by decide) ?_
          refine J_istore (pc := 134) (lv' := [some (.ref 0), some (.int w), some (.int bv), some (.int 3), some (.int 0), some (.int w), some (.int 0), some (.int 0)]) dX4_lie_134 (Nat.le_of_ble_eq_true rfl) rfl rfl ?_
          refine J_iload_n (pc := 136) dX4_lie_136 rfl ?_
          refine J_iload (pc := 137) dX4_lie_137 rfl ?_
          refine J_if_eq_T (pc := 139) 148 dX4_lie_139 (by decide) (by decide) ?_
          refine J_iconst (pc := 148) (v := 0) dX4_lie_148 (by decide) ?_
          refine J_ior (pc := 149) dX4_lie_149 ?_
          refine J_istore_n (pc := 150) (lv' := [some (.ref 0), some (.int w), some (.int (bv ||| 0)), some (.int 3), some (.int 0), some (.int w), some (.int 0), some (.int 0)]) dX4_lie_150 (Nat.le_of_ble_eq_true rfl) rfl rfl ?_
          refine J_iincW' (pc := 151) 3 rfl (lv' := fun iq_ => [some (.ref 0), some (.int w), some (.int (bv ||| 0)), some (.int iq_), some (.int 0), some (.int w), some (.int 0), some (.int 0)]) dX4_lie_151 rfl (by omega) (by decide) (Nat.le_of_ble_eq_true rfl) rfl (fun _ => rfl) (fun z151 e151 => ?_)
          refine J_goto (pc := 154) 40 dX4_lie_154 (by decide) ?_
          rw [show (bv ||| 0 : Int32) = bv from Int32.or_zero]
          refine J_lv' (lv' := [some (.ref 0), some (.int w), some (.int bv), some (.int z151), none, none, none, none]) (by repeat' constructor) (J_mono (ih 4 z151 bv μ96 (by omega) (by omega) q96) (fun v μ' hh => ⟨?_, hh.2⟩))
          rw [hh.1, lieI]
          rw [if_neg (fun z => by have z1 : GZ (m.1 1 0).toInt (m.1 1 3).toInt (m.1 1 4).toInt (m.1 1 1).toInt (m.1 1 2).toInt (m.1 1 5).toInt w' 2 ≤ GZ (m.1 1 0).toInt (m.1 1 3).toInt (m.1 1 4).toInt (m.1 1 1).toInt (m.1 1 2).toInt (m.1 1 5).toInt w' 3 := z.1; have z2 : GZ (m.1 1 0).toInt (m.1 1 3).toInt (m.1 1 4).toInt (m.1 1 1).toInt (m.1 1 2).toInt (m.1 1 5).toInt w' 3 ≤ GZ (m.1 1 0).toInt (m.1 1 3).toInt (m.1 1 4).toInt (m.1 1 1).toInt (m.1 1 2).toInt (m.1 1 5).toInt w' 1 := z.2; omega)]
        · refine J_aload_n (pc := 102) dX4_lie_102 rfl ?_
          refine J_iload (pc := 103) dX4_lie_103 rfl ?_
          refine J_iload (pc := 105) dX4_lie_105 rfl ?_
          refine J_callVq (pc := 107) fC_X4_232 rfl dX4_lie_107 (c_X4_gain0 hc hq q96 (w' := 0) rfl (by decide)) rfl ⟨Nat.le_of_ble_eq_true rfl, Nat.le_of_ble_eq_true rfl⟩ rfl (Nat.le_of_ble_eq_true rfl) (fun v107 μ107 q107 => ?_)
          obtain ⟨⟨z107, rfl, e107⟩, q107⟩ := q107
          refine J_aload_n (pc := 110) dX4_lie_110 rfl ?_
          refine J_iload (pc := 111) dX4_lie_111 rfl ?_
          refine J_iload (pc := 113) dX4_lie_113 rfl ?_
          refine J_if_ne_F (pc := 115) 122 dX4_lie_115 (by decide) (by decide) ?_
          refine J_iconst (pc := 118) (v := 1) dX4_lie_118 (by decide) ?_
          refine J_goto (pc := 119) 123 dX4_lie_119 (by decide) ?_
          refine J_callVq (pc := 123) fC_X4_232 rfl dX4_lie_123 (c_X4_gain1 hc hq q107 (w' := 0) rfl (by decide)) rfl ⟨Nat.le_of_ble_eq_true rfl, Nat.le_of_ble_eq_true rfl⟩ rfl (Nat.le_of_ble_eq_true rfl) (fun v123 μ123 q123 => ?_)
          obtain ⟨⟨z123, rfl, e123⟩, q123⟩ := q123
          refine J_icmp_gtW (pc := 126) (GZ (m.1 1 0).toInt (m.1 1 3).toInt (m.1 1 4).toInt (m.1 1 1).toInt (m.1 1 2).toInt (m.1 1 5).toInt w' 3) (GZ (m.1 1 0).toInt (m.1 1 3).toInt (m.1 1 4).toInt (m.1 1 1).toInt (m.1 1 2).toInt (m.1 1 5).toInt w' 1) e107 e123 133 dX4_lie_126 (by decide) (fun h126 => ?_) (fun h126 => ?_)
          · refine J_iconst (pc := 133) (v := 0) dX4_lie_133 (by decide) ?_
            refine J_istore (pc := 134) (lv' := [some (.ref 0), some (.int w), some (.int bv), some (.int 3), some (.int 0), some (.int w), some (.int 0), some (.int 0)]) dX4_lie_134 (Nat.le_of_ble_eq_true rfl) rfl rfl ?_
            refine J_iload_n (pc := 136) dX4_lie_136 rfl ?_
            refine J_iload (pc := 137) dX4_lie_137 rfl ?_
            refine J_if_eq_T (pc := 139) 148 dX4_lie_139 (by decide) (by decide) ?_
            refine J_iconst (pc := 148) (v := 0) dX4_lie_148 (by decide) ?_
            refine J_ior (pc := 149) dX4_lie_149 ?_
            refine J_istore_n (pc := 150) (lv' := [some (.ref 0), some (.int w), some (.int (bv ||| 0)), some (.int 3), some (.int 0), some (.int w), some (.int 0), some (.int 0)]) dX4_lie_150 (Nat.le_of_ble_eq_true rfl) rfl rfl ?_
            refine J_iincW' (pc := 151) 3 rfl (lv' := fun iq_ => [some (.ref 0), some (.int w), some (.int (bv ||| 0)), some (.int iq_), some (.int 0), some (.int w), some (.int 0), some (.int 0)]) dX4_lie_151 rfl (by omega) (by decide) (Nat.le_of_ble_eq_true rfl) rfl (fun _ => rfl) (fun z151 e151 => ?_)
            refine J_goto (pc := 154) 40 dX4_lie_154 (by decide) ?_
            rw [show (bv ||| 0 : Int32) = bv from Int32.or_zero]
            refine J_lv' (lv' := [some (.ref 0), some (.int w), some (.int bv), some (.int z151), none, none, none, none]) (by repeat' constructor) (J_mono (ih 4 z151 bv μ123 (by omega) (by omega) q123) (fun v μ' hh => ⟨?_, hh.2⟩))
            rw [hh.1, lieI]
            rw [if_neg (fun z => by have z1 : GZ (m.1 1 0).toInt (m.1 1 3).toInt (m.1 1 4).toInt (m.1 1 1).toInt (m.1 1 2).toInt (m.1 1 5).toInt w' 2 ≤ GZ (m.1 1 0).toInt (m.1 1 3).toInt (m.1 1 4).toInt (m.1 1 1).toInt (m.1 1 2).toInt (m.1 1 5).toInt w' 3 := z.1; have z2 : GZ (m.1 1 0).toInt (m.1 1 3).toInt (m.1 1 4).toInt (m.1 1 1).toInt (m.1 1 2).toInt (m.1 1 5).toInt w' 3 ≤ GZ (m.1 1 0).toInt (m.1 1 3).toInt (m.1 1 4).toInt (m.1 1 1).toInt (m.1 1 2).toInt (m.1 1 5).toInt w' 1 := z.2; omega)]
          · refine J_iconst (pc := 129) (v := 1) dX4_lie_129 (by decide) ?_
            refine J_goto (pc := 130) 134 dX4_lie_130 (by decide) ?_
            refine J_istore (pc := 134) (lv' := [some (.ref 0), some (.int w), some (.int bv), some (.int 3), some (.int 0), some (.int w), some (.int 0), some (.int 1)]) dX4_lie_134 (Nat.le_of_ble_eq_true rfl) rfl rfl ?_
            refine J_iload_n (pc := 136) dX4_lie_136 rfl ?_
            refine J_iload (pc := 137) dX4_lie_137 rfl ?_
            refine J_if_eq_F (pc := 139) 148 dX4_lie_139 (by decide) (by decide) ?_
            refine J_iconst (pc := 142) (v := 1) dX4_lie_142 (by decide) ?_
            refine J_iload_n (pc := 143) dX4_lie_143 rfl ?_
            refine J_ishl (pc := 144) dX4_lie_144 ?_
            refine J_goto (pc := 145) 149 dX4_lie_145 (by decide) ?_
            refine J_ior (pc := 149) dX4_lie_149 ?_
            refine J_istore_n (pc := 150) (lv' := [some (.ref 0), some (.int w), some (.int (bv ||| ((1 : Int32) <<< (3 &&& 31)))), some (.int 3), some (.int 0), some (.int w), some (.int 0), some (.int 1)]) dX4_lie_150 (Nat.le_of_ble_eq_true rfl) rfl rfl ?_
            refine J_iincW' (pc := 151) 3 rfl (lv' := fun iq_ => [some (.ref 0), some (.int w), some (.int (bv ||| ((1 : Int32) <<< (3 &&& 31)))), some (.int iq_), some (.int 0), some (.int w), some (.int 0), some (.int 1)]) dX4_lie_151 rfl (by omega) (by decide) (Nat.le_of_ble_eq_true rfl) rfl (fun _ => rfl) (fun z151 e151 => ?_)
            refine J_goto (pc := 154) 40 dX4_lie_154 (by decide) ?_
            refine J_lv' (lv' := [some (.ref 0), some (.int w), some (.int (bv ||| ((1 : Int32) <<< (3 &&& 31)))), some (.int z151), none, none, none, none]) (by repeat' constructor) (J_mono (ih 4 z151 (bv ||| ((1 : Int32) <<< (3 &&& 31))) μ123 (by omega) (by omega) q123) (fun v μ' hh => ⟨?_, hh.2⟩))
            rw [hh.1, lieI]
            rw [if_pos ⟨h99, h126⟩]
            rfl
set_option maxRecDepth 100000 in
set_option maxHeartbeats 4000000 in
theorem k_lie {N : Int} {c m : JM} (h : Inv N c m) (hN : 150 ≤ N ∧ N < 100000) {a : Int32}  : Con G shC mX3_lie [.ref 0, .int a] c (fun v μ' => (¬(0 ≤ a.toInt ∧ a.toInt ≤ 5) ∧ v = some (.int (-2)) ∧ μ' = (jI c 0 8 (c.1 0 8 + 1))) ∨ ((0 ≤ a.toInt ∧ a.toInt ≤ 5) ∧ (m.1 1 6).toInt ≠ 0 ∧ v = some (.int (-3)) ∧ μ' = (jI c 0 9 (c.1 0 9 + 1))) ∨ ((0 ≤ a.toInt ∧ a.toInt ≤ 5) ∧ (m.1 1 6).toInt = 0 ∧ v = some (.int (lieI (GZ (m.1 1 0).toInt (m.1 1 3).toInt (m.1 1 4).toInt (m.1 1 1).toInt (m.1 1 2).toInt (m.1 1 5).toInt a.toInt) 4 0 0)) ∧ μ' = c)) := by
  obtain ⟨q0, q1, q2, q3, q4, q5, q6⟩ := Inv_q h
  obtain ⟨r0, r1, r2, r3, r4, r5, r6, r15, r40, r9⟩ := Inv_r h
  have hc := h.1
  have qt : (c.1 21 1).toInt = (m.1 0 9).toInt := by rw [h.2.2.2.2.1.1]
  have qs0 : (c.1 0 8).toInt = (m.1 4 0).toInt := by rw [h.2.2.2.2.2.2.1]
  have qs1 : (c.1 0 9).toInt = (m.1 4 1).toInt := by rw [h.2.2.2.2.2.2.2.1]
  have qs2 : (c.1 0 10).toInt = (m.1 4 2).toInt := by rw [h.2.2.2.2.2.2.2.2]
  refine Con_of [some (.ref 0), some (.int a), none, none, none] (by decide +kernel) (Nat.le_of_ble_eq_true rfl) (fun _ h => h) ?_
  refine J_iload_n (pc := 0) dX3_lie_0 rfl ?_
  refine J_callSc (pc := 1) fC_X3_116 dX3_lie_1 (c_X3_isWord a.toInt rfl) rfl ⟨Nat.le_of_ble_eq_true rfl, Nat.le_of_ble_eq_true rfl⟩ rfl (Nat.le_of_ble_eq_true rfl) (fun h1 => ?_) (fun h1 => ?_)
  · refine J_if_ne_T (pc := 4) 14 dX3_lie_4 (by decide) (by decide) ?_
    refine J_aload_n (pc := 14) dX3_lie_14 rfl ?_
    refine J_getR (pc := 15) 1 fF_X3_12 rfl rfl dX3_lie_15 ?_
    refine J_getI (pc := 18) fF_X3_78 rfl rfl dX3_lie_18 ?_
    refine J_callSz (pc := 21) fC_X3_120 dX3_lie_21 (c_X3_beingOf ((m.1 1 6).toInt * 10000 + (m.1 1 1).toInt * 100 + (m.1 1 2).toInt) q3 (by omega)) rfl ⟨Nat.le_of_ble_eq_true rfl, Nat.le_of_ble_eq_true rfl⟩ rfl (Nat.le_of_ble_eq_true rfl) (fun z21 e21 => ?_)
    refine J_if_eqW (pc := 24) (((m.1 1 6).toInt * 10000 + (m.1 1 1).toInt * 100 + (m.1 1 2).toInt) / 10000) e21 34 dX3_lie_24 (by decide) (fun h24 => ?_) (fun h24 => ?_)
    · refine J_iconst (pc := 34) (v := 0) dX3_lie_34 (by decide) ?_
      refine J_istore_n (pc := 35) (lv' := [some (.ref 0), some (.int a), some (.int 0), none, none]) dX3_lie_35 (Nat.le_of_ble_eq_true rfl) rfl rfl ?_
      refine J_iconst (pc := 36) (v := 0) dX3_lie_36 (by decide) ?_
      refine J_istore_n (pc := 37) (lv' := [some (.ref 0), some (.int a), some (.int 0), some (.int 0), none]) dX3_lie_37 (Nat.le_of_ble_eq_true rfl) rfl rfl ?_
      refine J_lv' (lv' := [some (.ref 0), some (.int a), some (.int 0), some (.int 0), none]) (by repeat' constructor) (J_mono (l_k_lie q0 q1 q2 (a := (m.1 1 1).toInt) (p := (m.1 1 2).toInt) (b := (m.1 1 6).toInt) q3 q4 (by omega) r5.1 rfl (by omega) 4 0 0 0 rfl rfl) (fun v μ' hh => Or.inr (Or.inr ⟨by omega, by omega, hh.1, hh.2⟩)))
    · refine J_aload_n (pc := 27) dX3_lie_27 rfl ?_
      refine J_bipush (pc := 28) (v := (-3)) dX3_lie_28 (by decide) ?_
      refine J_callVim (pc := 30) fC_X3_64 rfl dX3_lie_30 (c_X3_refuse3) rfl ⟨Nat.le_of_ble_eq_true rfl, Nat.le_of_ble_eq_true rfl⟩ rfl (Nat.le_of_ble_eq_true rfl) (fun z30 μ30 d30 m30 => ?_)
      refine J_iret (pc := 33) dX3_lie_33 rfl ?_
      subst_vars
      first
        | exact Or.inl ⟨by omega, rfl, rfl⟩
        | exact Or.inr (Or.inl ⟨by omega, by omega, rfl, rfl⟩)
  · refine J_if_ne_F (pc := 4) 14 dX3_lie_4 (by decide) (by decide) ?_
    refine J_aload_n (pc := 7) dX3_lie_7 rfl ?_
    refine J_bipush (pc := 8) (v := (-2)) dX3_lie_8 (by decide) ?_
    refine J_callVim (pc := 10) fC_X3_64 rfl dX3_lie_10 (c_X3_refuse2) rfl ⟨Nat.le_of_ble_eq_true rfl, Nat.le_of_ble_eq_true rfl⟩ rfl (Nat.le_of_ble_eq_true rfl) (fun z10 μ10 d10 m10 => ?_)
    refine J_iret (pc := 13) dX3_lie_13 rfl ?_
    subst_vars
    first
      | exact Or.inl ⟨by omega, rfl, rfl⟩
      | exact Or.inr (Or.inl ⟨by omega, by omega, rfl, rfl⟩)
set_option maxRecDepth 100000 in
set_option maxHeartbeats 4000000 in
theorem n_lie {N : Int} {c m : JM} (h : Inv N c m) (hN : 150 ≤ N ∧ N < 100000) {a : Int32}  : Con G shM mX4_lie [.ref 0, .int a] m (fun v μ' => (¬(0 ≤ a.toInt ∧ a.toInt ≤ 5) ∧ v = some (.int (-2)) ∧ μ' = (jI m 4 0 (m.1 4 0 + 1))) ∨ ((0 ≤ a.toInt ∧ a.toInt ≤ 5) ∧ (m.1 1 6).toInt ≠ 0 ∧ v = some (.int (-3)) ∧ μ' = (jI m 4 1 (m.1 4 1 + 1))) ∨ ((0 ≤ a.toInt ∧ a.toInt ≤ 5) ∧ (m.1 1 6).toInt = 0 ∧ v = some (.int (lieI (GZ (m.1 1 0).toInt (m.1 1 3).toInt (m.1 1 4).toInt (m.1 1 1).toInt (m.1 1 2).toInt (m.1 1 5).toInt a.toInt) 4 0 0)) ∧ eqM m μ')) := by
  obtain ⟨q0, q1, q2, q3, q4, q5, q6⟩ := Inv_q h
  obtain ⟨r0, r1, r2, r3, r4, r5, r6, r15, r40, r9⟩ := Inv_r h
  have hc := h.1
  have qt : (c.1 21 1).toInt = (m.1 0 9).toInt := by rw [h.2.2.2.2.1.1]
  have qs0 : (c.1 0 8).toInt = (m.1 4 0).toInt := by rw [h.2.2.2.2.2.2.1]
  have qs1 : (c.1 0 9).toInt = (m.1 4 1).toInt := by rw [h.2.2.2.2.2.2.2.1]
  have qs2 : (c.1 0 10).toInt = (m.1 4 2).toInt := by rw [h.2.2.2.2.2.2.2.2]
  refine Con_of [some (.ref 0), some (.int a), none, none, none, none, none, none] (by decide +kernel) (Nat.le_of_ble_eq_true rfl) (fun _ h => h) ?_
  refine J_iload_n (pc := 0) dX4_lie_0 rfl ?_
  refine J_i2l (pc := 1) dX4_lie_1 rfl ?_
  refine J_lconst (pc := 2) (v := 0) dX4_lie_2 (by decide) ?_
  refine J_ldc2 (pc := 3) fK_X4_89 dX4_lie_3 ?_
  refine J_callSc (pc := 6) fC_X4_58 dX4_lie_6 (c_X4_in a.toInt 0 5 (i2l_z rfl) rfl rfl) rfl ⟨Nat.le_of_ble_eq_true rfl, Nat.le_of_ble_eq_true rfl⟩ rfl (Nat.le_of_ble_eq_true rfl) (fun h6 => ?_) (fun h6 => ?_)
  · refine J_if_ne_T (pc := 9) 19 dX4_lie_9 (by decide) (by decide) ?_
    refine J_aload_n (pc := 19) dX4_lie_19 rfl ?_
    refine J_getR (pc := 20) 1 fF_X4_7 rfl rfl dX4_lie_20 ?_
    refine J_bipush (pc := 23) (v := 6) dX4_lie_23 (by decide) ?_
    refine J_ialdW (pc := 25) 6 (rfl) rfl (by decide) dX4_lie_25 ?_
    refine J_if_eqW (pc := 26) ((m.1 1 6).toInt) rfl 36 dX4_lie_26 (by decide) (fun h26 => ?_) (fun h26 => ?_)
    · refine J_iconst (pc := 36) (v := 0) dX4_lie_36 (by decide) ?_
      refine J_istore_n (pc := 37) (lv' := [some (.ref 0), some (.int a), some (.int 0), none, none, none, none, none]) dX4_lie_37 (Nat.le_of_ble_eq_true rfl) rfl rfl ?_
      refine J_iconst (pc := 38) (v := 0) dX4_lie_38 (by decide) ?_
      refine J_istore_n (pc := 39) (lv' := [some (.ref 0), some (.int a), some (.int 0), some (.int 0), none, none, none, none]) dX4_lie_39 (Nat.le_of_ble_eq_true rfl) rfl rfl ?_
      refine J_lv' (lv' := [some (.ref 0), some (.int a), some (.int 0), some (.int 0), none, none, none, none]) (by repeat' constructor) (J_mono (l_n_lie hc (by omega) rfl (by omega) 4 0 0 0 m rfl rfl (eqM_rf m)) (fun v μ' hh => Or.inr (Or.inr ⟨by omega, by omega, hh.1, hh.2⟩)))
    · refine J_aload_n (pc := 29) dX4_lie_29 rfl ?_
      refine J_bipush (pc := 30) (v := (-3)) dX4_lie_30 (by decide) ?_
      refine J_callVim (pc := 32) fC_X4_91 rfl dX4_lie_32 (c_X4_no3) rfl ⟨Nat.le_of_ble_eq_true rfl, Nat.le_of_ble_eq_true rfl⟩ rfl (Nat.le_of_ble_eq_true rfl) (fun z32 μ32 d32 m32 => ?_)
      refine J_iret (pc := 35) dX4_lie_35 rfl ?_
      subst_vars
      first
        | exact Or.inl ⟨by omega, rfl, rfl⟩
        | exact Or.inr (Or.inl ⟨by omega, by omega, rfl, rfl⟩)
  · refine J_if_ne_F (pc := 9) 19 dX4_lie_9 (by decide) (by decide) ?_
    refine J_aload_n (pc := 12) dX4_lie_12 rfl ?_
    refine J_bipush (pc := 13) (v := (-2)) dX4_lie_13 (by decide) ?_
    refine J_callVim (pc := 15) fC_X4_91 rfl dX4_lie_15 (c_X4_no2) rfl ⟨Nat.le_of_ble_eq_true rfl, Nat.le_of_ble_eq_true rfl⟩ rfl (Nat.le_of_ble_eq_true rfl) (fun z15 μ15 d15 m15 => ?_)
    refine J_iret (pc := 18) dX4_lie_18 rfl ?_
    subst_vars
    first
      | exact Or.inl ⟨by omega, rfl, rfl⟩
      | exact Or.inr (Or.inl ⟨by omega, by omega, rfl, rfl⟩)
theorem pr_lie {G : JG × JG} {N : Int} {c m : JM} (h : Inv N c m) (hN : 150 ≤ N ∧ N < 100000) {a : Int32} : Pair G N c m mX3_lie mX4_lie [.int a] := by
  refine ⟨_, _, k_lie h hN, n_lie h hN, fun v c' w m' hC hM => ?_⟩
  rcases hC with ⟨a1, a2, a3⟩ | ⟨a1, a4, a2, a3⟩ | ⟨a1, a4, a2, a3⟩
  · rcases hM with ⟨b1, b2, b3⟩ | ⟨b1, b4, b2, b3⟩ | ⟨b1, b4, b2, b3⟩
    · exact ⟨⟨by rw [a2, b2], _, a2⟩, by rw [a3, b3]; exact Inv_no (by omega) h 0 (by decide)⟩
    · exact absurd b1 a1
    · exact absurd b1 a1
  · rcases hM with ⟨b1, b2, b3⟩ | ⟨b1, b4, b2, b3⟩ | ⟨b1, b4, b2, b3⟩
    · exact absurd a1 b1
    · exact ⟨⟨by rw [a2, b2], _, a2⟩, by rw [a3, b3]; exact Inv_no (by omega) h 1 (by decide)⟩
    · exact absurd b4 a4
  · rcases hM with ⟨b1, b2, b3⟩ | ⟨b1, b4, b2, b3⟩ | ⟨b1, b4, b2, b3⟩
    · exact absurd a1 b1
    · exact absurd a4 b4
    · exact ⟨⟨by rw [a2, b2], _, a2⟩, by rw [a3]; exact Inv_eq (by omega) h (eqC_rf _) b3⟩

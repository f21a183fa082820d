/-! ===== the model's remember; the class's notesFit, refuse ===== -/
def shF (f : Nat → Int32) (j : Nat) : Int32 := if 41 ≤ j ∧ j < 69 then f (j + 4) else if j = 40 then 7 else f j
def pushF (f : Nat → Int32) (n : Nat) : Nat → Int32 := upd (upd (upd (upd (upd f (41 + 4 * n) (f 1)) (41 + 4 * n + 1) (f 2)) (41 + 4 * n + 2) (f 5)) (41 + 4 * n + 3) (f 6)) 40 (iZ ((n : Int) + 1))
def remF (f : Nat → Int32) : Nat → Int32 := if (f 40).toInt = 8 then pushF (shF f) 7 else pushF f (f 40).toInt.toNat
variable {G : JG} {μ : JM}
set_option maxRecDepth 100000 in
set_option maxHeartbeats 4000000 in
theorem l_X4_rem {Q : Option Value → JM → Prop} (hk : J G shM mX4_remember 41 [some (.ref 0), none] [] (jC μ 1 (fun j => if 41 ≤ j ∧ j < 41 + 28 then μ.1 1 (j + 4) else μ.1 1 j)) Q) : ∀ i : Nat, i ≤ 28 → ∀ iv : Int32, iv.toInt = 45 + (i : Int) → ∀ ν : JM, ν = (jC μ 1 (fun j => if 41 ≤ j ∧ j < 41 + i then μ.1 1 (j + 4) else μ.1 1 j)) → J G shM mX4_remember 15 [some (.ref 0), some (.int iv)] [] ν Q := by
  refine loop_up 28 (fun i hN ih iv hi ν hν => ?_)
  refine J_iload_n (pc := 15) dX4_remember_15 rfl ?_
  refine J_bipush (pc := 16) (v := 73) dX4_remember_16 (by decide) ?_
  refine J_icmp_geW (pc := 18) (45 + (i : Int)) 73 hi rfl 41 dX4_remember_18 (by decide) (fun h18 => ?_) (fun h18 => ?_)
  · obtain rfl : i = 28 := by omega
    exact J_lv' (lv' := [some (.ref 0), none]) (by repeat' constructor) (by rw [hν]; exact hk)
  · refine J_aload_n (pc := 21) dX4_remember_21 rfl ?_
    refine J_getR (pc := 22) 1 fF_X4_7 rfl rfl dX4_remember_22 ?_
    refine J_iload_n (pc := 25) dX4_remember_25 rfl ?_
    refine J_iconst (pc := 26) (v := 4) dX4_remember_26 (by decide) ?_
    refine J_isubW (pc := 27) (45 + (i : Int)) 4 hi rfl dX4_remember_27 (by omega) (fun z27 e27 => ?_)
    refine J_aload_n (pc := 28) dX4_remember_28 rfl ?_
    refine J_getR (pc := 29) 1 fF_X4_7 rfl rfl dX4_remember_29 ?_
    refine J_iload_n (pc := 32) dX4_remember_32 rfl ?_
    refine J_ialdW (pc := 33) (45 + i) (by omega) rfl (by omega) dX4_remember_33 ?_
    refine J_iastW (pc := 34) (41 + i) (by omega) rfl (by omega) dX4_remember_34 (fun μ34 m34 => ?_)
    refine J_iincW' (pc := 35) (45 + (i : Int)) hi (lv' := fun v => [some (.ref 0), some (.int v)]) dX4_remember_35 rfl (by omega) (by decide) (Nat.le_of_ble_eq_true rfl) rfl (fun _ => rfl) (fun z35 e35 => ?_)
    refine J_goto (pc := 38) 15 dX4_remember_38 (by decide) ?_
    refine ih (i + 1) (by omega) (by omega) z35 (by omega) _ ?_
    rw [m34]
    exact row_l hν (by rw [hν, jC_at]; rw [if_neg (by omega)]; exact congrArg (μ.1 1) (show 45 + i = 41 + i + 4 by omega))
set_option maxRecDepth 100000 in
set_option maxHeartbeats 4000000 in
theorem l_X4_push (n : Nat) (hn : (μ.1 1 40).toInt = (n : Int)) (h8 : n < 8) : J G shM mX4_remember 52 [some (.ref 0), none] [] μ (j_is none (jC μ 1 (pushF (μ.1 1) n))) := by
  refine J_bipush (pc := 52) (v := 41) dX4_remember_52 (by decide) ?_
  refine J_iconst (pc := 54) (v := 4) dX4_remember_54 (by decide) ?_
  refine J_aload_n (pc := 55) dX4_remember_55 rfl ?_
  refine J_getR (pc := 56) 1 fF_X4_7 rfl rfl dX4_remember_56 ?_
  refine J_bipush (pc := 59) (v := 40) dX4_remember_59 (by decide) ?_
  refine J_ialdW (pc := 61) 40 (rfl) rfl (by decide) dX4_remember_61 ?_
  refine J_imulW (pc := 62) 4 (n : Int) rfl hn dX4_remember_62 (by omega) (fun z62 e62 => ?_)
  refine J_iaddW (pc := 63) 41 (4 * (n : Int)) rfl e62 dX4_remember_63 (by omega) (fun z63 e63 => ?_)
  refine J_istore_n (pc := 64) (lv' := [some (.ref 0), some (.int z63)]) dX4_remember_64 (Nat.le_of_ble_eq_true rfl) rfl rfl ?_
  refine J_aload_n (pc := 65) dX4_remember_65 rfl ?_
  refine J_getR (pc := 66) 1 fF_X4_7 rfl rfl dX4_remember_66 ?_
  refine J_iload_n (pc := 69) dX4_remember_69 rfl ?_
  refine J_aload_n (pc := 70) dX4_remember_70 rfl ?_
  refine J_getR (pc := 71) 1 fF_X4_7 rfl rfl dX4_remember_71 ?_
  refine J_iconst (pc := 74) (v := 1) dX4_remember_74 (by decide) ?_
  refine J_ialdW (pc := 75) 1 (rfl) rfl (by decide) dX4_remember_75 ?_
  refine J_iastW (pc := 76) (41 + 4 * n) (by omega) rfl (by omega) dX4_remember_76 (fun μ76 m76 => ?_)
  refine J_aload_n (pc := 77) dX4_remember_77 rfl ?_
  refine J_getR (pc := 78) 1 fF_X4_7 rfl rfl dX4_remember_78 ?_
  refine J_iload_n (pc := 81) dX4_remember_81 rfl ?_
  refine J_iconst (pc := 82) (v := 1) dX4_remember_82 (by decide) ?_
  refine J_iaddW (pc := 83) (41 + (4 * (n : Int))) 1 e63 rfl dX4_remember_83 (by omega) (fun z83 e83 => ?_)
  refine J_aload_n (pc := 84) dX4_remember_84 rfl ?_
  refine J_getR (pc := 85) 1 fF_X4_7 rfl rfl dX4_remember_85 ?_
  refine J_iconst (pc := 88) (v := 2) dX4_remember_88 (by decide) ?_
  refine J_ialdW (pc := 89) 2 (rfl) rfl (by decide) dX4_remember_89 ?_
  refine J_iastW (pc := 90) (41 + 4 * n + 1) (by omega) rfl (by omega) dX4_remember_90 (fun μ90 m90 => ?_)
  refine J_aload_n (pc := 91) dX4_remember_91 rfl ?_
  refine J_getR (pc := 92) 1 fF_X4_7 rfl rfl dX4_remember_92 ?_
  refine J_iload_n (pc := 95) dX4_remember_95 rfl ?_
  refine J_iconst (pc := 96) (v := 2) dX4_remember_96 (by decide) ?_
  refine J_iaddW (pc := 97) (41 + (4 * (n : Int))) 2 e63 rfl dX4_remember_97 (by omega) (fun z97 e97 => ?_)
  refine J_aload_n (pc := 98) dX4_remember_98 rfl ?_
  refine J_getR (pc := 99) 1 fF_X4_7 rfl rfl dX4_remember_99 ?_
  refine J_iconst (pc := 102) (v := 5) dX4_remember_102 (by decide) ?_
  refine J_ialdW (pc := 103) 5 (rfl) rfl (by decide) dX4_remember_103 ?_
  refine J_iastW (pc := 104) (41 + 4 * n + 2) (by omega) rfl (by omega) dX4_remember_104 (fun μ104 m104 => ?_)
  refine J_aload_n (pc := 105) dX4_remember_105 rfl ?_
  refine J_getR (pc := 106) 1 fF_X4_7 rfl rfl dX4_remember_106 ?_
  refine J_iload_n (pc := 109) dX4_remember_109 rfl ?_
  refine J_iconst (pc := 110) (v := 3) dX4_remember_110 (by decide) ?_
  refine J_iaddW (pc := 111) (41 + (4 * (n : Int))) 3 e63 rfl dX4_remember_111 (by omega) (fun z111 e111 => ?_)
  refine J_aload_n (pc := 112) dX4_remember_112 rfl ?_
  refine J_getR (pc := 113) 1 fF_X4_7 rfl rfl dX4_remember_113 ?_
  refine J_bipush (pc := 116) (v := 6) dX4_remember_116 (by decide) ?_
  refine J_ialdW (pc := 118) 6 (rfl) rfl (by decide) dX4_remember_118 ?_
  refine J_iastW (pc := 119) (41 + 4 * n + 3) (by omega) rfl (by omega) dX4_remember_119 (fun μ119 m119 => ?_)
  refine J_aload_n (pc := 120) dX4_remember_120 rfl ?_
  refine J_getR (pc := 121) 1 fF_X4_7 rfl rfl dX4_remember_121 ?_
  refine J_bipush (pc := 124) (v := 40) dX4_remember_124 (by decide) ?_
  refine J_dup2 (pc := 126) dX4_remember_126 rfl rfl ?_
  refine J_ialdW (pc := 127) 40 (rfl) rfl (by decide) dX4_remember_127 ?_
  refine J_iconst (pc := 128) (v := 1) dX4_remember_128 (by decide) ?_
  refine J_iaddW (pc := 129) (n : Int) 1 (show (μ119.1 1 40).toInt = (n : Int) by simp only [m119, m104, m90, m76, jI_i]; rw [if_neg (by omega), if_neg (by omega), if_neg (by omega), if_neg (by omega)]; exact hn) rfl dX4_remember_129 (by omega) (fun z129 e129 => ?_)
  refine J_iastW (pc := 130) 40 (rfl) rfl (by decide) dX4_remember_130 (fun μ130 m130 => ?_)
  refine J_vret (pc := 131) dX4_remember_131 rfl ?_
  rw [iZ_of e129] at m130
  refine ⟨rfl, ?_⟩
  have r2 : μ76.1 1 2 = μ.1 1 2 := by rw [m76, jI_i, if_neg (by omega)]
  have r5 : μ90.1 1 5 = μ.1 1 5 := by rw [m90, jI_i, if_neg (by omega), m76, jI_i, if_neg (by omega)]
  have r6 : μ104.1 1 6 = μ.1 1 6 := by rw [m104, jI_i, if_neg (by omega), m90, jI_i, if_neg (by omega), m76, jI_i, if_neg (by omega)]
  rw [m130, m119, r6, m104, r5, m90, r2, m76]
  simp only [jI_row, jC_jC, jC_at]
  rfl
set_option maxRecDepth 100000 in
set_option maxHeartbeats 4000000 in
theorem c_X4_remember (h40 : 0 ≤ (μ.1 1 40).toInt ∧ (μ.1 1 40).toInt ≤ 8) : Con G shM mX4_remember [.ref 0] μ (j_is none (jC μ 1 (remF (μ.1 1)))) := by
  refine Con_of [some (.ref 0), none] (by decide +kernel) (Nat.le_of_ble_eq_true rfl) (fun _ h => h) ?_
  refine J_aload_n (pc := 0) dX4_remember_0 rfl ?_
  refine J_getR (pc := 1) 1 fF_X4_7 rfl rfl dX4_remember_1 ?_
  refine J_bipush (pc := 4) (v := 40) dX4_remember_4 (by decide) ?_
  refine J_ialdW (pc := 6) 40 (rfl) rfl (by decide) dX4_remember_6 ?_
  refine J_bipush (pc := 7) (v := 8) dX4_remember_7 (by decide) ?_
  refine J_icmp_neW (pc := 9) ((μ.1 1 40).toInt) 8 rfl rfl 52 dX4_remember_9 (by decide) (fun h9 => ?_) (fun h9 => ?_)
  · unfold remF
    rw [if_neg (by omega)]
    exact l_X4_push _ (by omega) (by omega)
  · refine J_bipush (pc := 12) (v := 45) dX4_remember_12 (by decide) ?_
    refine J_istore_n (pc := 14) (lv' := [some (.ref 0), some (.int 45)]) dX4_remember_14 (Nat.le_of_ble_eq_true rfl) rfl rfl ?_
    refine l_X4_rem ?_ 0 (by decide) 45 rfl _ (row_l0 μ 1 41 (fun j => μ.1 1 (j + 4))).symm
    obtain ⟨μ0, m0⟩ : ∃ m : JM, m = (jC μ 1 (fun j => if 41 ≤ j ∧ j < 41 + 28 then μ.1 1 (j + 4) else μ.1 1 j)) := ⟨_, rfl⟩
    rw [← m0]
    have q40 : (μ0.1 1 40).toInt = 8 := by rw [m0, jC_at, if_neg (by omega)]; omega
    refine J_aload_n (pc := 41) dX4_remember_41 rfl ?_
    refine J_getR (pc := 42) 1 fF_X4_7 rfl rfl dX4_remember_42 ?_
    refine J_bipush (pc := 45) (v := 40) dX4_remember_45 (by decide) ?_
    refine J_dup2 (pc := 47) dX4_remember_47 rfl rfl ?_
    refine J_ialdW (pc := 48) 40 (rfl) rfl (by decide) dX4_remember_48 ?_
    refine J_iconst (pc := 49) (v := 1) dX4_remember_49 (by decide) ?_
    refine J_isubW (pc := 50) 8 1 q40 rfl dX4_remember_50 (by omega) (fun z50 e50 => ?_)
    refine J_iastW (pc := 51) 40 (rfl) rfl (by decide) dX4_remember_51 (fun μ51 m51 => ?_)
    rw [iZ_of e50] at m51
    refine J_mono (l_X4_push (μ := μ51) 7 (by rw [m51]; rfl) (by decide)) (fun v μ' hh => ⟨hh.1, ?_⟩)
    rw [hh.2, m51, m0]
    simp only [jI_row, jC_jC, jC_at]
    unfold remF
    rw [if_pos (by omega)]
    congr 1
    funext j
    unfold pushF
    congr 6 <;> try rfl
    funext i
    simp only [upd, shF]
    repeat' split
    all_goals first | rfl | (exfalso; omega)

/-! ===== the model's ground: fresh, no, noAs, begin, hear, giveBack, remember ===== -/
theorem jI_row (μ : JM) (o k : Nat) (x : Int32) : jI μ o k x = jC μ o (upd (μ.1 o) k x) := by
  unfold jI jC
  congr 1
  funext a b
  by_cases h : a = o
  · subst h; simp [upd]
  · simp [h]
theorem jC_jC (μ : JM) (o : Nat) (f g : Nat → Int32) : jC (jC μ o f) o g = jC μ o g := by
  unfold jC
  congr 1
  funext a
  by_cases h : a = o <;> simp [h]
theorem jC_at (μ : JM) (o : Nat) (f : Nat → Int32) : (jC μ o f).1 o = f := by simp [jC]
theorem jC_ne {μ : JM} {o a : Nat} {f : Nat → Int32} (h : a ≠ o) : (jC μ o f).1 a = μ.1 a := by simp [jC, h]
theorem jC_l (μ : JM) (o : Nat) (f : Nat → Int32) : (jC μ o f).2 = μ.2 := rfl
theorem jC_self (μ : JM) (o : Nat) : jC μ o (μ.1 o) = μ := by
  refine Prod.ext ?_ rfl
  funext a
  by_cases h : a = o
  · subst h; simp [jC]
  · simp [jC, h]
theorem row_0 (μ : JM) (o : Nat) (g : Nat → Int32) : jC μ o (fun j => if j < 0 then g j else μ.1 o j) = μ := by
  simp [jC_self]
theorem row_s {μ ν : JM} {o i : Nat} {g : Nat → Int32} {x : Int32} (h : ν = jC μ o (fun j => if j < i then g j else μ.1 o j)) (hx : x = g i) : jI ν o i x = jC μ o (fun j => if j < i + 1 then g j else μ.1 o j) := by
  rw [jI_row, h, jC_jC, jC_at]
  congr 1
  funext j
  by_cases hj : j = i
  · subst hj; simp [upd, hx]
  · by_cases hl : j < i
    · simp [upd, hj, hl, show j < i + 1 by omega]
    · simp [upd, hj, hl, show ¬ j < i + 1 by omega]
variable {G : JG} {μ : JM}
set_option maxRecDepth 100000 in
set_option maxHeartbeats 4000000 in
theorem c_X4_no2  : Con G shM mX4_no [.ref 0, .int (-2)] μ (j_is (some (.int (-2))) (jI μ 4 0 (μ.1 4 0 + 1))) := by
  refine Con_of [some (.ref 0), some (.int (-2))] (by decide +kernel) (Nat.le_of_ble_eq_true rfl) (fun _ h => h) ?_
  refine J_aload_n (pc := 0) dX4_no_0 rfl ?_
  refine J_getR (pc := 1) 4 fF_X4_19 rfl rfl dX4_no_1 ?_
  refine J_bipush (pc := 4) (v := (-2)) dX4_no_4 (by decide) ?_
  refine J_iload_n (pc := 6) dX4_no_6 rfl ?_
  refine J_isubW (pc := 7) (-2) (-2) rfl rfl dX4_no_7 (by omega) (fun z7 e7 => ?_)
  refine J_dup2 (pc := 8) dX4_no_8 rfl rfl ?_
  refine J_ialdW (pc := 9) 0 (by omega) rfl (by decide) dX4_no_9 ?_
  refine J_iconst (pc := 10) (v := 1) dX4_no_10 (by decide) ?_
  refine J_iadd (pc := 11) dX4_no_11 ?_
  refine J_iastW (pc := 12) 0 (by omega) rfl (by decide) dX4_no_12 (fun μ12 m12 => ?_)
  refine J_iload_n (pc := 13) dX4_no_13 rfl ?_
  refine J_iret (pc := 14) dX4_no_14 rfl ?_
  exact ⟨rfl, m12⟩
set_option maxRecDepth 100000 in
set_option maxHeartbeats 4000000 in
theorem c_X4_no3  : Con G shM mX4_no [.ref 0, .int (-3)] μ (j_is (some (.int (-3))) (jI μ 4 1 (μ.1 4 1 + 1))) := by
  refine Con_of [some (.ref 0), some (.int (-3))] (by decide +kernel) (Nat.le_of_ble_eq_true rfl) (fun _ h => h) ?_
  refine J_aload_n (pc := 0) dX4_no_0 rfl ?_
  refine J_getR (pc := 1) 4 fF_X4_19 rfl rfl dX4_no_1 ?_
  refine J_bipush (pc := 4) (v := (-2)) dX4_no_4 (by decide) ?_
  refine J_iload_n (pc := 6) dX4_no_6 rfl ?_
  refine J_isubW (pc := 7) (-2) (-3) rfl rfl dX4_no_7 (by omega) (fun z7 e7 => ?_)
  refine J_dup2 (pc := 8) dX4_no_8 rfl rfl ?_
  refine J_ialdW (pc := 9) 1 (by omega) rfl (by decide) dX4_no_9 ?_
  refine J_iconst (pc := 10) (v := 1) dX4_no_10 (by decide) ?_
  refine J_iadd (pc := 11) dX4_no_11 ?_
  refine J_iastW (pc := 12) 1 (by omega) rfl (by decide) dX4_no_12 (fun μ12 m12 => ?_)
  refine J_iload_n (pc := 13) dX4_no_13 rfl ?_
  refine J_iret (pc := 14) dX4_no_14 rfl ?_
  exact ⟨rfl, m12⟩
set_option maxRecDepth 100000 in
set_option maxHeartbeats 4000000 in
theorem c_X4_no4  : Con G shM mX4_no [.ref 0, .int (-4)] μ (j_is (some (.int (-4))) (jI μ 4 2 (μ.1 4 2 + 1))) := by
  refine Con_of [some (.ref 0), some (.int (-4))] (by decide +kernel) (Nat.le_of_ble_eq_true rfl) (fun _ h => h) ?_
  refine J_aload_n (pc := 0) dX4_no_0 rfl ?_
  refine J_getR (pc := 1) 4 fF_X4_19 rfl rfl dX4_no_1 ?_
  refine J_bipush (pc := 4) (v := (-2)) dX4_no_4 (by decide) ?_
  refine J_iload_n (pc := 6) dX4_no_6 rfl ?_
  refine J_isubW (pc := 7) (-2) (-4) rfl rfl dX4_no_7 (by omega) (fun z7 e7 => ?_)
  refine J_dup2 (pc := 8) dX4_no_8 rfl rfl ?_
  refine J_ialdW (pc := 9) 2 (by omega) rfl (by decide) dX4_no_9 ?_
  refine J_iconst (pc := 10) (v := 1) dX4_no_10 (by decide) ?_
  refine J_iadd (pc := 11) dX4_no_11 ?_
  refine J_iastW (pc := 12) 2 (by omega) rfl (by decide) dX4_no_12 (fun μ12 m12 => ?_)
  refine J_iload_n (pc := 13) dX4_no_13 rfl ?_
  refine J_iret (pc := 14) dX4_no_14 rfl ?_
  exact ⟨rfl, m12⟩
set_option maxRecDepth 100000 in
set_option maxHeartbeats 4000000 in
theorem c_X4_noAs {a : Int32} : Con G shM mX4_noAs [.ref 0, .int a] μ (j_is (some (.int a)) (jI μ 4 0 (μ.1 4 0 + 1))) := by
  refine Con_of [some (.ref 0), some (.int a)] (by decide +kernel) (Nat.le_of_ble_eq_true rfl) (fun _ h => h) ?_
  refine J_aload_n (pc := 0) dX4_noAs_0 rfl ?_
  refine J_getR (pc := 1) 4 fF_X4_19 rfl rfl dX4_noAs_1 ?_
  refine J_iconst (pc := 4) (v := 0) dX4_noAs_4 (by decide) ?_
  refine J_dup2 (pc := 5) dX4_noAs_5 rfl rfl ?_
  refine J_ialdW (pc := 6) 0 (rfl) rfl (by decide) dX4_noAs_6 ?_
  refine J_iconst (pc := 7) (v := 1) dX4_noAs_7 (by decide) ?_
  refine J_iadd (pc := 8) dX4_noAs_8 ?_
  refine J_iastW (pc := 9) 0 (rfl) rfl (by decide) dX4_noAs_9 (fun μ9 m9 => ?_)
  refine J_iload_n (pc := 10) dX4_noAs_10 rfl ?_
  refine J_iret (pc := 11) dX4_noAs_11 rfl ?_
  exact ⟨rfl, m9⟩
def beginM (μ : JM) : JM := jI (jI (jI (jI μ 0 4 (μ.1 1 1)) 0 5 (μ.1 1 2)) 0 6 (μ.1 1 5)) 0 7 (μ.1 1 6)
def giveM (μ : JM) : JM := jI (jI (jI (jI μ 1 1 (μ.1 0 4)) 1 2 (μ.1 0 5)) 1 5 (μ.1 0 6)) 1 6 (μ.1 0 7)
def hA2 (k a n w : Int) : Int := kZ (a + aZ k w n)
def hP2 (k p n w : Int) : Int := kZ (p + pZ k w n)
/-- a word heard: what the model's four numbers become -/
def setS (μ : JM) (a p n b : Int) : JM := jI (jI (jI (jI μ 0 4 (iZ a)) 0 5 (iZ p)) 0 6 (iZ n)) 0 7 (iZ b)
def hearM (μ : JM) (w : Int) : JM :=
  setS μ (hA2 (μ.1 1 0).toInt (μ.1 0 4).toInt (μ.1 0 6).toInt w) (hP2 (μ.1 1 0).toInt (μ.1 0 5).toInt (μ.1 0 6).toInt w) ((μ.1 0 6).toInt + 1)
    (jZ (μ.1 1 3).toInt (μ.1 1 4).toInt (hA2 (μ.1 1 0).toInt (μ.1 0 4).toInt (μ.1 0 6).toInt w) (hP2 (μ.1 1 0).toInt (μ.1 0 5).toInt (μ.1 0 6).toInt w) w)
def shamM (μ : JM) (w : Int) : JM := setS μ (μ.1 0 4).toInt (μ.1 0 5).toInt ((μ.1 0 6).toInt + 1) (jZ (μ.1 1 3).toInt (μ.1 1 4).toInt (μ.1 0 4).toInt (μ.1 0 5).toInt w)
set_option maxRecDepth 100000 in
set_option maxHeartbeats 4000000 in
theorem c_X4_begin  : Con G shM mX4_begin [.ref 0] μ (j_is none (beginM μ)) := by
  refine Con_of [some (.ref 0)] (by decide +kernel) (Nat.le_of_ble_eq_true rfl) (fun _ h => h) ?_
  refine J_aload_n (pc := 0) dX4_begin_0 rfl ?_
  refine J_aload_n (pc := 1) dX4_begin_1 rfl ?_
  refine J_getR (pc := 2) 1 fF_X4_7 rfl rfl dX4_begin_2 ?_
  refine J_iconst (pc := 5) (v := 1) dX4_begin_5 (by decide) ?_
  refine J_ialdW (pc := 6) 1 (rfl) rfl (by decide) dX4_begin_6 ?_
  refine J_putIW (pc := 7) fF_X4_66 rfl rfl dX4_begin_7 (fun μ7 m7 => ?_)
  refine J_aload_n (pc := 10) dX4_begin_10 rfl ?_
  refine J_aload_n (pc := 11) dX4_begin_11 rfl ?_
  refine J_getR (pc := 12) 1 fF_X4_7 rfl rfl dX4_begin_12 ?_
  refine J_iconst (pc := 15) (v := 2) dX4_begin_15 (by decide) ?_
  refine J_ialdW (pc := 16) 2 (rfl) rfl (by decide) dX4_begin_16 ?_
  refine J_putIW (pc := 17) fF_X4_70 rfl rfl dX4_begin_17 (fun μ17 m17 => ?_)
  refine J_aload_n (pc := 20) dX4_begin_20 rfl ?_
  refine J_aload_n (pc := 21) dX4_begin_21 rfl ?_
  refine J_getR (pc := 22) 1 fF_X4_7 rfl rfl dX4_begin_22 ?_
  refine J_iconst (pc := 25) (v := 5) dX4_begin_25 (by decide) ?_
  refine J_ialdW (pc := 26) 5 (rfl) rfl (by decide) dX4_begin_26 ?_
  refine J_putIW (pc := 27) fF_X4_73 rfl rfl dX4_begin_27 (fun μ27 m27 => ?_)
  refine J_aload_n (pc := 30) dX4_begin_30 rfl ?_
  refine J_aload_n (pc := 31) dX4_begin_31 rfl ?_
  refine J_getR (pc := 32) 1 fF_X4_7 rfl rfl dX4_begin_32 ?_
  refine J_bipush (pc := 35) (v := 6) dX4_begin_35 (by decide) ?_
  refine J_ialdW (pc := 37) 6 (rfl) rfl (by decide) dX4_begin_37 ?_
  refine J_putIW (pc := 38) fF_X4_76 rfl rfl dX4_begin_38 (fun μ38 m38 => ?_)
  refine J_vret (pc := 41) dX4_begin_41 rfl ?_
  subst m7 m17 m27 m38
  exact ⟨rfl, rfl⟩
set_option maxRecDepth 100000 in
set_option maxHeartbeats 4000000 in
theorem c_X4_giveBack  : Con G shM mX4_giveBack [.ref 0] μ (j_is none (giveM μ)) := by
  refine Con_of [some (.ref 0)] (by decide +kernel) (Nat.le_of_ble_eq_true rfl) (fun _ h => h) ?_
  refine J_aload_n (pc := 0) dX4_giveBack_0 rfl ?_
  refine J_getR (pc := 1) 1 fF_X4_7 rfl rfl dX4_giveBack_1 ?_
  refine J_iconst (pc := 4) (v := 1) dX4_giveBack_4 (by decide) ?_
  refine J_aload_n (pc := 5) dX4_giveBack_5 rfl ?_
  refine J_getI (pc := 6) fF_X4_66 rfl rfl dX4_giveBack_6 ?_
  refine J_iastW (pc := 9) 1 (rfl) rfl (by decide) dX4_giveBack_9 (fun μ9 m9 => ?_)
  refine J_aload_n (pc := 10) dX4_giveBack_10 rfl ?_
  refine J_getR (pc := 11) 1 fF_X4_7 rfl rfl dX4_giveBack_11 ?_
  refine J_iconst (pc := 14) (v := 2) dX4_giveBack_14 (by decide) ?_
  refine J_aload_n (pc := 15) dX4_giveBack_15 rfl ?_
  refine J_getI (pc := 16) fF_X4_70 rfl rfl dX4_giveBack_16 ?_
  refine J_iastW (pc := 19) 2 (rfl) rfl (by decide) dX4_giveBack_19 (fun μ19 m19 => ?_)
  refine J_aload_n (pc := 20) dX4_giveBack_20 rfl ?_
  refine J_getR (pc := 21) 1 fF_X4_7 rfl rfl dX4_giveBack_21 ?_
  refine J_iconst (pc := 24) (v := 5) dX4_giveBack_24 (by decide) ?_
  refine J_aload_n (pc := 25) dX4_giveBack_25 rfl ?_
  refine J_getI (pc := 26) fF_X4_73 rfl rfl dX4_giveBack_26 ?_
  refine J_iastW (pc := 29) 5 (rfl) rfl (by decide) dX4_giveBack_29 (fun μ29 m29 => ?_)
  refine J_aload_n (pc := 30) dX4_giveBack_30 rfl ?_
  refine J_getR (pc := 31) 1 fF_X4_7 rfl rfl dX4_giveBack_31 ?_
  refine J_bipush (pc := 34) (v := 6) dX4_giveBack_34 (by decide) ?_
  refine J_aload_n (pc := 36) dX4_giveBack_36 rfl ?_
  refine J_getI (pc := 37) fF_X4_76 rfl rfl dX4_giveBack_37 ?_
  refine J_iastW (pc := 40) 6 (rfl) rfl (by decide) dX4_giveBack_40 (fun μ40 m40 => ?_)
  refine J_vret (pc := 41) dX4_giveBack_41 rfl ?_
  subst m9 m19 m29 m40
  exact ⟨rfl, rfl⟩
theorem cM_keep {μ μ' : JM} (hc : constM μ) (h2 : ∀ j, μ'.1 2 j = μ.1 2 j) (h3 : ∀ j, μ'.1 3 j = μ.1 3 j) : constM μ' := ⟨fun j hj => by rw [h2]; exact hc.1 j hj, fun j hj => by rw [h3]; exact hc.2 j hj⟩
set_option maxRecDepth 100000 in
set_option maxHeartbeats 4000000 in
theorem c_X4_hear1 (hc : constM μ) {w : Int32} (w' : Int) (hw : w.toInt = w') (h : 0 ≤ w' ∧ w' ≤ 5) (h4 : 0 ≤ (μ.1 0 4).toInt ∧ (μ.1 0 4).toInt ≤ 99) (h5 : 0 ≤ (μ.1 0 5).toInt ∧ (μ.1 0 5).toInt ≤ 99) (h6 : 0 ≤ (μ.1 0 6).toInt ∧ (μ.1 0 6).toInt < 1000000) : Con G shM mX4_hear [.ref 0, .int w, .int 1] μ (j_is none (hearM μ w')) := by
  have r1 := aZ_rng (μ.1 1 0).toInt w' (μ.1 0 6).toInt
  have r2 := pZ_rng (μ.1 1 0).toInt w' (μ.1 0 6).toInt
  have r3 := kZ_rng ((μ.1 0 4).toInt + aZ (μ.1 1 0).toInt w' (μ.1 0 6).toInt)
  have r4 := kZ_rng ((μ.1 0 5).toInt + pZ (μ.1 1 0).toInt w' (μ.1 0 6).toInt)
  refine Con_of [some (.ref 0), some (.int w), some (.int 1)] (by decide +kernel) (Nat.le_of_ble_eq_true rfl) (fun _ h => h) ?_
  refine J_aload_n (pc := 0) dX4_hear_0 rfl ?_
  refine J_iload_n (pc := 1) dX4_hear_1 rfl ?_
  refine J_if_eq_F (pc := 2) 31 dX4_hear_2 (by decide) (by decide) ?_
  refine J_aload_n (pc := 5) dX4_hear_5 rfl ?_
  refine J_getI (pc := 6) fF_X4_66 rfl rfl dX4_hear_6 ?_
  refine J_aload_n (pc := 9) dX4_hear_9 rfl ?_
  refine J_aload_n (pc := 10) dX4_hear_10 rfl ?_
  refine J_getR (pc := 11) 1 fF_X4_7 rfl rfl dX4_hear_11 ?_
  refine J_iconst (pc := 14) (v := 0) dX4_hear_14 (by decide) ?_
  refine J_ialdW (pc := 15) 0 (rfl) rfl (by decide) dX4_hear_15 ?_
  refine J_iload_n (pc := 16) dX4_hear_16 rfl ?_
  refine J_aload_n (pc := 17) dX4_hear_17 rfl ?_
  refine J_getI (pc := 18) fF_X4_73 rfl rfl dX4_hear_18 ?_
  refine J_callVz (pc := 21) fC_X4_79 rfl dX4_hear_21 (c_X4_angerBy hc ((μ.1 1 0).toInt) w' ((μ.1 0 6).toInt) rfl hw rfl (by omega)) rfl ⟨Nat.le_of_ble_eq_true rfl, Nat.le_of_ble_eq_true rfl⟩ rfl (Nat.le_of_ble_eq_true rfl) (fun z21 e21 => ?_)
  refine J_iaddW (pc := 24) ((μ.1 0 4).toInt) (aZ ((μ.1 1 0).toInt) w' ((μ.1 0 6).toInt)) rfl e21 dX4_hear_24 (by omega) (fun z24 e24 => ?_)
  refine J_callSz (pc := 25) fC_X4_83 dX4_hear_25 (c_X4_kept ((μ.1 0 4).toInt + (aZ ((μ.1 1 0).toInt) w' ((μ.1 0 6).toInt))) e24) rfl ⟨Nat.le_of_ble_eq_true rfl, Nat.le_of_ble_eq_true rfl⟩ rfl (Nat.le_of_ble_eq_true rfl) (fun z25 e25 => ?_)
  refine J_goto (pc := 28) 35 dX4_hear_28 (by decide) ?_
  refine J_putIW (pc := 35) fF_X4_66 rfl rfl dX4_hear_35 (fun μ35 m35 => ?_)
  refine J_aload_n (pc := 38) dX4_hear_38 rfl ?_
  refine J_iload_n (pc := 39) dX4_hear_39 rfl ?_
  refine J_if_eq_F (pc := 40) 69 dX4_hear_40 (by decide) (by decide) ?_
  refine J_aload_n (pc := 43) dX4_hear_43 rfl ?_
  refine J_getI (pc := 44) fF_X4_70 rfl rfl dX4_hear_44 ?_
  refine J_aload_n (pc := 47) dX4_hear_47 rfl ?_
  refine J_aload_n (pc := 48) dX4_hear_48 rfl ?_
  refine J_getR (pc := 49) 1 fF_X4_7 rfl rfl dX4_hear_49 ?_
  refine J_iconst (pc := 52) (v := 0) dX4_hear_52 (by decide) ?_
  refine J_ialdW (pc := 53) 0 (rfl) rfl (by decide) dX4_hear_53 ?_
  refine J_iload_n (pc := 54) dX4_hear_54 rfl ?_
  refine J_aload_n (pc := 55) dX4_hear_55 rfl ?_
  refine J_getI (pc := 56) fF_X4_73 rfl rfl dX4_hear_56 ?_
  refine J_callVz (pc := 59) fC_X4_86 rfl dX4_hear_59 (c_X4_prideBy (cM_keep hc (fun j => by simp [m35, jI_i]) (fun j => by simp [m35, jI_i])) ((μ.1 1 0).toInt) w' ((μ.1 0 6).toInt) (show (μ35.1 1 0).toInt = (μ.1 1 0).toInt by simp [m35, jI_i]) hw (show (μ35.1 0 6).toInt = (μ.1 0 6).toInt by simp [m35, jI_i]) (by omega)) rfl ⟨Nat.le_of_ble_eq_true rfl, Nat.le_of_ble_eq_true rfl⟩ rfl (Nat.le_of_ble_eq_true rfl) (fun z59 e59 => ?_)
  refine J_iaddW (pc := 62) ((μ.1 0 5).toInt) (pZ ((μ.1 1 0).toInt) w' ((μ.1 0 6).toInt)) (show (μ35.1 0 5).toInt = (μ.1 0 5).toInt by simp [m35, jI_i]) e59 dX4_hear_62 (by omega) (fun z62 e62 => ?_)
  refine J_callSz (pc := 63) fC_X4_83 dX4_hear_63 (c_X4_kept ((μ.1 0 5).toInt + (pZ ((μ.1 1 0).toInt) w' ((μ.1 0 6).toInt))) e62) rfl ⟨Nat.le_of_ble_eq_true rfl, Nat.le_of_ble_eq_true rfl⟩ rfl (Nat.le_of_ble_eq_true rfl) (fun z63 e63 => ?_)
  refine J_goto (pc := 66) 73 dX4_hear_66 (by decide) ?_
  refine J_putIW (pc := 73) fF_X4_70 rfl rfl dX4_hear_73 (fun μ73 m73 => ?_)
  refine J_aload_n (pc := 76) dX4_hear_76 rfl ?_
  refine J_dup (pc := 77) dX4_hear_77 rfl ?_
  refine J_getI (pc := 78) fF_X4_73 rfl rfl dX4_hear_78 ?_
  refine J_iconst (pc := 81) (v := 1) dX4_hear_81 (by decide) ?_
  refine J_iaddW (pc := 82) ((μ.1 0 6).toInt) 1 (show (μ73.1 0 6).toInt = (μ.1 0 6).toInt by simp [m73, m35, jI_i]) rfl dX4_hear_82 (by omega) (fun z82 e82 => ?_)
  refine J_putIW (pc := 83) fF_X4_73 rfl rfl dX4_hear_83 (fun μ83 m83 => ?_)
  refine J_aload_n (pc := 86) dX4_hear_86 rfl ?_
  refine J_aload_n (pc := 87) dX4_hear_87 rfl ?_
  refine J_getI (pc := 88) fF_X4_66 rfl rfl dX4_hear_88 ?_
  refine J_aload_n (pc := 91) dX4_hear_91 rfl ?_
  refine J_getR (pc := 92) 1 fF_X4_7 rfl rfl dX4_hear_92 ?_
  refine J_iconst (pc := 95) (v := 3) dX4_hear_95 (by decide) ?_
  refine J_ialdW (pc := 96) 3 (rfl) rfl (by decide) dX4_hear_96 ?_
  refine J_icmp_ltW (pc := 97) (kZ ((μ.1 0 4).toInt + (aZ ((μ.1 1 0).toInt) w' ((μ.1 0 6).toInt)))) ((μ.1 1 3).toInt) (show (μ83.1 0 4).toInt = (kZ ((μ.1 0 4).toInt + (aZ ((μ.1 1 0).toInt) w' ((μ.1 0 6).toInt)))) by simp [m83, m73, m35, jI_i]; exact e25) (show (μ83.1 1 3).toInt = (μ.1 1 3).toInt by simp [m83, m73, m35, jI_i]) 104 dX4_hear_97 (by decide) (fun h97 => ?_) (fun h97 => ?_)
  · refine J_iload_n (pc := 104) dX4_hear_104 rfl ?_
    refine J_iconst (pc := 105) (v := 1) dX4_hear_105 (by decide) ?_
    refine J_icmp_neW (pc := 106) w' 1 hw rfl 126 dX4_hear_106 (by decide) (fun h106 => ?_) (fun h106 => ?_)
    · refine J_iconst (pc := 126) (v := 0) dX4_hear_126 (by decide) ?_
      refine J_putIW (pc := 127) fF_X4_76 rfl rfl dX4_hear_127 (fun μ127 m127 => ?_)
      refine J_vret (pc := 130) dX4_hear_130 rfl ?_
      rw [iZ_of e25] at m35
      rw [iZ_of e63] at m73
      rw [iZ_of e82] at m83
      refine ⟨rfl, ?_⟩
      have q : ((0) : Int32) = iZ (jZ (μ.1 1 3).toInt (μ.1 1 4).toInt (hA2 (μ.1 1 0).toInt (μ.1 0 4).toInt (μ.1 0 6).toInt w') (hP2 (μ.1 1 0).toInt (μ.1 0 5).toInt (μ.1 0 6).toInt w') w') := by
        refine iZ_of ?_
        show (0 : Int) = _
        unfold jZ hA2 hP2
        omega
      rw [m127, q, m83, m73, m35]
      rfl
    · refine J_aload_n (pc := 109) dX4_hear_109 rfl ?_
      refine J_getI (pc := 110) fF_X4_70 rfl rfl dX4_hear_110 ?_
      refine J_aload_n (pc := 113) dX4_hear_113 rfl ?_
      refine J_getR (pc := 114) 1 fF_X4_7 rfl rfl dX4_hear_114 ?_
      refine J_iconst (pc := 117) (v := 4) dX4_hear_117 (by decide) ?_
      refine J_ialdW (pc := 118) 4 (rfl) rfl (by decide) dX4_hear_118 ?_
      refine J_icmp_ltW (pc := 119) (kZ ((μ.1 0 5).toInt + (pZ ((μ.1 1 0).toInt) w' ((μ.1 0 6).toInt)))) ((μ.1 1 4).toInt) (show (μ83.1 0 5).toInt = (kZ ((μ.1 0 5).toInt + (pZ ((μ.1 1 0).toInt) w' ((μ.1 0 6).toInt)))) by simp [m83, m73, jI_i]; exact e63) (show (μ83.1 1 4).toInt = (μ.1 1 4).toInt by simp [m83, m73, m35, jI_i]) 126 dX4_hear_119 (by decide) (fun h119 => ?_) (fun h119 => ?_)
      · refine J_iconst (pc := 126) (v := 0) dX4_hear_126 (by decide) ?_
        refine J_putIW (pc := 127) fF_X4_76 rfl rfl dX4_hear_127 (fun μ127 m127 => ?_)
        refine J_vret (pc := 130) dX4_hear_130 rfl ?_
        rw [iZ_of e25] at m35
        rw [iZ_of e63] at m73
        rw [iZ_of e82] at m83
        refine ⟨rfl, ?_⟩
        have q : ((0) : Int32) = iZ (jZ (μ.1 1 3).toInt (μ.1 1 4).toInt (hA2 (μ.1 1 0).toInt (μ.1 0 4).toInt (μ.1 0 6).toInt w') (hP2 (μ.1 1 0).toInt (μ.1 0 5).toInt (μ.1 0 6).toInt w') w') := by
          refine iZ_of ?_
          show (0 : Int) = _
          unfold jZ hA2 hP2
          omega
        rw [m127, q, m83, m73, m35]
        rfl
      · refine J_iconst (pc := 122) (v := 1) dX4_hear_122 (by decide) ?_
        refine J_goto (pc := 123) 127 dX4_hear_123 (by decide) ?_
        refine J_putIW (pc := 127) fF_X4_76 rfl rfl dX4_hear_127 (fun μ127 m127 => ?_)
        refine J_vret (pc := 130) dX4_hear_130 rfl ?_
        rw [iZ_of e25] at m35
        rw [iZ_of e63] at m73
        rw [iZ_of e82] at m83
        refine ⟨rfl, ?_⟩
        have q : ((1) : Int32) = iZ (jZ (μ.1 1 3).toInt (μ.1 1 4).toInt (hA2 (μ.1 1 0).toInt (μ.1 0 4).toInt (μ.1 0 6).toInt w') (hP2 (μ.1 1 0).toInt (μ.1 0 5).toInt (μ.1 0 6).toInt w') w') := by
          refine iZ_of ?_
          show (1 : Int) = _
          unfold jZ hA2 hP2
          omega
        rw [m127, q, m83, m73, m35]
        rfl
  · refine J_iconst (pc := 100) (v := 2) dX4_hear_100 (by decide) ?_
    refine J_goto (pc := 101) 127 dX4_hear_101 (by decide) ?_
    refine J_putIW (pc := 127) fF_X4_76 rfl rfl dX4_hear_127 (fun μ127 m127 => ?_)
    refine J_vret (pc := 130) dX4_hear_130 rfl ?_
    rw [iZ_of e25] at m35
    rw [iZ_of e63] at m73
    rw [iZ_of e82] at m83
    refine ⟨rfl, ?_⟩
    have q : ((2) : Int32) = iZ (jZ (μ.1 1 3).toInt (μ.1 1 4).toInt (hA2 (μ.1 1 0).toInt (μ.1 0 4).toInt (μ.1 0 6).toInt w') (hP2 (μ.1 1 0).toInt (μ.1 0 5).toInt (μ.1 0 6).toInt w') w') := by
      refine iZ_of ?_
      show (2 : Int) = _
      unfold jZ hA2 hP2
      omega
    rw [m127, q, m83, m73, m35]
    rfl
set_option maxRecDepth 100000 in
set_option maxHeartbeats 4000000 in
theorem c_X4_hear0 {w : Int32} (w' : Int) (hw : w.toInt = w') (h : 0 ≤ w' ∧ w' ≤ 5) (h4 : 0 ≤ (μ.1 0 4).toInt ∧ (μ.1 0 4).toInt ≤ 99) (h5 : 0 ≤ (μ.1 0 5).toInt ∧ (μ.1 0 5).toInt ≤ 99) (h6 : 0 ≤ (μ.1 0 6).toInt ∧ (μ.1 0 6).toInt < 1000000) : Con G shM mX4_hear [.ref 0, .int w, .int 0] μ (j_is none (shamM μ w')) := by
  refine Con_of [some (.ref 0), some (.int w), some (.int 0)] (by decide +kernel) (Nat.le_of_ble_eq_true rfl) (fun _ h => h) ?_
  refine J_aload_n (pc := 0) dX4_hear_0 rfl ?_
  refine J_iload_n (pc := 1) dX4_hear_1 rfl ?_
  refine J_if_eq_T (pc := 2) 31 dX4_hear_2 (by decide) (by decide) ?_
  refine J_aload_n (pc := 31) dX4_hear_31 rfl ?_
  refine J_getI (pc := 32) fF_X4_66 rfl rfl dX4_hear_32 ?_
  refine J_putIW (pc := 35) fF_X4_66 rfl rfl dX4_hear_35 (fun μ35 m35 => ?_)
  refine J_aload_n (pc := 38) dX4_hear_38 rfl ?_
  refine J_iload_n (pc := 39) dX4_hear_39 rfl ?_
  refine J_if_eq_T (pc := 40) 69 dX4_hear_40 (by decide) (by decide) ?_
  refine J_aload_n (pc := 69) dX4_hear_69 rfl ?_
  refine J_getI (pc := 70) fF_X4_70 rfl rfl dX4_hear_70 ?_
  refine J_putIW (pc := 73) fF_X4_70 rfl rfl dX4_hear_73 (fun μ73 m73 => ?_)
  refine J_aload_n (pc := 76) dX4_hear_76 rfl ?_
  refine J_dup (pc := 77) dX4_hear_77 rfl ?_
  refine J_getI (pc := 78) fF_X4_73 rfl rfl dX4_hear_78 ?_
  refine J_iconst (pc := 81) (v := 1) dX4_hear_81 (by decide) ?_
  refine J_iaddW (pc := 82) ((μ.1 0 6).toInt) 1 (show (μ73.1 0 6).toInt = (μ.1 0 6).toInt by simp [m73, m35, jI_i]) rfl dX4_hear_82 (by omega) (fun z82 e82 => ?_)
  refine J_putIW (pc := 83) fF_X4_73 rfl rfl dX4_hear_83 (fun μ83 m83 => ?_)
  refine J_aload_n (pc := 86) dX4_hear_86 rfl ?_
  refine J_aload_n (pc := 87) dX4_hear_87 rfl ?_
  refine J_getI (pc := 88) fF_X4_66 rfl rfl dX4_hear_88 ?_
  refine J_aload_n (pc := 91) dX4_hear_91 rfl ?_
  refine J_getR (pc := 92) 1 fF_X4_7 rfl rfl dX4_hear_92 ?_
  refine J_iconst (pc := 95) (v := 3) dX4_hear_95 (by decide) ?_
  refine J_ialdW (pc := 96) 3 (rfl) rfl (by decide) dX4_hear_96 ?_
  refine J_icmp_ltW (pc := 97) ((μ.1 0 4).toInt) ((μ.1 1 3).toInt) (show (μ83.1 0 4).toInt = (μ.1 0 4).toInt by simp [m83, m73, m35, jI_i]) (show (μ83.1 1 3).toInt = (μ.1 1 3).toInt by simp [m83, m73, m35, jI_i]) 104 dX4_hear_97 (by decide) (fun h97 => ?_) (fun h97 => ?_)
  · refine J_iload_n (pc := 104) dX4_hear_104 rfl ?_
    refine J_iconst (pc := 105) (v := 1) dX4_hear_105 (by decide) ?_
    refine J_icmp_neW (pc := 106) w' 1 hw rfl 126 dX4_hear_106 (by decide) (fun h106 => ?_) (fun h106 => ?_)
    · refine J_iconst (pc := 126) (v := 0) dX4_hear_126 (by decide) ?_
      refine J_putIW (pc := 127) fF_X4_76 rfl rfl dX4_hear_127 (fun μ127 m127 => ?_)
      refine J_vret (pc := 130) dX4_hear_130 rfl ?_
      rw [iZ_of e82] at m83
      refine ⟨rfl, ?_⟩
      have q : ((0) : Int32) = iZ (jZ (μ.1 1 3).toInt (μ.1 1 4).toInt (μ.1 0 4).toInt (μ.1 0 5).toInt w') := by
        refine iZ_of ?_
        show (0 : Int) = _
        unfold jZ
        omega
      rw [m127, q, m83, m73, m35]
      unfold shamM setS
      rw [iZ_t, iZ_t]
      simp [jI_i]
    · refine J_aload_n (pc := 109) dX4_hear_109 rfl ?_
      refine J_getI (pc := 110) fF_X4_70 rfl rfl dX4_hear_110 ?_
      refine J_aload_n (pc := 113) dX4_hear_113 rfl ?_
      refine J_getR (pc := 114) 1 fF_X4_7 rfl rfl dX4_hear_114 ?_
      refine J_iconst (pc := 117) (v := 4) dX4_hear_117 (by decide) ?_
      refine J_ialdW (pc := 118) 4 (rfl) rfl (by decide) dX4_hear_118 ?_
      refine J_icmp_ltW (pc := 119) ((μ.1 0 5).toInt) ((μ.1 1 4).toInt) (show (μ83.1 0 5).toInt = (μ.1 0 5).toInt by simp [m83, m73, jI_i]; exact (show (μ35.1 0 5).toInt = (μ.1 0 5).toInt by simp [m35, jI_i])) (show (μ83.1 1 4).toInt = (μ.1 1 4).toInt by simp [m83, m73, m35, jI_i]) 126 dX4_hear_119 (by decide) (fun h119 => ?_) (fun h119 => ?_)
      · refine J_iconst (pc := 126) (v := 0) dX4_hear_126 (by decide) ?_
        refine J_putIW (pc := 127) fF_X4_76 rfl rfl dX4_hear_127 (fun μ127 m127 => ?_)
        refine J_vret (pc := 130) dX4_hear_130 rfl ?_
        rw [iZ_of e82] at m83
        refine ⟨rfl, ?_⟩
        have q : ((0) : Int32) = iZ (jZ (μ.1 1 3).toInt (μ.1 1 4).toInt (μ.1 0 4).toInt (μ.1 0 5).toInt w') := by
          refine iZ_of ?_
          show (0 : Int) = _
          unfold jZ
          omega
        rw [m127, q, m83, m73, m35]
        unfold shamM setS
        rw [iZ_t, iZ_t]
        simp [jI_i]
      · refine J_iconst (pc := 122) (v := 1) dX4_hear_122 (by decide) ?_
        refine J_goto (pc := 123) 127 dX4_hear_123 (by decide) ?_
        refine J_putIW (pc := 127) fF_X4_76 rfl rfl dX4_hear_127 (fun μ127 m127 => ?_)
        refine J_vret (pc := 130) dX4_hear_130 rfl ?_
        rw [iZ_of e82] at m83
        refine ⟨rfl, ?_⟩
        have q : ((1) : Int32) = iZ (jZ (μ.1 1 3).toInt (μ.1 1 4).toInt (μ.1 0 4).toInt (μ.1 0 5).toInt w') := by
          refine iZ_of ?_
          show (1 : Int) = _
          unfold jZ
          omega
        rw [m127, q, m83, m73, m35]
        unfold shamM setS
        rw [iZ_t, iZ_t]
        simp [jI_i]
  · refine J_iconst (pc := 100) (v := 2) dX4_hear_100 (by decide) ?_
    refine J_goto (pc := 101) 127 dX4_hear_101 (by decide) ?_
    refine J_putIW (pc := 127) fF_X4_76 rfl rfl dX4_hear_127 (fun μ127 m127 => ?_)
    refine J_vret (pc := 130) dX4_hear_130 rfl ?_
    rw [iZ_of e82] at m83
    refine ⟨rfl, ?_⟩
    have q : ((2) : Int32) = iZ (jZ (μ.1 1 3).toInt (μ.1 1 4).toInt (μ.1 0 4).toInt (μ.1 0 5).toInt w') := by
      refine iZ_of ?_
      show (2 : Int) = _
      unfold jZ
      omega
    rw [m127, q, m83, m73, m35]
    unfold shamM setS
    rw [iZ_t, iZ_t]
    simp [jI_i]
def freF (k : Int32) (j : Nat) : Int32 := if j = 0 then k else if j = 1 then 20 else if j = 3 then 40 else if j = 4 then 9 else if 7 ≤ j ∧ j < 15 then j_tV (j - 7) else 0
def freshM (μ : JM) (k : Int32) : JM := jC μ 1 (fun j => if j < 73 then freF k j else μ.1 1 j)
theorem row_l {μ ν : JM} {o i lo : Nat} {g : Nat → Int32} {x : Int32} (h : ν = jC μ o (fun j => if lo ≤ j ∧ j < lo + i then g j else μ.1 o j)) (hx : x = g (lo + i)) : jI ν o (lo + i) x = jC μ o (fun j => if lo ≤ j ∧ j < lo + (i + 1) then g j else μ.1 o j) := by
  rw [jI_row, h, jC_jC, jC_at]
  congr 1
  funext j
  by_cases hj : j = lo + i
  · subst hj; simp [upd, hx]
  · by_cases hl : lo ≤ j ∧ j < lo + i
    · simp [upd, hj, hl]; omega
    · simp only [upd, hj, if_false, hl]; rw [if_neg (by omega)]
theorem row_l0 (μ : JM) (o lo : Nat) (g : Nat → Int32) : jC μ o (fun j => if lo ≤ j ∧ j < lo + 0 then g j else μ.1 o j) = μ := by
  have e : (fun j => if lo ≤ j ∧ j < lo + 0 then g j else μ.1 o j) = μ.1 o := by
    funext j
    rw [if_neg (by omega)]
  rw [e, jC_self]
set_option maxRecDepth 100000 in
set_option maxHeartbeats 4000000 in
theorem l_X4_fresh1 {k : Int32} {Q : Option Value → JM → Prop} (hk : J G shM mX4_fresh 21 [some (.ref 0), some (.int k), none] [] (jC μ 1 (fun j => if j < 73 then 0 else μ.1 1 j)) Q) : ∀ i : Nat, i ≤ 73 → ∀ iv : Int32, iv.toInt = (i : Int) → ∀ ν : JM, ν = jC μ 1 (fun j => if j < i then 0 else μ.1 1 j) → J G shM mX4_fresh 2 [some (.ref 0), some (.int k), some (.int iv)] [] ν Q := by
  refine loop_up 73 (fun i hN ih iv hi ν hν => ?_)
  refine J_iload_n (pc := 2) dX4_fresh_2 rfl ?_
  refine J_bipush (pc := 3) (v := 73) dX4_fresh_3 (by decide) ?_
  refine J_icmp_geW (pc := 5) (i : Int) 73 hi rfl 21 dX4_fresh_5 (by decide) (fun h5 => ?_) (fun h5 => ?_)
  · exact J_lv' (lv' := [some (.ref 0), some (.int k), none]) (by repeat' constructor) (by rw [hν, show i = 73 by omega]; exact hk)
  · refine J_aload_n (pc := 8) dX4_fresh_8 rfl ?_
    refine J_getR (pc := 9) 1 fF_X4_7 rfl rfl dX4_fresh_9 ?_
    refine J_iload_n (pc := 12) dX4_fresh_12 rfl ?_
    refine J_iconst (pc := 13) (v := 0) dX4_fresh_13 (by decide) ?_
    refine J_iastW (pc := 14) i (by have q := hi; omega) rfl (by omega) dX4_fresh_14 (fun μ14 m14 => ?_)
    refine J_iincW' (pc := 15) (i : Int) hi (lv' := fun v => [some (.ref 0), some (.int k), some (.int v)]) dX4_fresh_15 rfl (by omega) (by decide) (Nat.le_of_ble_eq_true rfl) rfl (fun _ => rfl) (fun z15 e15 => ?_)
    refine J_goto (pc := 18) 2 dX4_fresh_18 (by decide) ?_
    exact ih (i + 1) (by omega) (by omega) z15 (by omega) _ (by rw [m14]; exact row_s hν rfl)
set_option maxRecDepth 100000 in
set_option maxHeartbeats 4000000 in
theorem l_X4_fresh2 {k : Int32} : ∀ i : Nat, i ≤ 8 → ∀ iv : Int32, iv.toInt = (i : Int) → ∀ ν : JM, ν = (jC μ 1 (fun j => if 7 ≤ j ∧ j < 7 + i then j_tV (j - 7) else μ.1 1 j)) → J G shM mX4_fresh 54 [some (.ref 0), some (.int k), some (.int iv)] [] ν (j_is none (jC μ 1 (fun j => if 7 ≤ j ∧ j < 7 + 8 then j_tV (j - 7) else μ.1 1 j))) := by
  refine loop_up 8 (fun i hN ih iv hi ν hν => ?_)
  refine J_iload_n (pc := 54) dX4_fresh_54 rfl ?_
  refine J_bipush (pc := 55) (v := 8) dX4_fresh_55 (by decide) ?_
  refine J_icmp_geW (pc := 57) (i : Int) 8 hi rfl 85 dX4_fresh_57 (by decide) (fun h57 => ?_) (fun h57 => ?_)
  · refine J_vret (pc := 85) dX4_fresh_85 rfl ?_
    exact ⟨rfl, by rw [hν, show i = 8 by omega]⟩
  · refine J_aload_n (pc := 60) dX4_fresh_60 rfl ?_
    refine J_getR (pc := 61) 1 fF_X4_7 rfl rfl dX4_fresh_61 ?_
    refine J_bipush (pc := 64) (v := 7) dX4_fresh_64 (by decide) ?_
    refine J_iload_n (pc := 66) dX4_fresh_66 rfl ?_
    refine J_iaddW (pc := 67) 7 (i : Int) rfl hi dX4_fresh_67 (by omega) (fun z67 e67 => ?_)
    refine J_iload_n (pc := 68) dX4_fresh_68 rfl ?_
    refine J_iconst (pc := 69) (v := 4) dX4_fresh_69 (by decide) ?_
    refine J_icmp_geW (pc := 70) (i : Int) 4 hi rfl 77 dX4_fresh_70 (by decide) (fun h70 => ?_) (fun h70 => ?_)
    · refine J_iconst (pc := 77) (v := 4) dX4_fresh_77 (by decide) ?_
      refine J_iastW (pc := 78) (7 + i) (by have q := e67; omega) rfl (by omega) dX4_fresh_78 (fun μ78 m78 => ?_)
      refine J_iincW' (pc := 79) (i : Int) hi (lv' := fun v => [some (.ref 0), some (.int k), some (.int v)]) dX4_fresh_79 rfl (by omega) (by decide) (Nat.le_of_ble_eq_true rfl) rfl (fun _ => rfl) (fun z79 e79 => ?_)
      refine J_goto (pc := 82) 54 dX4_fresh_82 (by decide) ?_
      exact ih (i + 1) (by omega) (by omega) z79 (by omega) _ (by rw [m78]; exact row_l hν (by
        refine z_eq ?_
        first
          | (rw [hi, show 7 + i - 7 = i by omega]; rcases (show i = 0 ∨ i = 1 ∨ i = 2 ∨ i = 3 by omega) with rfl | rfl | rfl | rfl <;> rfl)
          | (rw [show 7 + i - 7 = i by omega]; rcases (show i = 4 ∨ i = 5 ∨ i = 6 ∨ i = 7 by omega) with rfl | rfl | rfl | rfl <;> rfl)))
    · refine J_iload_n (pc := 73) dX4_fresh_73 rfl ?_
      refine J_goto (pc := 74) 78 dX4_fresh_74 (by decide) ?_
      refine J_iastW (pc := 78) (7 + i) (by have q := e67; omega) rfl (by omega) dX4_fresh_78 (fun μ78 m78 => ?_)
      refine J_iincW' (pc := 79) (i : Int) hi (lv' := fun v => [some (.ref 0), some (.int k), some (.int v)]) dX4_fresh_79 rfl (by omega) (by decide) (Nat.le_of_ble_eq_true rfl) rfl (fun _ => rfl) (fun z79 e79 => ?_)
      refine J_goto (pc := 82) 54 dX4_fresh_82 (by decide) ?_
      exact ih (i + 1) (by omega) (by omega) z79 (by omega) _ (by rw [m78]; exact row_l hν (by
        refine z_eq ?_
        first
          | (rw [hi, show 7 + i - 7 = i by omega]; rcases (show i = 0 ∨ i = 1 ∨ i = 2 ∨ i = 3 by omega) with rfl | rfl | rfl | rfl <;> rfl)
          | (rw [show 7 + i - 7 = i by omega]; rcases (show i = 4 ∨ i = 5 ∨ i = 6 ∨ i = 7 by omega) with rfl | rfl | rfl | rfl <;> rfl)))
set_option maxRecDepth 100000 in
set_option maxHeartbeats 4000000 in
theorem c_X4_fresh {k : Int32} : Con G shM mX4_fresh [.ref 0, .int k] μ (j_is none (freshM μ k)) := by
  refine Con_of [some (.ref 0), some (.int k), none] (by decide +kernel) (Nat.le_of_ble_eq_true rfl) (fun _ h => h) ?_
  refine J_iconst (pc := 0) (v := 0) dX4_fresh_0 (by decide) ?_
  refine J_istore_n (pc := 1) (lv' := [some (.ref 0), some (.int k), some (.int 0)]) dX4_fresh_1 (Nat.le_of_ble_eq_true rfl) rfl rfl ?_
  refine l_X4_fresh1 ?_ 0 (by decide) 0 rfl _ (row_0 _ _ _).symm
  obtain ⟨μ0, m0⟩ : ∃ m : JM, m = jC μ 1 (fun j => if j < 73 then 0 else μ.1 1 j) := ⟨_, rfl⟩
  rw [← m0]
  refine J_aload_n (pc := 21) dX4_fresh_21 rfl ?_
  refine J_getR (pc := 22) 1 fF_X4_7 rfl rfl dX4_fresh_22 ?_
  refine J_iconst (pc := 25) (v := 0) dX4_fresh_25 (by decide) ?_
  refine J_iload_n (pc := 26) dX4_fresh_26 rfl ?_
  refine J_iastW (pc := 27) 0 (rfl) rfl (by decide) dX4_fresh_27 (fun μ27 m27 => ?_)
  refine J_aload_n (pc := 28) dX4_fresh_28 rfl ?_
  refine J_getR (pc := 29) 1 fF_X4_7 rfl rfl dX4_fresh_29 ?_
  refine J_iconst (pc := 32) (v := 1) dX4_fresh_32 (by decide) ?_
  refine J_bipush (pc := 33) (v := 20) dX4_fresh_33 (by decide) ?_
  refine J_iastW (pc := 35) 1 (rfl) rfl (by decide) dX4_fresh_35 (fun μ35 m35 => ?_)
  refine J_aload_n (pc := 36) dX4_fresh_36 rfl ?_
  refine J_getR (pc := 37) 1 fF_X4_7 rfl rfl dX4_fresh_37 ?_
  refine J_iconst (pc := 40) (v := 3) dX4_fresh_40 (by decide) ?_
  refine J_bipush (pc := 41) (v := 40) dX4_fresh_41 (by decide) ?_
  refine J_iastW (pc := 43) 3 (rfl) rfl (by decide) dX4_fresh_43 (fun μ43 m43 => ?_)
  refine J_aload_n (pc := 44) dX4_fresh_44 rfl ?_
  refine J_getR (pc := 45) 1 fF_X4_7 rfl rfl dX4_fresh_45 ?_
  refine J_iconst (pc := 48) (v := 4) dX4_fresh_48 (by decide) ?_
  refine J_bipush (pc := 49) (v := 9) dX4_fresh_49 (by decide) ?_
  refine J_iastW (pc := 51) 4 (rfl) rfl (by decide) dX4_fresh_51 (fun μ51 m51 => ?_)
  refine J_iconst (pc := 52) (v := 0) dX4_fresh_52 (by decide) ?_
  refine J_istore_n (pc := 53) (lv' := [some (.ref 0), some (.int k), some (.int 0)]) dX4_fresh_53 (Nat.le_of_ble_eq_true rfl) rfl rfl ?_
  refine J_mono (l_X4_fresh2 (μ := μ51) 0 (by decide) 0 rfl _ (row_l0 _ _ _ _).symm) (fun v μ' h => ⟨h.1, ?_⟩)
  rw [h.2, m51, m43, m35, m27, m0]
  simp only [jI_row, jC_jC, jC_at, freshM]
  congr 1
  funext j
  simp only [upd, freF]
  repeat' split
  all_goals first | rfl | (exfalso; omega)

/-! ===== the class's Jar: its methods ===== -/
def mZ (a p b : Int) : Int := b * 10000 + a * 100 + p
def jZ (wr ht a p w : Int) : Int := if wr ≤ a then 2 else if w = 1 ∧ ht ≤ p then 1 else 0
def hA (k m n w : Int) : Int := kZ (m % 10000 / 100 + aZ k w n)
def hP (k m n w : Int) : Int := kZ (m % 100 + pZ k w n)
/-- the mind behind a word -/
def hM (k wr ht m n w : Int) : Int := mZ (hA k m n w) (hP k m n w) (jZ wr ht (hA k m n w) (hP k m n w) w)
theorem hM_rng (k wr ht m n w : Int) : 0 ≤ hM k wr ht m n w ∧ hM k wr ht m n w < 30000 := by
  have h1 : 0 ≤ hA k m n w ∧ hA k m n w ≤ 99 := kZ_rng _
  have h2 : 0 ≤ hP k m n w ∧ hP k m n w ≤ 99 := kZ_rng _
  unfold hM mZ jZ
  omega
def begM (μ : JM) (b : Nat) (k : Int32) : JM := jC (jI (jI (jI (jI (jI (jI (jI μ b 0 k) b 1 40) b 2 9) b 3 2000) b 4 0) b 5 0) b 6 0) (b + 1) (fun i => if i < 8 then j_tV i else μ.1 (b + 1) i)
def listenM (μ : JM) (b : Nat) (w : Int) : JM := jI (jI μ b 3 (iZ (hM (μ.1 b 0).toInt (μ.1 b 1).toInt (μ.1 b 2).toInt (μ.1 b 3).toInt (μ.1 b 4).toInt w))) b 4 (iZ ((μ.1 b 4).toInt + 1))
variable {G : JG} {μ : JM}
set_option maxRecDepth 100000 in
set_option maxHeartbeats 4000000 in
theorem c_X0_judge {b : Nat} (hb : jarAt b) {x y w : Int32} (x' y' w' : Int) (hx : x.toInt = x') (hy : y.toInt = y') (hw : w.toInt = w') (h : 0 ≤ x' ∧ x' ≤ 99 ∧ 0 ≤ y' ∧ y' ≤ 99) : Con G shC mX0_judge [.ref b, .int x, .int y, .int w] μ (j_z (mZ x' y' (jZ (μ.1 b 1).toInt (μ.1 b 2).toInt x' y' w')) μ) := by
  refine Con_of [some (.ref b), some (.int x), some (.int y), some (.int w), none] (by decide +kernel) (Nat.le_of_ble_eq_true rfl) (fun _ h => h) ?_
  refine J_iconst (pc := 0) (v := 0) dX0_judge_0 (by decide) ?_
  refine J_istore (pc := 1) (lv' := [some (.ref b), some (.int x), some (.int y), some (.int w), some (.int 0)]) dX0_judge_1 (Nat.le_of_ble_eq_true rfl) rfl rfl ?_
  refine J_iload_n (pc := 3) dX0_judge_3 rfl ?_
  refine J_aload_n (pc := 4) dX0_judge_4 rfl ?_
  refine J_getI (pc := 5) fF_X0_32 hb.1 rfl dX0_judge_5 ?_
  refine J_icmp_ltW (pc := 8) x' ((μ.1 b 1).toInt) hx rfl 17 dX0_judge_8 (by decide) (fun h8 => ?_) (fun h8 => ?_)
  · refine J_iload_n (pc := 17) dX0_judge_17 rfl ?_
    refine J_iconst (pc := 18) (v := 1) dX0_judge_18 (by decide) ?_
    refine J_icmp_neW (pc := 19) w' 1 hw rfl 33 dX0_judge_19 (by decide) (fun h19 => ?_) (fun h19 => ?_)
    · refine J_iload_n (pc := 33) dX0_judge_33 rfl ?_
      refine J_iload_n (pc := 34) dX0_judge_34 rfl ?_
      refine J_iload (pc := 35) dX0_judge_35 rfl ?_
      refine J_callSz (pc := 37) fC_X0_38 dX0_judge_37 (c_X3_mind x' y' 0 hx hy rfl (by omega)) rfl ⟨Nat.le_of_ble_eq_true rfl, Nat.le_of_ble_eq_true rfl⟩ rfl (Nat.le_of_ble_eq_true rfl) (fun z37 e37 => ?_)
      refine J_iret (pc := 40) dX0_judge_40 rfl ?_
      exact ⟨⟨_, rfl, by unfold mZ jZ; omega⟩, rfl⟩
    · refine J_iload_n (pc := 22) dX0_judge_22 rfl ?_
      refine J_aload_n (pc := 23) dX0_judge_23 rfl ?_
      refine J_getI (pc := 24) fF_X0_35 hb.1 rfl dX0_judge_24 ?_
      refine J_icmp_ltW (pc := 27) y' ((μ.1 b 2).toInt) hy rfl 33 dX0_judge_27 (by decide) (fun h27 => ?_) (fun h27 => ?_)
      · refine J_iload_n (pc := 33) dX0_judge_33 rfl ?_
        refine J_iload_n (pc := 34) dX0_judge_34 rfl ?_
        refine J_iload (pc := 35) dX0_judge_35 rfl ?_
        refine J_callSz (pc := 37) fC_X0_38 dX0_judge_37 (c_X3_mind x' y' 0 hx hy rfl (by omega)) rfl ⟨Nat.le_of_ble_eq_true rfl, Nat.le_of_ble_eq_true rfl⟩ rfl (Nat.le_of_ble_eq_true rfl) (fun z37 e37 => ?_)
        refine J_iret (pc := 40) dX0_judge_40 rfl ?_
        exact ⟨⟨_, rfl, by unfold mZ jZ; omega⟩, rfl⟩
      · refine J_iconst (pc := 30) (v := 1) dX0_judge_30 (by decide) ?_
        refine J_istore (pc := 31) (lv' := [some (.ref b), some (.int x), some (.int y), some (.int w), some (.int 1)]) dX0_judge_31 (Nat.le_of_ble_eq_true rfl) rfl rfl ?_
        refine J_iload_n (pc := 33) dX0_judge_33 rfl ?_
        refine J_iload_n (pc := 34) dX0_judge_34 rfl ?_
        refine J_iload (pc := 35) dX0_judge_35 rfl ?_
        refine J_callSz (pc := 37) fC_X0_38 dX0_judge_37 (c_X3_mind x' y' 1 hx hy rfl (by omega)) rfl ⟨Nat.le_of_ble_eq_true rfl, Nat.le_of_ble_eq_true rfl⟩ rfl (Nat.le_of_ble_eq_true rfl) (fun z37 e37 => ?_)
        refine J_iret (pc := 40) dX0_judge_40 rfl ?_
        exact ⟨⟨_, rfl, by unfold mZ jZ; omega⟩, rfl⟩
  · refine J_iconst (pc := 11) (v := 2) dX0_judge_11 (by decide) ?_
    refine J_istore (pc := 12) (lv' := [some (.ref b), some (.int x), some (.int y), some (.int w), some (.int 2)]) dX0_judge_12 (Nat.le_of_ble_eq_true rfl) rfl rfl ?_
    refine J_goto (pc := 14) 33 dX0_judge_14 (by decide) ?_
    refine J_iload_n (pc := 33) dX0_judge_33 rfl ?_
    refine J_iload_n (pc := 34) dX0_judge_34 rfl ?_
    refine J_iload (pc := 35) dX0_judge_35 rfl ?_
    refine J_callSz (pc := 37) fC_X0_38 dX0_judge_37 (c_X3_mind x' y' 2 hx hy rfl (by omega)) rfl ⟨Nat.le_of_ble_eq_true rfl, Nat.le_of_ble_eq_true rfl⟩ rfl (Nat.le_of_ble_eq_true rfl) (fun z37 e37 => ?_)
    refine J_iret (pc := 40) dX0_judge_40 rfl ?_
    exact ⟨⟨_, rfl, by unfold mZ jZ; omega⟩, rfl⟩
set_option maxRecDepth 100000 in
set_option maxHeartbeats 4000000 in
theorem c_X0_hear {b : Nat} (hb : jarAt b) {m n w : Int32} (m' n' w' : Int) (hm : m.toInt = m') (hn : n.toInt = n') (hw : w.toInt = w') (h : 0 ≤ m' ∧ 0 ≤ n' ∧ 0 ≤ w' ∧ w' ≤ 5) : Con G shC mX0_hear [.ref b, .int m, .int n, .int w] μ (j_z (hM (μ.1 b 0).toInt (μ.1 b 1).toInt (μ.1 b 2).toInt m' n' w') μ) := by
  have r1 := aZ_rng (μ.1 b 0).toInt w' n'
  have r2 := pZ_rng (μ.1 b 0).toInt w' n'
  have r3 := kZ_rng (m' % 10000 / 100 + aZ (μ.1 b 0).toInt w' n')
  have r4 := kZ_rng (m' % 100 + pZ (μ.1 b 0).toInt w' n')
  refine Con_of [some (.ref b), some (.int m), some (.int n), some (.int w), none, none] (by decide +kernel) (Nat.le_of_ble_eq_true rfl) (fun _ h => h) ?_
  refine J_iload_n (pc := 0) dX0_hear_0 rfl ?_
  refine J_callSz (pc := 1) fC_X0_66 dX0_hear_1 (c_X3_angerOf m' hm (by omega)) rfl ⟨Nat.le_of_ble_eq_true rfl, Nat.le_of_ble_eq_true rfl⟩ rfl (Nat.le_of_ble_eq_true rfl) (fun z1 e1 => ?_)
  refine J_aload_n (pc := 4) dX0_hear_4 rfl ?_
  refine J_getI (pc := 5) fF_X0_28 hb.1 rfl dX0_hear_5 ?_
  refine J_iload_n (pc := 8) dX0_hear_8 rfl ?_
  refine J_iload_n (pc := 9) dX0_hear_9 rfl ?_
  refine J_callSz (pc := 10) fC_X0_69 dX0_hear_10 (c_X3_angerMove ((μ.1 b 0).toInt) w' n' rfl hw hn (by omega)) rfl ⟨Nat.le_of_ble_eq_true rfl, Nat.le_of_ble_eq_true rfl⟩ rfl (Nat.le_of_ble_eq_true rfl) (fun z10 e10 => ?_)
  refine J_iaddW (pc := 13) (m' % 10000 / 100) (aZ ((μ.1 b 0).toInt) w' n') e1 e10 dX0_hear_13 (by omega) (fun z13 e13 => ?_)
  refine J_callSz (pc := 14) fC_X0_72 dX0_hear_14 (c_X3_kept ((m' % 10000 / 100) + (aZ ((μ.1 b 0).toInt) w' n')) e13) rfl ⟨Nat.le_of_ble_eq_true rfl, Nat.le_of_ble_eq_true rfl⟩ rfl (Nat.le_of_ble_eq_true rfl) (fun z14 e14 => ?_)
  refine J_istore (pc := 17) (lv' := [some (.ref b), some (.int m), some (.int n), some (.int w), some (.int z14), none]) dX0_hear_17 (Nat.le_of_ble_eq_true rfl) rfl rfl ?_
  refine J_iload_n (pc := 19) dX0_hear_19 rfl ?_
  refine J_callSz (pc := 20) fC_X0_75 dX0_hear_20 (c_X3_prideOf m' hm (by omega)) rfl ⟨Nat.le_of_ble_eq_true rfl, Nat.le_of_ble_eq_true rfl⟩ rfl (Nat.le_of_ble_eq_true rfl) (fun z20 e20 => ?_)
  refine J_aload_n (pc := 23) dX0_hear_23 rfl ?_
  refine J_getI (pc := 24) fF_X0_28 hb.1 rfl dX0_hear_24 ?_
  refine J_iload_n (pc := 27) dX0_hear_27 rfl ?_
  refine J_iload_n (pc := 28) dX0_hear_28 rfl ?_
  refine J_callSz (pc := 29) fC_X0_78 dX0_hear_29 (c_X3_prideMove ((μ.1 b 0).toInt) w' n' rfl hw hn (by omega)) rfl ⟨Nat.le_of_ble_eq_true rfl, Nat.le_of_ble_eq_true rfl⟩ rfl (Nat.le_of_ble_eq_true rfl) (fun z29 e29 => ?_)
  refine J_iaddW (pc := 32) (m' % 100) (pZ ((μ.1 b 0).toInt) w' n') e20 e29 dX0_hear_32 (by omega) (fun z32 e32 => ?_)
  refine J_callSz (pc := 33) fC_X0_72 dX0_hear_33 (c_X3_kept ((m' % 100) + (pZ ((μ.1 b 0).toInt) w' n')) e32) rfl ⟨Nat.le_of_ble_eq_true rfl, Nat.le_of_ble_eq_true rfl⟩ rfl (Nat.le_of_ble_eq_true rfl) (fun z33 e33 => ?_)
  refine J_istore (pc := 36) (lv' := [some (.ref b), some (.int m), some (.int n), some (.int w), some (.int z14), some (.int z33)]) dX0_hear_36 (Nat.le_of_ble_eq_true rfl) rfl rfl ?_
  refine J_aload_n (pc := 38) dX0_hear_38 rfl ?_
  refine J_iload (pc := 39) dX0_hear_39 rfl ?_
  refine J_iload (pc := 41) dX0_hear_41 rfl ?_
  refine J_iload_n (pc := 43) dX0_hear_43 rfl ?_
  refine J_callVz (pc := 44) fC_X0_81 hb.1 dX0_hear_44 (c_X0_judge hb (kZ ((m' % 10000 / 100) + (aZ ((μ.1 b 0).toInt) w' n'))) (kZ ((m' % 100) + (pZ ((μ.1 b 0).toInt) w' n'))) w' e14 e33 hw (by omega)) rfl ⟨Nat.le_of_ble_eq_true rfl, Nat.le_of_ble_eq_true rfl⟩ rfl (Nat.le_of_ble_eq_true rfl) (fun z44 e44 => ?_)
  refine J_iret (pc := 47) dX0_hear_47 rfl ?_
  exact ⟨⟨_, rfl, e44⟩, rfl⟩
set_option maxRecDepth 100000 in
set_option maxHeartbeats 4000000 in
theorem c_X0_begin {b : Nat} (hb : jarAt b) {k : Int32} : Con G shC mX0_begin [.ref b, .int k] μ (j_is none (begM μ b k)) := by
  refine Con_of [some (.ref b), some (.int k)] (by decide +kernel) (Nat.le_of_ble_eq_true rfl) (fun _ h => h) ?_
  refine J_aload_n (pc := 0) dX0_begin_0 rfl ?_
  refine J_iload_n (pc := 1) dX0_begin_1 rfl ?_
  refine J_putIW (pc := 2) fF_X0_28 hb.1 rfl dX0_begin_2 (fun μ2 m2 => ?_)
  refine J_aload_n (pc := 5) dX0_begin_5 rfl ?_
  refine J_bipush (pc := 6) (v := 40) dX0_begin_6 (by decide) ?_
  refine J_putIW (pc := 8) fF_X0_32 hb.1 rfl dX0_begin_8 (fun μ8 m8 => ?_)
  refine J_aload_n (pc := 11) dX0_begin_11 rfl ?_
  refine J_bipush (pc := 12) (v := 9) dX0_begin_12 (by decide) ?_
  refine J_putIW (pc := 14) fF_X0_35 hb.1 rfl dX0_begin_14 (fun μ14 m14 => ?_)
  refine J_aload_n (pc := 17) dX0_begin_17 rfl ?_
  refine J_bipush (pc := 18) (v := 20) dX0_begin_18 (by decide) ?_
  refine J_iconst (pc := 20) (v := 0) dX0_begin_20 (by decide) ?_
  refine J_iconst (pc := 21) (v := 0) dX0_begin_21 (by decide) ?_
  refine J_callSz (pc := 22) fC_X0_38 dX0_begin_22 (c_X3_mind 20 0 0 rfl rfl rfl (by omega)) rfl ⟨Nat.le_of_ble_eq_true rfl, Nat.le_of_ble_eq_true rfl⟩ rfl (Nat.le_of_ble_eq_true rfl) (fun z22 e22 => ?_)
  refine J_putIW (pc := 25) fF_X0_42 hb.1 rfl dX0_begin_25 (fun μ25 m25 => ?_)
  refine J_aload_n (pc := 28) dX0_begin_28 rfl ?_
  refine J_iconst (pc := 29) (v := 0) dX0_begin_29 (by decide) ?_
  refine J_putIW (pc := 30) fF_X0_44 hb.1 rfl dX0_begin_30 (fun μ30 m30 => ?_)
  refine J_aload_n (pc := 33) dX0_begin_33 rfl ?_
  refine J_iconst (pc := 34) (v := 0) dX0_begin_34 (by decide) ?_
  refine J_putIW (pc := 35) fF_X0_47 hb.1 rfl dX0_begin_35 (fun μ35 m35 => ?_)
  refine J_aload_n (pc := 38) dX0_begin_38 rfl ?_
  refine J_iconst (pc := 39) (v := 0) dX0_begin_39 (by decide) ?_
  refine J_putIW (pc := 40) fF_X0_50 hb.1 rfl dX0_begin_40 (fun μ40 m40 => ?_)
  refine J_getsN (pc := 43) (j := 2) (host := "JarSpirit") rfl (nest_t 152 (by decide +kernel) (by decide +kernel)) dX0_begin_43 ?_
  refine J_iconst (pc := 46) (v := 0) dX0_begin_46 (by decide) ?_
  refine J_aload_n (pc := 47) dX0_begin_47 rfl ?_
  refine J_getR (pc := 48) (b + 1) fF_X0_15 hb.1 rfl dX0_begin_48 ?_
  refine J_iconst (pc := 51) (v := 0) dX0_begin_51 (by decide) ?_
  refine J_bipush (pc := 52) (v := 8) dX0_begin_52 (by decide) ?_
  refine J_copyTW (pc := 54) (n := 8) (j := 2) ⟨big_t 154 (by decide +kernel) (by decide +kernel), big_t 156 (by decide +kernel) (by decide +kernel), big_t 155 (by decide +kernel) (by decide +kernel), big_t 5 (by decide +kernel) (by decide +kernel)⟩ rfl hb.2.1 rfl (by decide) (by decide) (by decide) (Nat.le_of_ble_eq_true rfl) (Nat.le_of_ble_eq_true rfl) dX0_begin_54 (fun μ54 m54 => ?_)
  refine J_vret (pc := 57) dX0_begin_57 rfl ?_
  rw [iZ_of e22] at m25
  subst m2 m8 m14 m25 m30 m35 m40 m54
  refine ⟨rfl, ?_⟩
  unfold begM
  rw [show iZ (0 * 10000 + 20 * 100 + 0) = 2000 from rfl]
  congr 1
  funext i
  simp [jI_i]
set_option maxRecDepth 100000 in
set_option maxHeartbeats 4000000 in
theorem c_X0_feel {b : Nat} (hb : jarAt b) {x y : Int32} (x' y' : Int) (hx : x.toInt = x') (hy : y.toInt = y') (h : 0 ≤ x' ∧ x' ≤ 99 ∧ 0 ≤ y' ∧ y' ≤ 99) (h3 : 0 ≤ (μ.1 b 3).toInt ∧ (μ.1 b 3).toInt < 30000) : Con G shC mX0_feel [.ref b, .int x, .int y] μ (j_is none (jI μ b 3 (iZ (mZ x' y' ((μ.1 b 3).toInt / 10000))))) := by
  refine Con_of [some (.ref b), some (.int x), some (.int y)] (by decide +kernel) (Nat.le_of_ble_eq_true rfl) (fun _ h => h) ?_
  refine J_aload_n (pc := 0) dX0_feel_0 rfl ?_
  refine J_iload_n (pc := 1) dX0_feel_1 rfl ?_
  refine J_iload_n (pc := 2) dX0_feel_2 rfl ?_
  refine J_aload_n (pc := 3) dX0_feel_3 rfl ?_
  refine J_getI (pc := 4) fF_X0_42 hb.1 rfl dX0_feel_4 ?_
  refine J_callSz (pc := 7) fC_X0_62 dX0_feel_7 (c_X3_beingOf ((μ.1 b 3).toInt) rfl (by omega)) rfl ⟨Nat.le_of_ble_eq_true rfl, Nat.le_of_ble_eq_true rfl⟩ rfl (Nat.le_of_ble_eq_true rfl) (fun z7 e7 => ?_)
  refine J_callSz (pc := 10) fC_X0_38 dX0_feel_10 (c_X3_mind x' y' (((μ.1 b 3).toInt) / 10000) hx hy e7 (by omega)) rfl ⟨Nat.le_of_ble_eq_true rfl, Nat.le_of_ble_eq_true rfl⟩ rfl (Nat.le_of_ble_eq_true rfl) (fun z10 e10 => ?_)
  refine J_putIW (pc := 13) fF_X0_42 hb.1 rfl dX0_feel_13 (fun μ13 m13 => ?_)
  refine J_vret (pc := 16) dX0_feel_16 rfl ?_
  exact ⟨rfl, by rw [m13, iZ_of e10]; rfl⟩
set_option maxRecDepth 100000 in
set_option maxHeartbeats 4000000 in
theorem c_X0_listen {b : Nat} (hb : jarAt b) {w : Int32} (w' : Int) (hw : w.toInt = w') (h : 0 ≤ w' ∧ w' ≤ 5) (h3 : 0 ≤ (μ.1 b 3).toInt) (h4 : 0 ≤ (μ.1 b 4).toInt ∧ (μ.1 b 4).toInt < 1000000) : Con G shC mX0_listen [.ref b, .int w] μ (j_is none (listenM μ b w')) := by
  refine Con_of [some (.ref b), some (.int w)] (by decide +kernel) (Nat.le_of_ble_eq_true rfl) (fun _ h => h) ?_
  refine J_aload_n (pc := 0) dX0_listen_0 rfl ?_
  refine J_aload_n (pc := 1) dX0_listen_1 rfl ?_
  refine J_aload_n (pc := 2) dX0_listen_2 rfl ?_
  refine J_getI (pc := 3) fF_X0_42 hb.1 rfl dX0_listen_3 ?_
  refine J_aload_n (pc := 6) dX0_listen_6 rfl ?_
  refine J_getI (pc := 7) fF_X0_44 hb.1 rfl dX0_listen_7 ?_
  refine J_iload_n (pc := 10) dX0_listen_10 rfl ?_
  refine J_callVz (pc := 11) fC_X0_84 hb.1 dX0_listen_11 (c_X0_hear hb ((μ.1 b 3).toInt) ((μ.1 b 4).toInt) w' rfl rfl hw (by omega)) rfl ⟨Nat.le_of_ble_eq_true rfl, Nat.le_of_ble_eq_true rfl⟩ rfl (Nat.le_of_ble_eq_true rfl) (fun z11 e11 => ?_)
  refine J_putIW (pc := 14) fF_X0_42 hb.1 rfl dX0_listen_14 (fun μ14 m14 => ?_)
  refine J_aload_n (pc := 17) dX0_listen_17 rfl ?_
  refine J_dup (pc := 18) dX0_listen_18 rfl ?_
  refine J_getI (pc := 19) fF_X0_44 hb.1 rfl dX0_listen_19 ?_
  refine J_iconst (pc := 22) (v := 1) dX0_listen_22 (by decide) ?_
  refine J_iaddW (pc := 23) ((μ.1 b 4).toInt) 1 (show (μ14.1 b 4).toInt = (μ.1 b 4).toInt by simp [m14, jI_i]) rfl dX0_listen_23 (by omega) (fun z23 e23 => ?_)
  refine J_putIW (pc := 24) fF_X0_44 hb.1 rfl dX0_listen_24 (fun μ24 m24 => ?_)
  refine J_vret (pc := 27) dX0_listen_27 rfl ?_
  exact ⟨rfl, by rw [m24, m14, iZ_of e11, iZ_of e23]; rfl⟩
def takeM (μ : JM) (b a : Nat) : JM :=
  let m1 := jI μ b 0 (μ.1 a 0)
  let m2 := jI m1 b 1 (m1.1 a 1)
  let m3 := jI m2 b 2 (m2.1 a 2)
  let m4 := jI m3 b 3 (m3.1 a 3)
  let m5 := jI m4 b 4 (m4.1 a 4)
  let m6 := jI m5 b 5 (m5.1 a 5)
  let m7 := jI m6 b 6 (m6.1 a 6)
  let m8 := jC m7 (b + 1) (va_cpy (m7.1 (a + 1)) (m7.1 (b + 1)) 0 0 8)
  let m9 := jC m8 (b + 2) (va_cpy (m8.1 (a + 2)) (m8.1 (b + 2)) 0 0 24)
  let m10 := jC m9 (b + 3) (va_cpy (m9.1 (a + 3)) (m9.1 (b + 3)) 0 0 8)
  jC m10 (b + 4) (va_cpy (m10.1 (a + 4)) (m10.1 (b + 4)) 0 0 8)
def pushM (μ : JM) (b n : Nat) : JM :=
  let m1 := jI μ (b + 3) n (μ.1 b 3)
  let m2 := jI m1 (b + 4) n (m1.1 b 4)
  jI m2 b 6 (iZ ((n : Int) + 1))
def remM (μ : JM) (b : Nat) : JM :=
  if 8 ≤ (μ.1 b 6).toInt then
    let m1 := jC μ (b + 3) (va_cpy (μ.1 (b + 3)) (μ.1 (b + 3)) 1 0 7)
    let m2 := jC m1 (b + 4) (va_cpy (m1.1 (b + 4)) (m1.1 (b + 4)) 1 0 7)
    pushM (jI m2 b 6 7) b 7
  else pushM μ b (μ.1 b 6).toInt.toNat
def backM (μ : JM) (b n : Nat) : JM :=
  let m1 := jI μ b 6 (iZ (n : Int))
  let m2 := jI m1 b 3 (m1.1 (b + 3) n)
  jI m2 b 4 (m2.1 (b + 4) n)
def addM (μ : JM) (b c : Nat) (w n a p : Int32) : JM := jI (jI (jI (jI (jI μ (b + 2) (c * 4) w) (b + 2) (c * 4 + 1) n) (b + 2) (c * 4 + 2) a) (b + 2) (c * 4 + 3) p) b 5 (iZ ((c : Int) + 1))
set_option maxRecDepth 100000 in
set_option maxHeartbeats 4000000 in
theorem c_X0_take {b a : Nat} (hb : jarAt b) (ha : jarAt a) : Con G shC mX0_take [.ref b, .ref a] μ (j_is none (takeM μ b a)) := by
  refine Con_of [some (.ref b), some (.ref a)] (by decide +kernel) (Nat.le_of_ble_eq_true rfl) (fun _ h => h) ?_
  refine J_aload_n (pc := 0) dX0_take_0 rfl ?_
  refine J_aload_n (pc := 1) dX0_take_1 rfl ?_
  refine J_getI (pc := 2) fF_X0_28 ha.1 rfl dX0_take_2 ?_
  refine J_putIW (pc := 5) fF_X0_28 hb.1 rfl dX0_take_5 (fun μ5 m5 => ?_)
  refine J_aload_n (pc := 8) dX0_take_8 rfl ?_
  refine J_aload_n (pc := 9) dX0_take_9 rfl ?_
  refine J_getI (pc := 10) fF_X0_32 ha.1 rfl dX0_take_10 ?_
  refine J_putIW (pc := 13) fF_X0_32 hb.1 rfl dX0_take_13 (fun μ13 m13 => ?_)
  refine J_aload_n (pc := 16) dX0_take_16 rfl ?_
  refine J_aload_n (pc := 17) dX0_take_17 rfl ?_
  refine J_getI (pc := 18) fF_X0_35 ha.1 rfl dX0_take_18 ?_
  refine J_putIW (pc := 21) fF_X0_35 hb.1 rfl dX0_take_21 (fun μ21 m21 => ?_)
  refine J_aload_n (pc := 24) dX0_take_24 rfl ?_
  refine J_aload_n (pc := 25) dX0_take_25 rfl ?_
  refine J_getI (pc := 26) fF_X0_42 ha.1 rfl dX0_take_26 ?_
  refine J_putIW (pc := 29) fF_X0_42 hb.1 rfl dX0_take_29 (fun μ29 m29 => ?_)
  refine J_aload_n (pc := 32) dX0_take_32 rfl ?_
  refine J_aload_n (pc := 33) dX0_take_33 rfl ?_
  refine J_getI (pc := 34) fF_X0_44 ha.1 rfl dX0_take_34 ?_
  refine J_putIW (pc := 37) fF_X0_44 hb.1 rfl dX0_take_37 (fun μ37 m37 => ?_)
  refine J_aload_n (pc := 40) dX0_take_40 rfl ?_
  refine J_aload_n (pc := 41) dX0_take_41 rfl ?_
  refine J_getI (pc := 42) fF_X0_47 ha.1 rfl dX0_take_42 ?_
  refine J_putIW (pc := 45) fF_X0_47 hb.1 rfl dX0_take_45 (fun μ45 m45 => ?_)
  refine J_aload_n (pc := 48) dX0_take_48 rfl ?_
  refine J_aload_n (pc := 49) dX0_take_49 rfl ?_
  refine J_getI (pc := 50) fF_X0_50 ha.1 rfl dX0_take_50 ?_
  refine J_putIW (pc := 53) fF_X0_50 hb.1 rfl dX0_take_53 (fun μ53 m53 => ?_)
  refine J_aload_n (pc := 56) dX0_take_56 rfl ?_
  refine J_getR (pc := 57) (a + 1) fF_X0_15 ha.1 rfl dX0_take_57 ?_
  refine J_iconst (pc := 60) (v := 0) dX0_take_60 (by decide) ?_
  refine J_aload_n (pc := 61) dX0_take_61 rfl ?_
  refine J_getR (pc := 62) (b + 1) fF_X0_15 hb.1 rfl dX0_take_62 ?_
  refine J_iconst (pc := 65) (v := 0) dX0_take_65 (by decide) ?_
  refine J_bipush (pc := 66) (v := 8) dX0_take_66 (by decide) ?_
  refine J_copyW (pc := 68) 0 0 8 rfl rfl rfl (by decide) (by decide) (by decide) ⟨big_t 154 (by decide +kernel) (by decide +kernel), big_t 156 (by decide +kernel) (by decide +kernel), big_t 155 (by decide +kernel) (by decide +kernel), big_t 5 (by decide +kernel) (by decide +kernel)⟩ ha.2.1 hb.2.1 (by decide) (by decide) (Nat.le_of_ble_eq_true rfl) (Nat.le_of_ble_eq_true rfl) dX0_take_68 (fun μ68 m68 => ?_)
  refine J_aload_n (pc := 71) dX0_take_71 rfl ?_
  refine J_getR (pc := 72) (a + 2) fF_X0_19 ha.1 rfl dX0_take_72 ?_
  refine J_iconst (pc := 75) (v := 0) dX0_take_75 (by decide) ?_
  refine J_aload_n (pc := 76) dX0_take_76 rfl ?_
  refine J_getR (pc := 77) (b + 2) fF_X0_19 hb.1 rfl dX0_take_77 ?_
  refine J_iconst (pc := 80) (v := 0) dX0_take_80 (by decide) ?_
  refine J_bipush (pc := 81) (v := 24) dX0_take_81 (by decide) ?_
  refine J_copyW (pc := 83) 0 0 24 rfl rfl rfl (by decide) (by decide) (by decide) ⟨big_t 154 (by decide +kernel) (by decide +kernel), big_t 156 (by decide +kernel) (by decide +kernel), big_t 155 (by decide +kernel) (by decide +kernel), big_t 5 (by decide +kernel) (by decide +kernel)⟩ ha.2.2.1 hb.2.2.1 (by decide) (by decide) (Nat.le_of_ble_eq_true rfl) (Nat.le_of_ble_eq_true rfl) dX0_take_83 (fun μ83 m83 => ?_)
  refine J_aload_n (pc := 86) dX0_take_86 rfl ?_
  refine J_getR (pc := 87) (a + 3) fF_X0_22 ha.1 rfl dX0_take_87 ?_
  refine J_iconst (pc := 90) (v := 0) dX0_take_90 (by decide) ?_
  refine J_aload_n (pc := 91) dX0_take_91 rfl ?_
  refine J_getR (pc := 92) (b + 3) fF_X0_22 hb.1 rfl dX0_take_92 ?_
  refine J_iconst (pc := 95) (v := 0) dX0_take_95 (by decide) ?_
  refine J_bipush (pc := 96) (v := 8) dX0_take_96 (by decide) ?_
  refine J_copyW (pc := 98) 0 0 8 rfl rfl rfl (by decide) (by decide) (by decide) ⟨big_t 154 (by decide +kernel) (by decide +kernel), big_t 156 (by decide +kernel) (by decide +kernel), big_t 155 (by decide +kernel) (by decide +kernel), big_t 5 (by decide +kernel) (by decide +kernel)⟩ ha.2.2.2.1 hb.2.2.2.1 (by decide) (by decide) (Nat.le_of_ble_eq_true rfl) (Nat.le_of_ble_eq_true rfl) dX0_take_98 (fun μ98 m98 => ?_)
  refine J_aload_n (pc := 101) dX0_take_101 rfl ?_
  refine J_getR (pc := 102) (a + 4) fF_X0_25 ha.1 rfl dX0_take_102 ?_
  refine J_iconst (pc := 105) (v := 0) dX0_take_105 (by decide) ?_
  refine J_aload_n (pc := 106) dX0_take_106 rfl ?_
  refine J_getR (pc := 107) (b + 4) fF_X0_25 hb.1 rfl dX0_take_107 ?_
  refine J_iconst (pc := 110) (v := 0) dX0_take_110 (by decide) ?_
  refine J_bipush (pc := 111) (v := 8) dX0_take_111 (by decide) ?_
  refine J_copyW (pc := 113) 0 0 8 rfl rfl rfl (by decide) (by decide) (by decide) ⟨big_t 154 (by decide +kernel) (by decide +kernel), big_t 156 (by decide +kernel) (by decide +kernel), big_t 155 (by decide +kernel) (by decide +kernel), big_t 5 (by decide +kernel) (by decide +kernel)⟩ ha.2.2.2.2.1 hb.2.2.2.2.1 (by decide) (by decide) (Nat.le_of_ble_eq_true rfl) (Nat.le_of_ble_eq_true rfl) dX0_take_113 (fun μ113 m113 => ?_)
  refine J_vret (pc := 116) dX0_take_116 rfl ?_
  subst m5 m13 m21 m29 m37 m45 m53 m68 m83 m98 m113
  exact ⟨rfl, rfl⟩
set_option maxRecDepth 100000 in
set_option maxHeartbeats 4000000 in
theorem c_X0_remember {b : Nat} (hb : jarAt b) (h6 : 0 ≤ (μ.1 b 6).toInt ∧ (μ.1 b 6).toInt ≤ 8) : Con G shC mX0_remember [.ref b] μ (j_is none (remM μ b)) := by
  refine Con_of [some (.ref b)] (by decide +kernel) (Nat.le_of_ble_eq_true rfl) (fun _ h => h) ?_
  refine J_aload_n (pc := 0) dX0_remember_0 rfl ?_
  refine J_getI (pc := 1) fF_X0_50 hb.1 rfl dX0_remember_1 ?_
  refine J_bipush (pc := 4) (v := 8) dX0_remember_4 (by decide) ?_
  refine J_icmp_ltW (pc := 6) ((μ.1 b 6).toInt) 8 rfl rfl 45 dX0_remember_6 (by decide) (fun h6 => ?_) (fun h6 => ?_)
  · refine J_aload_n (pc := 45) dX0_remember_45 rfl ?_
    refine J_getR (pc := 46) (b + 3) fF_X0_22 hb.1 rfl dX0_remember_46 ?_
    refine J_aload_n (pc := 49) dX0_remember_49 rfl ?_
    refine J_getI (pc := 50) fF_X0_50 hb.1 rfl dX0_remember_50 ?_
    refine J_aload_n (pc := 53) dX0_remember_53 rfl ?_
    refine J_getI (pc := 54) fF_X0_42 hb.1 rfl dX0_remember_54 ?_
    refine J_callSv (pc := 57) fC_X0_87 dX0_remember_57 (c_X3_put hb.2.2.2.1 (((μ.1 b 6).toInt).toNat) (by omega) (by omega) (by omega)) rfl ⟨Nat.le_of_ble_eq_true rfl, Nat.le_of_ble_eq_true rfl⟩ rfl (Nat.le_of_ble_eq_true rfl) (fun μ57 m57 => ?_)
    refine J_aload_n (pc := 60) dX0_remember_60 rfl ?_
    refine J_getR (pc := 61) (b + 4) fF_X0_25 hb.1 rfl dX0_remember_61 ?_
    refine J_aload_n (pc := 64) dX0_remember_64 rfl ?_
    refine J_getI (pc := 65) fF_X0_50 hb.1 rfl dX0_remember_65 ?_
    refine J_aload_n (pc := 68) dX0_remember_68 rfl ?_
    refine J_getI (pc := 69) fF_X0_44 hb.1 rfl dX0_remember_69 ?_
    refine J_callSv (pc := 72) fC_X0_87 dX0_remember_72 (c_X3_put hb.2.2.2.2.1 (((μ.1 b 6).toInt).toNat) (by have q := (show (μ57.1 b 6).toInt = (μ.1 b 6).toInt by simp [m57, jI_i]); omega) (by omega) (by omega)) rfl ⟨Nat.le_of_ble_eq_true rfl, Nat.le_of_ble_eq_true rfl⟩ rfl (Nat.le_of_ble_eq_true rfl) (fun μ72 m72 => ?_)
    refine J_aload_n (pc := 75) dX0_remember_75 rfl ?_
    refine J_dup (pc := 76) dX0_remember_76 rfl ?_
    refine J_getI (pc := 77) fF_X0_50 hb.1 rfl dX0_remember_77 ?_
    refine J_iconst (pc := 80) (v := 1) dX0_remember_80 (by decide) ?_
    refine J_iaddW (pc := 81) ((μ.1 b 6).toInt) 1 (show (μ72.1 b 6).toInt = (μ.1 b 6).toInt by simp [m72, m57, jI_i]) rfl dX0_remember_81 (by omega) (fun z81 e81 => ?_)
    refine J_putIW (pc := 82) fF_X0_50 hb.1 rfl dX0_remember_82 (fun μ82 m82 => ?_)
    refine J_vret (pc := 85) dX0_remember_85 rfl ?_
    refine ⟨rfl, ?_⟩
    unfold remM
    first
      | (rw [if_neg (by omega)]; rw [iZ_of e81] at m82; subst m57 m72 m82; rw [pushM, show ((μ.1 b 6).toInt.toNat : Int) = (μ.1 b 6).toInt by omega])
      | (rw [if_pos (by omega)]; rw [iZ_of e81] at m82; subst m21 m36 m42 m57 m72 m82; rfl)
  · refine J_aload_n (pc := 9) dX0_remember_9 rfl ?_
    refine J_getR (pc := 10) (b + 3) fF_X0_22 hb.1 rfl dX0_remember_10 ?_
    refine J_iconst (pc := 13) (v := 1) dX0_remember_13 (by decide) ?_
    refine J_aload_n (pc := 14) dX0_remember_14 rfl ?_
    refine J_getR (pc := 15) (b + 3) fF_X0_22 hb.1 rfl dX0_remember_15 ?_
    refine J_iconst (pc := 18) (v := 0) dX0_remember_18 (by decide) ?_
    refine J_bipush (pc := 19) (v := 7) dX0_remember_19 (by decide) ?_
    refine J_copyW (pc := 21) 1 0 7 rfl rfl rfl (by decide) (by decide) (by decide) ⟨big_t 154 (by decide +kernel) (by decide +kernel), big_t 156 (by decide +kernel) (by decide +kernel), big_t 155 (by decide +kernel) (by decide +kernel), big_t 5 (by decide +kernel) (by decide +kernel)⟩ hb.2.2.2.1 hb.2.2.2.1 (by decide) (by decide) (Nat.le_of_ble_eq_true rfl) (Nat.le_of_ble_eq_true rfl) dX0_remember_21 (fun μ21 m21 => ?_)
    refine J_aload_n (pc := 24) dX0_remember_24 rfl ?_
    refine J_getR (pc := 25) (b + 4) fF_X0_25 hb.1 rfl dX0_remember_25 ?_
    refine J_iconst (pc := 28) (v := 1) dX0_remember_28 (by decide) ?_
    refine J_aload_n (pc := 29) dX0_remember_29 rfl ?_
    refine J_getR (pc := 30) (b + 4) fF_X0_25 hb.1 rfl dX0_remember_30 ?_
    refine J_iconst (pc := 33) (v := 0) dX0_remember_33 (by decide) ?_
    refine J_bipush (pc := 34) (v := 7) dX0_remember_34 (by decide) ?_
    refine J_copyW (pc := 36) 1 0 7 rfl rfl rfl (by decide) (by decide) (by decide) ⟨big_t 154 (by decide +kernel) (by decide +kernel), big_t 156 (by decide +kernel) (by decide +kernel), big_t 155 (by decide +kernel) (by decide +kernel), big_t 5 (by decide +kernel) (by decide +kernel)⟩ hb.2.2.2.2.1 hb.2.2.2.2.1 (by decide) (by decide) (Nat.le_of_ble_eq_true rfl) (Nat.le_of_ble_eq_true rfl) dX0_remember_36 (fun μ36 m36 => ?_)
    refine J_aload_n (pc := 39) dX0_remember_39 rfl ?_
    refine J_bipush (pc := 40) (v := 7) dX0_remember_40 (by decide) ?_
    refine J_putIW (pc := 42) fF_X0_50 hb.1 rfl dX0_remember_42 (fun μ42 m42 => ?_)
    refine J_aload_n (pc := 45) dX0_remember_45 rfl ?_
    refine J_getR (pc := 46) (b + 3) fF_X0_22 hb.1 rfl dX0_remember_46 ?_
    refine J_aload_n (pc := 49) dX0_remember_49 rfl ?_
    refine J_getI (pc := 50) fF_X0_50 hb.1 rfl dX0_remember_50 ?_
    refine J_aload_n (pc := 53) dX0_remember_53 rfl ?_
    refine J_getI (pc := 54) fF_X0_42 hb.1 rfl dX0_remember_54 ?_
    refine J_callSv (pc := 57) fC_X0_87 dX0_remember_57 (c_X3_put hb.2.2.2.1 7 (by have q := (show (μ42.1 b 6).toInt = 7 by simp [m42, jI_i]); omega) (by omega) (by omega)) rfl ⟨Nat.le_of_ble_eq_true rfl, Nat.le_of_ble_eq_true rfl⟩ rfl (Nat.le_of_ble_eq_true rfl) (fun μ57 m57 => ?_)
    refine J_aload_n (pc := 60) dX0_remember_60 rfl ?_
    refine J_getR (pc := 61) (b + 4) fF_X0_25 hb.1 rfl dX0_remember_61 ?_
    refine J_aload_n (pc := 64) dX0_remember_64 rfl ?_
    refine J_getI (pc := 65) fF_X0_50 hb.1 rfl dX0_remember_65 ?_
    refine J_aload_n (pc := 68) dX0_remember_68 rfl ?_
    refine J_getI (pc := 69) fF_X0_44 hb.1 rfl dX0_remember_69 ?_
    refine J_callSv (pc := 72) fC_X0_87 dX0_remember_72 (c_X3_put hb.2.2.2.2.1 7 (by have q := (show (μ57.1 b 6).toInt = 7 by simp [m57, m42, jI_i]); omega) (by omega) (by omega)) rfl ⟨Nat.le_of_ble_eq_true rfl, Nat.le_of_ble_eq_true rfl⟩ rfl (Nat.le_of_ble_eq_true rfl) (fun μ72 m72 => ?_)
    refine J_aload_n (pc := 75) dX0_remember_75 rfl ?_
    refine J_dup (pc := 76) dX0_remember_76 rfl ?_
    refine J_getI (pc := 77) fF_X0_50 hb.1 rfl dX0_remember_77 ?_
    refine J_iconst (pc := 80) (v := 1) dX0_remember_80 (by decide) ?_
    refine J_iaddW (pc := 81) 7 1 (show (μ72.1 b 6).toInt = 7 by simp [m72, m57, m42, jI_i]) rfl dX0_remember_81 (by omega) (fun z81 e81 => ?_)
    refine J_putIW (pc := 82) fF_X0_50 hb.1 rfl dX0_remember_82 (fun μ82 m82 => ?_)
    refine J_vret (pc := 85) dX0_remember_85 rfl ?_
    refine ⟨rfl, ?_⟩
    unfold remM
    first
      | (rw [if_neg (by omega)]; rw [iZ_of e81] at m82; subst m57 m72 m82; rw [pushM, show ((μ.1 b 6).toInt.toNat : Int) = (μ.1 b 6).toInt by omega])
      | (rw [if_pos (by omega)]; rw [iZ_of e81] at m82; subst m21 m36 m42 m57 m72 m82; rfl)
set_option maxRecDepth 100000 in
set_option maxHeartbeats 4000000 in
theorem c_X0_goBack {b : Nat} (hb : jarAt b) (n : Nat) (hn : (μ.1 b 6).toInt = (n : Int) + 1) (h6 : n < 8) : Con G shC mX0_goBack [.ref b] μ (j_is none (backM μ b n)) := by
  refine Con_of [some (.ref b)] (by decide +kernel) (Nat.le_of_ble_eq_true rfl) (fun _ h => h) ?_
  refine J_aload_n (pc := 0) dX0_goBack_0 rfl ?_
  refine J_dup (pc := 1) dX0_goBack_1 rfl ?_
  refine J_getI (pc := 2) fF_X0_50 hb.1 rfl dX0_goBack_2 ?_
  refine J_iconst (pc := 5) (v := 1) dX0_goBack_5 (by decide) ?_
  refine J_isubW (pc := 6) ((n : Int) + 1) 1 hn rfl dX0_goBack_6 (by omega) (fun z6 e6 => ?_)
  have q6 : z6.toInt = (n : Int) := by omega
  refine J_putIW (pc := 7) fF_X0_50 hb.1 rfl dX0_goBack_7 (fun μ7 m7 => ?_)
  refine J_aload_n (pc := 10) dX0_goBack_10 rfl ?_
  refine J_aload_n (pc := 11) dX0_goBack_11 rfl ?_
  refine J_getR (pc := 12) (b + 3) fF_X0_22 hb.1 rfl dX0_goBack_12 ?_
  refine J_aload_n (pc := 15) dX0_goBack_15 rfl ?_
  refine J_getI (pc := 16) fF_X0_50 hb.1 rfl dX0_goBack_16 ?_
  refine J_callSe (pc := 19) fC_X0_91 dX0_goBack_19 (c_X3_at hb.2.2.2.1 n (by have q := (show (μ7.1 b 6).toInt = (n : Int) by simp [m7, jI_i]; exact q6); omega) (by omega) (by omega)) rfl ⟨Nat.le_of_ble_eq_true rfl, Nat.le_of_ble_eq_true rfl⟩ rfl (Nat.le_of_ble_eq_true rfl) ?_
  refine J_putIW (pc := 22) fF_X0_42 hb.1 rfl dX0_goBack_22 (fun μ22 m22 => ?_)
  refine J_aload_n (pc := 25) dX0_goBack_25 rfl ?_
  refine J_aload_n (pc := 26) dX0_goBack_26 rfl ?_
  refine J_getR (pc := 27) (b + 4) fF_X0_25 hb.1 rfl dX0_goBack_27 ?_
  refine J_aload_n (pc := 30) dX0_goBack_30 rfl ?_
  refine J_getI (pc := 31) fF_X0_50 hb.1 rfl dX0_goBack_31 ?_
  refine J_callSe (pc := 34) fC_X0_91 dX0_goBack_34 (c_X3_at hb.2.2.2.2.1 n (by have q := (show (μ22.1 b 6).toInt = (n : Int) by simp [m22, m7, jI_i]; exact q6); omega) (by omega) (by omega)) rfl ⟨Nat.le_of_ble_eq_true rfl, Nat.le_of_ble_eq_true rfl⟩ rfl (Nat.le_of_ble_eq_true rfl) ?_
  refine J_putIW (pc := 37) fF_X0_44 hb.1 rfl dX0_goBack_37 (fun μ37 m37 => ?_)
  refine J_vret (pc := 40) dX0_goBack_40 rfl ?_
  rw [iZ_of q6] at m7
  subst m7 m22 m37
  exact ⟨rfl, rfl⟩
set_option maxRecDepth 100000 in
set_option maxHeartbeats 4000000 in
theorem c_X0_addNote {b : Nat} (hb : jarAt b) {w n a p : Int32} (c : Nat) (hc : (μ.1 b 5).toInt = (c : Int)) (h : c < 6) : Con G shC mX0_addNote [.ref b, .int w, .int n, .int a, .int p] μ (j_is none (addM μ b c w n a p)) := by
  refine Con_of [some (.ref b), some (.int w), some (.int n), some (.int a), some (.int p), none] (by decide +kernel) (Nat.le_of_ble_eq_true rfl) (fun _ h => h) ?_
  refine J_aload_n (pc := 0) dX0_addNote_0 rfl ?_
  refine J_getI (pc := 1) fF_X0_47 hb.1 rfl dX0_addNote_1 ?_
  refine J_iconst (pc := 4) (v := 4) dX0_addNote_4 (by decide) ?_
  refine J_imulW (pc := 5) (c : Int) 4 hc rfl dX0_addNote_5 (by omega) (fun z5 e5 => ?_)
  refine J_istore (pc := 6) (lv' := [some (.ref b), some (.int w), some (.int n), some (.int a), some (.int p), some (.int z5)]) dX0_addNote_6 (Nat.le_of_ble_eq_true rfl) rfl rfl ?_
  refine J_aload_n (pc := 8) dX0_addNote_8 rfl ?_
  refine J_getR (pc := 9) (b + 2) fF_X0_19 hb.1 rfl dX0_addNote_9 ?_
  refine J_iload (pc := 12) dX0_addNote_12 rfl ?_
  refine J_iload_n (pc := 14) dX0_addNote_14 rfl ?_
  refine J_callSv (pc := 15) fC_X0_87 dX0_addNote_15 (c_X3_put hb.2.2.1 (c * 4) (by have q := e5; omega) (by omega) (by omega)) rfl ⟨Nat.le_of_ble_eq_true rfl, Nat.le_of_ble_eq_true rfl⟩ rfl (Nat.le_of_ble_eq_true rfl) (fun μ15 m15 => ?_)
  refine J_aload_n (pc := 18) dX0_addNote_18 rfl ?_
  refine J_getR (pc := 19) (b + 2) fF_X0_19 hb.1 rfl dX0_addNote_19 ?_
  refine J_iload (pc := 22) dX0_addNote_22 rfl ?_
  refine J_iconst (pc := 24) (v := 1) dX0_addNote_24 (by decide) ?_
  refine J_iaddW (pc := 25) ((c : Int) * 4) 1 e5 rfl dX0_addNote_25 (by omega) (fun z25 e25 => ?_)
  refine J_iload_n (pc := 26) dX0_addNote_26 rfl ?_
  refine J_callSv (pc := 27) fC_X0_87 dX0_addNote_27 (c_X3_put hb.2.2.1 ((c * 4) + 1) (by have q := e25; omega) (by omega) (by omega)) rfl ⟨Nat.le_of_ble_eq_true rfl, Nat.le_of_ble_eq_true rfl⟩ rfl (Nat.le_of_ble_eq_true rfl) (fun μ27 m27 => ?_)
  refine J_aload_n (pc := 30) dX0_addNote_30 rfl ?_
  refine J_getR (pc := 31) (b + 2) fF_X0_19 hb.1 rfl dX0_addNote_31 ?_
  refine J_iload (pc := 34) dX0_addNote_34 rfl ?_
  refine J_iconst (pc := 36) (v := 2) dX0_addNote_36 (by decide) ?_
  refine J_iaddW (pc := 37) ((c : Int) * 4) 2 e5 rfl dX0_addNote_37 (by omega) (fun z37 e37 => ?_)
  refine J_iload_n (pc := 38) dX0_addNote_38 rfl ?_
  refine J_callSv (pc := 39) fC_X0_87 dX0_addNote_39 (c_X3_put hb.2.2.1 ((c * 4) + 2) (by have q := e37; omega) (by omega) (by omega)) rfl ⟨Nat.le_of_ble_eq_true rfl, Nat.le_of_ble_eq_true rfl⟩ rfl (Nat.le_of_ble_eq_true rfl) (fun μ39 m39 => ?_)
  refine J_aload_n (pc := 42) dX0_addNote_42 rfl ?_
  refine J_getR (pc := 43) (b + 2) fF_X0_19 hb.1 rfl dX0_addNote_43 ?_
  refine J_iload (pc := 46) dX0_addNote_46 rfl ?_
  refine J_iconst (pc := 48) (v := 3) dX0_addNote_48 (by decide) ?_
  refine J_iaddW (pc := 49) ((c : Int) * 4) 3 e5 rfl dX0_addNote_49 (by omega) (fun z49 e49 => ?_)
  refine J_iload (pc := 50) dX0_addNote_50 rfl ?_
  refine J_callSv (pc := 52) fC_X0_87 dX0_addNote_52 (c_X3_put hb.2.2.1 ((c * 4) + 3) (by have q := e49; omega) (by omega) (by omega)) rfl ⟨Nat.le_of_ble_eq_true rfl, Nat.le_of_ble_eq_true rfl⟩ rfl (Nat.le_of_ble_eq_true rfl) (fun μ52 m52 => ?_)
  refine J_aload_n (pc := 55) dX0_addNote_55 rfl ?_
  refine J_dup (pc := 56) dX0_addNote_56 rfl ?_
  refine J_getI (pc := 57) fF_X0_47 hb.1 rfl dX0_addNote_57 ?_
  refine J_iconst (pc := 60) (v := 1) dX0_addNote_60 (by decide) ?_
  refine J_iaddW (pc := 61) (c : Int) 1 (show (μ52.1 b 5).toInt = (c : Int) by simp [m52, m39, m27, m15, jI_i]; exact hc) rfl dX0_addNote_61 (by omega) (fun z61 e61 => ?_)
  refine J_putIW (pc := 62) fF_X0_47 hb.1 rfl dX0_addNote_62 (fun μ62 m62 => ?_)
  refine J_vret (pc := 65) dX0_addNote_65 rfl ?_
  rw [iZ_of e61] at m62
  subst m15 m27 m39 m52 m62
  exact ⟨rfl, rfl⟩

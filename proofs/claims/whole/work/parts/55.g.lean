/-! ===== read: the pair ===== -/
abbrev hldF (m : JM) : Nat → Int32 := fun j => if j < 73 then m.1 1 j else m.1 6 j
variable {G : JG}
set_option maxRecDepth 100000 in
set_option maxHeartbeats 4000000 in
theorem l_n_hold {m : JM} {Q : Option Value → JM → Prop} : ∀ d : Nat, ∀ (i : Nat) (iv : Int32) (ν : JM), i + d = 73 → iv.toInt = (i : Int) → ν = jC m 6 (fun j => if j < i then m.1 1 j else m.1 6 j) → J G shM mX4_read 26 [some (.ref 0), none, none] [] (jC m 6 (hldF m)) Q → J G shM mX4_read 2 [some (.ref 0), some (.int iv), none] [] ν Q := by
  intro d
  induction d with
  | zero =>
    intro i iv ν hd hi hν hk2
    refine J_iload_n (pc := 2) dX4_read_2 rfl ?_
    refine J_bipush (pc := 3) (v := 73) dX4_read_3 (by decide) ?_
    refine J_icmp_geW (pc := 5) (i : Int) 73 hi rfl 26 dX4_read_5 (by decide) (fun h5 => ?_) (fun h5 => ?_)
    · obtain rfl : i = 73 := by omega
      rw [hν]
      exact J_lv' (lv' := [some (.ref 0), none, none]) (by repeat' constructor) hk2
    · exfalso; omega
  | succ d ih =>
    intro i iv ν hd hi hν hk2
    refine J_iload_n (pc := 2) dX4_read_2 rfl ?_
    refine J_bipush (pc := 3) (v := 73) dX4_read_3 (by decide) ?_
    refine J_icmp_geW (pc := 5) (i : Int) 73 hi rfl 26 dX4_read_5 (by decide) (fun h5 => ?_) (fun h5 => ?_)
    · exfalso; omega
    · refine J_aload_n (pc := 8) dX4_read_8 rfl ?_
      refine J_getR (pc := 9) 6 fF_X4_25 rfl rfl dX4_read_9 ?_
      refine J_iload_n (pc := 12) dX4_read_12 rfl ?_
      refine J_aload_n (pc := 13) dX4_read_13 rfl ?_
      refine J_getR (pc := 14) 1 fF_X4_7 rfl rfl dX4_read_14 ?_
      refine J_iload_n (pc := 17) dX4_read_17 rfl ?_
      refine J_ialdW (pc := 18) i (by have q := hi; omega) rfl (by omega) dX4_read_18 ?_
      refine J_iastW (pc := 19) i (by have q := hi; omega) rfl (by omega) dX4_read_19 (fun μ19 m19 => ?_)
      refine J_iincW' (pc := 20) (i : Int) hi (lv' := fun iq_ => [some (.ref 0), some (.int iq_), none]) dX4_read_20 rfl (by omega) (by decide) (Nat.le_of_ble_eq_true rfl) rfl (fun _ => rfl) (fun z20 e20 => ?_)
      refine J_goto (pc := 23) 2 dX4_read_23 (by decide) ?_
      exact ih (i + 1) z20 μ19 (by omega) (by omega) (by rw [m19]; exact row_s hν (by rw [hν, jC_ne (by decide)])) hk2
set_option maxRecDepth 100000 in
set_option maxHeartbeats 4000000 in
theorem l_n_back {μ : JM} {nv : Int32} {Q : Option Value → JM → Prop} : ∀ d : Nat, ∀ (i : Nat) (iv : Int32) (ν : JM), i + d = 73 → iv.toInt = (i : Int) → ν = jC μ 1 (fun j => if j < i then μ.1 6 j else μ.1 1 j) → J G shM mX4_read 107 [some (.ref 0), some (.int nv), none] [] (jC μ 1 (fun j => if j < 73 then μ.1 6 j else μ.1 1 j)) Q → J G shM mX4_read 83 [some (.ref 0), some (.int nv), some (.int iv)] [] ν Q := by
  intro d
  induction d with
  | zero =>
    intro i iv ν hd hi hν hk2
    refine J_iload_n (pc := 83) dX4_read_83 rfl ?_
    refine J_bipush (pc := 84) (v := 73) dX4_read_84 (by decide) ?_
    refine J_icmp_geW (pc := 86) (i : Int) 73 hi rfl 107 dX4_read_86 (by decide) (fun h86 => ?_) (fun h86 => ?_)
    · obtain rfl : i = 73 := by omega
      rw [hν]
      exact J_lv' (lv' := [some (.ref 0), some (.int nv), none]) (by repeat' constructor) hk2
    · exfalso; omega
  | succ d ih =>
    intro i iv ν hd hi hν hk2
    refine J_iload_n (pc := 83) dX4_read_83 rfl ?_
    refine J_bipush (pc := 84) (v := 73) dX4_read_84 (by decide) ?_
    refine J_icmp_geW (pc := 86) (i : Int) 73 hi rfl 107 dX4_read_86 (by decide) (fun h86 => ?_) (fun h86 => ?_)
    · exfalso; omega
    · refine J_aload_n (pc := 89) dX4_read_89 rfl ?_
      refine J_getR (pc := 90) 1 fF_X4_7 rfl rfl dX4_read_90 ?_
      refine J_iload_n (pc := 93) dX4_read_93 rfl ?_
      refine J_aload_n (pc := 94) dX4_read_94 rfl ?_
      refine J_getR (pc := 95) 6 fF_X4_25 rfl rfl dX4_read_95 ?_
      refine J_iload_n (pc := 98) dX4_read_98 rfl ?_
      refine J_ialdW (pc := 99) i (by have q := hi; omega) rfl (by omega) dX4_read_99 ?_
      refine J_iastW (pc := 100) i (by have q := hi; omega) rfl (by omega) dX4_read_100 (fun μ100 m100 => ?_)
      refine J_iincW' (pc := 101) (i : Int) hi (lv' := fun iq_ => [some (.ref 0), some (.int nv), some (.int iq_)]) dX4_read_101 rfl (by omega) (by decide) (Nat.le_of_ble_eq_true rfl) rfl (fun _ => rfl) (fun z101 e101 => ?_)
      refine J_goto (pc := 104) 83 dX4_read_104 (by decide) ?_
      exact ih (i + 1) z101 μ100 (by omega) (by omega) (by rw [m100]; exact row_s hν (by rw [hν, jC_ne (by decide)])) hk2
set_option maxRecDepth 100000 in
set_option maxHeartbeats 4000000 in
theorem n_read {N : Int} {c m : JM} (h : Inv N c m) (hN : 150 ≤ N ∧ N < 100000)  : Con G shM mX4_read [.ref 0] m (fun v μ' => (∃ (q : Nat) (x : Int32), parM m = .inl q ∧ x.toInt = (q : Int) ∧ v = some (.int (-10 - x)) ∧ (∀ o, o ≠ 0 → o ≠ 1 → o ≠ 6 → μ'.1 o = m.1 o) ∧ μ'.1 0 9 = m.1 0 9 ∧ μ'.2 = m.2 ∧ ∀ j, j < 73 → μ'.1 1 j = m.1 1 j) ∨ (∃ (k : Nat) (f' : Nat → Int32), parM m = .inr (k, f') ∧ IsZ v (k : Int) ∧ eqM (jC m 1 f') μ')) := by
  obtain ⟨q0, q1, q2, q3, q4, q5, q6⟩ := Inv_q h
  obtain ⟨r0, r1, r2, r3, r4, r5, r6, r15, r40, r9⟩ := Inv_r h
  have hc := h.1
  have qt : (c.1 21 1).toInt = (m.1 0 9).toInt := by rw [h.2.2.2.2.1.1]
  have qs0 : (c.1 0 8).toInt = (m.1 4 0).toInt := by rw [h.2.2.2.2.2.2.1]
  have qs1 : (c.1 0 9).toInt = (m.1 4 1).toInt := by rw [h.2.2.2.2.2.2.2.1]
  have qs2 : (c.1 0 10).toInt = (m.1 4 2).toInt := by rw [h.2.2.2.2.2.2.2.2]
  refine Con_of [some (.ref 0), none, none] (by decide +kernel) (Nat.le_of_ble_eq_true rfl) (fun _ h => h) ?_
  refine J_iconst (pc := 0) (v := 0) dX4_read_0 (by decide) ?_
  refine J_istore_n (pc := 1) (lv' := [some (.ref 0), some (.int 0), none]) dX4_read_1 (Nat.le_of_ble_eq_true rfl) rfl rfl ?_
  refine l_n_hold 73 0 0 m (by omega) rfl (row_0 m 6 _).symm ?_
  refine J_aload_n (pc := 26) dX4_read_26 rfl ?_
  refine J_iconst (pc := 27) (v := 0) dX4_read_27 (by decide) ?_
  refine J_callVv (pc := 28) fC_X4_52 rfl dX4_read_28 (c_X4_fresh) rfl ⟨Nat.le_of_ble_eq_true rfl, Nat.le_of_ble_eq_true rfl⟩ rfl (Nat.le_of_ble_eq_true rfl) (fun μ28 m28 => ?_)
  refine J_aload_n (pc := 31) dX4_read_31 rfl ?_
  refine J_iconst (pc := 32) (v := 0) dX4_read_32 (by decide) ?_
  refine J_putIW (pc := 33) fF_X4_105 rfl rfl dX4_read_33 (fun μ33 m33 => ?_)
  refine J_aload_n (pc := 36) dX4_read_36 rfl ?_
  refine J_iconst (pc := 37) (v := (-1)) dX4_read_37 (by decide) ?_
  refine J_putIW (pc := 38) fF_X4_111 rfl rfl dX4_read_38 (fun μ38 m38 => ?_)
  refine J_iconst (pc := 41) (v := 0) dX4_read_41 (by decide) ?_
  refine J_istore_n (pc := 42) (lv' := [some (.ref 0), some (.int 0), none]) dX4_read_42 (Nat.le_of_ble_eq_true rfl) rfl rfl ?_
  have hfr : frR (jC m 6 (hldF m)) μ38 := by
    refine ⟨fun o h0 h1 => ?_, ?_, ?_⟩
    · rw [m38, jI_ne h0, m33, jI_ne h0, m28]; unfold freshM; rw [jC_ne h1]
    · rw [m38, jI_i, if_neg (by decide), m33, jI_i, if_neg (by decide), m28]; rfl
    · rw [m38, m33, m28]; rfl
  have hrow : μ38.1 1 = freR 0 (m.1 1) := by rw [m38, jI_ne (by decide), m33, jI_ne (by decide), m28]; unfold freshM; rw [jC_at]; rfl
  have hT : TM (tL m) (tT m) μ38 := by
    obtain ⟨-, -, -, -, ⟨t1, t2, t3⟩, -⟩ := h
    refine ⟨by rw [hfr.2.1]; show (m.1 0 9).toInt = _; unfold tL; omega, by unfold tL; omega, fun j hj => ?_⟩
    obtain ⟨e1, e2⟩ := t3 j (by unfold tL at hj; omega)
    rw [hfr.1 5 (by decide) (by decide)]; exact ⟨rfl, e2⟩
  have hc2 : constM μ38 := ⟨fun j hj => by rw [hfr.1 2 (by decide) (by decide)]; exact hc.1 j hj, fun j hj => by rw [hfr.1 3 (by decide) (by decide)]; exact hc.2 j hj⟩
  refine J_lv' (lv' := [some (.ref 0), some (.int 0), none]) (by repeat' constructor) (l_read (c := jC m 6 (hldF m)) 152 0 0 0 μ38 (freR 0 (m.1 1)) (by unfold tL; omega) (by omega) (by omega) rfl (by rw [m38, jI_i, if_neg (by decide), m33, jI_i, if_pos ⟨rfl, rfl⟩]; rfl) (by rw [m38, jI_i, if_pos ⟨rfl, rfl⟩]; rfl) hT hrow (wfF_fresh (by decide) (by decide)) hc2 (fun _ => ⟨_, rfl⟩) hfr (fun μ' nv' hres hR => ?_))
  rcases hres with ⟨q, e1, e2⟩ | ⟨k, f', e1, e2, e3, e4⟩
  · refine J_aload_n (pc := 72) dX4_read_72 rfl ?_
    refine J_getI (pc := 73) fF_X4_111 rfl rfl dX4_read_73 ?_
    refine J_if_geW (pc := 76) (q : Int) e2 81 dX4_read_76 (by decide) (fun h76 => ?_) (fun h76 => ?_)
    · refine J_iconst (pc := 81) (v := 0) dX4_read_81 (by decide) ?_
      refine J_istore_n (pc := 82) (lv' := [some (.ref 0), some (.int nv'), some (.int 0)]) dX4_read_82 (Nat.le_of_ble_eq_true rfl) rfl rfl ?_
      refine J_lv' (lv' := [some (.ref 0), some (.int nv'), some (.int 0)]) (by repeat' constructor) (l_n_back 73 0 0 μ' (by omega) rfl (row_0 μ' 1 _).symm ?_)
      generalize hμ9 : jC μ' 1 (fun j => if j < 73 then μ'.1 6 j else μ'.1 1 j) = μ9
      refine J_bipush (pc := 107) (v := (-10)) dX4_read_107 (by decide) ?_
      refine J_aload_n (pc := 109) dX4_read_109 rfl ?_
      refine J_getI (pc := 110) fF_X4_111 rfl rfl dX4_read_110 ?_
      refine J_isub (pc := 113) dX4_read_113 ?_
      refine J_iret (pc := 114) dX4_read_114 rfl ?_
      refine Or.inl ⟨q, _, e1, ?_, rfl, fun o h0 h1 h6 => ?_, ?_, ?_, fun j hj => ?_⟩
      · rw [← hμ9]; exact e2
      · rw [← hμ9, jC_ne h1, hR.1 o h0 h1, jC_ne h6]
      · rw [← hμ9]; exact hR.2.1
      · rw [← hμ9]; exact hR.2.2
      · rw [← hμ9, jC_at, if_pos hj, hR.1 6 (by decide) (by decide), jC_at]; exact if_pos hj
    · exfalso; omega
  · refine J_aload_n (pc := 72) dX4_read_72 rfl ?_
    refine J_getI (pc := 73) fF_X4_111 rfl rfl dX4_read_73 ?_
    refine J_if_geW (pc := 76) (-1) e2 81 dX4_read_76 (by decide) (fun h76 => ?_) (fun h76 => ?_)
    · exfalso; omega
    · refine J_iload_n (pc := 79) dX4_read_79 rfl ?_
      refine J_iret (pc := 80) dX4_read_80 rfl ?_
      refine Or.inr ⟨k, f', e1, ⟨_, rfl, e3⟩, fun o ho => ?_, hR.2.1, by rw [hR.2.2]; rfl⟩
      by_cases h1 : o = 1
      · subst h1; rw [jC_at]; exact e4
      · rw [jC_ne h1, hR.1 o (by omega) h1, jC_ne (by omega)]
theorem pr_read {G : JG × JG} {N : Int} {c m : JM} (h : Inv N c m) (hN : 150 ≤ N ∧ N < 100000) : Pair G N c m mX3_read mX4_read [] := by
  refine ⟨_, _, k_read h hN, n_read h hN, fun v c' w m' hC hM => ?_⟩
  rcases hC with ⟨q, a1, a2, a3⟩ | ⟨k, f', a1, a2, a3, a4, a5, a6, a7⟩
  · rcases hM with ⟨q', x, b1, b2, b3, b4, b5, b6, b7⟩ | ⟨k', f2, b1, b2, b3⟩
    · rw [a1] at b1
      cases b1
      obtain ⟨z, hz1, hz2⟩ := a2
      have hzr := z_rng z
      have e10 : (-10 : Int32).toInt = -10 := by decide
      have hxz : (-10 - x).toInt = -10 - (q : Int) := by rw [z_sub] <;> rw [e10, b2]; omega
      refine ⟨⟨by rw [hz1, b3, z_eq (hz2.trans hxz.symm)], _, hz1⟩, ?_⟩
      refine Inv_row (f := m'.1 1) (by omega) h (fun o ho => a3.1 o (by omega) (by omega)) a3.2.1 (by rw [a3.2.2]) ⟨fun o ho => ?_, b5, by rw [b6]; rfl⟩ (jrep_congr h.2.1 b7 (fun o h1 h2 k _ => by rw [a3.1 o (by omega) (by omega)]) h.2.2.1) (wfF_mono (by omega) (wfF_congr b7 h.2.1))
      by_cases h1 : o = 1
      · subst h1; rw [jC_at]
      · rw [jC_ne h1]; exact b4 o (by omega) h1 (by omega)
    · rw [a1] at b1; cases b1
  · rcases hM with ⟨q', x, b1, b2, b3, b4, b5, b6, b7⟩ | ⟨k', f2, b1, b2, b3⟩
    · rw [a1] at b1; cases b1
    · rw [a1] at b1
      cases b1
      exact ⟨IsZ_eq a2 b2, Inv_row (f := f') (by omega) h a5 a6 (by rw [a7]) b3 a3 (wfF_mono (by omega) a4)⟩

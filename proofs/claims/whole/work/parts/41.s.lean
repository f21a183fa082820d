/-! ===== digest ===== -/
def dgS (h : Int64) (x : Int32) : Int64 := 31 * h + x.toInt64
def dgR (f : Nat → Int32) : Nat → Nat → Int64 → Int64
  | 0, _, h => h
  | d + 1, i, h => dgR f d (i + 1) (dgS h (f i))
def dgM (f : Nat → Int32) : Nat → Nat → Int64 → Int64
  | 0, _, h => h
  | d + 1, i, h => dgM f d (i + 1) (if i = 5 then h else dgS h (f i))
theorem dgM_7 (f : Nat → Int32) (h : Int64) : dgM f 7 0 h = dgS (dgR f 5 0 h) (f 6) := by simp [dgM, dgR]
def DG (m : JM) : Int64 := 31 * (31 * dgR (fun j => m.1 1 (16 + j)) (4 * (m.1 1 15).toInt.toNat) 0 (dgR (fun j => m.1 1 (7 + j)) 8 0 (dgS (dgR (m.1 1) 5 0 (dgR (fun j => iZ (cntZ m j)) 4 0 1223)) (m.1 1 6))) + m.2 0 20) + m.2 0 21
variable {G : JG}
theorem k_count' {N : Int} {c m : JM} (h : Inv N c m) (hN : 150 ≤ N ∧ N < 100000) {a : Int32} (i : Nat) (ha : a.toInt = (i : Int)) (hi : i ≤ 3) : Con G shC mX3_count [.ref 0, .int a] c (j_z (cntZ m i) c) := Con_mono (k_count h hN) (fun v μ' hh => by
  rcases hh with ⟨h1, -, -⟩ | ⟨-, h2, h3⟩
  · omega
  · rw [ha] at h2; exact ⟨h2, h3⟩)
theorem k_now' {N : Int} {c m : JM} (h : Inv N c m) (hN : 150 ≤ N ∧ N < 100000) {a : Int32} (i : Nat) (ha : a.toInt = (i : Int)) (hi : i ≤ 6) : Con G shC mX3_now [.ref 0, .int a] c (j_z (m.1 1 i).toInt c) := Con_mono (k_now h hN) (fun v μ' hh => by
  rcases hh with ⟨h1, -, -⟩ | ⟨h1, h2, h3⟩ | ⟨h1, h2, h3⟩ | ⟨h1, h2, h3⟩ | ⟨h1, h2, h3⟩ | ⟨h1, h2, h3⟩ | ⟨h1, h2, h3⟩ | ⟨h1, h2, h3⟩
  · omega
  · obtain rfl : i = 0 := by omega
    exact ⟨h2, h3⟩
  · obtain rfl : i = 1 := by omega
    exact ⟨h2, h3⟩
  · obtain rfl : i = 2 := by omega
    exact ⟨h2, h3⟩
  · obtain rfl : i = 3 := by omega
    exact ⟨h2, h3⟩
  · obtain rfl : i = 4 := by omega
    exact ⟨h2, h3⟩
  · obtain rfl : i = 5 := by omega
    exact ⟨h2, h3⟩
  · obtain rfl : i = 6 := by omega
    exact ⟨h2, h3⟩)
set_option maxRecDepth 100000 in
set_option maxHeartbeats 4000000 in
theorem l_k_dg1 {N : Int} {c m : JM} (hI : Inv N c m) (hN : 150 ≤ N ∧ N < 100000) {Q : Option Value → JM → Prop} : ∀ d : Nat, ∀ (i : Nat) (iv : Int32) (h : Int64), i + d = 4 → iv.toInt = (i : Int) → J G shC mX3_digest 30 [some (.ref 0), some (.long (dgR (fun j => iZ (cntZ m j)) d i h)), none, none] [] c Q → J G shC mX3_digest 6 [some (.ref 0), some (.long h), none, some (.int iv)] [] c Q := by
  intro d
  induction d with
  | zero =>
    intro i iv h hd hi hk2
    refine J_iload_n (pc := 6) dX3_digest_6 rfl ?_
    refine J_iconst (pc := 7) (v := 3) dX3_digest_7 (by decide) ?_
    refine J_icmp_gtW (pc := 8) (i : Int) 3 hi rfl 30 dX3_digest_8 (by decide) (fun h8 => ?_) (fun h8 => ?_)
    · exact J_lv' (lv' := [some (.ref 0), some (.long h), none, none]) (by repeat' constructor) hk2
    · exfalso; omega
  | succ d ih =>
    intro i iv h hd hi hk2
    refine J_iload_n (pc := 6) dX3_digest_6 rfl ?_
    refine J_iconst (pc := 7) (v := 3) dX3_digest_7 (by decide) ?_
    refine J_icmp_gtW (pc := 8) (i : Int) 3 hi rfl 30 dX3_digest_8 (by decide) (fun h8 => ?_) (fun h8 => ?_)
    · exfalso; omega
    · refine J_ldc2 (pc := 11) fK_X3_227 dX3_digest_11 ?_
      refine J_lload_n (pc := 14) dX3_digest_14 rfl ?_
      refine J_lmul (pc := 15) dX3_digest_15 ?_
      refine J_aload_n (pc := 16) dX3_digest_16 rfl ?_
      refine J_iload_n (pc := 17) dX3_digest_17 rfl ?_
      refine J_callVz (pc := 18) fC_X3_229 rfl dX3_digest_18 (k_count' hI hN i hi (by omega)) rfl ⟨Nat.le_of_ble_eq_true rfl, Nat.le_of_ble_eq_true rfl⟩ rfl (Nat.le_of_ble_eq_true rfl) (fun z18 e18 => ?_)
      refine J_i2l (pc := 21) dX3_digest_21 rfl ?_
      refine J_ladd (pc := 22) dX3_digest_22 ?_
      refine J_lstore_n (pc := 23) (lv' := [some (.ref 0), some (.long ((31 * h) + z18.toInt64)), none, some (.int iv)]) dX3_digest_23 (Nat.le_of_ble_eq_true rfl) rfl rfl ?_
      refine J_iincW' (pc := 24) (i : Int) hi (lv' := fun iq_ => [some (.ref 0), some (.long ((31 * h) + z18.toInt64)), none, some (.int iq_)]) dX3_digest_24 rfl (by omega) (by decide) (Nat.le_of_ble_eq_true rfl) rfl (fun _ => rfl) (fun z24 e24 => ?_)
      refine J_goto (pc := 27) 6 dX3_digest_27 (by decide) ?_
      rw [dgR, ← (show z18 = iZ (cntZ m i) from iZ_of e18)] at hk2
      exact J_lv' (lv' := [some (.ref 0), some (.long ((31 * h) + z18.toInt64)), none, some (.int z24)]) (by repeat' constructor) (ih (i + 1) z24 _ (by omega) (by omega) hk2)
set_option maxRecDepth 100000 in
set_option maxHeartbeats 4000000 in
theorem l_k_dg2 {N : Int} {c m : JM} (hI : Inv N c m) (hN : 150 ≤ N ∧ N < 100000) {Q : Option Value → JM → Prop} : ∀ d : Nat, ∀ (i : Nat) (iv : Int32) (h : Int64), i + d = 5 → iv.toInt = (i : Int) → J G shC mX3_digest 56 [some (.ref 0), some (.long (dgR (m.1 1) d i h)), none, none] [] c Q → J G shC mX3_digest 32 [some (.ref 0), some (.long h), none, some (.int iv)] [] c Q := by
  intro d
  induction d with
  | zero =>
    intro i iv h hd hi hk2
    refine J_iload_n (pc := 32) dX3_digest_32 rfl ?_
    refine J_iconst (pc := 33) (v := 4) dX3_digest_33 (by decide) ?_
    refine J_icmp_gtW (pc := 34) (i : Int) 4 hi rfl 56 dX3_digest_34 (by decide) (fun h34 => ?_) (fun h34 => ?_)
    · exact J_lv' (lv' := [some (.ref 0), some (.long h), none, none]) (by repeat' constructor) hk2
    · exfalso; omega
  | succ d ih =>
    intro i iv h hd hi hk2
    refine J_iload_n (pc := 32) dX3_digest_32 rfl ?_
    refine J_iconst (pc := 33) (v := 4) dX3_digest_33 (by decide) ?_
    refine J_icmp_gtW (pc := 34) (i : Int) 4 hi rfl 56 dX3_digest_34 (by decide) (fun h34 => ?_) (fun h34 => ?_)
    · exfalso; omega
    · refine J_ldc2 (pc := 37) fK_X3_227 dX3_digest_37 ?_
      refine J_lload_n (pc := 40) dX3_digest_40 rfl ?_
      refine J_lmul (pc := 41) dX3_digest_41 ?_
      refine J_aload_n (pc := 42) dX3_digest_42 rfl ?_
      refine J_iload_n (pc := 43) dX3_digest_43 rfl ?_
      refine J_callVz (pc := 44) fC_X3_232 rfl dX3_digest_44 (k_now' hI hN i hi (by omega)) rfl ⟨Nat.le_of_ble_eq_true rfl, Nat.le_of_ble_eq_true rfl⟩ rfl (Nat.le_of_ble_eq_true rfl) (fun z44 e44 => ?_)
      refine J_i2l (pc := 47) dX3_digest_47 rfl ?_
      refine J_ladd (pc := 48) dX3_digest_48 ?_
      refine J_lstore_n (pc := 49) (lv' := [some (.ref 0), some (.long ((31 * h) + z44.toInt64)), none, some (.int iv)]) dX3_digest_49 (Nat.le_of_ble_eq_true rfl) rfl rfl ?_
      refine J_iincW' (pc := 50) (i : Int) hi (lv' := fun iq_ => [some (.ref 0), some (.long ((31 * h) + z44.toInt64)), none, some (.int iq_)]) dX3_digest_50 rfl (by omega) (by decide) (Nat.le_of_ble_eq_true rfl) rfl (fun _ => rfl) (fun z50 e50 => ?_)
      refine J_goto (pc := 53) 32 dX3_digest_53 (by decide) ?_
      rw [dgR, ← (show z44 = m.1 1 i from z_eq e44)] at hk2
      exact J_lv' (lv' := [some (.ref 0), some (.long ((31 * h) + z44.toInt64)), none, some (.int z50)]) (by repeat' constructor) (ih (i + 1) z50 _ (by omega) (by omega) hk2)
set_option maxRecDepth 100000 in
set_option maxHeartbeats 4000000 in
theorem l_k_dg3 {c : JM} {f : Nat → Int32} (hv : ∀ j : Nat, j < 8 → c.1 2 j = f j) {Q : Option Value → JM → Prop} : ∀ d : Nat, ∀ (i : Nat) (iv : Int32) (h : Int64), i + d = 8 → iv.toInt = (i : Int) → J G shC mX3_digest 103 [some (.ref 0), some (.long (dgR f d i h)), none, none] [] c Q → J G shC mX3_digest 72 [some (.ref 0), some (.long h), none, some (.int iv)] [] c Q := by
  intro d
  induction d with
  | zero =>
    intro i iv h hd hi hk2
    refine J_iload_n (pc := 72) dX3_digest_72 rfl ?_
    refine J_bipush (pc := 73) (v := 8) dX3_digest_73 (by decide) ?_
    refine J_icmp_geW (pc := 75) (i : Int) 8 hi rfl 103 dX3_digest_75 (by decide) (fun h75 => ?_) (fun h75 => ?_)
    · exact J_lv' (lv' := [some (.ref 0), some (.long h), none, none]) (by repeat' constructor) hk2
    · exfalso; omega
  | succ d ih =>
    intro i iv h hd hi hk2
    refine J_iload_n (pc := 72) dX3_digest_72 rfl ?_
    refine J_bipush (pc := 73) (v := 8) dX3_digest_73 (by decide) ?_
    refine J_icmp_geW (pc := 75) (i : Int) 8 hi rfl 103 dX3_digest_75 (by decide) (fun h75 => ?_) (fun h75 => ?_)
    · exfalso; omega
    · refine J_ldc2 (pc := 78) fK_X3_227 dX3_digest_78 ?_
      refine J_lload_n (pc := 81) dX3_digest_81 rfl ?_
      refine J_lmul (pc := 82) dX3_digest_82 ?_
      refine J_aload_n (pc := 83) dX3_digest_83 rfl ?_
      refine J_getR (pc := 84) 1 fF_X3_12 rfl rfl dX3_digest_84 ?_
      refine J_getR (pc := 87) 2 fF_X3_87 rfl rfl dX3_digest_87 ?_
      refine J_iload_n (pc := 90) dX3_digest_90 rfl ?_
      refine J_callSe (pc := 91) fC_X3_91 dX3_digest_91 (c_X3_at rfl i (by omega) (by omega) (by omega)) rfl ⟨Nat.le_of_ble_eq_true rfl, Nat.le_of_ble_eq_true rfl⟩ rfl (Nat.le_of_ble_eq_true rfl) ?_
      refine J_i2l (pc := 94) dX3_digest_94 rfl ?_
      refine J_ladd (pc := 95) dX3_digest_95 ?_
      refine J_lstore_n (pc := 96) (lv' := [some (.ref 0), some (.long ((31 * h) + ((c.1 2 i).toInt64))), none, some (.int iv)]) dX3_digest_96 (Nat.le_of_ble_eq_true rfl) rfl rfl ?_
      refine J_iincW' (pc := 97) (i : Int) hi (lv' := fun iq_ => [some (.ref 0), some (.long ((31 * h) + ((c.1 2 i).toInt64))), none, some (.int iq_)]) dX3_digest_97 rfl (by omega) (by decide) (Nat.le_of_ble_eq_true rfl) rfl (fun _ => rfl) (fun z97 e97 => ?_)
      refine J_goto (pc := 100) 72 dX3_digest_100 (by decide) ?_
      rw [dgR, ← hv i (by omega)] at hk2
      exact J_lv' (lv' := [some (.ref 0), some (.long ((31 * h) + ((c.1 2 i).toInt64))), none, some (.int z97)]) (by repeat' constructor) (ih (i + 1) z97 _ (by omega) (by omega) hk2)
set_option maxRecDepth 100000 in
set_option maxHeartbeats 4000000 in
theorem l_k_dg4 {c : JM} {f : Nat → Int32} {n : Nat} (h5 : (c.1 1 5).toInt = (n : Int)) (hn6 : n ≤ 6) (hv : ∀ j : Nat, j < 4 * n → c.1 3 j = f j) {Q : Option Value → JM → Prop} : ∀ d : Nat, ∀ (i : Nat) (iv : Int32) (h : Int64), i + d = 4 * n → iv.toInt = (i : Int) → J G shC mX3_digest 143 [some (.ref 0), some (.long (dgR f d i h)), none, none] [] c Q → J G shC mX3_digest 105 [some (.ref 0), some (.long h), none, some (.int iv)] [] c Q := by
  intro d
  induction d with
  | zero =>
    intro i iv h hd hi hk2
    refine J_iload_n (pc := 105) dX3_digest_105 rfl ?_
    refine J_aload_n (pc := 106) dX3_digest_106 rfl ?_
    refine J_getR (pc := 107) 1 fF_X3_12 rfl rfl dX3_digest_107 ?_
    refine J_getI (pc := 110) fF_X3_178 rfl rfl dX3_digest_110 ?_
    refine J_iconst (pc := 113) (v := 4) dX3_digest_113 (by decide) ?_
    refine J_imulW (pc := 114) (n : Int) 4 h5 rfl dX3_digest_114 (by omega) (fun z114 e114 => ?_)
    refine J_icmp_geW (pc := 115) (i : Int) ((n : Int) * 4) hi e114 143 dX3_digest_115 (by decide) (fun h115 => ?_) (fun h115 => ?_)
    · exact J_lv' (lv' := [some (.ref 0), some (.long h), none, none]) (by repeat' constructor) hk2
    · exfalso; omega
  | succ d ih =>
    intro i iv h hd hi hk2
    refine J_iload_n (pc := 105) dX3_digest_105 rfl ?_
    refine J_aload_n (pc := 106) dX3_digest_106 rfl ?_
    refine J_getR (pc := 107) 1 fF_X3_12 rfl rfl dX3_digest_107 ?_
    refine J_getI (pc := 110) fF_X3_178 rfl rfl dX3_digest_110 ?_
    refine J_iconst (pc := 113) (v := 4) dX3_digest_113 (by decide) ?_
    refine J_imulW (pc := 114) (n : Int) 4 h5 rfl dX3_digest_114 (by omega) (fun z114 e114 => ?_)
    refine J_icmp_geW (pc := 115) (i : Int) ((n : Int) * 4) hi e114 143 dX3_digest_115 (by decide) (fun h115 => ?_) (fun h115 => ?_)
    · exfalso; omega
    · refine J_ldc2 (pc := 118) fK_X3_227 dX3_digest_118 ?_
      refine J_lload_n (pc := 121) dX3_digest_121 rfl ?_
      refine J_lmul (pc := 122) dX3_digest_122 ?_
      refine J_aload_n (pc := 123) dX3_digest_123 rfl ?_
      refine J_getR (pc := 124) 1 fF_X3_12 rfl rfl dX3_digest_124 ?_
      refine J_getR (pc := 127) 3 fF_X3_235 rfl rfl dX3_digest_127 ?_
      refine J_iload_n (pc := 130) dX3_digest_130 rfl ?_
      refine J_callSe (pc := 131) fC_X3_91 dX3_digest_131 (c_X3_at rfl i (by omega) (by omega) (by omega)) rfl ⟨Nat.le_of_ble_eq_true rfl, Nat.le_of_ble_eq_true rfl⟩ rfl (Nat.le_of_ble_eq_true rfl) ?_
      refine J_i2l (pc := 134) dX3_digest_134 rfl ?_
      refine J_ladd (pc := 135) dX3_digest_135 ?_
      refine J_lstore_n (pc := 136) (lv' := [some (.ref 0), some (.long ((31 * h) + ((c.1 3 i).toInt64))), none, some (.int iv)]) dX3_digest_136 (Nat.le_of_ble_eq_true rfl) rfl rfl ?_
      refine J_iincW' (pc := 137) (i : Int) hi (lv' := fun iq_ => [some (.ref 0), some (.long ((31 * h) + ((c.1 3 i).toInt64))), none, some (.int iq_)]) dX3_digest_137 rfl (by omega) (by decide) (Nat.le_of_ble_eq_true rfl) rfl (fun _ => rfl) (fun z137 e137 => ?_)
      refine J_goto (pc := 140) 105 dX3_digest_140 (by decide) ?_
      rw [dgR, ← hv i (by omega)] at hk2
      exact J_lv' (lv' := [some (.ref 0), some (.long ((31 * h) + ((c.1 3 i).toInt64))), none, some (.int z137)]) (by repeat' constructor) (ih (i + 1) z137 _ (by omega) (by omega) hk2)
set_option maxRecDepth 100000 in
set_option maxHeartbeats 4000000 in
theorem l_n_dg1 {m : JM} {Q : Option Value → JM → Prop} : ∀ d : Nat, ∀ (i : Nat) (iv : Int32) (h : Int64), i + d = 4 → iv.toInt = (i : Int) → J G shM mX4_digest 30 [some (.ref 0), some (.long (dgR (fun j => iZ (cntZ m j)) d i h)), none, none] [] m Q → J G shM mX4_digest 6 [some (.ref 0), some (.long h), none, some (.int iv)] [] m Q := by
  intro d
  induction d with
  | zero =>
    intro i iv h hd hi hk2
    refine J_iload_n (pc := 6) dX4_digest_6 rfl ?_
    refine J_iconst (pc := 7) (v := 4) dX4_digest_7 (by decide) ?_
    refine J_icmp_geW (pc := 8) (i : Int) 4 hi rfl 30 dX4_digest_8 (by decide) (fun h8 => ?_) (fun h8 => ?_)
    · exact J_lv' (lv' := [some (.ref 0), some (.long h), none, none]) (by repeat' constructor) hk2
    · exfalso; omega
  | succ d ih =>
    intro i iv h hd hi hk2
    refine J_iload_n (pc := 6) dX4_digest_6 rfl ?_
    refine J_iconst (pc := 7) (v := 4) dX4_digest_7 (by decide) ?_
    refine J_icmp_geW (pc := 8) (i : Int) 4 hi rfl 30 dX4_digest_8 (by decide) (fun h8 => ?_) (fun h8 => ?_)
    · exfalso; omega
    · refine J_ldc2 (pc := 11) fK_X4_255 dX4_digest_11 ?_
      refine J_lload_n (pc := 14) dX4_digest_14 rfl ?_
      refine J_lmul (pc := 15) dX4_digest_15 ?_
      refine J_aload_n (pc := 16) dX4_digest_16 rfl ?_
      refine J_iload_n (pc := 17) dX4_digest_17 rfl ?_
      refine J_callVz (pc := 18) fC_X4_250 rfl dX4_digest_18 (c_X4_countOf i hi) rfl ⟨Nat.le_of_ble_eq_true rfl, Nat.le_of_ble_eq_true rfl⟩ rfl (Nat.le_of_ble_eq_true rfl) (fun z18 e18 => ?_)
      refine J_i2l (pc := 21) dX4_digest_21 rfl ?_
      refine J_ladd (pc := 22) dX4_digest_22 ?_
      refine J_lstore_n (pc := 23) (lv' := [some (.ref 0), some (.long ((31 * h) + z18.toInt64)), none, some (.int iv)]) dX4_digest_23 (Nat.le_of_ble_eq_true rfl) rfl rfl ?_
      refine J_iincW' (pc := 24) (i : Int) hi (lv' := fun iq_ => [some (.ref 0), some (.long ((31 * h) + z18.toInt64)), none, some (.int iq_)]) dX4_digest_24 rfl (by omega) (by decide) (Nat.le_of_ble_eq_true rfl) rfl (fun _ => rfl) (fun z24 e24 => ?_)
      refine J_goto (pc := 27) 6 dX4_digest_27 (by decide) ?_
      rw [dgR, ← (show z18 = iZ (cntZ m i) from iZ_of e18)] at hk2
      exact J_lv' (lv' := [some (.ref 0), some (.long ((31 * h) + z18.toInt64)), none, some (.int z24)]) (by repeat' constructor) (ih (i + 1) z24 _ (by omega) (by omega) hk2)
set_option maxRecDepth 100000 in
set_option maxHeartbeats 4000000 in
theorem l_n_dg2 {m : JM} {Q : Option Value → JM → Prop} : ∀ d : Nat, ∀ (i : Nat) (iv : Int32) (h : Int64), i + d = 7 → iv.toInt = (i : Int) → J G shM mX4_digest 67 [some (.ref 0), some (.long (dgM (m.1 1) d i h)), none, none] [] m Q → J G shM mX4_digest 32 [some (.ref 0), some (.long h), none, some (.int iv)] [] m Q := by
  intro d
  induction d with
  | zero =>
    intro i iv h hd hi hk2
    refine J_iload_n (pc := 32) dX4_digest_32 rfl ?_
    refine J_bipush (pc := 33) (v := 7) dX4_digest_33 (by decide) ?_
    refine J_icmp_geW (pc := 35) (i : Int) 7 hi rfl 67 dX4_digest_35 (by decide) (fun h35 => ?_) (fun h35 => ?_)
    · exact J_lv' (lv' := [some (.ref 0), some (.long h), none, none]) (by repeat' constructor) hk2
    · exfalso; omega
  | succ d ih =>
    intro i iv h hd hi hk2
    refine J_iload_n (pc := 32) dX4_digest_32 rfl ?_
    refine J_bipush (pc := 33) (v := 7) dX4_digest_33 (by decide) ?_
    refine J_icmp_geW (pc := 35) (i : Int) 7 hi rfl 67 dX4_digest_35 (by decide) (fun h35 => ?_) (fun h35 => ?_)
    · exfalso; omega
    · refine J_iload_n (pc := 38) dX4_digest_38 rfl ?_
      refine J_iconst (pc := 39) (v := 5) dX4_digest_39 (by decide) ?_
      refine J_icmp_neW (pc := 40) (i : Int) 5 hi rfl 47 dX4_digest_40 (by decide) (fun h40 => ?_) (fun h40 => ?_)
      · refine J_ldc2 (pc := 47) fK_X4_255 dX4_digest_47 ?_
        refine J_lload_n (pc := 50) dX4_digest_50 rfl ?_
        refine J_lmul (pc := 51) dX4_digest_51 ?_
        refine J_aload_n (pc := 52) dX4_digest_52 rfl ?_
        refine J_getR (pc := 53) 1 fF_X4_7 rfl rfl dX4_digest_53 ?_
        refine J_iload_n (pc := 56) dX4_digest_56 rfl ?_
        refine J_ialdW (pc := 57) i (hi) rfl (by omega) dX4_digest_57 ?_
        refine J_i2l (pc := 58) dX4_digest_58 rfl ?_
        refine J_ladd (pc := 59) dX4_digest_59 ?_
        refine J_lstore_n (pc := 60) (lv' := [some (.ref 0), some (.long ((31 * h) + ((m.1 1 i).toInt64))), none, some (.int iv)]) dX4_digest_60 (Nat.le_of_ble_eq_true rfl) rfl rfl ?_
        refine J_iincW' (pc := 61) (i : Int) hi (lv' := fun iq_ => [some (.ref 0), some (.long ((31 * h) + ((m.1 1 i).toInt64))), none, some (.int iq_)]) dX4_digest_61 rfl (by omega) (by decide) (Nat.le_of_ble_eq_true rfl) rfl (fun _ => rfl) (fun z61 e61 => ?_)
        refine J_goto (pc := 64) 32 dX4_digest_64 (by decide) ?_
        rw [dgM, if_neg (by omega)] at hk2
        exact J_lv' (lv' := [some (.ref 0), some (.long ((31 * h) + ((m.1 1 i).toInt64))), none, some (.int z61)]) (by repeat' constructor) (ih (i + 1) z61 _ (by omega) (by omega) hk2)
      · refine J_lload_n (pc := 43) dX4_digest_43 rfl ?_
        refine J_goto (pc := 44) 60 dX4_digest_44 (by decide) ?_
        refine J_lstore_n (pc := 60) (lv' := [some (.ref 0), some (.long h), none, some (.int iv)]) dX4_digest_60 (Nat.le_of_ble_eq_true rfl) rfl rfl ?_
        refine J_iincW' (pc := 61) (i : Int) hi (lv' := fun iq_ => [some (.ref 0), some (.long h), none, some (.int iq_)]) dX4_digest_61 rfl (by omega) (by decide) (Nat.le_of_ble_eq_true rfl) rfl (fun _ => rfl) (fun z61 e61 => ?_)
        refine J_goto (pc := 64) 32 dX4_digest_64 (by decide) ?_
        rw [dgM, if_pos (by omega)] at hk2
        exact J_lv' (lv' := [some (.ref 0), some (.long h), none, some (.int z61)]) (by repeat' constructor) (ih (i + 1) z61 _ (by omega) (by omega) hk2)
set_option maxRecDepth 100000 in
set_option maxHeartbeats 4000000 in
theorem l_n_dg3 {m : JM} {Q : Option Value → JM → Prop} : ∀ d : Nat, ∀ (i : Nat) (iv : Int32) (h : Int64), i + d = 8 → iv.toInt = (i : Int) → J G shM mX4_digest 98 [some (.ref 0), some (.long (dgR (fun j => m.1 1 (7 + j)) d i h)), none, none] [] m Q → J G shM mX4_digest 69 [some (.ref 0), some (.long h), none, some (.int iv)] [] m Q := by
  intro d
  induction d with
  | zero =>
    intro i iv h hd hi hk2
    refine J_iload_n (pc := 69) dX4_digest_69 rfl ?_
    refine J_bipush (pc := 70) (v := 8) dX4_digest_70 (by decide) ?_
    refine J_icmp_geW (pc := 72) (i : Int) 8 hi rfl 98 dX4_digest_72 (by decide) (fun h72 => ?_) (fun h72 => ?_)
    · exact J_lv' (lv' := [some (.ref 0), some (.long h), none, none]) (by repeat' constructor) hk2
    · exfalso; omega
  | succ d ih =>
    intro i iv h hd hi hk2
    refine J_iload_n (pc := 69) dX4_digest_69 rfl ?_
    refine J_bipush (pc := 70) (v := 8) dX4_digest_70 (by decide) ?_
    refine J_icmp_geW (pc := 72) (i : Int) 8 hi rfl 98 dX4_digest_72 (by decide) (fun h72 => ?_) (fun h72 => ?_)
    · exfalso; omega
    · refine J_ldc2 (pc := 75) fK_X4_255 dX4_digest_75 ?_
      refine J_lload_n (pc := 78) dX4_digest_78 rfl ?_
      refine J_lmul (pc := 79) dX4_digest_79 ?_
      refine J_aload_n (pc := 80) dX4_digest_80 rfl ?_
      refine J_getR (pc := 81) 1 fF_X4_7 rfl rfl dX4_digest_81 ?_
      refine J_bipush (pc := 84) (v := 7) dX4_digest_84 (by decide) ?_
      refine J_iload_n (pc := 86) dX4_digest_86 rfl ?_
      refine J_iaddW (pc := 87) 7 (i : Int) rfl hi dX4_digest_87 (by omega) (fun z87 e87 => ?_)
      refine J_ialdW (pc := 88) (7 + i) (by omega) rfl (by omega) dX4_digest_88 ?_
      refine J_i2l (pc := 89) dX4_digest_89 rfl ?_
      refine J_ladd (pc := 90) dX4_digest_90 ?_
      refine J_lstore_n (pc := 91) (lv' := [some (.ref 0), some (.long ((31 * h) + ((m.1 1 (7 + i)).toInt64))), none, some (.int iv)]) dX4_digest_91 (Nat.le_of_ble_eq_true rfl) rfl rfl ?_
      refine J_iincW' (pc := 92) (i : Int) hi (lv' := fun iq_ => [some (.ref 0), some (.long ((31 * h) + ((m.1 1 (7 + i)).toInt64))), none, some (.int iq_)]) dX4_digest_92 rfl (by omega) (by decide) (Nat.le_of_ble_eq_true rfl) rfl (fun _ => rfl) (fun z92 e92 => ?_)
      refine J_goto (pc := 95) 69 dX4_digest_95 (by decide) ?_
      rw [dgR] at hk2
      exact J_lv' (lv' := [some (.ref 0), some (.long ((31 * h) + ((m.1 1 (7 + i)).toInt64))), none, some (.int z92)]) (by repeat' constructor) (ih (i + 1) z92 _ (by omega) (by omega) hk2)
set_option maxRecDepth 100000 in
set_option maxHeartbeats 4000000 in
theorem l_n_dg4 {m : JM} {n : Nat} (h5 : (m.1 1 15).toInt = (n : Int)) (hn6 : n ≤ 6) {Q : Option Value → JM → Prop} : ∀ d : Nat, ∀ (i : Nat) (iv : Int32) (h : Int64), i + d = 4 * n → iv.toInt = (i : Int) → J G shM mX4_digest 136 [some (.ref 0), some (.long (dgR (fun j => m.1 1 (16 + j)) d i h)), none, none] [] m Q → J G shM mX4_digest 100 [some (.ref 0), some (.long h), none, some (.int iv)] [] m Q := by
  intro d
  induction d with
  | zero =>
    intro i iv h hd hi hk2
    refine J_iload_n (pc := 100) dX4_digest_100 rfl ?_
    refine J_iconst (pc := 101) (v := 4) dX4_digest_101 (by decide) ?_
    refine J_aload_n (pc := 102) dX4_digest_102 rfl ?_
    refine J_getR (pc := 103) 1 fF_X4_7 rfl rfl dX4_digest_103 ?_
    refine J_bipush (pc := 106) (v := 15) dX4_digest_106 (by decide) ?_
    refine J_ialdW (pc := 108) 15 (rfl) rfl (by decide) dX4_digest_108 ?_
    refine J_imulW (pc := 109) 4 (n : Int) rfl h5 dX4_digest_109 (by omega) (fun z109 e109 => ?_)
    refine J_icmp_geW (pc := 110) (i : Int) (4 * (n : Int)) hi e109 136 dX4_digest_110 (by decide) (fun h110 => ?_) (fun h110 => ?_)
    · exact J_lv' (lv' := [some (.ref 0), some (.long h), none, none]) (by repeat' constructor) hk2
    · exfalso; omega
  | succ d ih =>
    intro i iv h hd hi hk2
    refine J_iload_n (pc := 100) dX4_digest_100 rfl ?_
    refine J_iconst (pc := 101) (v := 4) dX4_digest_101 (by decide) ?_
    refine J_aload_n (pc := 102) dX4_digest_102 rfl ?_
    refine J_getR (pc := 103) 1 fF_X4_7 rfl rfl dX4_digest_103 ?_
    refine J_bipush (pc := 106) (v := 15) dX4_digest_106 (by decide) ?_
    refine J_ialdW (pc := 108) 15 (rfl) rfl (by decide) dX4_digest_108 ?_
    refine J_imulW (pc := 109) 4 (n : Int) rfl h5 dX4_digest_109 (by omega) (fun z109 e109 => ?_)
    refine J_icmp_geW (pc := 110) (i : Int) (4 * (n : Int)) hi e109 136 dX4_digest_110 (by decide) (fun h110 => ?_) (fun h110 => ?_)
    · exfalso; omega
    · refine J_ldc2 (pc := 113) fK_X4_255 dX4_digest_113 ?_
      refine J_lload_n (pc := 116) dX4_digest_116 rfl ?_
      refine J_lmul (pc := 117) dX4_digest_117 ?_
      refine J_aload_n (pc := 118) dX4_digest_118 rfl ?_
      refine J_getR (pc := 119) 1 fF_X4_7 rfl rfl dX4_digest_119 ?_
      refine J_bipush (pc := 122) (v := 16) dX4_digest_122 (by decide) ?_
      refine J_iload_n (pc := 124) dX4_digest_124 rfl ?_
      refine J_iaddW (pc := 125) 16 (i : Int) rfl hi dX4_digest_125 (by omega) (fun z125 e125 => ?_)
      refine J_ialdW (pc := 126) (16 + i) (by omega) rfl (by omega) dX4_digest_126 ?_
      refine J_i2l (pc := 127) dX4_digest_127 rfl ?_
      refine J_ladd (pc := 128) dX4_digest_128 ?_
      refine J_lstore_n (pc := 129) (lv' := [some (.ref 0), some (.long ((31 * h) + ((m.1 1 (16 + i)).toInt64))), none, some (.int iv)]) dX4_digest_129 (Nat.le_of_ble_eq_true rfl) rfl rfl ?_
      refine J_iincW' (pc := 130) (i : Int) hi (lv' := fun iq_ => [some (.ref 0), some (.long ((31 * h) + ((m.1 1 (16 + i)).toInt64))), none, some (.int iq_)]) dX4_digest_130 rfl (by omega) (by decide) (Nat.le_of_ble_eq_true rfl) rfl (fun _ => rfl) (fun z130 e130 => ?_)
      refine J_goto (pc := 133) 100 dX4_digest_133 (by decide) ?_
      rw [dgR] at hk2
      exact J_lv' (lv' := [some (.ref 0), some (.long ((31 * h) + ((m.1 1 (16 + i)).toInt64))), none, some (.int z130)]) (by repeat' constructor) (ih (i + 1) z130 _ (by omega) (by omega) hk2)
set_option maxRecDepth 100000 in
set_option maxHeartbeats 4000000 in
theorem k_digest {N : Int} {c m : JM} (h : Inv N c m) (hN : 150 ≤ N ∧ N < 100000)  : Con G shC mX3_digest [.ref 0] c (fun v μ' => v = some (.long (DG m)) ∧ μ' = c) := by
  obtain ⟨q0, q1, q2, q3, q4, q5, q6⟩ := Inv_q h
  obtain ⟨r0, r1, r2, r3, r4, r5, r6, r15, r40, r9⟩ := Inv_r h
  have hc := h.1
  have qt : (c.1 21 1).toInt = (m.1 0 9).toInt := by rw [h.2.2.2.2.1.1]
  have qs0 : (c.1 0 8).toInt = (m.1 4 0).toInt := by rw [h.2.2.2.2.2.2.1]
  have qs1 : (c.1 0 9).toInt = (m.1 4 1).toInt := by rw [h.2.2.2.2.2.2.2.1]
  have qs2 : (c.1 0 10).toInt = (m.1 4 2).toInt := by rw [h.2.2.2.2.2.2.2.2]
  have hvw : ∀ j : Nat, j < 8 → c.1 2 j = m.1 1 (7 + j) := h.2.2.1.2.2.2.2.2.2.2.1
  have hnt : ∀ j : Nat, j < 4 * (m.1 1 15).toInt.toNat → c.1 3 j = m.1 1 (16 + j) := fun j hj => h.2.2.1.2.2.2.2.2.2.2.2.1 j (by omega)
  have hf6 := h.2.2.2.2.2.1.1
  have hf7 := h.2.2.2.2.2.1.2
  refine Con_of [some (.ref 0), none, none, none] (by decide +kernel) (Nat.le_of_ble_eq_true rfl) (fun _ h => h) ?_
  refine J_ldc2 (pc := 0) fK_X3_225 dX3_digest_0 ?_
  refine J_lstore_n (pc := 3) (lv' := [some (.ref 0), some (.long 1223), none, none]) dX3_digest_3 (Nat.le_of_ble_eq_true rfl) rfl rfl ?_
  refine J_iconst (pc := 4) (v := 0) dX3_digest_4 (by decide) ?_
  refine J_istore_n (pc := 5) (lv' := [some (.ref 0), some (.long 1223), none, some (.int 0)]) dX3_digest_5 (Nat.le_of_ble_eq_true rfl) rfl rfl ?_
  refine J_lv' (lv' := [some (.ref 0), some (.long 1223), none, some (.int 0)]) (by repeat' constructor) (l_k_dg1 h hN 4 0 0 _ (by omega) rfl ?_)
  refine J_iconst (pc := 30) (v := 0) dX3_digest_30 (by decide) ?_
  refine J_istore_n (pc := 31) (lv' := [some (.ref 0), some (.long (dgR (fun j => iZ (cntZ m j)) 4 0 1223)), none, some (.int 0)]) dX3_digest_31 (Nat.le_of_ble_eq_true rfl) rfl rfl ?_
  refine J_lv' (lv' := [some (.ref 0), some (.long (dgR (fun j => iZ (cntZ m j)) 4 0 1223)), none, some (.int 0)]) (by repeat' constructor) (l_k_dg2 h hN 5 0 0 _ (by omega) rfl ?_)
  refine J_ldc2 (pc := 56) fK_X3_227 dX3_digest_56 ?_
  refine J_lload_n (pc := 59) dX3_digest_59 rfl ?_
  refine J_lmul (pc := 60) dX3_digest_60 ?_
  refine J_aload_n (pc := 61) dX3_digest_61 rfl ?_
  refine J_bipush (pc := 62) (v := 6) dX3_digest_62 (by decide) ?_
  refine J_callVz (pc := 64) fC_X3_232 rfl dX3_digest_64 (k_now' h hN 6 rfl (by omega)) rfl ⟨Nat.le_of_ble_eq_true rfl, Nat.le_of_ble_eq_true rfl⟩ rfl (Nat.le_of_ble_eq_true rfl) (fun z64 e64 => ?_)
  refine J_i2l (pc := 67) dX3_digest_67 rfl ?_
  refine J_ladd (pc := 68) dX3_digest_68 ?_
  refine J_lstore_n (pc := 69) (lv' := [some (.ref 0), some (.long ((31 * (dgR (m.1 1) 5 0 (dgR (fun j => iZ (cntZ m j)) 4 0 1223))) + z64.toInt64)), none, none]) dX3_digest_69 (Nat.le_of_ble_eq_true rfl) rfl rfl ?_
  refine J_iconst (pc := 70) (v := 0) dX3_digest_70 (by decide) ?_
  refine J_istore_n (pc := 71) (lv' := [some (.ref 0), some (.long ((31 * (dgR (m.1 1) 5 0 (dgR (fun j => iZ (cntZ m j)) 4 0 1223))) + z64.toInt64)), none, some (.int 0)]) dX3_digest_71 (Nat.le_of_ble_eq_true rfl) rfl rfl ?_
  refine J_lv' (lv' := [some (.ref 0), some (.long ((31 * (dgR (m.1 1) 5 0 (dgR (fun j => iZ (cntZ m j)) 4 0 1223))) + z64.toInt64)), none, some (.int 0)]) (by repeat' constructor) (l_k_dg3 (f := fun j => m.1 1 (7 + j)) hvw 8 0 0 _ (by omega) rfl ?_)
  refine J_iconst (pc := 103) (v := 0) dX3_digest_103 (by decide) ?_
  refine J_istore_n (pc := 104) (lv' := [some (.ref 0), some (.long (dgR (fun j => m.1 1 (7 + j)) 8 0 ((31 * (dgR (m.1 1) 5 0 (dgR (fun j => iZ (cntZ m j)) 4 0 1223))) + z64.toInt64))), none, some (.int 0)]) dX3_digest_104 (Nat.le_of_ble_eq_true rfl) rfl rfl ?_
  refine J_lv' (lv' := [some (.ref 0), some (.long (dgR (fun j => m.1 1 (7 + j)) 8 0 ((31 * (dgR (m.1 1) 5 0 (dgR (fun j => iZ (cntZ m j)) 4 0 1223))) + z64.toInt64))), none, some (.int 0)]) (by repeat' constructor) (l_k_dg4 (f := fun j => m.1 1 (16 + j)) (n := (m.1 1 15).toInt.toNat) (by omega) (by omega) hnt (4 * (m.1 1 15).toInt.toNat) 0 0 _ (by omega) rfl ?_)
  refine J_ldc2 (pc := 143) fK_X3_227 dX3_digest_143 ?_
  refine J_lload_n (pc := 146) dX3_digest_146 rfl ?_
  refine J_lmul (pc := 147) dX3_digest_147 ?_
  refine J_aload_n (pc := 148) dX3_digest_148 rfl ?_
  refine J_getL (pc := 149) fF_X3_39 rfl rfl dX3_digest_149 ?_
  refine J_ladd (pc := 152) dX3_digest_152 ?_
  refine J_lstore_n (pc := 153) (lv' := [some (.ref 0), some (.long ((31 * (dgR (fun j => m.1 1 (16 + j)) (4 * (m.1 1 15).toInt.toNat) 0 (dgR (fun j => m.1 1 (7 + j)) 8 0 ((31 * (dgR (m.1 1) 5 0 (dgR (fun j => iZ (cntZ m j)) 4 0 1223))) + z64.toInt64)))) + (c.2 0 6))), none, none]) dX3_digest_153 (Nat.le_of_ble_eq_true rfl) rfl rfl ?_
  refine J_ldc2 (pc := 154) fK_X3_227 dX3_digest_154 ?_
  refine J_lload_n (pc := 157) dX3_digest_157 rfl ?_
  refine J_lmul (pc := 158) dX3_digest_158 ?_
  refine J_aload_n (pc := 159) dX3_digest_159 rfl ?_
  refine J_getL (pc := 160) fF_X3_43 rfl rfl dX3_digest_160 ?_
  refine J_ladd (pc := 163) dX3_digest_163 ?_
  refine J_lret (pc := 164) dX3_digest_164 rfl ?_
  refine ⟨?_, rfl⟩
  rw [z_eq e64, hf6, hf7]
  rfl
set_option maxRecDepth 100000 in
set_option maxHeartbeats 4000000 in
theorem n_digest {N : Int} {c m : JM} (h : Inv N c m) (hN : 150 ≤ N ∧ N < 100000)  : Con G shM mX4_digest [.ref 0] m (fun v μ' => v = some (.long (DG m)) ∧ μ' = m) := by
  obtain ⟨q0, q1, q2, q3, q4, q5, q6⟩ := Inv_q h
  obtain ⟨r0, r1, r2, r3, r4, r5, r6, r15, r40, r9⟩ := Inv_r h
  have hc := h.1
  have qt : (c.1 21 1).toInt = (m.1 0 9).toInt := by rw [h.2.2.2.2.1.1]
  have qs0 : (c.1 0 8).toInt = (m.1 4 0).toInt := by rw [h.2.2.2.2.2.2.1]
  have qs1 : (c.1 0 9).toInt = (m.1 4 1).toInt := by rw [h.2.2.2.2.2.2.2.1]
  have qs2 : (c.1 0 10).toInt = (m.1 4 2).toInt := by rw [h.2.2.2.2.2.2.2.2]
  refine Con_of [some (.ref 0), none, none, none] (by decide +kernel) (Nat.le_of_ble_eq_true rfl) (fun _ h => h) ?_
  refine J_ldc2 (pc := 0) fK_X4_253 dX4_digest_0 ?_
  refine J_lstore_n (pc := 3) (lv' := [some (.ref 0), some (.long 1223), none, none]) dX4_digest_3 (Nat.le_of_ble_eq_true rfl) rfl rfl ?_
  refine J_iconst (pc := 4) (v := 0) dX4_digest_4 (by decide) ?_
  refine J_istore_n (pc := 5) (lv' := [some (.ref 0), some (.long 1223), none, some (.int 0)]) dX4_digest_5 (Nat.le_of_ble_eq_true rfl) rfl rfl ?_
  refine J_lv' (lv' := [some (.ref 0), some (.long 1223), none, some (.int 0)]) (by repeat' constructor) (l_n_dg1 4 0 0 _ (by omega) rfl ?_)
  refine J_iconst (pc := 30) (v := 0) dX4_digest_30 (by decide) ?_
  refine J_istore_n (pc := 31) (lv' := [some (.ref 0), some (.long (dgR (fun j => iZ (cntZ m j)) 4 0 1223)), none, some (.int 0)]) dX4_digest_31 (Nat.le_of_ble_eq_true rfl) rfl rfl ?_
  refine J_lv' (lv' := [some (.ref 0), some (.long (dgR (fun j => iZ (cntZ m j)) 4 0 1223)), none, some (.int 0)]) (by repeat' constructor) (l_n_dg2 7 0 0 _ (by omega) rfl ?_)
  refine J_iconst (pc := 67) (v := 0) dX4_digest_67 (by decide) ?_
  refine J_istore_n (pc := 68) (lv' := [some (.ref 0), some (.long (dgM (m.1 1) 7 0 (dgR (fun j => iZ (cntZ m j)) 4 0 1223))), none, some (.int 0)]) dX4_digest_68 (Nat.le_of_ble_eq_true rfl) rfl rfl ?_
  refine J_lv' (lv' := [some (.ref 0), some (.long (dgM (m.1 1) 7 0 (dgR (fun j => iZ (cntZ m j)) 4 0 1223))), none, some (.int 0)]) (by repeat' constructor) (l_n_dg3 8 0 0 _ (by omega) rfl ?_)
  refine J_iconst (pc := 98) (v := 0) dX4_digest_98 (by decide) ?_
  refine J_istore_n (pc := 99) (lv' := [some (.ref 0), some (.long (dgR (fun j => m.1 1 (7 + j)) 8 0 (dgM (m.1 1) 7 0 (dgR (fun j => iZ (cntZ m j)) 4 0 1223)))), none, some (.int 0)]) dX4_digest_99 (Nat.le_of_ble_eq_true rfl) rfl rfl ?_
  refine J_lv' (lv' := [some (.ref 0), some (.long (dgR (fun j => m.1 1 (7 + j)) 8 0 (dgM (m.1 1) 7 0 (dgR (fun j => iZ (cntZ m j)) 4 0 1223)))), none, some (.int 0)]) (by repeat' constructor) (l_n_dg4 (n := (m.1 1 15).toInt.toNat) (by omega) (by omega) (4 * (m.1 1 15).toInt.toNat) 0 0 _ (by omega) rfl ?_)
  refine J_ldc2 (pc := 136) fK_X4_255 dX4_digest_136 ?_
  refine J_lload_n (pc := 139) dX4_digest_139 rfl ?_
  refine J_lmul (pc := 140) dX4_digest_140 ?_
  refine J_aload_n (pc := 141) dX4_digest_141 rfl ?_
  refine J_getL (pc := 142) fF_X4_215 rfl rfl dX4_digest_142 ?_
  refine J_ladd (pc := 145) dX4_digest_145 ?_
  refine J_lstore_n (pc := 146) (lv' := [some (.ref 0), some (.long ((31 * (dgR (fun j => m.1 1 (16 + j)) (4 * (m.1 1 15).toInt.toNat) 0 (dgR (fun j => m.1 1 (7 + j)) 8 0 (dgM (m.1 1) 7 0 (dgR (fun j => iZ (cntZ m j)) 4 0 1223))))) + (m.2 0 20))), none, none]) dX4_digest_146 (Nat.le_of_ble_eq_true rfl) rfl rfl ?_
  refine J_ldc2 (pc := 147) fK_X4_255 dX4_digest_147 ?_
  refine J_lload_n (pc := 150) dX4_digest_150 rfl ?_
  refine J_lmul (pc := 151) dX4_digest_151 ?_
  refine J_aload_n (pc := 152) dX4_digest_152 rfl ?_
  refine J_getL (pc := 153) fF_X4_42 rfl rfl dX4_digest_153 ?_
  refine J_ladd (pc := 156) dX4_digest_156 ?_
  refine J_lret (pc := 157) dX4_digest_157 rfl ?_
  refine ⟨?_, rfl⟩
  rw [dgM_7]
  rfl
theorem pr_digest {G : JG × JG} {N : Int} {c m : JM} (h : Inv N c m) (hN : 150 ≤ N ∧ N < 100000) : PairL G N c m mX3_digest mX4_digest [] := by
  refine ⟨_, _, k_digest h hN, n_digest h hN, fun v c' w m' hC hM => ?_⟩
  obtain ⟨a1, a2⟩ := hC
  obtain ⟨b1, b2⟩ := hM
  exact ⟨⟨by rw [a1, b1], _, a1⟩, by rw [a2, b2]; exact Inv_eq (by omega) h (eqC_rf _) (eqM_rf _)⟩

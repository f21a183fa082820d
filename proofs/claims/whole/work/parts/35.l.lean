/-! ===== next ===== -/
def hasK (st : Int32) (k : Nat) : Prop := ((st >>> (iZ (k : Int) &&& 31)) &&& 1).toInt = 1
/-- how many of the kinds go with kind k -/
noncomputable def cntI (st : Int32) (k : Nat) (w n : Int) : Nat → Nat → Int → Int
  | 0, _, s => s
  | d + 1, o, s => cntI st k w n d (o + 1) (@ite _ ((hasK st k ∧ hasK st o) ∧ aZ k w n = aZ o w n ∧ pZ k w n = pZ o w n) (Classical.propDecidable _) (s + 1) s)
noncomputable def mostI (st : Int32) (w n : Int) : Nat → Nat → Int → Int
  | 0, _, s => s
  | d + 1, k, s => mostI st w n d (k + 1) (if s < cntI st k w n 6 0 0 then cntI st k w n 6 0 0 else s)
theorem cntI_le {st : Int32} {k : Nat} {w n : Int} : ∀ (d o : Nat) (s : Int), s ≤ cntI st k w n d o s ∧ cntI st k w n d o s ≤ s + d := by
  intro d
  induction d with
  | zero => exact fun o s => ⟨Int.le_refl _, by simp [cntI]⟩
  | succ d ih =>
    intro o s
    rw [cntI]
    by_cases h : (hasK st k ∧ hasK st o) ∧ aZ k w n = aZ o w n ∧ pZ k w n = pZ o w n
    · rw [if_pos h]; have := ih (o + 1) (s + 1); omega
    · rw [if_neg h]; have := ih (o + 1) s; omega
theorem mostI_le {st : Int32} {w n : Int} : ∀ (d k : Nat) (s : Int), 0 ≤ s ∧ s ≤ 6 → 0 ≤ mostI st w n d k s ∧ mostI st w n d k s ≤ 6 := by
  intro d
  induction d with
  | zero => exact fun k s h => h
  | succ d ih =>
    intro k s h
    have q := cntI_le (st := st) (k := k) (w := w) (n := n) 6 0 0
    rw [mostI]
    exact ih _ _ (by split <;> omega)
variable {G : JG}
set_option maxRecDepth 100000 in
set_option maxHeartbeats 4000000 in
theorem l_k_cnt {sh : List JSh} {μ : JM} {st wv nv : Int32} {w n : Int} (hw : wv.toInt = w) (hn : nv.toInt = n) (hq : 0 ≤ w ∧ w ≤ 5 ∧ 0 ≤ n) {k : Nat} {kv mv : Int32} (hk : kv.toInt = (k : Int)) {Q : Option Value → JM → Prop} : ∀ d : Nat, ∀ (i : Nat) (ov av : Int32) (s : Int), i + d = 6 → ov.toInt = (i : Int) → av.toInt = s → (0 ≤ s ∧ s ≤ i) → (∀ av : Int32, av.toInt = (cntI st k w n d i s) → J G sh mX3_mostAlike 78 [some (.int st), some (.int wv), some (.int nv), some (.int mv), some (.int kv), some (.int av), none, none] [] μ Q) → J G sh mX3_mostAlike 18 [some (.int st), some (.int wv), some (.int nv), some (.int mv), some (.int kv), some (.int av), some (.int ov), none] [] μ Q := by
  intro d
  induction d with
  | zero =>
    intro i ov av s hd hi ha hs hk2
    refine J_iload (pc := 18) dX3_mostAlike_18 rfl ?_
    refine J_bipush (pc := 20) (v := 6) dX3_mostAlike_20 (by decide) ?_
    refine J_icmp_geW (pc := 22) (i : Int) 6 hi rfl 78 dX3_mostAlike_22 (by decide) (fun h22 => ?_) (fun h22 => ?_)
    · exact J_lv' (lv' := [some (.int st), some (.int wv), some (.int nv), some (.int mv), some (.int kv), some (.int av), none, none]) (by repeat' constructor) (hk2 av ha)
    · exfalso; omega
  | succ d ih =>
    intro i ov av s hd hi ha hs hk2
    refine J_iload (pc := 18) dX3_mostAlike_18 rfl ?_
    refine J_bipush (pc := 20) (v := 6) dX3_mostAlike_20 (by decide) ?_
    refine J_icmp_geW (pc := 22) (i : Int) 6 hi rfl 78 dX3_mostAlike_22 (by decide) (fun h22 => ?_) (fun h22 => ?_)
    · exfalso; omega
    · refine J_iload_n (pc := 25) dX3_mostAlike_25 rfl ?_
      refine J_iload (pc := 26) dX3_mostAlike_26 rfl ?_
      refine J_ishr (pc := 28) dX3_mostAlike_28 ?_
      refine J_iconst (pc := 29) (v := 1) dX3_mostAlike_29 (by decide) ?_
      refine J_iand (pc := 30) dX3_mostAlike_30 ?_
      refine J_iconst (pc := 31) (v := 1) dX3_mostAlike_31 (by decide) ?_
      refine J_icmp_neW (pc := 32) (((st >>> (kv &&& 31)) &&& 1).toInt) 1 rfl rfl 49 dX3_mostAlike_32 (by decide) (fun h32 => ?_) (fun h32 => ?_)
      · refine J_iconst (pc := 49) (v := 0) dX3_mostAlike_49 (by decide) ?_
        refine J_istore (pc := 50) (lv' := [some (.int st), some (.int wv), some (.int nv), some (.int mv), some (.int kv), some (.int av), some (.int ov), some (.int 0)]) dX3_mostAlike_50 (Nat.le_of_ble_eq_true rfl) rfl rfl ?_
        refine J_iload (pc := 52) dX3_mostAlike_52 rfl ?_
        refine J_if_eq_T (pc := 54) 72 dX3_mostAlike_54 (by decide) (by decide) ?_
        refine J_iincW' (pc := 72) (i : Int) hi (lv' := fun iq_ => [some (.int st), some (.int wv), some (.int nv), some (.int mv), some (.int kv), some (.int av), some (.int iq_), some (.int 0)]) dX3_mostAlike_72 rfl (by omega) (by decide) (Nat.le_of_ble_eq_true rfl) rfl (fun _ => rfl) (fun z72 e72 => ?_)
        refine J_goto (pc := 75) 18 dX3_mostAlike_75 (by decide) ?_
        have hkv : kv = iZ (k : Int) := iZ_of hk
        have hov : ov = iZ (i : Int) := iZ_of hi
        refine J_lv' (lv' := [some (.int st), some (.int wv), some (.int nv), some (.int mv), some (.int kv), some (.int av), some (.int z72), none]) (by repeat' constructor) (ih (i + 1) z72 av s (by omega) (by omega) (by omega) (by omega) (fun av' hav' => ?_))
        have := hk2 av'
        rw [cntI] at this
        rw [if_neg (fun z => by
          have z1 := z.1.1
          have z2 := z.1.2
          unfold hasK at z1 z2
          rw [← hkv] at z1
          rw [← hov] at z2
          first
            | exact h63 z.2
            | exact h32 z1
            | exact h42 z2)] at this
        exact this hav'
      · refine J_iload_n (pc := 35) dX3_mostAlike_35 rfl ?_
        refine J_iload (pc := 36) dX3_mostAlike_36 rfl ?_
        refine J_ishr (pc := 38) dX3_mostAlike_38 ?_
        refine J_iconst (pc := 39) (v := 1) dX3_mostAlike_39 (by decide) ?_
        refine J_iand (pc := 40) dX3_mostAlike_40 ?_
        refine J_iconst (pc := 41) (v := 1) dX3_mostAlike_41 (by decide) ?_
        refine J_icmp_neW (pc := 42) (((st >>> (ov &&& 31)) &&& 1).toInt) 1 rfl rfl 49 dX3_mostAlike_42 (by decide) (fun h42 => ?_) (fun h42 => ?_)
        · refine J_iconst (pc := 49) (v := 0) dX3_mostAlike_49 (by decide) ?_
          refine J_istore (pc := 50) (lv' := [some (.int st), some (.int wv), some (.int nv), some (.int mv), some (.int kv), some (.int av), some (.int ov), some (.int 0)]) dX3_mostAlike_50 (Nat.le_of_ble_eq_true rfl) rfl rfl ?_
          refine J_iload (pc := 52) dX3_mostAlike_52 rfl ?_
          refine J_if_eq_T (pc := 54) 72 dX3_mostAlike_54 (by decide) (by decide) ?_
          refine J_iincW' (pc := 72) (i : Int) hi (lv' := fun iq_ => [some (.int st), some (.int wv), some (.int nv), some (.int mv), some (.int kv), some (.int av), some (.int iq_), some (.int 0)]) dX3_mostAlike_72 rfl (by omega) (by decide) (Nat.le_of_ble_eq_true rfl) rfl (fun _ => rfl) (fun z72 e72 => ?_)
          refine J_goto (pc := 75) 18 dX3_mostAlike_75 (by decide) ?_
          have hkv : kv = iZ (k : Int) := iZ_of hk
          have hov : ov = iZ (i : Int) := iZ_of hi
          refine J_lv' (lv' := [some (.int st), some (.int wv), some (.int nv), some (.int mv), some (.int kv), some (.int av), some (.int z72), none]) (by repeat' constructor) (ih (i + 1) z72 av s (by omega) (by omega) (by omega) (by omega) (fun av' hav' => ?_))
          have := hk2 av'
          rw [cntI] at this
          rw [if_neg (fun z => by
            have z1 := z.1.1
            have z2 := z.1.2
            unfold hasK at z1 z2
            rw [← hkv] at z1
            rw [← hov] at z2
            first
              | exact h63 z.2
              | exact h32 z1
              | exact h42 z2)] at this
          exact this hav'
        · refine J_iconst (pc := 45) (v := 1) dX3_mostAlike_45 (by decide) ?_
          refine J_goto (pc := 46) 50 dX3_mostAlike_46 (by decide) ?_
          refine J_istore (pc := 50) (lv' := [some (.int st), some (.int wv), some (.int nv), some (.int mv), some (.int kv), some (.int av), some (.int ov), some (.int 1)]) dX3_mostAlike_50 (Nat.le_of_ble_eq_true rfl) rfl rfl ?_
          refine J_iload (pc := 52) dX3_mostAlike_52 rfl ?_
          refine J_if_eq_F (pc := 54) 72 dX3_mostAlike_54 (by decide) (by decide) ?_
          refine J_iload (pc := 57) dX3_mostAlike_57 rfl ?_
          refine J_iload (pc := 59) dX3_mostAlike_59 rfl ?_
          refine J_iload_n (pc := 61) dX3_mostAlike_61 rfl ?_
          refine J_iload_n (pc := 62) dX3_mostAlike_62 rfl ?_
          refine J_callSc (pc := 63) fC_X3_265 dX3_mostAlike_63 (c_X3_moveAlike (k : Int) (i : Int) w n hk hi hw hn (by omega)) rfl ⟨Nat.le_of_ble_eq_true rfl, Nat.le_of_ble_eq_true rfl⟩ rfl (Nat.le_of_ble_eq_true rfl) (fun h63 => ?_) (fun h63 => ?_)
          · refine J_if_eq_F (pc := 66) 72 dX3_mostAlike_66 (by decide) (by decide) ?_
            refine J_iincW' (pc := 69) s ha (lv' := fun iq_ => [some (.int st), some (.int wv), some (.int nv), some (.int mv), some (.int kv), some (.int iq_), some (.int ov), some (.int 1)]) dX3_mostAlike_69 rfl (by omega) (by decide) (Nat.le_of_ble_eq_true rfl) rfl (fun _ => rfl) (fun z69 e69 => ?_)
            refine J_iincW' (pc := 72) (i : Int) hi (lv' := fun iq_ => [some (.int st), some (.int wv), some (.int nv), some (.int mv), some (.int kv), some (.int z69), some (.int iq_), some (.int 1)]) dX3_mostAlike_72 rfl (by omega) (by decide) (Nat.le_of_ble_eq_true rfl) rfl (fun _ => rfl) (fun z72 e72 => ?_)
            refine J_goto (pc := 75) 18 dX3_mostAlike_75 (by decide) ?_
            have hkv : kv = iZ (k : Int) := iZ_of hk
            have hov : ov = iZ (i : Int) := iZ_of hi
            refine J_lv' (lv' := [some (.int st), some (.int wv), some (.int nv), some (.int mv), some (.int kv), some (.int z69), some (.int z72), none]) (by repeat' constructor) (ih (i + 1) z72 z69 (s + 1) (by omega) (by omega) (by omega) (by omega) (fun av' hav' => ?_))
            have := hk2 av'
            rw [cntI] at this
            rw [if_pos ⟨⟨by unfold hasK; rw [← hkv]; exact h32, by unfold hasK; rw [← hov]; exact h42⟩, h63⟩] at this
            exact this hav'
          · refine J_if_eq_T (pc := 66) 72 dX3_mostAlike_66 (by decide) (by decide) ?_
            refine J_iincW' (pc := 72) (i : Int) hi (lv' := fun iq_ => [some (.int st), some (.int wv), some (.int nv), some (.int mv), some (.int kv), some (.int av), some (.int iq_), some (.int 1)]) dX3_mostAlike_72 rfl (by omega) (by decide) (Nat.le_of_ble_eq_true rfl) rfl (fun _ => rfl) (fun z72 e72 => ?_)
            refine J_goto (pc := 75) 18 dX3_mostAlike_75 (by decide) ?_
            have hkv : kv = iZ (k : Int) := iZ_of hk
            have hov : ov = iZ (i : Int) := iZ_of hi
            refine J_lv' (lv' := [some (.int st), some (.int wv), some (.int nv), some (.int mv), some (.int kv), some (.int av), some (.int z72), none]) (by repeat' constructor) (ih (i + 1) z72 av s (by omega) (by omega) (by omega) (by omega) (fun av' hav' => ?_))
            have := hk2 av'
            rw [cntI] at this
            rw [if_neg (fun z => by
              have z1 := z.1.1
              have z2 := z.1.2
              unfold hasK at z1 z2
              rw [← hkv] at z1
              rw [← hov] at z2
              first
                | exact h63 z.2
                | exact h32 z1
                | exact h42 z2)] at this
            exact this hav'
set_option maxRecDepth 100000 in
set_option maxHeartbeats 4000000 in
theorem l_k_most {sh : List JSh} {μ : JM} {st wv nv : Int32} {w n : Int} (hw : wv.toInt = w) (hn : nv.toInt = n) (hq : 0 ≤ w ∧ w ≤ 5 ∧ 0 ≤ n)  : ∀ d : Nat, ∀ (k : Nat) (kv mv : Int32) (s : Int), k + d = 6 → kv.toInt = (k : Int) → mv.toInt = s → J G sh mX3_mostAlike 5 [some (.int st), some (.int wv), some (.int nv), some (.int mv), some (.int kv), none, none, none] [] μ (j_z (mostI st w n d k s) μ) := by
  intro d
  induction d with
  | zero =>
    intro k kv mv s hd hk hm
    refine J_iload (pc := 5) dX3_mostAlike_5 rfl ?_
    refine J_bipush (pc := 7) (v := 6) dX3_mostAlike_7 (by decide) ?_
    refine J_icmp_geW (pc := 9) (k : Int) 6 hk rfl 91 dX3_mostAlike_9 (by decide) (fun h9 => ?_) (fun h9 => ?_)
    · refine J_iload_n (pc := 91) dX3_mostAlike_91 rfl ?_
      refine J_iret (pc := 92) dX3_mostAlike_92 rfl ?_
      exact ⟨⟨_, rfl, hm⟩, rfl⟩
    · exfalso; omega
  | succ d ih =>
    intro k kv mv s hd hk hm
    refine J_iload (pc := 5) dX3_mostAlike_5 rfl ?_
    refine J_bipush (pc := 7) (v := 6) dX3_mostAlike_7 (by decide) ?_
    refine J_icmp_geW (pc := 9) (k : Int) 6 hk rfl 91 dX3_mostAlike_9 (by decide) (fun h9 => ?_) (fun h9 => ?_)
    · exfalso; omega
    · refine J_iconst (pc := 12) (v := 0) dX3_mostAlike_12 (by decide) ?_
      refine J_istore (pc := 13) (lv' := [some (.int st), some (.int wv), some (.int nv), some (.int mv), some (.int kv), some (.int 0), none, none]) dX3_mostAlike_13 (Nat.le_of_ble_eq_true rfl) rfl rfl ?_
      refine J_iconst (pc := 15) (v := 0) dX3_mostAlike_15 (by decide) ?_
      refine J_istore (pc := 16) (lv' := [some (.int st), some (.int wv), some (.int nv), some (.int mv), some (.int kv), some (.int 0), some (.int 0), none]) dX3_mostAlike_16 (Nat.le_of_ble_eq_true rfl) rfl rfl ?_
      refine J_lv' (lv' := [some (.int st), some (.int wv), some (.int nv), some (.int mv), some (.int kv), some (.int 0), some (.int 0), none]) (by repeat' constructor) ?_
      refine l_k_cnt hw hn hq hk 6 0 0 0 0 rfl rfl rfl (by omega) (fun av' hav' => ?_)
      refine J_iload_n (pc := 78) dX3_mostAlike_78 rfl ?_
      refine J_iload (pc := 79) dX3_mostAlike_79 rfl ?_
      refine J_maxW (pc := 81) s (cntI st k w n 6 0 0) hm hav' ⟨big_t 369 (by decide +kernel) (by decide +kernel), big_t 370 (by decide +kernel) (by decide +kernel), big_t 11 (by decide +kernel) (by decide +kernel), big_t 371 (by decide +kernel) (by decide +kernel)⟩ (Nat.le_of_ble_eq_true rfl) (Nat.le_of_ble_eq_true rfl) dX3_mostAlike_81 (fun z81 e81 => ?_)
      refine J_istore_n (pc := 84) (lv' := [some (.int st), some (.int wv), some (.int nv), some (.int z81), some (.int kv), some (.int av'), none, none]) dX3_mostAlike_84 (Nat.le_of_ble_eq_true rfl) rfl rfl ?_
      refine J_iincW' (pc := 85) (k : Int) hk (lv' := fun iq_ => [some (.int st), some (.int wv), some (.int nv), some (.int z81), some (.int iq_), some (.int av'), none, none]) dX3_mostAlike_85 rfl (by omega) (by decide) (Nat.le_of_ble_eq_true rfl) rfl (fun _ => rfl) (fun z85 e85 => ?_)
      refine J_goto (pc := 88) 5 dX3_mostAlike_88 (by decide) ?_
      refine J_lv' (lv' := [some (.int st), some (.int wv), some (.int nv), some (.int z81), some (.int z85), none, none, none]) (by repeat' constructor) (J_mono (ih (k + 1) z85 z81 (if s < cntI st k w n 6 0 0 then cntI st k w n 6 0 0 else s) (by omega) (by omega) e81) (fun v μ' hh => ⟨?_, hh.2⟩))
      rw [mostI]
      exact hh.1
set_option maxRecDepth 100000 in
set_option maxHeartbeats 4000000 in
theorem c_X3_mostAlike {sh : List JSh} {μ : JM} {st wv nv : Int32} (w n : Int) (hw : wv.toInt = w) (hn : nv.toInt = n) (hq : 0 ≤ w ∧ w ≤ 5 ∧ 0 ≤ n) : Con G sh mX3_mostAlike [.int st, .int wv, .int nv] μ (j_z (mostI st w n 6 0 0) μ) := by
  refine Con_of [some (.int st), some (.int wv), some (.int nv), none, none, none, none, none] (by decide +kernel) (Nat.le_of_ble_eq_true rfl) (fun _ h => h) ?_
  refine J_iconst (pc := 0) (v := 0) dX3_mostAlike_0 (by decide) ?_
  refine J_istore_n (pc := 1) (lv' := [some (.int st), some (.int wv), some (.int nv), some (.int 0), none, none, none, none]) dX3_mostAlike_1 (Nat.le_of_ble_eq_true rfl) rfl rfl ?_
  refine J_iconst (pc := 2) (v := 0) dX3_mostAlike_2 (by decide) ?_
  refine J_istore (pc := 3) (lv' := [some (.int st), some (.int wv), some (.int nv), some (.int 0), some (.int 0), none, none, none]) dX3_mostAlike_3 (Nat.le_of_ble_eq_true rfl) rfl rfl ?_
  exact J_lv' (lv' := [some (.int st), some (.int wv), some (.int nv), some (.int 0), some (.int 0), none, none, none]) (by repeat' constructor) (l_k_most hw hn hq 6 0 0 0 0 rfl rfl rfl)
set_option maxRecDepth 100000 in
set_option maxHeartbeats 4000000 in
theorem l_n_cnt {m : JM} (hc : constM m) (h5 : 0 ≤ (m.1 1 5).toInt) {st wv : Int32} {w : Int} (hw : wv.toInt = w) (hq : 0 ≤ w ∧ w ≤ 5) {k : Nat} {kv mv : Int32} (hk : kv.toInt = (k : Int)) {Q : Option Value → JM → Prop} : ∀ d : Nat, ∀ (i : Nat) (ov av : Int32) (s : Int), i + d = 6 → ov.toInt = (i : Int) → av.toInt = s → (0 ≤ s ∧ s ≤ i) → (∀ av : Int32, av.toInt = (cntI st k w (m.1 1 5).toInt d i s) → J G shM mX4_greatestPart 143 [some (.ref 0), some (.int st), some (.int wv), some (.int mv), some (.int kv), some (.int av), none, none, none] [] m Q) → J G shM mX4_greatestPart 18 [some (.ref 0), some (.int st), some (.int wv), some (.int mv), some (.int kv), some (.int av), some (.int ov), none, none] [] m Q := by
  intro d
  induction d with
  | zero =>
    intro i ov av s hd hi ha hs hk2
    refine J_iload (pc := 18) dX4_greatestPart_18 rfl ?_
    refine J_bipush (pc := 20) (v := 6) dX4_greatestPart_20 (by decide) ?_
    refine J_icmp_geW (pc := 22) (i : Int) 6 hi rfl 143 dX4_greatestPart_22 (by decide) (fun h22 => ?_) (fun h22 => ?_)
    · exact J_lv' (lv' := [some (.ref 0), some (.int st), some (.int wv), some (.int mv), some (.int kv), some (.int av), none, none, none]) (by repeat' constructor) (hk2 av ha)
    · exfalso; omega
  | succ d ih =>
    intro i ov av s hd hi ha hs hk2
    refine J_iload (pc := 18) dX4_greatestPart_18 rfl ?_
    refine J_bipush (pc := 20) (v := 6) dX4_greatestPart_20 (by decide) ?_
    refine J_icmp_geW (pc := 22) (i : Int) 6 hi rfl 143 dX4_greatestPart_22 (by decide) (fun h22 => ?_) (fun h22 => ?_)
    · exfalso; omega
    · refine J_iload_n (pc := 25) dX4_greatestPart_25 rfl ?_
      refine J_iload (pc := 26) dX4_greatestPart_26 rfl ?_
      refine J_ishr (pc := 28) dX4_greatestPart_28 ?_
      refine J_iconst (pc := 29) (v := 1) dX4_greatestPart_29 (by decide) ?_
      refine J_iand (pc := 30) dX4_greatestPart_30 ?_
      refine J_iconst (pc := 31) (v := 1) dX4_greatestPart_31 (by decide) ?_
      refine J_icmp_neW (pc := 32) (((st >>> (kv &&& 31)) &&& 1).toInt) 1 rfl rfl 49 dX4_greatestPart_32 (by decide) (fun h32 => ?_) (fun h32 => ?_)
      · refine J_iconst (pc := 49) (v := 0) dX4_greatestPart_49 (by decide) ?_
        refine J_istore (pc := 50) (lv' := [some (.ref 0), some (.int st), some (.int wv), some (.int mv), some (.int kv), some (.int av), some (.int ov), some (.int 0), none]) dX4_greatestPart_50 (Nat.le_of_ble_eq_true rfl) rfl rfl ?_
        refine J_aload_n (pc := 52) dX4_greatestPart_52 rfl ?_
        refine J_iload (pc := 53) dX4_greatestPart_53 rfl ?_
        refine J_iload_n (pc := 55) dX4_greatestPart_55 rfl ?_
        refine J_aload_n (pc := 56) dX4_greatestPart_56 rfl ?_
        refine J_getR (pc := 57) 1 fF_X4_7 rfl rfl dX4_greatestPart_57 ?_
        refine J_iconst (pc := 60) (v := 5) dX4_greatestPart_60 (by decide) ?_
        refine J_ialdW (pc := 61) 5 (rfl) rfl (by decide) dX4_greatestPart_61 ?_
        refine J_callVz (pc := 62) fC_X4_79 rfl dX4_greatestPart_62 (c_X4_angerBy hc (k : Int) w ((m.1 1 5).toInt) hk hw rfl (by omega)) rfl ⟨Nat.le_of_ble_eq_true rfl, Nat.le_of_ble_eq_true rfl⟩ rfl (Nat.le_of_ble_eq_true rfl) (fun z62 e62 => ?_)
        refine J_aload_n (pc := 65) dX4_greatestPart_65 rfl ?_
        refine J_iload (pc := 66) dX4_greatestPart_66 rfl ?_
        refine J_iload_n (pc := 68) dX4_greatestPart_68 rfl ?_
        refine J_aload_n (pc := 69) dX4_greatestPart_69 rfl ?_
        refine J_getR (pc := 70) 1 fF_X4_7 rfl rfl dX4_greatestPart_70 ?_
        refine J_iconst (pc := 73) (v := 5) dX4_greatestPart_73 (by decide) ?_
        refine J_ialdW (pc := 74) 5 (rfl) rfl (by decide) dX4_greatestPart_74 ?_
        refine J_callVz (pc := 75) fC_X4_79 rfl dX4_greatestPart_75 (c_X4_angerBy hc (i : Int) w ((m.1 1 5).toInt) hi hw rfl (by omega)) rfl ⟨Nat.le_of_ble_eq_true rfl, Nat.le_of_ble_eq_true rfl⟩ rfl (Nat.le_of_ble_eq_true rfl) (fun z75 e75 => ?_)
        refine J_icmp_neW (pc := 78) (aZ (k : Int) w ((m.1 1 5).toInt)) (aZ (i : Int) w ((m.1 1 5).toInt)) e62 e75 114 dX4_greatestPart_78 (by decide) (fun h78 => ?_) (fun h78 => ?_)
        · refine J_iconst (pc := 114) (v := 0) dX4_greatestPart_114 (by decide) ?_
          refine J_istore (pc := 115) (lv' := [some (.ref 0), some (.int st), some (.int wv), some (.int mv), some (.int kv), some (.int av), some (.int ov), some (.int 0), some (.int 0)]) dX4_greatestPart_115 (Nat.le_of_ble_eq_true rfl) rfl rfl ?_
          refine J_iload (pc := 117) dX4_greatestPart_117 rfl ?_
          refine J_iload (pc := 119) dX4_greatestPart_119 rfl ?_
          refine J_if_eq_T (pc := 121) 133 dX4_greatestPart_121 (by decide) (by decide) ?_
          refine J_iconst (pc := 133) (v := 0) dX4_greatestPart_133 (by decide) ?_
          refine J_iaddW (pc := 134) s 0 ha rfl dX4_greatestPart_134 (by omega) (fun z134 e134 => ?_)
          refine J_istore (pc := 135) (lv' := [some (.ref 0), some (.int st), some (.int wv), some (.int mv), some (.int kv), some (.int z134), some (.int ov), some (.int 0), some (.int 0)]) dX4_greatestPart_135 (Nat.le_of_ble_eq_true rfl) rfl rfl ?_
          refine J_iincW' (pc := 137) (i : Int) hi (lv' := fun iq_ => [some (.ref 0), some (.int st), some (.int wv), some (.int mv), some (.int kv), some (.int z134), some (.int iq_), some (.int 0), some (.int 0)]) dX4_greatestPart_137 rfl (by omega) (by decide) (Nat.le_of_ble_eq_true rfl) rfl (fun _ => rfl) (fun z137 e137 => ?_)
          refine J_goto (pc := 140) 18 dX4_greatestPart_140 (by decide) ?_
          have hkv : kv = iZ (k : Int) := iZ_of hk
          have hov : ov = iZ (i : Int) := iZ_of hi
          refine J_lv' (lv' := [some (.ref 0), some (.int st), some (.int wv), some (.int mv), some (.int kv), some (.int z134), some (.int z137), none, none]) (by repeat' constructor) (ih (i + 1) z137 z134 s (by omega) (by omega) (by omega) (by omega) (fun av' hav' => ?_))
          have := hk2 av'
          rw [cntI] at this
          rw [if_neg (fun z => by
            have z1 := z.1.1
            have z2 := z.1.2
            unfold hasK at z1 z2
            rw [← hkv] at z1
            rw [← hov] at z2
            first
              | exact h78 z.2.1
              | exact h107 z.2.2
              | exact h32 z1
              | exact h42 z2)] at this
          exact this hav'
        · refine J_aload_n (pc := 81) dX4_greatestPart_81 rfl ?_
          refine J_iload (pc := 82) dX4_greatestPart_82 rfl ?_
          refine J_iload_n (pc := 84) dX4_greatestPart_84 rfl ?_
          refine J_aload_n (pc := 85) dX4_greatestPart_85 rfl ?_
          refine J_getR (pc := 86) 1 fF_X4_7 rfl rfl dX4_greatestPart_86 ?_
          refine J_iconst (pc := 89) (v := 5) dX4_greatestPart_89 (by decide) ?_
          refine J_ialdW (pc := 90) 5 (rfl) rfl (by decide) dX4_greatestPart_90 ?_
          refine J_callVz (pc := 91) fC_X4_86 rfl dX4_greatestPart_91 (c_X4_prideBy hc (k : Int) w ((m.1 1 5).toInt) hk hw rfl (by omega)) rfl ⟨Nat.le_of_ble_eq_true rfl, Nat.le_of_ble_eq_true rfl⟩ rfl (Nat.le_of_ble_eq_true rfl) (fun z91 e91 => ?_)
          refine J_aload_n (pc := 94) dX4_greatestPart_94 rfl ?_
          refine J_iload (pc := 95) dX4_greatestPart_95 rfl ?_
          refine J_iload_n (pc := 97) dX4_greatestPart_97 rfl ?_
          refine J_aload_n (pc := 98) dX4_greatestPart_98 rfl ?_
          refine J_getR (pc := 99) 1 fF_X4_7 rfl rfl dX4_greatestPart_99 ?_
          refine J_iconst (pc := 102) (v := 5) dX4_greatestPart_102 (by decide) ?_
          refine J_ialdW (pc := 103) 5 (rfl) rfl (by decide) dX4_greatestPart_103 ?_
          refine J_callVz (pc := 104) fC_X4_86 rfl dX4_greatestPart_104 (c_X4_prideBy hc (i : Int) w ((m.1 1 5).toInt) hi hw rfl (by omega)) rfl ⟨Nat.le_of_ble_eq_true rfl, Nat.le_of_ble_eq_true rfl⟩ rfl (Nat.le_of_ble_eq_true rfl) (fun z104 e104 => ?_)
          refine J_icmp_neW (pc := 107) (pZ (k : Int) w ((m.1 1 5).toInt)) (pZ (i : Int) w ((m.1 1 5).toInt)) e91 e104 114 dX4_greatestPart_107 (by decide) (fun h107 => ?_) (fun h107 => ?_)
          · refine J_iconst (pc := 114) (v := 0) dX4_greatestPart_114 (by decide) ?_
            refine J_istore (pc := 115) (lv' := [some (.ref 0), some (.int st), some (.int wv), some (.int mv), some (.int kv), some (.int av), some (.int ov), some (.int 0), some (.int 0)]) dX4_greatestPart_115 (Nat.le_of_ble_eq_true rfl) rfl rfl ?_
            refine J_iload (pc := 117) dX4_greatestPart_117 rfl ?_
            refine J_iload (pc := 119) dX4_greatestPart_119 rfl ?_
            refine J_if_eq_T (pc := 121) 133 dX4_greatestPart_121 (by decide) (by decide) ?_
            refine J_iconst (pc := 133) (v := 0) dX4_greatestPart_133 (by decide) ?_
            refine J_iaddW (pc := 134) s 0 ha rfl dX4_greatestPart_134 (by omega) (fun z134 e134 => ?_)
            refine J_istore (pc := 135) (lv' := [some (.ref 0), some (.int st), some (.int wv), some (.int mv), some (.int kv), some (.int z134), some (.int ov), some (.int 0), some (.int 0)]) dX4_greatestPart_135 (Nat.le_of_ble_eq_true rfl) rfl rfl ?_
            refine J_iincW' (pc := 137) (i : Int) hi (lv' := fun iq_ => [some (.ref 0), some (.int st), some (.int wv), some (.int mv), some (.int kv), some (.int z134), some (.int iq_), some (.int 0), some (.int 0)]) dX4_greatestPart_137 rfl (by omega) (by decide) (Nat.le_of_ble_eq_true rfl) rfl (fun _ => rfl) (fun z137 e137 => ?_)
            refine J_goto (pc := 140) 18 dX4_greatestPart_140 (by decide) ?_
            have hkv : kv = iZ (k : Int) := iZ_of hk
            have hov : ov = iZ (i : Int) := iZ_of hi
            refine J_lv' (lv' := [some (.ref 0), some (.int st), some (.int wv), some (.int mv), some (.int kv), some (.int z134), some (.int z137), none, none]) (by repeat' constructor) (ih (i + 1) z137 z134 s (by omega) (by omega) (by omega) (by omega) (fun av' hav' => ?_))
            have := hk2 av'
            rw [cntI] at this
            rw [if_neg (fun z => by
              have z1 := z.1.1
              have z2 := z.1.2
              unfold hasK at z1 z2
              rw [← hkv] at z1
              rw [← hov] at z2
              first
                | exact h78 z.2.1
                | exact h107 z.2.2
                | exact h32 z1
                | exact h42 z2)] at this
            exact this hav'
          · refine J_iconst (pc := 110) (v := 1) dX4_greatestPart_110 (by decide) ?_
            refine J_goto (pc := 111) 115 dX4_greatestPart_111 (by decide) ?_
            refine J_istore (pc := 115) (lv' := [some (.ref 0), some (.int st), some (.int wv), some (.int mv), some (.int kv), some (.int av), some (.int ov), some (.int 0), some (.int 1)]) dX4_greatestPart_115 (Nat.le_of_ble_eq_true rfl) rfl rfl ?_
            refine J_iload (pc := 117) dX4_greatestPart_117 rfl ?_
            refine J_iload (pc := 119) dX4_greatestPart_119 rfl ?_
            refine J_if_eq_T (pc := 121) 133 dX4_greatestPart_121 (by decide) (by decide) ?_
            refine J_iconst (pc := 133) (v := 0) dX4_greatestPart_133 (by decide) ?_
            refine J_iaddW (pc := 134) s 0 ha rfl dX4_greatestPart_134 (by omega) (fun z134 e134 => ?_)
            refine J_istore (pc := 135) (lv' := [some (.ref 0), some (.int st), some (.int wv), some (.int mv), some (.int kv), some (.int z134), some (.int ov), some (.int 0), some (.int 1)]) dX4_greatestPart_135 (Nat.le_of_ble_eq_true rfl) rfl rfl ?_
            refine J_iincW' (pc := 137) (i : Int) hi (lv' := fun iq_ => [some (.ref 0), some (.int st), some (.int wv), some (.int mv), some (.int kv), some (.int z134), some (.int iq_), some (.int 0), some (.int 1)]) dX4_greatestPart_137 rfl (by omega) (by decide) (Nat.le_of_ble_eq_true rfl) rfl (fun _ => rfl) (fun z137 e137 => ?_)
            refine J_goto (pc := 140) 18 dX4_greatestPart_140 (by decide) ?_
            have hkv : kv = iZ (k : Int) := iZ_of hk
            have hov : ov = iZ (i : Int) := iZ_of hi
            refine J_lv' (lv' := [some (.ref 0), some (.int st), some (.int wv), some (.int mv), some (.int kv), some (.int z134), some (.int z137), none, none]) (by repeat' constructor) (ih (i + 1) z137 z134 s (by omega) (by omega) (by omega) (by omega) (fun av' hav' => ?_))
            have := hk2 av'
            rw [cntI] at this
            rw [if_neg (fun z => by
              have z1 := z.1.1
              have z2 := z.1.2
              unfold hasK at z1 z2
              rw [← hkv] at z1
              rw [← hov] at z2
              first
                | exact h78 z.2.1
                | exact h107 z.2.2
                | exact h32 z1
                | exact h42 z2)] at this
            exact this hav'
      · refine J_iload_n (pc := 35) dX4_greatestPart_35 rfl ?_
        refine J_iload (pc := 36) dX4_greatestPart_36 rfl ?_
        refine J_ishr (pc := 38) dX4_greatestPart_38 ?_
        refine J_iconst (pc := 39) (v := 1) dX4_greatestPart_39 (by decide) ?_
        refine J_iand (pc := 40) dX4_greatestPart_40 ?_
        refine J_iconst (pc := 41) (v := 1) dX4_greatestPart_41 (by decide) ?_
        refine J_icmp_neW (pc := 42) (((st >>> (ov &&& 31)) &&& 1).toInt) 1 rfl rfl 49 dX4_greatestPart_42 (by decide) (fun h42 => ?_) (fun h42 => ?_)
        · refine J_iconst (pc := 49) (v := 0) dX4_greatestPart_49 (by decide) ?_
          refine J_istore (pc := 50) (lv' := [some (.ref 0), some (.int st), some (.int wv), some (.int mv), some (.int kv), some (.int av), some (.int ov), some (.int 0), none]) dX4_greatestPart_50 (Nat.le_of_ble_eq_true rfl) rfl rfl ?_
          refine J_aload_n (pc := 52) dX4_greatestPart_52 rfl ?_
          refine J_iload (pc := 53) dX4_greatestPart_53 rfl ?_
          refine J_iload_n (pc := 55) dX4_greatestPart_55 rfl ?_
          refine J_aload_n (pc := 56) dX4_greatestPart_56 rfl ?_
          refine J_getR (pc := 57) 1 fF_X4_7 rfl rfl dX4_greatestPart_57 ?_
          refine J_iconst (pc := 60) (v := 5) dX4_greatestPart_60 (by decide) ?_
          refine J_ialdW (pc := 61) 5 (rfl) rfl (by decide) dX4_greatestPart_61 ?_
          refine J_callVz (pc := 62) fC_X4_79 rfl dX4_greatestPart_62 (c_X4_angerBy hc (k : Int) w ((m.1 1 5).toInt) hk hw rfl (by omega)) rfl ⟨Nat.le_of_ble_eq_true rfl, Nat.le_of_ble_eq_true rfl⟩ rfl (Nat.le_of_ble_eq_true rfl) (fun z62 e62 => ?_)
          refine J_aload_n (pc := 65) dX4_greatestPart_65 rfl ?_
          refine J_iload (pc := 66) dX4_greatestPart_66 rfl ?_
          refine J_iload_n (pc := 68) dX4_greatestPart_68 rfl ?_
          refine J_aload_n (pc := 69) dX4_greatestPart_69 rfl ?_
          refine J_getR (pc := 70) 1 fF_X4_7 rfl rfl dX4_greatestPart_70 ?_
          refine J_iconst (pc := 73) (v := 5) dX4_greatestPart_73 (by decide) ?_
          refine J_ialdW (pc := 74) 5 (rfl) rfl (by decide) dX4_greatestPart_74 ?_
          refine J_callVz (pc := 75) fC_X4_79 rfl dX4_greatestPart_75 (c_X4_angerBy hc (i : Int) w ((m.1 1 5).toInt) hi hw rfl (by omega)) rfl ⟨Nat.le_of_ble_eq_true rfl, Nat.le_of_ble_eq_true rfl⟩ rfl (Nat.le_of_ble_eq_true rfl) (fun z75 e75 => ?_)
          refine J_icmp_neW (pc := 78) (aZ (k : Int) w ((m.1 1 5).toInt)) (aZ (i : Int) w ((m.1 1 5).toInt)) e62 e75 114 dX4_greatestPart_78 (by decide) (fun h78 => ?_) (fun h78 => ?_)
          · refine J_iconst (pc := 114) (v := 0) dX4_greatestPart_114 (by decide) ?_
            refine J_istore (pc := 115) (lv' := [some (.ref 0), some (.int st), some (.int wv), some (.int mv), some (.int kv), some (.int av), some (.int ov), some (.int 0), some (.int 0)]) dX4_greatestPart_115 (Nat.le_of_ble_eq_true rfl) rfl rfl ?_
            refine J_iload (pc := 117) dX4_greatestPart_117 rfl ?_
            refine J_iload (pc := 119) dX4_greatestPart_119 rfl ?_
            refine J_if_eq_T (pc := 121) 133 dX4_greatestPart_121 (by decide) (by decide) ?_
            refine J_iconst (pc := 133) (v := 0) dX4_greatestPart_133 (by decide) ?_
            refine J_iaddW (pc := 134) s 0 ha rfl dX4_greatestPart_134 (by omega) (fun z134 e134 => ?_)
            refine J_istore (pc := 135) (lv' := [some (.ref 0), some (.int st), some (.int wv), some (.int mv), some (.int kv), some (.int z134), some (.int ov), some (.int 0), some (.int 0)]) dX4_greatestPart_135 (Nat.le_of_ble_eq_true rfl) rfl rfl ?_
            refine J_iincW' (pc := 137) (i : Int) hi (lv' := fun iq_ => [some (.ref 0), some (.int st), some (.int wv), some (.int mv), some (.int kv), some (.int z134), some (.int iq_), some (.int 0), some (.int 0)]) dX4_greatestPart_137 rfl (by omega) (by decide) (Nat.le_of_ble_eq_true rfl) rfl (fun _ => rfl) (fun z137 e137 => ?_)
            refine J_goto (pc := 140) 18 dX4_greatestPart_140 (by decide) ?_
            have hkv : kv = iZ (k : Int) := iZ_of hk
            have hov : ov = iZ (i : Int) := iZ_of hi
            refine J_lv' (lv' := [some (.ref 0), some (.int st), some (.int wv), some (.int mv), some (.int kv), some (.int z134), some (.int z137), none, none]) (by repeat' constructor) (ih (i + 1) z137 z134 s (by omega) (by omega) (by omega) (by omega) (fun av' hav' => ?_))
            have := hk2 av'
            rw [cntI] at this
            rw [if_neg (fun z => by
              have z1 := z.1.1
              have z2 := z.1.2
              unfold hasK at z1 z2
              rw [← hkv] at z1
              rw [← hov] at z2
              first
                | exact h78 z.2.1
                | exact h107 z.2.2
                | exact h32 z1
                | exact h42 z2)] at this
            exact this hav'
          · refine J_aload_n (pc := 81) dX4_greatestPart_81 rfl ?_
            refine J_iload (pc := 82) dX4_greatestPart_82 rfl ?_
            refine J_iload_n (pc := 84) dX4_greatestPart_84 rfl ?_
            refine J_aload_n (pc := 85) dX4_greatestPart_85 rfl ?_
            refine J_getR (pc := 86) 1 fF_X4_7 rfl rfl dX4_greatestPart_86 ?_
            refine J_iconst (pc := 89) (v := 5) dX4_greatestPart_89 (by decide) ?_
            refine J_ialdW (pc := 90) 5 (rfl) rfl (by decide) dX4_greatestPart_90 ?_
            refine J_callVz (pc := 91) fC_X4_86 rfl dX4_greatestPart_91 (c_X4_prideBy hc (k : Int) w ((m.1 1 5).toInt) hk hw rfl (by omega)) rfl ⟨Nat.le_of_ble_eq_true rfl, Nat.le_of_ble_eq_true rfl⟩ rfl (Nat.le_of_ble_eq_true rfl) (fun z91 e91 => ?_)
            refine J_aload_n (pc := 94) dX4_greatestPart_94 rfl ?_
            refine J_iload (pc := 95) dX4_greatestPart_95 rfl ?_
            refine J_iload_n (pc := 97) dX4_greatestPart_97 rfl ?_
            refine J_aload_n (pc := 98) dX4_greatestPart_98 rfl ?_
            refine J_getR (pc := 99) 1 fF_X4_7 rfl rfl dX4_greatestPart_99 ?_
            refine J_iconst (pc := 102) (v := 5) dX4_greatestPart_102 (by decide) ?_
            refine J_ialdW (pc := 103) 5 (rfl) rfl (by decide) dX4_greatestPart_103 ?_
            refine J_callVz (pc := 104) fC_X4_86 rfl dX4_greatestPart_104 (c_X4_prideBy hc (i : Int) w ((m.1 1 5).toInt) hi hw rfl (by omega)) rfl ⟨Nat.le_of_ble_eq_true rfl, Nat.le_of_ble_eq_true rfl⟩ rfl (Nat.le_of_ble_eq_true rfl) (fun z104 e104 => ?_)
            refine J_icmp_neW (pc := 107) (pZ (k : Int) w ((m.1 1 5).toInt)) (pZ (i : Int) w ((m.1 1 5).toInt)) e91 e104 114 dX4_greatestPart_107 (by decide) (fun h107 => ?_) (fun h107 => ?_)
            · refine J_iconst (pc := 114) (v := 0) dX4_greatestPart_114 (by decide) ?_
              refine J_istore (pc := 115) (lv' := [some (.ref 0), some (.int st), some (.int wv), some (.int mv), some (.int kv), some (.int av), some (.int ov), some (.int 0), some (.int 0)]) dX4_greatestPart_115 (Nat.le_of_ble_eq_true rfl) rfl rfl ?_
              refine J_iload (pc := 117) dX4_greatestPart_117 rfl ?_
              refine J_iload (pc := 119) dX4_greatestPart_119 rfl ?_
              refine J_if_eq_T (pc := 121) 133 dX4_greatestPart_121 (by decide) (by decide) ?_
              refine J_iconst (pc := 133) (v := 0) dX4_greatestPart_133 (by decide) ?_
              refine J_iaddW (pc := 134) s 0 ha rfl dX4_greatestPart_134 (by omega) (fun z134 e134 => ?_)
              refine J_istore (pc := 135) (lv' := [some (.ref 0), some (.int st), some (.int wv), some (.int mv), some (.int kv), some (.int z134), some (.int ov), some (.int 0), some (.int 0)]) dX4_greatestPart_135 (Nat.le_of_ble_eq_true rfl) rfl rfl ?_
              refine J_iincW' (pc := 137) (i : Int) hi (lv' := fun iq_ => [some (.ref 0), some (.int st), some (.int wv), some (.int mv), some (.int kv), some (.int z134), some (.int iq_), some (.int 0), some (.int 0)]) dX4_greatestPart_137 rfl (by omega) (by decide) (Nat.le_of_ble_eq_true rfl) rfl (fun _ => rfl) (fun z137 e137 => ?_)
              refine J_goto (pc := 140) 18 dX4_greatestPart_140 (by decide) ?_
              have hkv : kv = iZ (k : Int) := iZ_of hk
              have hov : ov = iZ (i : Int) := iZ_of hi
              refine J_lv' (lv' := [some (.ref 0), some (.int st), some (.int wv), some (.int mv), some (.int kv), some (.int z134), some (.int z137), none, none]) (by repeat' constructor) (ih (i + 1) z137 z134 s (by omega) (by omega) (by omega) (by omega) (fun av' hav' => ?_))
              have := hk2 av'
              rw [cntI] at this
              rw [if_neg (fun z => by
                have z1 := z.1.1
                have z2 := z.1.2
                unfold hasK at z1 z2
                rw [← hkv] at z1
                rw [← hov] at z2
                first
                  | exact h78 z.2.1
                  | exact h107 z.2.2
                  | exact h32 z1
                  | exact h42 z2)] at this
              exact this hav'
            · refine J_iconst (pc := 110) (v := 1) dX4_greatestPart_110 (by decide) ?_
              refine J_goto (pc := 111) 115 dX4_greatestPart_111 (by decide) ?_
              refine J_istore (pc := 115) (lv' := [some (.ref 0), some (.int st), some (.int wv), some (.int mv), some (.int kv), some (.int av), some (.int ov), some (.int 0), some (.int 1)]) dX4_greatestPart_115 (Nat.le_of_ble_eq_true rfl) rfl rfl ?_
              refine J_iload (pc := 117) dX4_greatestPart_117 rfl ?_
              refine J_iload (pc := 119) dX4_greatestPart_119 rfl ?_
              refine J_if_eq_T (pc := 121) 133 dX4_greatestPart_121 (by decide) (by decide) ?_
              refine J_iconst (pc := 133) (v := 0) dX4_greatestPart_133 (by decide) ?_
              refine J_iaddW (pc := 134) s 0 ha rfl dX4_greatestPart_134 (by omega) (fun z134 e134 => ?_)
              refine J_istore (pc := 135) (lv' := [some (.ref 0), some (.int st), some (.int wv), some (.int mv), some (.int kv), some (.int z134), some (.int ov), some (.int 0), some (.int 1)]) dX4_greatestPart_135 (Nat.le_of_ble_eq_true rfl) rfl rfl ?_
              refine J_iincW' (pc := 137) (i : Int) hi (lv' := fun iq_ => [some (.ref 0), some (.int st), some (.int wv), some (.int mv), some (.int kv), some (.int z134), some (.int iq_), some (.int 0), some (.int 1)]) dX4_greatestPart_137 rfl (by omega) (by decide) (Nat.le_of_ble_eq_true rfl) rfl (fun _ => rfl) (fun z137 e137 => ?_)
              refine J_goto (pc := 140) 18 dX4_greatestPart_140 (by decide) ?_
              have hkv : kv = iZ (k : Int) := iZ_of hk
              have hov : ov = iZ (i : Int) := iZ_of hi
              refine J_lv' (lv' := [some (.ref 0), some (.int st), some (.int wv), some (.int mv), some (.int kv), some (.int z134), some (.int z137), none, none]) (by repeat' constructor) (ih (i + 1) z137 z134 s (by omega) (by omega) (by omega) (by omega) (fun av' hav' => ?_))
              have := hk2 av'
              rw [cntI] at this
              rw [if_neg (fun z => by
                have z1 := z.1.1
                have z2 := z.1.2
                unfold hasK at z1 z2
                rw [← hkv] at z1
                rw [← hov] at z2
                first
                  | exact h78 z.2.1
                  | exact h107 z.2.2
                  | exact h32 z1
                  | exact h42 z2)] at this
              exact this hav'
        · refine J_iconst (pc := 45) (v := 1) dX4_greatestPart_45 (by decide) ?_
          refine J_goto (pc := 46) 50 dX4_greatestPart_46 (by decide) ?_
          refine J_istore (pc := 50) (lv' := [some (.ref 0), some (.int st), some (.int wv), some (.int mv), some (.int kv), some (.int av), some (.int ov), some (.int 1), none]) dX4_greatestPart_50 (Nat.le_of_ble_eq_true rfl) rfl rfl ?_
          refine J_aload_n (pc := 52) dX4_greatestPart_52 rfl ?_
          refine J_iload (pc := 53) dX4_greatestPart_53 rfl ?_
          refine J_iload_n (pc := 55) dX4_greatestPart_55 rfl ?_
          refine J_aload_n (pc := 56) dX4_greatestPart_56 rfl ?_
          refine J_getR (pc := 57) 1 fF_X4_7 rfl rfl dX4_greatestPart_57 ?_
          refine J_iconst (pc := 60) (v := 5) dX4_greatestPart_60 (by decide) ?_
          refine J_ialdW (pc := 61) 5 (rfl) rfl (by decide) dX4_greatestPart_61 ?_
          refine J_callVz (pc := 62) fC_X4_79 rfl dX4_greatestPart_62 (c_X4_angerBy hc (k : Int) w ((m.1 1 5).toInt) hk hw rfl (by omega)) rfl ⟨Nat.le_of_ble_eq_true rfl, Nat.le_of_ble_eq_true rfl⟩ rfl (Nat.le_of_ble_eq_true rfl) (fun z62 e62 => ?_)
          refine J_aload_n (pc := 65) dX4_greatestPart_65 rfl ?_
          refine J_iload (pc := 66) dX4_greatestPart_66 rfl ?_
          refine J_iload_n (pc := 68) dX4_greatestPart_68 rfl ?_
          refine J_aload_n (pc := 69) dX4_greatestPart_69 rfl ?_
          refine J_getR (pc := 70) 1 fF_X4_7 rfl rfl dX4_greatestPart_70 ?_
          refine J_iconst (pc := 73) (v := 5) dX4_greatestPart_73 (by decide) ?_
          refine J_ialdW (pc := 74) 5 (rfl) rfl (by decide) dX4_greatestPart_74 ?_
          refine J_callVz (pc := 75) fC_X4_79 rfl dX4_greatestPart_75 (c_X4_angerBy hc (i : Int) w ((m.1 1 5).toInt) hi hw rfl (by omega)) rfl ⟨Nat.le_of_ble_eq_true rfl, Nat.le_of_ble_eq_true rfl⟩ rfl (Nat.le_of_ble_eq_true rfl) (fun z75 e75 => ?_)
          refine J_icmp_neW (pc := 78) (aZ (k : Int) w ((m.1 1 5).toInt)) (aZ (i : Int) w ((m.1 1 5).toInt)) e62 e75 114 dX4_greatestPart_78 (by decide) (fun h78 => ?_) (fun h78 => ?_)
          · refine J_iconst (pc := 114) (v := 0) dX4_greatestPart_114 (by decide) ?_
            refine J_istore (pc := 115) (lv' := [some (.ref 0), some (.int st), some (.int wv), some (.int mv), some (.int kv), some (.int av), some (.int ov), some (.int 1), some (.int 0)]) dX4_greatestPart_115 (Nat.le_of_ble_eq_true rfl) rfl rfl ?_
            refine J_iload (pc := 117) dX4_greatestPart_117 rfl ?_
            refine J_iload (pc := 119) dX4_greatestPart_119 rfl ?_
            refine J_if_eq_F (pc := 121) 133 dX4_greatestPart_121 (by decide) (by decide) ?_
            refine J_iload (pc := 124) dX4_greatestPart_124 rfl ?_
            refine J_if_eq_T (pc := 126) 133 dX4_greatestPart_126 (by decide) (by decide) ?_
            refine J_iconst (pc := 133) (v := 0) dX4_greatestPart_133 (by decide) ?_
            refine J_iaddW (pc := 134) s 0 ha rfl dX4_greatestPart_134 (by omega) (fun z134 e134 => ?_)
            refine J_istore (pc := 135) (lv' := [some (.ref 0), some (.int st), some (.int wv), some (.int mv), some (.int kv), some (.int z134), some (.int ov), some (.int 1), some (.int 0)]) dX4_greatestPart_135 (Nat.le_of_ble_eq_true rfl) rfl rfl ?_
            refine J_iincW' (pc := 137) (i : Int) hi (lv' := fun iq_ => [some (.ref 0), some (.int st), some (.int wv), some (.int mv), some (.int kv), some (.int z134), some (.int iq_), some (.int 1), some (.int 0)]) dX4_greatestPart_137 rfl (by omega) (by decide) (Nat.le_of_ble_eq_true rfl) rfl (fun _ => rfl) (fun z137 e137 => ?_)
            refine J_goto (pc := 140) 18 dX4_greatestPart_140 (by decide) ?_
            have hkv : kv = iZ (k : Int) := iZ_of hk
            have hov : ov = iZ (i : Int) := iZ_of hi
            refine J_lv' (lv' := [some (.ref 0), some (.int st), some (.int wv), some (.int mv), some (.int kv), some (.int z134), some (.int z137), none, none]) (by repeat' constructor) (ih (i + 1) z137 z134 s (by omega) (by omega) (by omega) (by omega) (fun av' hav' => ?_))
            have := hk2 av'
            rw [cntI] at this
            rw [if_neg (fun z => by
              have z1 := z.1.1
              have z2 := z.1.2
              unfold hasK at z1 z2
              rw [← hkv] at z1
              rw [← hov] at z2
              first
                | exact h78 z.2.1
                | exact h107 z.2.2
                | exact h32 z1
                | exact h42 z2)] at this
            exact this hav'
          · refine J_aload_n (pc := 81) dX4_greatestPart_81 rfl ?_
            refine J_iload (pc := 82) dX4_greatestPart_82 rfl ?_
            refine J_iload_n (pc := 84) dX4_greatestPart_84 rfl ?_
            refine J_aload_n (pc := 85) dX4_greatestPart_85 rfl ?_
            refine J_getR (pc := 86) 1 fF_X4_7 rfl rfl dX4_greatestPart_86 ?_
            refine J_iconst (pc := 89) (v := 5) dX4_greatestPart_89 (by decide) ?_
            refine J_ialdW (pc := 90) 5 (rfl) rfl (by decide) dX4_greatestPart_90 ?_
            refine J_callVz (pc := 91) fC_X4_86 rfl dX4_greatestPart_91 (c_X4_prideBy hc (k : Int) w ((m.1 1 5).toInt) hk hw rfl (by omega)) rfl ⟨Nat.le_of_ble_eq_true rfl, Nat.le_of_ble_eq_true rfl⟩ rfl (Nat.le_of_ble_eq_true rfl) (fun z91 e91 => ?_)
            refine J_aload_n (pc := 94) dX4_greatestPart_94 rfl ?_
            refine J_iload (pc := 95) dX4_greatestPart_95 rfl ?_
            refine J_iload_n (pc := 97) dX4_greatestPart_97 rfl ?_
            refine J_aload_n (pc := 98) dX4_greatestPart_98 rfl ?_
            refine J_getR (pc := 99) 1 fF_X4_7 rfl rfl dX4_greatestPart_99 ?_
            refine J_iconst (pc := 102) (v := 5) dX4_greatestPart_102 (by decide) ?_
            refine J_ialdW (pc := 103) 5 (rfl) rfl (by decide) dX4_greatestPart_103 ?_
            refine J_callVz (pc := 104) fC_X4_86 rfl dX4_greatestPart_104 (c_X4_prideBy hc (i : Int) w ((m.1 1 5).toInt) hi hw rfl (by omega)) rfl ⟨Nat.le_of_ble_eq_true rfl, Nat.le_of_ble_eq_true rfl⟩ rfl (Nat.le_of_ble_eq_true rfl) (fun z104 e104 => ?_)
            refine J_icmp_neW (pc := 107) (pZ (k : Int) w ((m.1 1 5).toInt)) (pZ (i : Int) w ((m.1 1 5).toInt)) e91 e104 114 dX4_greatestPart_107 (by decide) (fun h107 => ?_) (fun h107 => ?_)
            · refine J_iconst (pc := 114) (v := 0) dX4_greatestPart_114 (by decide) ?_
              refine J_istore (pc := 115) (lv' := [some (.ref 0), some (.int st), some (.int wv), some (.int mv), some (.int kv), some (.int av), some (.int ov), some (.int 1), some (.int 0)]) dX4_greatestPart_115 (Nat.le_of_ble_eq_true rfl) rfl rfl ?_
              refine J_iload (pc := 117) dX4_greatestPart_117 rfl ?_
              refine J_iload (pc := 119) dX4_greatestPart_119 rfl ?_
              refine J_if_eq_F (pc := 121) 133 dX4_greatestPart_121 (by decide) (by decide) ?_
              refine J_iload (pc := 124) dX4_greatestPart_124 rfl ?_
              refine J_if_eq_T (pc := 126) 133 dX4_greatestPart_126 (by decide) (by decide) ?_
              refine J_iconst (pc := 133) (v := 0) dX4_greatestPart_133 (by decide) ?_
              refine J_iaddW (pc := 134) s 0 ha rfl dX4_greatestPart_134 (by omega) (fun z134 e134 => ?_)
              refine J_istore (pc := 135) (lv' := [some (.ref 0), some (.int st), some (.int wv), some (.int mv), some (.int kv), some (.int z134), some (.int ov), some (.int 1), some (.int 0)]) dX4_greatestPart_135 (Nat.le_of_ble_eq_true rfl) rfl rfl ?_
              refine J_iincW' (pc := 137) (i : Int) hi (lv' := fun iq_ => [some (.ref 0), some (.int st), some (.int wv), some (.int mv), some (.int kv), some (.int z134), some (.int iq_), some (.int 1), some (.int 0)]) dX4_greatestPart_137 rfl (by omega) (by decide) (Nat.le_of_ble_eq_true rfl) rfl (fun _ => rfl) (fun z137 e137 => ?_)
              refine J_goto (pc := 140) 18 dX4_greatestPart_140 (by decide) ?_
              have hkv : kv = iZ (k : Int) := iZ_of hk
              have hov : ov = iZ (i : Int) := iZ_of hi
              refine J_lv' (lv' := [some (.ref 0), some (.int st), some (.int wv), some (.int mv), some (.int kv), some (.int z134), some (.int z137), none, none]) (by repeat' constructor) (ih (i + 1) z137 z134 s (by omega) (by omega) (by omega) (by omega) (fun av' hav' => ?_))
              have := hk2 av'
              rw [cntI] at this
              rw [if_neg (fun z => by
                have z1 := z.1.1
                have z2 := z.1.2
                unfold hasK at z1 z2
                rw [← hkv] at z1
                rw [← hov] at z2
                first
                  | exact h78 z.2.1
                  | exact h107 z.2.2
                  | exact h32 z1
                  | exact h42 z2)] at this
              exact this hav'
            · refine J_iconst (pc := 110) (v := 1) dX4_greatestPart_110 (by decide) ?_
              refine J_goto (pc := 111) 115 dX4_greatestPart_111 (by decide) ?_
              refine J_istore (pc := 115) (lv' := [some (.ref 0), some (.int st), some (.int wv), some (.int mv), some (.int kv), some (.int av), some (.int ov), some (.int 1), some (.int 1)]) dX4_greatestPart_115 (Nat.le_of_ble_eq_true rfl) rfl rfl ?_
              refine J_iload (pc := 117) dX4_greatestPart_117 rfl ?_
              refine J_iload (pc := 119) dX4_greatestPart_119 rfl ?_
              refine J_if_eq_F (pc := 121) 133 dX4_greatestPart_121 (by decide) (by decide) ?_
              refine J_iload (pc := 124) dX4_greatestPart_124 rfl ?_
              refine J_if_eq_F (pc := 126) 133 dX4_greatestPart_126 (by decide) (by decide) ?_
              refine J_iconst (pc := 129) (v := 1) dX4_greatestPart_129 (by decide) ?_
              refine J_goto (pc := 130) 134 dX4_greatestPart_130 (by decide) ?_
              refine J_iaddW (pc := 134) s 1 ha rfl dX4_greatestPart_134 (by omega) (fun z134 e134 => ?_)
              refine J_istore (pc := 135) (lv' := [some (.ref 0), some (.int st), some (.int wv), some (.int mv), some (.int kv), some (.int z134), some (.int ov), some (.int 1), some (.int 1)]) dX4_greatestPart_135 (Nat.le_of_ble_eq_true rfl) rfl rfl ?_
              refine J_iincW' (pc := 137) (i : Int) hi (lv' := fun iq_ => [some (.ref 0), some (.int st), some (.int wv), some (.int mv), some (.int kv), some (.int z134), some (.int iq_), some (.int 1), some (.int 1)]) dX4_greatestPart_137 rfl (by omega) (by decide) (Nat.le_of_ble_eq_true rfl) rfl (fun _ => rfl) (fun z137 e137 => ?_)
              refine J_goto (pc := 140) 18 dX4_greatestPart_140 (by decide) ?_
              have hkv : kv = iZ (k : Int) := iZ_of hk
              have hov : ov = iZ (i : Int) := iZ_of hi
              refine J_lv' (lv' := [some (.ref 0), some (.int st), some (.int wv), some (.int mv), some (.int kv), some (.int z134), some (.int z137), none, none]) (by repeat' constructor) (ih (i + 1) z137 z134 (s + 1) (by omega) (by omega) (by omega) (by omega) (fun av' hav' => ?_))
              have := hk2 av'
              rw [cntI] at this
              rw [if_pos ⟨⟨by unfold hasK; rw [← hkv]; exact h32, by unfold hasK; rw [← hov]; exact h42⟩, h78, h107⟩] at this
              exact this hav'
set_option maxRecDepth 100000 in
set_option maxHeartbeats 4000000 in
theorem l_n_most {m : JM} (hc : constM m) (h5 : 0 ≤ (m.1 1 5).toInt) {st wv : Int32} {w : Int} (hw : wv.toInt = w) (hq : 0 ≤ w ∧ w ≤ 5)  : ∀ d : Nat, ∀ (k : Nat) (kv mv : Int32) (s : Int), k + d = 6 → kv.toInt = (k : Int) → mv.toInt = s → J G shM mX4_greatestPart 5 [some (.ref 0), some (.int st), some (.int wv), some (.int mv), some (.int kv), none, none, none, none] [] m (j_z (mostI st w (m.1 1 5).toInt d k s) m) := by
  intro d
  induction d with
  | zero =>
    intro k kv mv s hd hk hm
    refine J_iload (pc := 5) dX4_greatestPart_5 rfl ?_
    refine J_bipush (pc := 7) (v := 6) dX4_greatestPart_7 (by decide) ?_
    refine J_icmp_geW (pc := 9) (k : Int) 6 hk rfl 162 dX4_greatestPart_9 (by decide) (fun h9 => ?_) (fun h9 => ?_)
    · refine J_iload_n (pc := 162) dX4_greatestPart_162 rfl ?_
      refine J_iret (pc := 163) dX4_greatestPart_163 rfl ?_
      exact ⟨⟨_, rfl, hm⟩, rfl⟩
    · exfalso; omega
  | succ d ih =>
    intro k kv mv s hd hk hm
    refine J_iload (pc := 5) dX4_greatestPart_5 rfl ?_
    refine J_bipush (pc := 7) (v := 6) dX4_greatestPart_7 (by decide) ?_
    refine J_icmp_geW (pc := 9) (k : Int) 6 hk rfl 162 dX4_greatestPart_9 (by decide) (fun h9 => ?_) (fun h9 => ?_)
    · exfalso; omega
    · refine J_iconst (pc := 12) (v := 0) dX4_greatestPart_12 (by decide) ?_
      refine J_istore (pc := 13) (lv' := [some (.ref 0), some (.int st), some (.int wv), some (.int mv), some (.int kv), some (.int 0), none, none, none]) dX4_greatestPart_13 (Nat.le_of_ble_eq_true rfl) rfl rfl ?_
      refine J_iconst (pc := 15) (v := 0) dX4_greatestPart_15 (by decide) ?_
      refine J_istore (pc := 16) (lv' := [some (.ref 0), some (.int st), some (.int wv), some (.int mv), some (.int kv), some (.int 0), some (.int 0), none, none]) dX4_greatestPart_16 (Nat.le_of_ble_eq_true rfl) rfl rfl ?_
      refine J_lv' (lv' := [some (.ref 0), some (.int st), some (.int wv), some (.int mv), some (.int kv), some (.int 0), some (.int 0), none, none]) (by repeat' constructor) ?_
      refine l_n_cnt hc h5 hw hq hk 6 0 0 0 0 rfl rfl rfl (by omega) (fun av' hav' => ?_)
      refine J_iload (pc := 143) dX4_greatestPart_143 rfl ?_
      refine J_iload_n (pc := 145) dX4_greatestPart_145 rfl ?_
      refine J_icmp_leW (pc := 146) (cntI st k w (m.1 1 5).toInt 6 0 0) s hav' hm 154 dX4_greatestPart_146 (by decide) (fun h146 => ?_) (fun h146 => ?_)
      · refine J_iload_n (pc := 154) dX4_greatestPart_154 rfl ?_
        refine J_istore_n (pc := 155) (lv' := [some (.ref 0), some (.int st), some (.int wv), some (.int mv), some (.int kv), some (.int av'), none, none, none]) dX4_greatestPart_155 (Nat.le_of_ble_eq_true rfl) rfl rfl ?_
        refine J_iincW' (pc := 156) (k : Int) hk (lv' := fun iq_ => [some (.ref 0), some (.int st), some (.int wv), some (.int mv), some (.int iq_), some (.int av'), none, none, none]) dX4_greatestPart_156 rfl (by omega) (by decide) (Nat.le_of_ble_eq_true rfl) rfl (fun _ => rfl) (fun z156 e156 => ?_)
        refine J_goto (pc := 159) 5 dX4_greatestPart_159 (by decide) ?_
        refine J_lv' (lv' := [some (.ref 0), some (.int st), some (.int wv), some (.int mv), some (.int z156), none, none, none, none]) (by repeat' constructor) (J_mono (ih (k + 1) z156 mv (if s < cntI st k w (m.1 1 5).toInt 6 0 0 then cntI st k w (m.1 1 5).toInt 6 0 0 else s) (by omega) (by omega) (by rw [if_neg (by omega)]; exact hm)) (fun v μ' hh => ⟨?_, hh.2⟩))
        rw [mostI]
        exact hh.1
      · refine J_iload (pc := 149) dX4_greatestPart_149 rfl ?_
        refine J_goto (pc := 151) 155 dX4_greatestPart_151 (by decide) ?_
        refine J_istore_n (pc := 155) (lv' := [some (.ref 0), some (.int st), some (.int wv), some (.int av'), some (.int kv), some (.int av'), none, none, none]) dX4_greatestPart_155 (Nat.le_of_ble_eq_true rfl) rfl rfl ?_
        refine J_iincW' (pc := 156) (k : Int) hk (lv' := fun iq_ => [some (.ref 0), some (.int st), some (.int wv), some (.int av'), some (.int iq_), some (.int av'), none, none, none]) dX4_greatestPart_156 rfl (by omega) (by decide) (Nat.le_of_ble_eq_true rfl) rfl (fun _ => rfl) (fun z156 e156 => ?_)
        refine J_goto (pc := 159) 5 dX4_greatestPart_159 (by decide) ?_
        refine J_lv' (lv' := [some (.ref 0), some (.int st), some (.int wv), some (.int av'), some (.int z156), none, none, none, none]) (by repeat' constructor) (J_mono (ih (k + 1) z156 av' (if s < cntI st k w (m.1 1 5).toInt 6 0 0 then cntI st k w (m.1 1 5).toInt 6 0 0 else s) (by omega) (by omega) (by rw [if_pos (by omega)]; exact hav')) (fun v μ' hh => ⟨?_, hh.2⟩))
        rw [mostI]
        exact hh.1
set_option maxRecDepth 100000 in
set_option maxHeartbeats 4000000 in
theorem c_X4_greatestPart {m : JM} (hc : constM m) (h5 : 0 ≤ (m.1 1 5).toInt) {st wv : Int32} (w : Int) (hw : wv.toInt = w) (hq : 0 ≤ w ∧ w ≤ 5) : Con G shM mX4_greatestPart [.ref 0, .int st, .int wv] m (j_z (mostI st w (m.1 1 5).toInt 6 0 0) m) := by
  refine Con_of [some (.ref 0), some (.int st), some (.int wv), none, none, none, none, none, none] (by decide +kernel) (Nat.le_of_ble_eq_true rfl) (fun _ h => h) ?_
  refine J_iconst (pc := 0) (v := 0) dX4_greatestPart_0 (by decide) ?_
  refine J_istore_n (pc := 1) (lv' := [some (.ref 0), some (.int st), some (.int wv), some (.int 0), none, none, none, none, none]) dX4_greatestPart_1 (Nat.le_of_ble_eq_true rfl) rfl rfl ?_
  refine J_iconst (pc := 2) (v := 0) dX4_greatestPart_2 (by decide) ?_
  refine J_istore (pc := 3) (lv' := [some (.ref 0), some (.int st), some (.int wv), some (.int 0), some (.int 0), none, none, none, none]) dX4_greatestPart_3 (Nat.le_of_ble_eq_true rfl) rfl rfl ?_
  exact J_lv' (lv' := [some (.ref 0), some (.int st), some (.int wv), some (.int 0), some (.int 0), none, none, none, none]) (by repeat' constructor) (l_n_most hc h5 hw hq 6 0 0 0 0 rfl rfl rfl)
noncomputable def nxI (st : Int32) (n : Int) : Nat → Nat → Nat → Nat
  | 0, _, b => b
  | d + 1, w, b => nxI st n d (w + 1) (if mostI st (w : Int) n 6 0 0 < mostI st (b : Int) n 6 0 0 then w else b)
theorem nxI_le {st : Int32} {n : Int} : ∀ (d w b : Nat), w + d = 6 → b < w → nxI st n d w b < 6 := by
  intro d
  induction d with
  | zero => intro w b h1 h2; rw [nxI]; omega
  | succ d ih =>
    intro w b h1 h2
    rw [nxI]
    exact ih _ _ (by omega) (by split <;> omega)
set_option maxRecDepth 100000 in
set_option maxHeartbeats 4000000 in
theorem l_k_next {c : JM} {n : Int} (h4 : (c.1 1 4).toInt = n) (hn0 : 0 ≤ n) {st : Int32} (hst : st.toInt ≠ 0) : ∀ d : Nat, ∀ (i b : Nat) (iv bv fv : Int32), i + d = 6 → iv.toInt = (i : Int) → bv.toInt = (b : Int) → b < i → fv.toInt = mostI st (b : Int) n 6 0 0 → b < 6 → J G shC mX3_next 13 [some (.ref 0), some (.int st), some (.int bv), some (.int fv), some (.int iv), none] [] c (fun v μ' => IsZ v (nxI st n d i b : Int) ∧ μ' = c) := by
  intro d
  induction d with
  | zero =>
    intro i b iv bv fv hd hi hb hbi hf hb6
    refine J_iload (pc := 13) dX3_next_13 rfl ?_
    refine J_bipush (pc := 15) (v := 6) dX3_next_15 (by decide) ?_
    refine J_icmp_geW (pc := 17) (i : Int) 6 hi rfl 57 dX3_next_17 (by decide) (fun h17 => ?_) (fun h17 => ?_)
    · refine J_iload_n (pc := 57) dX3_next_57 rfl ?_
      refine J_iret (pc := 58) dX3_next_58 rfl ?_
      exact ⟨⟨_, rfl, hb⟩, rfl⟩
    · exfalso; omega
  | succ d ih =>
    intro i b iv bv fv hd hi hb hbi hf hb6
    refine J_iload (pc := 13) dX3_next_13 rfl ?_
    refine J_bipush (pc := 15) (v := 6) dX3_next_15 (by decide) ?_
    refine J_icmp_geW (pc := 17) (i : Int) 6 hi rfl 57 dX3_next_17 (by decide) (fun h17 => ?_) (fun h17 => ?_)
    · exfalso; omega
    · refine J_iload_n (pc := 20) dX3_next_20 rfl ?_
      refine J_if_eqW (pc := 21) st.toInt rfl 57 dX3_next_21 (by decide) (fun h21 => ?_) (fun h21 => ?_)
      · exact absurd h21 hst
      · refine J_iload_n (pc := 24) dX3_next_24 rfl ?_
        refine J_iload (pc := 25) dX3_next_25 rfl ?_
        refine J_aload_n (pc := 27) dX3_next_27 rfl ?_
        refine J_getR (pc := 28) 1 fF_X3_12 rfl rfl dX3_next_28 ?_
        refine J_getI (pc := 31) fF_X3_68 rfl rfl dX3_next_31 ?_
        refine J_callSz (pc := 34) fC_X3_192 dX3_next_34 (c_X3_mostAlike (i : Int) n hi h4 (by omega)) rfl ⟨Nat.le_of_ble_eq_true rfl, Nat.le_of_ble_eq_true rfl⟩ rfl (Nat.le_of_ble_eq_true rfl) (fun z34 e34 => ?_)
        refine J_istore (pc := 37) (lv' := [some (.ref 0), some (.int st), some (.int bv), some (.int fv), some (.int iv), some (.int z34)]) dX3_next_37 (Nat.le_of_ble_eq_true rfl) rfl rfl ?_
        refine J_iload (pc := 39) dX3_next_39 rfl ?_
        refine J_iload_n (pc := 41) dX3_next_41 rfl ?_
        refine J_icmp_geW (pc := 42) (mostI st (i : Int) n 6 0 0) (mostI st (b : Int) n 6 0 0) e34 hf 51 dX3_next_42 (by decide) (fun h42 => ?_) (fun h42 => ?_)
        · refine J_iincW' (pc := 51) (i : Int) hi (lv' := fun iq_ => [some (.ref 0), some (.int st), some (.int bv), some (.int fv), some (.int iq_), some (.int z34)]) dX3_next_51 rfl (by omega) (by decide) (Nat.le_of_ble_eq_true rfl) rfl (fun _ => rfl) (fun z51 e51 => ?_)
          refine J_goto (pc := 54) 13 dX3_next_54 (by decide) ?_
          refine J_lv' (lv' := [some (.ref 0), some (.int st), some (.int bv), some (.int fv), some (.int z51), none]) (by repeat' constructor) (J_mono (ih (i + 1) b z51 bv fv (by omega) (by omega) (by omega) (by omega) (by omega) (by omega)) (fun v μ' hh => ⟨?_, hh.2⟩))
          rw [nxI, if_neg (by omega)]
          exact hh.1
        · refine J_iload (pc := 45) dX3_next_45 rfl ?_
          refine J_istore_n (pc := 47) (lv' := [some (.ref 0), some (.int st), some (.int bv), some (.int z34), some (.int iv), some (.int z34)]) dX3_next_47 (Nat.le_of_ble_eq_true rfl) rfl rfl ?_
          refine J_iload (pc := 48) dX3_next_48 rfl ?_
          refine J_istore_n (pc := 50) (lv' := [some (.ref 0), some (.int st), some (.int iv), some (.int z34), some (.int iv), some (.int z34)]) dX3_next_50 (Nat.le_of_ble_eq_true rfl) rfl rfl ?_
          refine J_iincW' (pc := 51) (i : Int) hi (lv' := fun iq_ => [some (.ref 0), some (.int st), some (.int iv), some (.int z34), some (.int iq_), some (.int z34)]) dX3_next_51 rfl (by omega) (by decide) (Nat.le_of_ble_eq_true rfl) rfl (fun _ => rfl) (fun z51 e51 => ?_)
          refine J_goto (pc := 54) 13 dX3_next_54 (by decide) ?_
          refine J_lv' (lv' := [some (.ref 0), some (.int st), some (.int iv), some (.int z34), some (.int z51), none]) (by repeat' constructor) (J_mono (ih (i + 1) i z51 iv z34 (by omega) (by omega) (by omega) (by omega) (by omega) (by omega)) (fun v μ' hh => ⟨?_, hh.2⟩))
          rw [nxI, if_pos (by omega)]
          exact hh.1
theorem isI_x {m : JM} : ∃ st : Int32, st = isI (m.1 1) (m.1 1 15).toInt.toNat 6 0 0 := ⟨_, rfl⟩
set_option maxRecDepth 100000 in
set_option maxHeartbeats 4000000 in
theorem k_next {N : Int} {c m : JM} (h : Inv N c m) (hN : 150 ≤ N ∧ N < 100000)  : Con G shC mX3_next [.ref 0] c (fun v μ' => IsZ v (if (isI (m.1 1) (m.1 1 15).toInt.toNat 6 0 0).toInt = 0 then -1 else (nxI (isI (m.1 1) (m.1 1 15).toInt.toNat 6 0 0) (m.1 1 5).toInt 5 1 0 : Int)) ∧ μ' = c) := by
  obtain ⟨q0, q1, q2, q3, q4, q5, q6⟩ := Inv_q h
  obtain ⟨r0, r1, r2, r3, r4, r5, r6, r15, r40, r9⟩ := Inv_r h
  have hc := h.1
  have qt : (c.1 21 1).toInt = (m.1 0 9).toInt := by rw [h.2.2.2.2.1.1]
  have qs0 : (c.1 0 8).toInt = (m.1 4 0).toInt := by rw [h.2.2.2.2.2.2.1]
  have qs1 : (c.1 0 9).toInt = (m.1 4 1).toInt := by rw [h.2.2.2.2.2.2.2.1]
  have qs2 : (c.1 0 10).toInt = (m.1 4 2).toInt := by rw [h.2.2.2.2.2.2.2.2]
  refine Con_of [some (.ref 0), none, none, none, none, none] (by decide +kernel) (Nat.le_of_ble_eq_true rfl) (fun _ h => h) ?_
  refine J_aload_n (pc := 0) dX3_next_0 rfl ?_
  refine J_callVi (pc := 1) fC_X3_188 rfl dX3_next_1 (k_is h hN) rfl ⟨Nat.le_of_ble_eq_true rfl, Nat.le_of_ble_eq_true rfl⟩ rfl (Nat.le_of_ble_eq_true rfl) (fun z1 d1 => ?_)
  refine J_istore_n (pc := 4) (lv' := [some (.ref 0), some (.int z1), none, none, none, none]) dX3_next_4 (Nat.le_of_ble_eq_true rfl) rfl rfl ?_
  refine J_iconst (pc := 5) (v := (-1)) dX3_next_5 (by decide) ?_
  refine J_istore_n (pc := 6) (lv' := [some (.ref 0), some (.int z1), some (.int (-1)), none, none, none]) dX3_next_6 (Nat.le_of_ble_eq_true rfl) rfl rfl ?_
  refine J_bipush (pc := 7) (v := 7) dX3_next_7 (by decide) ?_
  refine J_istore_n (pc := 9) (lv' := [some (.ref 0), some (.int z1), some (.int (-1)), some (.int 7), none, none]) dX3_next_9 (Nat.le_of_ble_eq_true rfl) rfl rfl ?_
  refine J_iconst (pc := 10) (v := 0) dX3_next_10 (by decide) ?_
  refine J_istore (pc := 11) (lv' := [some (.ref 0), some (.int z1), some (.int (-1)), some (.int 7), some (.int 0), none]) dX3_next_11 (Nat.le_of_ble_eq_true rfl) rfl rfl ?_
  obtain ⟨st, hst⟩ := isI_x (m := m)
  rw [← hst] at d1 ⊢
  subst d1
  by_cases hz : z1 = 0
  · refine J_iload (pc := 13) dX3_next_13 rfl ?_
    refine J_bipush (pc := 15) (v := 6) dX3_next_15 (by decide) ?_
    refine J_icmp_ge_F (pc := 17) 57 dX3_next_17 (by decide) (by decide) ?_
    refine J_iload_n (pc := 20) dX3_next_20 rfl ?_
    refine J_if_eq_T (pc := 21) 57 dX3_next_21 (by decide) (hz) ?_
    refine J_iload_n (pc := 57) dX3_next_57 rfl ?_
    refine J_iret (pc := 58) dX3_next_58 rfl ?_
    exact ⟨⟨_, rfl, by rw [hz, if_pos z0]; rfl⟩, rfl⟩
  · refine J_iload (pc := 13) dX3_next_13 rfl ?_
    refine J_bipush (pc := 15) (v := 6) dX3_next_15 (by decide) ?_
    refine J_icmp_ge_F (pc := 17) 57 dX3_next_17 (by decide) (by decide) ?_
    refine J_iload_n (pc := 20) dX3_next_20 rfl ?_
    refine J_if_eq_F (pc := 21) 57 dX3_next_21 (by decide) (hz) ?_
    refine J_iload_n (pc := 24) dX3_next_24 rfl ?_
    refine J_iload (pc := 25) dX3_next_25 rfl ?_
    refine J_aload_n (pc := 27) dX3_next_27 rfl ?_
    refine J_getR (pc := 28) 1 fF_X3_12 rfl rfl dX3_next_28 ?_
    refine J_getI (pc := 31) fF_X3_68 rfl rfl dX3_next_31 ?_
    refine J_callSz (pc := 34) fC_X3_192 dX3_next_34 (c_X3_mostAlike 0 (m.1 1 5).toInt rfl q4 (by omega)) rfl ⟨Nat.le_of_ble_eq_true rfl, Nat.le_of_ble_eq_true rfl⟩ rfl (Nat.le_of_ble_eq_true rfl) (fun z34 e34 => ?_)
    refine J_istore (pc := 37) (lv' := [some (.ref 0), some (.int z1), some (.int (-1)), some (.int 7), some (.int 0), some (.int z34)]) dX3_next_37 (Nat.le_of_ble_eq_true rfl) rfl rfl ?_
    refine J_iload (pc := 39) dX3_next_39 rfl ?_
    refine J_iload_n (pc := 41) dX3_next_41 rfl ?_
    refine J_icmp_geW (pc := 42) (mostI z1 0 (m.1 1 5).toInt 6 0 0) 7 e34 rfl 51 dX3_next_42 (by decide) (fun h42 => ?_) (fun h42 => ?_)
    · refine J_iincW' (pc := 51) 0 rfl (lv' := fun iq_ => [some (.ref 0), some (.int z1), some (.int (-1)), some (.int 7), some (.int iq_), some (.int z34)]) dX3_next_51 rfl (by omega) (by decide) (Nat.le_of_ble_eq_true rfl) rfl (fun _ => rfl) (fun z51 e51 => ?_)
      refine J_goto (pc := 54) 13 dX3_next_54 (by decide) ?_
      exfalso
      have := mostI_le (st := z1) (w := 0) (n := (m.1 1 5).toInt) 6 0 0 (by omega)
      omega
    · refine J_iload (pc := 45) dX3_next_45 rfl ?_
      refine J_istore_n (pc := 47) (lv' := [some (.ref 0), some (.int z1), some (.int (-1)), some (.int z34), some (.int 0), some (.int z34)]) dX3_next_47 (Nat.le_of_ble_eq_true rfl) rfl rfl ?_
      refine J_iload (pc := 48) dX3_next_48 rfl ?_
      refine J_istore_n (pc := 50) (lv' := [some (.ref 0), some (.int z1), some (.int 0), some (.int z34), some (.int 0), some (.int z34)]) dX3_next_50 (Nat.le_of_ble_eq_true rfl) rfl rfl ?_
      refine J_iincW' (pc := 51) 0 rfl (lv' := fun iq_ => [some (.ref 0), some (.int z1), some (.int 0), some (.int z34), some (.int iq_), some (.int z34)]) dX3_next_51 rfl (by omega) (by decide) (Nat.le_of_ble_eq_true rfl) rfl (fun _ => rfl) (fun z51 e51 => ?_)
      refine J_goto (pc := 54) 13 dX3_next_54 (by decide) ?_
      refine J_lv' (lv' := [some (.ref 0), some (.int z1), some (.int 0), some (.int z34), some (.int z51), none]) (by repeat' constructor) (J_mono (l_k_next (n := (m.1 1 5).toInt) q4 r5.1 (st := z1) (fun z => hz (z_eq z)) 5 1 0 z51 0 z34 rfl (by omega) rfl (by decide) e34 (by decide)) (fun v μ' hh => ⟨?_, hh.2⟩))
      rw [if_neg (show ¬ z1.toInt = 0 from fun z => hz (z_eq (z.trans z0.symm)))]
      exact hh.1
set_option maxRecDepth 100000 in
set_option maxHeartbeats 4000000 in
theorem l_n_next {m : JM} (hc : constM m) (h5 : 0 ≤ (m.1 1 5).toInt) {st : Int32} : ∀ d : Nat, ∀ (i b : Nat) (iv bv : Int32), i + d = 6 → iv.toInt = (i : Int) → bv.toInt = (b : Int) → b < i → J G shM mX4_next 15 [some (.ref 0), some (.int st), some (.int bv), some (.int iv)] [] m (fun v μ' => IsZ v (nxI st (m.1 1 5).toInt d i b : Int) ∧ μ' = m) := by
  intro d
  induction d with
  | zero =>
    intro i b iv bv hd hi hb hbi
    refine J_iload_n (pc := 15) dX4_next_15 rfl ?_
    refine J_bipush (pc := 16) (v := 6) dX4_next_16 (by decide) ?_
    refine J_icmp_geW (pc := 18) (i : Int) 6 hi rfl 48 dX4_next_18 (by decide) (fun h18 => ?_) (fun h18 => ?_)
    · refine J_iload_n (pc := 48) dX4_next_48 rfl ?_
      refine J_iret (pc := 49) dX4_next_49 rfl ?_
      exact ⟨⟨_, rfl, hb⟩, rfl⟩
    · exfalso; omega
  | succ d ih =>
    intro i b iv bv hd hi hb hbi
    refine J_iload_n (pc := 15) dX4_next_15 rfl ?_
    refine J_bipush (pc := 16) (v := 6) dX4_next_16 (by decide) ?_
    refine J_icmp_geW (pc := 18) (i : Int) 6 hi rfl 48 dX4_next_18 (by decide) (fun h18 => ?_) (fun h18 => ?_)
    · exfalso; omega
    · refine J_aload_n (pc := 21) dX4_next_21 rfl ?_
      refine J_iload_n (pc := 22) dX4_next_22 rfl ?_
      refine J_iload_n (pc := 23) dX4_next_23 rfl ?_
      refine J_callVz (pc := 24) fC_X4_229 rfl dX4_next_24 (c_X4_greatestPart hc h5 (i : Int) hi (by omega)) rfl ⟨Nat.le_of_ble_eq_true rfl, Nat.le_of_ble_eq_true rfl⟩ rfl (Nat.le_of_ble_eq_true rfl) (fun z24 e24 => ?_)
      refine J_aload_n (pc := 27) dX4_next_27 rfl ?_
      refine J_iload_n (pc := 28) dX4_next_28 rfl ?_
      refine J_iload_n (pc := 29) dX4_next_29 rfl ?_
      refine J_callVz (pc := 30) fC_X4_229 rfl dX4_next_30 (c_X4_greatestPart hc h5 (b : Int) hb (by omega)) rfl ⟨Nat.le_of_ble_eq_true rfl, Nat.le_of_ble_eq_true rfl⟩ rfl (Nat.le_of_ble_eq_true rfl) (fun z30 e30 => ?_)
      refine J_icmp_geW (pc := 33) (mostI st (i : Int) (m.1 1 5).toInt 6 0 0) (mostI st (b : Int) (m.1 1 5).toInt 6 0 0) e24 e30 40 dX4_next_33 (by decide) (fun h33 => ?_) (fun h33 => ?_)
      · refine J_iload_n (pc := 40) dX4_next_40 rfl ?_
        refine J_istore_n (pc := 41) (lv' := [some (.ref 0), some (.int st), some (.int bv), some (.int iv)]) dX4_next_41 (Nat.le_of_ble_eq_true rfl) rfl rfl ?_
        refine J_iincW' (pc := 42) (i : Int) hi (lv' := fun iq_ => [some (.ref 0), some (.int st), some (.int bv), some (.int iq_)]) dX4_next_42 rfl (by omega) (by decide) (Nat.le_of_ble_eq_true rfl) rfl (fun _ => rfl) (fun z42 e42 => ?_)
        refine J_goto (pc := 45) 15 dX4_next_45 (by decide) ?_
        refine J_mono (ih (i + 1) b z42 bv (by omega) (by omega) (by omega) (by omega)) (fun v μ' hh => ⟨?_, hh.2⟩)
        rw [nxI, if_neg (by omega)]
        exact hh.1
      · refine J_iload_n (pc := 36) dX4_next_36 rfl ?_
        refine J_goto (pc := 37) 41 dX4_next_37 (by decide) ?_
        refine J_istore_n (pc := 41) (lv' := [some (.ref 0), some (.int st), some (.int iv), some (.int iv)]) dX4_next_41 (Nat.le_of_ble_eq_true rfl) rfl rfl ?_
        refine J_iincW' (pc := 42) (i : Int) hi (lv' := fun iq_ => [some (.ref 0), some (.int st), some (.int iv), some (.int iq_)]) dX4_next_42 rfl (by omega) (by decide) (Nat.le_of_ble_eq_true rfl) rfl (fun _ => rfl) (fun z42 e42 => ?_)
        refine J_goto (pc := 45) 15 dX4_next_45 (by decide) ?_
        refine J_mono (ih (i + 1) i z42 iv (by omega) (by omega) (by omega) (by omega)) (fun v μ' hh => ⟨?_, hh.2⟩)
        rw [nxI, if_pos (by omega)]
        exact hh.1
set_option maxRecDepth 100000 in
set_option maxHeartbeats 4000000 in
theorem n_next {N : Int} {c m : JM} (h : Inv N c m) (hN : 150 ≤ N ∧ N < 100000)  : Con G shM mX4_next [.ref 0] m (fun v μ' => IsZ v (if (isI (m.1 1) (m.1 1 15).toInt.toNat 6 0 0).toInt = 0 then -1 else (nxI (isI (m.1 1) (m.1 1 15).toInt.toNat 6 0 0) (m.1 1 5).toInt 5 1 0 : Int)) ∧ μ' = m) := by
  obtain ⟨q0, q1, q2, q3, q4, q5, q6⟩ := Inv_q h
  obtain ⟨r0, r1, r2, r3, r4, r5, r6, r15, r40, r9⟩ := Inv_r h
  have hc := h.1
  have qt : (c.1 21 1).toInt = (m.1 0 9).toInt := by rw [h.2.2.2.2.1.1]
  have qs0 : (c.1 0 8).toInt = (m.1 4 0).toInt := by rw [h.2.2.2.2.2.2.1]
  have qs1 : (c.1 0 9).toInt = (m.1 4 1).toInt := by rw [h.2.2.2.2.2.2.2.1]
  have qs2 : (c.1 0 10).toInt = (m.1 4 2).toInt := by rw [h.2.2.2.2.2.2.2.2]
  refine Con_of [some (.ref 0), none, none, none] (by decide +kernel) (Nat.le_of_ble_eq_true rfl) (fun _ h => h) ?_
  refine J_aload_n (pc := 0) dX4_next_0 rfl ?_
  refine J_callVi (pc := 1) fC_X4_226 rfl dX4_next_1 (c_X4_kindsThatFit h hN) rfl ⟨Nat.le_of_ble_eq_true rfl, Nat.le_of_ble_eq_true rfl⟩ rfl (Nat.le_of_ble_eq_true rfl) (fun z1 d1 => ?_)
  refine J_istore_n (pc := 4) (lv' := [some (.ref 0), some (.int z1), none, none]) dX4_next_4 (Nat.le_of_ble_eq_true rfl) rfl rfl ?_
  refine J_iload_n (pc := 5) dX4_next_5 rfl ?_
  refine J_if_neW (pc := 6) z1.toInt rfl 11 dX4_next_6 (by decide) (fun h6 => ?_) (fun h6 => ?_)
  · refine J_iconst (pc := 11) (v := 0) dX4_next_11 (by decide) ?_
    refine J_istore_n (pc := 12) (lv' := [some (.ref 0), some (.int z1), some (.int 0), none]) dX4_next_12 (Nat.le_of_ble_eq_true rfl) rfl rfl ?_
    refine J_iconst (pc := 13) (v := 1) dX4_next_13 (by decide) ?_
    refine J_istore_n (pc := 14) (lv' := [some (.ref 0), some (.int z1), some (.int 0), some (.int 1)]) dX4_next_14 (Nat.le_of_ble_eq_true rfl) rfl rfl ?_
    refine J_mono (l_n_next hc r5.1 5 1 0 1 0 rfl rfl rfl (by decide)) (fun v μ' hh => ⟨?_, hh.2⟩)
    rw [← d1, if_neg h6]
    exact hh.1
  · refine J_iconst (pc := 9) (v := (-1)) dX4_next_9 (by decide) ?_
    refine J_iret (pc := 10) dX4_next_10 rfl ?_
    exact ⟨⟨_, rfl, by rw [← d1, if_pos h6]; rfl⟩, rfl⟩
theorem pr_next {G : JG × JG} {N : Int} {c m : JM} (h : Inv N c m) (hN : 150 ≤ N ∧ N < 100000) : Pair G N c m mX3_next mX4_next [] := by
  refine ⟨_, _, k_next h hN, n_next h hN, fun v c' w m' hC hM => ?_⟩
  exact ⟨IsZ_eq hC.1 hM.1, by rw [hC.2, hM.2]; exact Inv_eq (by omega) h (eqC_rf _) (eqM_rf _)⟩

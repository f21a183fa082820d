/-! ===== the text constants' length, charAt; tokens ===== -/
section JT
variable {G : JG} {sh : List JSh} {μ : JM}
theorem c_coder {i : Nat} (hi : i < 5) : Con G sh mJ0_coder_7d493 [.ref (1010 + i)] μ (j_is (some (.int 0)) μ) := by
  refine Con_of [some (.ref (1010 + i))] (by decide +kernel) (Nat.le_of_ble_eq_true rfl) (fun _ h => h) ?_
  refine J_getCS (pc := 0) fS_cs dJ0_coder_7d493_0 ?_
  refine J_if_eq_F (pc := 3) 13 dJ0_coder_7d493_3 (by decide) (by decide) ?_
  refine J_aload_n (pc := 6) dJ0_coder_7d493_6 rfl ?_
  refine J_getSc (pc := 7) hi fS_sc dJ0_coder_7d493_7 ?_
  refine J_goto (pc := 10) 14 dJ0_coder_7d493_10 (by decide) ?_
  refine J_nret (pc := 14) dJ0_coder_7d493_14 rfl rfl ?_
  exact ⟨rfl, rfl⟩
theorem c_isLatin1 {i : Nat} (hi : i < 5) : Con G sh mJ0_isLatin1_aae02 [.ref (1010 + i)] μ (j_is (some (.int 1)) μ) := by
  refine Con_of [some (.ref (1010 + i))] (by decide +kernel) (Nat.le_of_ble_eq_true rfl) (fun _ h => h) ?_
  refine J_getCS (pc := 0) fS_cs dJ0_isLatin1_aae02_0 ?_
  refine J_if_eq_F (pc := 3) 17 dJ0_isLatin1_aae02_3 (by decide) (by decide) ?_
  refine J_aload_n (pc := 6) dJ0_isLatin1_aae02_6 rfl ?_
  refine J_getSc (pc := 7) hi fS_sc dJ0_isLatin1_aae02_7 ?_
  refine J_if_ne_F (pc := 10) 17 dJ0_isLatin1_aae02_10 (by decide) rfl ?_
  refine J_iconst (pc := 13) (v := 1) dJ0_isLatin1_aae02_13 (by decide) ?_
  refine J_goto (pc := 14) 18 dJ0_isLatin1_aae02_14 (by decide) ?_
  refine J_zret (pc := 18) dJ0_isLatin1_aae02_18 rfl (by decide) ?_
  exact ⟨rfl, rfl⟩
def slZ (i : Nat) : Nat := j_tl.getD i 0
theorem sl_z : ∀ i : Fin 5, (Int32.ofNat (j_tl.getD (i : Nat) 0) >>> ((0 : Int32) &&& 31)).toInt = (slZ (i : Nat) : Nat) := by decide +kernel
theorem sl_z0 : ∀ i : Fin 5, (Int32.ofNat (j_tl.getD (i : Nat) 0)).toInt = (slZ (i : Nat) : Nat) := by decide +kernel
theorem c_length {i : Nat} (hi : i < 5) : Con G sh mJ0_length_8abf5 [.ref (1010 + i)] μ (j_z (slZ i : Nat) μ) := by
  refine Con_of [some (.ref (1010 + i))] (by decide +kernel) (Nat.le_of_ble_eq_true rfl) (fun _ h => h) ?_
  refine J_aload_n (pc := 0) dJ0_length_8abf5_0 rfl ?_
  refine J_getSv (pc := 1) hi fS_sv dJ0_length_8abf5_1 ?_
  refine J_slen (pc := 4) hi dJ0_length_8abf5_4 ?_
  refine J_aload_n (pc := 5) dJ0_length_8abf5_5 rfl ?_
  refine J_callR (pc := 6) (o := 1010 + i) (as := []) (st := [.int (Int32.ofNat (j_tl.getD i 0))]) fC_J0_335 (fun s H locs sz _ _ hS hE => vk_recv (adK := fun i => j_ad G (1010 + i)) (i := i) hE.2.2.1.1 hi hS) dJ0_length_8abf5_6 (c_coder hi) rfl ⟨Nat.le_of_ble_eq_true rfl, Nat.le_of_ble_eq_true rfl⟩ rfl (Nat.le_of_ble_eq_true rfl) (fun v μ1 q => ?_)
  obtain ⟨rfl, rfl⟩ := q
  refine J_ishr (pc := 9) dJ0_length_8abf5_9 ?_
  refine J_iret (pc := 10) dJ0_length_8abf5_10 rfl ?_
  exact ⟨⟨_, rfl, sl_z ⟨i, hi⟩⟩, rfl⟩
theorem c_pre {a n : Int32} (h : 0 ≤ a.toInt ∧ a.toInt < n.toInt) (v0 : Value) (sz : Nat) (hv0 : v0.category = 1) : Met G.1 mJ3_checkIndex_8e157.1 (j_ws mJ3_checkIndex_8e157) (j_rm mJ3_checkIndex_8e157) (va_Pc ([Value.int a, .int n].map (j_cv (j_ad G)) ++ [v0]) (j_Pre G sh μ sz)) (j_Q G sh (j_is (some (.int a)) μ) sz) 0 0 (j_A (j_ad G) sh.length sz) := by
  refine ConR_of (as := [.int a, .int n]) [some (.int a), some (.int n), none] (by decide +kernel) (by cases v0 <;> first | exact Nat.le_of_ble_eq_true rfl | exact absurd hv0 (by simp [Value.category])) (fun q hq => (List.mem_append_left [(2, v0)] hq : q ∈ _ ++ [(2, v0)])) ?_ sz
  refine J_iload_n (pc := 0) dJ3_checkIndex_8e157_0 rfl ?_
  refine J_if_ltW (pc := 1) a.toInt rfl 9 dJ3_checkIndex_8e157_1 (by decide) (fun h1 => ?_) (fun h1 => ?_)
  · exfalso; omega
  · refine J_iload_n (pc := 4) dJ3_checkIndex_8e157_4 rfl ?_
    refine J_iload_n (pc := 5) dJ3_checkIndex_8e157_5 rfl ?_
    refine J_icmp_ltW (pc := 6) a.toInt n.toInt rfl rfl 16 dJ3_checkIndex_8e157_6 (by decide) (fun h6 => ?_) (fun h6 => ?_)
    · refine J_iload_n (pc := 16) dJ3_checkIndex_8e157_16 rfl ?_
      refine J_iret (pc := 17) dJ3_checkIndex_8e157_17 rfl ?_
      exact ⟨rfl, rfl⟩
    · exfalso; omega
theorem c_checkIndex {a n : Int32} (h : 0 ≤ a.toInt ∧ a.toInt < n.toInt) : Con G sh mJ0_checkIndex_df160 [.int a, .int n] μ (j_is none μ) := by
  refine Con_of [some (.int a), some (.int n)] (by decide +kernel) (Nat.le_of_ble_eq_true rfl) (fun _ h => h) ?_
  refine J_iload_n (pc := 0) dJ0_checkIndex_df160_0 rfl ?_
  refine J_iload_n (pc := 1) dJ0_checkIndex_df160_1 rfl ?_
  refine J_fmt (pc := 2) (as := [.int a, .int n]) (st := []) fS_fm dJ0_checkIndex_df160_2 fC_J0_1059 dJ0_checkIndex_df160_5 (fun v0 sz hv0 => c_pre h v0 sz hv0) ⟨Nat.le_of_ble_eq_true rfl, Nat.le_of_ble_eq_true rfl⟩ (Nat.le_of_ble_eq_true rfl) (fun v μ1 q => ?_)
  obtain ⟨rfl, rfl⟩ := q
  refine J_pop (pc := 8) dJ0_checkIndex_df160_8 rfl ?_
  refine J_vret (pc := 9) dJ0_checkIndex_df160_9 rfl ?_
  exact ⟨rfl, rfl⟩
def chZ (i k : Nat) : Int := ((j_tbt.getD i []).getD k 0).toInt
theorem ch_z : ∀ (i : Fin 5) (k : Fin 5), ((((j_tbt.getD (i : Nat) []).getD (k : Nat) 0) &&& 255).toUInt32 % 65536).toInt32 = (j_tbt.getD (i : Nat) []).getD (k : Nat) 0 := by decide +kernel
theorem ch_n : ∀ (i : Fin 5) (k : Fin 5), narrow .char (.int ((j_tbt.getD (i : Nat) []).getD (k : Nat) 0)) = .int ((j_tbt.getD (i : Nat) []).getD (k : Nat) 0) := by decide +kernel
theorem sl_5 : ∀ i : Fin 5, slZ (i : Nat) ≤ 5 := by decide
theorem c_l1 {i k : Nat} {kv : Int32} (hi : i < 5) (hk : kv.toInt = (k : Int)) (hkl : k < slZ i) : Con G sh mJ1_charAt_3b067 [.ref (1020 + i), .int kv] μ (j_is (some (.int ((j_tbt.getD i []).getD k 0))) μ) := by
  have h5 := sl_5 ⟨i, hi⟩
  simp only at h5
  have hl := sl_z0 ⟨i, hi⟩
  simp only at hl
  have hkk : kv.toNatClampNeg = k := by show kv.toInt.toNat = k; omega
  refine Con_of [some (.ref (1020 + i)), some (.int kv)] (by decide +kernel) (Nat.le_of_ble_eq_true rfl) (fun _ h => h) ?_
  refine J_iload_n (pc := 0) dJ1_charAt_3b067_0 rfl ?_
  refine J_aload_n (pc := 1) dJ1_charAt_3b067_1 rfl ?_
  refine J_slen (pc := 2) hi dJ1_charAt_3b067_2 ?_
  refine J_callS (pc := 3) fC_J1_9 dJ1_charAt_3b067_3 (c_checkIndex (by rw [hl]; omega)) rfl ⟨Nat.le_of_ble_eq_true rfl, Nat.le_of_ble_eq_true rfl⟩ rfl (Nat.le_of_ble_eq_true rfl) (fun v μ1 q => ?_)
  obtain ⟨rfl, rfl⟩ := q
  refine J_aload_n (pc := 6) dJ1_charAt_3b067_6 rfl ?_
  refine J_iload_n (pc := 7) dJ1_charAt_3b067_7 rfl ?_
  refine J_sb (pc := 8) hi (vin_z ⟨by omega, by rw [hk]; exact Int.ofNat_lt.mpr hkl⟩) dJ1_charAt_3b067_8 ?_
  rw [hkk]
  refine J_sipush (pc := 9) (v := 255) dJ1_charAt_3b067_9 (by decide) ?_
  refine J_iand (pc := 12) dJ1_charAt_3b067_12 ?_
  refine J_i2c (pc := 13) dJ1_charAt_3b067_13 ?_
  rw [show ((((j_tbt.getD i []).getD k 0) &&& 255).toUInt32 % 65536).toInt32 = (j_tbt.getD i []).getD k 0 from ch_z ⟨i, hi⟩ ⟨k, by omega⟩]
  refine J_nret (pc := 14) dJ1_charAt_3b067_14 rfl (ch_n ⟨i, hi⟩ ⟨k, by omega⟩) ?_
  exact ⟨rfl, rfl⟩
theorem c_charAt {i k : Nat} {kv : Int32} (hi : i < 5) (hk : kv.toInt = (k : Int)) (hkl : k < slZ i) : Con G sh mJ0_charAt_5068e [.ref (1010 + i), .int kv] μ (j_z (chZ i k) μ) := by
  have h5 := sl_5 ⟨i, hi⟩
  simp only at h5
  refine Con_of [some (.ref (1010 + i)), some (.int kv)] (by decide +kernel) (Nat.le_of_ble_eq_true rfl) (fun _ h => h) ?_
  refine J_aload_n (pc := 0) dJ0_charAt_5068e_0 rfl ?_
  refine J_callR (pc := 1) (o := 1010 + i) (as := []) (st := []) fC_J0_492 (fun s H locs sz _ _ hS hE => vk_recv (adK := fun i => j_ad G (1010 + i)) (i := i) hE.2.2.1.1 hi hS) dJ0_charAt_5068e_1 (c_isLatin1 hi) rfl ⟨Nat.le_of_ble_eq_true rfl, Nat.le_of_ble_eq_true rfl⟩ rfl (Nat.le_of_ble_eq_true rfl) (fun v μ1 q => ?_)
  obtain ⟨rfl, rfl⟩ := q
  refine J_if_eq_F (pc := 4) 16 dJ0_charAt_5068e_4 (by decide) (by decide) ?_
  refine J_aload_n (pc := 7) dJ0_charAt_5068e_7 rfl ?_
  refine J_getSv (pc := 8) hi fS_sv dJ0_charAt_5068e_8 ?_
  refine J_iload_n (pc := 11) dJ0_charAt_5068e_11 rfl ?_
  refine J_callS (pc := 12) fC_J0_495 dJ0_charAt_5068e_12 (c_l1 hi hk hkl) rfl ⟨Nat.le_of_ble_eq_true rfl, Nat.le_of_ble_eq_true rfl⟩ rfl (Nat.le_of_ble_eq_true rfl) (fun v μ1 q => ?_)
  obtain ⟨rfl, rfl⟩ := q
  refine J_nret (pc := 15) dJ0_charAt_5068e_15 rfl (ch_n ⟨i, hi⟩ ⟨k, by omega⟩) ?_
  exact ⟨⟨_, rfl, rfl⟩, rfl⟩
end JT
/-! tokens of a text T of length L -/
def skp (L : Nat) (T : Nat → Int) : Nat → Nat → Nat
  | 0, i => i
  | d + 1, i => if i < L ∧ T i = 32 then skp L T d (i + 1) else i
def lrn (L : Nat) (T : Nat → Int) : Nat → Nat → Nat
  | 0, i => i
  | d + 1, i => if i < L ∧ (97 ≤ T i ∧ T i ≤ 122) then lrn L T d (i + 1) else i
def frn (L : Nat) (T : Nat → Int) : Nat → Nat → Nat
  | 0, i => i
  | d + 1, i => if i < L ∧ (48 ≤ T i ∧ T i ≤ 57) then frn L T d (i + 1) else i
def SK (L : Nat) (T : Nat → Int) (i : Nat) : Nat := skp L T 151 i
def LN (L : Nat) (T : Nat → Int) (i : Nat) : Nat := lrn L T 151 i
def FN (L : Nat) (T : Nat → Int) (i : Nat) : Nat := frn L T 151 i
theorem skp_r {L : Nat} {T : Nat → Int} : ∀ (d i : Nat), i ≤ L → L ≤ i + d → i ≤ skp L T d i ∧ skp L T d i ≤ L ∧ (skp L T d i < L → T (skp L T d i) ≠ 32)
  | 0, i, h1, h2 => by rw [skp]; omega
  | d + 1, i, h1, h2 => by
    rw [skp]
    split
    · rename_i h; have := skp_r (L := L) (T := T) d (i + 1) (by omega) (by omega); exact ⟨by omega, this.2⟩
    · rename_i h; exact ⟨Nat.le_refl _, h1, fun hl e => h ⟨hl, e⟩⟩
theorem lrn_r {L : Nat} {T : Nat → Int} : ∀ (d i : Nat), i ≤ L → L ≤ i + d → i ≤ lrn L T d i ∧ lrn L T d i ≤ L ∧ (∀ x, i ≤ x → x < lrn L T d i → 97 ≤ T x ∧ T x ≤ 122) ∧ (lrn L T d i < L → ¬ (97 ≤ T (lrn L T d i) ∧ T (lrn L T d i) ≤ 122))
  | 0, i, h1, h2 => by rw [lrn]; exact ⟨Nat.le_refl _, h1, fun x a b => absurd b (by omega), fun h => absurd h (by omega)⟩
  | d + 1, i, h1, h2 => by
    rw [lrn]
    split
    · rename_i h
      have := lrn_r (L := L) (T := T) d (i + 1) (by omega) (by omega)
      refine ⟨by omega, this.2.1, fun x a b => ?_, this.2.2.2⟩
      by_cases e : x = i
      · rw [e]; exact h.2
      · exact this.2.2.1 x (by omega) b
    · rename_i h; exact ⟨Nat.le_refl _, h1, fun x a b => absurd b (by omega), fun hl e => h ⟨hl, e⟩⟩
theorem frn_r {L : Nat} {T : Nat → Int} : ∀ (d i : Nat), i ≤ L → L ≤ i + d → i ≤ frn L T d i ∧ frn L T d i ≤ L
  | 0, i, h1, h2 => by rw [frn]; exact ⟨Nat.le_refl _, h1⟩
  | d + 1, i, h1, h2 => by
    rw [frn]
    split
    · have := frn_r (L := L) (T := T) d (i + 1) (by omega) (by omega); omega
    · exact ⟨Nat.le_refl _, h1⟩
theorem LN_1 {L : Nat} {T : Nat → Int} {i : Nat} (h : i < L ∧ (97 ≤ T i ∧ T i ≤ 122)) (hL : L ≤ 150) : i + 1 ≤ LN L T i := by
  unfold LN
  rw [lrn, if_pos h]
  exact (lrn_r 150 (i + 1) (by omega) (by omega)).1
theorem FN_1 {L : Nat} {T : Nat → Int} {i : Nat} (h : i < L ∧ (48 ≤ T i ∧ T i ≤ 57)) (hL : L ≤ 150) : i + 1 ≤ FN L T i := by
  unfold FN
  rw [frn, if_pos h]
  exact (frn_r 150 (i + 1) (by omega) (by omega)).1
/-- the number of the figures from s to e -/
def nvT (T : Nat → Int) (s e : Nat) : Int := if e = s + 1 then T s - 48 else if e = s + 2 then (T s - 48) * 10 + (T (s + 1) - 48) else -1
/-- the text -/
def TX (L : Nat) (T : Nat → Int) (c : JM) : Prop := (c.1 21 1).toInt = (L : Int) ∧ L ≤ 150 ∧ ∀ j : Nat, j < L → (c.1 22 j).toInt = T j ∧ 0 ≤ T j ∧ T j ≤ 127
def byt (L : Nat) (T : Nat → Int) (i : Nat) : Int := if i < L then T i else -1
def fr21 (c μ : JM) : Prop := (∀ o, o ≠ 21 → μ.1 o = c.1 o) ∧ μ.1 21 1 = c.1 21 1 ∧ μ.2 = c.2
theorem fr21_rf (c : JM) : fr21 c c := ⟨fun _ _ => rfl, rfl, rfl⟩
theorem fr21_tr {a b c : JM} (h : fr21 a b) (h' : fr21 b c) : fr21 a c := ⟨fun o h1 => (h'.1 o h1).trans (h.1 o h1), h'.2.1.trans h.2.1, h'.2.2.trans h.2.2⟩
theorem fr21_s {c μ : JM} {k : Nat} {x : Int32} (h : fr21 c μ) (hk : k ≠ 1) : fr21 c (jI μ 21 k x) := ⟨fun o h1 => by rw [jI_ne h1]; exact h.1 o h1, by rw [jI_i, if_neg (fun z => hk z.2.symm)]; exact h.2.1, h.2.2⟩
theorem TX_fr {L : Nat} {T : Nat → Int} {c μ : JM} (h : TX L T c) (hf : fr21 c μ) : TX L T μ := ⟨by rw [hf.2.1]; exact h.1, h.2.1, fun j hj => by rw [hf.1 22 (by decide)]; exact h.2.2 j hj⟩
variable {G : JG}
set_option maxRecDepth 100000 in
set_option maxHeartbeats 4000000 in
theorem c_X1_byteAt {c : JM} {L : Nat} {T : Nat → Int} (hT : TX L T c) {iv : Int32} (i : Nat) (hi : iv.toInt = (i : Int)) : Con G shC mX1_byteAt [.ref 21, .int iv] c (j_z (byt L T i) c) := by
  refine Con_of [some (.ref 21), some (.int iv)] (by decide +kernel) (Nat.le_of_ble_eq_true rfl) (fun _ h => h) ?_
  refine J_iload_n (pc := 0) dX1_byteAt_0 rfl ?_
  refine J_if_ltW (pc := 1) (i : Int) hi 30 dX1_byteAt_1 (by decide) (fun h1 => ?_) (fun h1 => ?_)
  · exfalso; omega
  · refine J_iload_n (pc := 4) dX1_byteAt_4 rfl ?_
    refine J_aload_n (pc := 5) dX1_byteAt_5 rfl ?_
    refine J_getI (pc := 6) fF_X1_15 rfl rfl dX1_byteAt_6 ?_
    refine J_icmp_geW (pc := 9) (i : Int) (L : Int) hi hT.1 30 dX1_byteAt_9 (by decide) (fun h9 => ?_) (fun h9 => ?_)
    · refine J_iconst (pc := 30) (v := (-1)) dX1_byteAt_30 (by decide) ?_
      refine J_iret (pc := 31) dX1_byteAt_31 rfl ?_
      exact ⟨⟨_, rfl, by unfold byt; rw [if_neg (by omega)]; rfl⟩, rfl⟩
    · refine J_iload_n (pc := 12) dX1_byteAt_12 rfl ?_
      refine J_aload_n (pc := 13) dX1_byteAt_13 rfl ?_
      refine J_getR (pc := 14) 22 fF_X1_9 rfl rfl dX1_byteAt_14 ?_
      refine J_alen (pc := 17) rfl dX1_byteAt_17 ?_
      refine J_icmp_geW (pc := 18) (i : Int) 150 hi rfl 30 dX1_byteAt_18 (by decide) (fun h18 => ?_) (fun h18 => ?_)
      · exfalso; have := hT.2.1; omega
      · refine J_aload_n (pc := 21) dX1_byteAt_21 rfl ?_
        refine J_getR (pc := 22) 22 fF_X1_9 rfl rfl dX1_byteAt_22 ?_
        refine J_iload_n (pc := 25) dX1_byteAt_25 rfl ?_
        refine J_ialdW (pc := 26) i (hi) rfl (by have := hT.2.1; omega) dX1_byteAt_26 ?_
        refine J_goto (pc := 27) 31 dX1_byteAt_27 (by decide) ?_
        refine J_iret (pc := 31) dX1_byteAt_31 rfl ?_
        exact ⟨⟨_, rfl, by unfold byt; rw [if_pos (by omega)]; exact (hT.2.2 i (by omega)).1⟩, rfl⟩
set_option maxRecDepth 100000 in
set_option maxHeartbeats 4000000 in
theorem c_X1_isLetter {sh : List JSh} {μ : JM} {x : Int32} (x' : Int) (hx : x.toInt = x') : Con G sh mX1_isLetter [.int x] μ (j_b (97 ≤ x' ∧ x' ≤ 122) μ μ) := by
  refine Con_of [some (.int x)] (by decide +kernel) (Nat.le_of_ble_eq_true rfl) (fun _ h => h) ?_
  refine J_iload_n (pc := 0) dX1_isLetter_0 rfl ?_
  refine J_bipush (pc := 1) (v := 97) dX1_isLetter_1 (by decide) ?_
  refine J_icmp_ltW (pc := 3) x' 97 hx rfl 16 dX1_isLetter_3 (by decide) (fun h3 => ?_) (fun h3 => ?_)
  · refine J_iconst (pc := 16) (v := 0) dX1_isLetter_16 (by decide) ?_
    refine J_zret (pc := 17) dX1_isLetter_17 rfl (by decide) ?_
    exact Or.inr ⟨by omega, rfl, rfl⟩
  · refine J_iload_n (pc := 6) dX1_isLetter_6 rfl ?_
    refine J_bipush (pc := 7) (v := 122) dX1_isLetter_7 (by decide) ?_
    refine J_icmp_gtW (pc := 9) x' 122 hx rfl 16 dX1_isLetter_9 (by decide) (fun h9 => ?_) (fun h9 => ?_)
    · refine J_iconst (pc := 16) (v := 0) dX1_isLetter_16 (by decide) ?_
      refine J_zret (pc := 17) dX1_isLetter_17 rfl (by decide) ?_
      exact Or.inr ⟨by omega, rfl, rfl⟩
    · refine J_iconst (pc := 12) (v := 1) dX1_isLetter_12 (by decide) ?_
      refine J_goto (pc := 13) 17 dX1_isLetter_13 (by decide) ?_
      refine J_zret (pc := 17) dX1_isLetter_17 rfl (by decide) ?_
      exact Or.inl ⟨by omega, rfl, rfl⟩
set_option maxRecDepth 100000 in
set_option maxHeartbeats 4000000 in
theorem c_X1_isFigure {sh : List JSh} {μ : JM} {x : Int32} (x' : Int) (hx : x.toInt = x') : Con G sh mX1_isFigure [.int x] μ (j_b (48 ≤ x' ∧ x' ≤ 57) μ μ) := by
  refine Con_of [some (.int x)] (by decide +kernel) (Nat.le_of_ble_eq_true rfl) (fun _ h => h) ?_
  refine J_iload_n (pc := 0) dX1_isFigure_0 rfl ?_
  refine J_bipush (pc := 1) (v := 48) dX1_isFigure_1 (by decide) ?_
  refine J_icmp_ltW (pc := 3) x' 48 hx rfl 16 dX1_isFigure_3 (by decide) (fun h3 => ?_) (fun h3 => ?_)
  · refine J_iconst (pc := 16) (v := 0) dX1_isFigure_16 (by decide) ?_
    refine J_zret (pc := 17) dX1_isFigure_17 rfl (by decide) ?_
    exact Or.inr ⟨by omega, rfl, rfl⟩
  · refine J_iload_n (pc := 6) dX1_isFigure_6 rfl ?_
    refine J_bipush (pc := 7) (v := 57) dX1_isFigure_7 (by decide) ?_
    refine J_icmp_gtW (pc := 9) x' 57 hx rfl 16 dX1_isFigure_9 (by decide) (fun h9 => ?_) (fun h9 => ?_)
    · refine J_iconst (pc := 16) (v := 0) dX1_isFigure_16 (by decide) ?_
      refine J_zret (pc := 17) dX1_isFigure_17 rfl (by decide) ?_
      exact Or.inr ⟨by omega, rfl, rfl⟩
    · refine J_iconst (pc := 12) (v := 1) dX1_isFigure_12 (by decide) ?_
      refine J_goto (pc := 13) 17 dX1_isFigure_13 (by decide) ?_
      refine J_zret (pc := 17) dX1_isFigure_17 rfl (by decide) ?_
      exact Or.inl ⟨by omega, rfl, rfl⟩
set_option maxRecDepth 100000 in
set_option maxHeartbeats 4000000 in
theorem l_pl {L : Nat} {T : Nat → Int} : ∀ d : Nat, ∀ (i : Nat) (μ : JM), L ≤ i + d → i ≤ L → (μ.1 21 2).toInt = (i : Int) → TX L T μ → J G shC mX1_passLetters 5 [some (.ref 21)] [] μ (fun v μ' => v = none ∧ (μ'.1 21 2).toInt = (lrn L T d i : Nat) ∧ (∀ o, o ≠ 21 → μ'.1 o = μ.1 o) ∧ (∀ k, k ≠ 2 → μ'.1 21 k = μ.1 21 k) ∧ μ'.2 = μ.2) := by
  intro d
  induction d with
  | zero =>
    intro i μ hd hi hn hT2
    have hL150 := hT2.2.1
    have hby : i < L → byt L T i = T i := fun h => by unfold byt; rw [if_pos h]
    have hbn : ¬ i < L → byt L T i = -1 := fun h => by unfold byt; rw [if_neg h]
    refine J_aload_n (pc := 5) dX1_passLetters_5 rfl ?_
    refine J_getI (pc := 6) fF_X1_19 rfl rfl dX1_passLetters_6 ?_
    refine J_aload_n (pc := 9) dX1_passLetters_9 rfl ?_
    refine J_getI (pc := 10) fF_X1_15 rfl rfl dX1_passLetters_10 ?_
    refine J_icmp_geW (pc := 13) (i : Int) (L : Int) hn hT2.1 43 dX1_passLetters_13 (by decide) (fun h13 => ?_) (fun h13 => ?_)
    · refine J_vret (pc := 43) dX1_passLetters_43 rfl ?_
      exact ⟨rfl, hn, fun _ _ => rfl, fun _ _ => rfl, rfl⟩
    · exfalso; omega
  | succ d ih =>
    intro i μ hd hi hn hT2
    have hL150 := hT2.2.1
    have hby : i < L → byt L T i = T i := fun h => by unfold byt; rw [if_pos h]
    have hbn : ¬ i < L → byt L T i = -1 := fun h => by unfold byt; rw [if_neg h]
    refine J_aload_n (pc := 5) dX1_passLetters_5 rfl ?_
    refine J_getI (pc := 6) fF_X1_19 rfl rfl dX1_passLetters_6 ?_
    refine J_aload_n (pc := 9) dX1_passLetters_9 rfl ?_
    refine J_getI (pc := 10) fF_X1_15 rfl rfl dX1_passLetters_10 ?_
    refine J_icmp_geW (pc := 13) (i : Int) (L : Int) hn hT2.1 43 dX1_passLetters_13 (by decide) (fun h13 => ?_) (fun h13 => ?_)
    · refine J_vret (pc := 43) dX1_passLetters_43 rfl ?_
      exact ⟨rfl, by rw [lrn, if_neg (by first | omega | (intro h; exact absurd h.2 (by rw [← hby (by omega)]; assumption)))]; exact hn, fun _ _ => rfl, fun _ _ => rfl, rfl⟩
    · refine J_aload_n (pc := 16) dX1_passLetters_16 rfl ?_
      refine J_aload_n (pc := 17) dX1_passLetters_17 rfl ?_
      refine J_getI (pc := 18) fF_X1_19 rfl rfl dX1_passLetters_18 ?_
      refine J_callVz (pc := 21) fC_X1_31 rfl dX1_passLetters_21 (c_X1_byteAt hT2 i (hn)) rfl ⟨Nat.le_of_ble_eq_true rfl, Nat.le_of_ble_eq_true rfl⟩ rfl (Nat.le_of_ble_eq_true rfl) (fun z21 e21 => ?_)
      refine J_callSc (pc := 24) fC_X1_35 dX1_passLetters_24 (c_X1_isLetter (byt L T i) e21) rfl ⟨Nat.le_of_ble_eq_true rfl, Nat.le_of_ble_eq_true rfl⟩ rfl (Nat.le_of_ble_eq_true rfl) (fun h24 => ?_) (fun h24 => ?_)
      · refine J_if_eq_F (pc := 27) 43 dX1_passLetters_27 (by decide) (by decide) ?_
        refine J_aload_n (pc := 30) dX1_passLetters_30 rfl ?_
        refine J_dup (pc := 31) dX1_passLetters_31 rfl ?_
        refine J_getI (pc := 32) fF_X1_19 rfl rfl dX1_passLetters_32 ?_
        refine J_iconst (pc := 35) (v := 1) dX1_passLetters_35 (by decide) ?_
        refine J_iaddW (pc := 36) (i : Int) 1 hn rfl dX1_passLetters_36 (by omega) (fun z36 e36 => ?_)
        refine J_putIW (pc := 37) fF_X1_19 rfl rfl dX1_passLetters_37 (fun μ37 m37 => ?_)
        refine J_goto (pc := 40) 5 dX1_passLetters_40 (by decide) ?_
        refine J_mono (ih (i + 1) μ37 (by omega) (by omega) (by rw [m37, jI_i, if_pos ⟨rfl, rfl⟩]; omega) (TX_fr hT2 (by rw [m37]; exact fr21_s (fr21_rf μ) (by decide)))) (fun v μ' hh => ?_)
        obtain ⟨hh0, hh1, hh2, hh3, hh4⟩ := hh
        exact ⟨hh0, by rw [lrn, if_pos ⟨by omega, by rw [← hby (by omega)]; assumption⟩]; exact hh1, fun o h => (hh2 o h).trans (by rw [m37, jI_ne h]), fun k h => (hh3 k h).trans (by rw [m37, jI_i, if_neg (fun z => h z.2)]), hh4.trans (by rw [m37]; rfl)⟩
      · refine J_if_eq_T (pc := 27) 43 dX1_passLetters_27 (by decide) (by decide) ?_
        refine J_vret (pc := 43) dX1_passLetters_43 rfl ?_
        exact ⟨rfl, by rw [lrn, if_neg (by first | omega | (intro h; exact absurd h.2 (by rw [← hby (by omega)]; assumption)))]; exact hn, fun _ _ => rfl, fun _ _ => rfl, rfl⟩
set_option maxRecDepth 100000 in
set_option maxHeartbeats 4000000 in
theorem c_X1_passLetters {c : JM} {L : Nat} {T : Nat → Int} (hT : TX L T c) {i : Nat} (hn : (c.1 21 2).toInt = (i : Int)) (hi : i ≤ L) : Con G shC mX1_passLetters [.ref 21] c (fun v μ' => v = none ∧ (μ'.1 21 2).toInt = (LN L T i : Nat) ∧ (μ'.1 21 4).toInt = 1 ∧ (μ'.1 21 3) = c.1 21 3 ∧ fr21 c μ') := by
  refine Con_of [some (.ref 21)] (by decide +kernel) (Nat.le_of_ble_eq_true rfl) (fun _ h => h) ?_
  refine J_aload_n (pc := 0) dX1_passLetters_0 rfl ?_
  refine J_iconst (pc := 1) (v := 1) dX1_passLetters_1 (by decide) ?_
  refine J_putIW (pc := 2) fF_X1_25 rfl rfl dX1_passLetters_2 (fun μ2 m2 => ?_)
  refine J_mono (l_pl 151 i μ2 (by have := hT.2.1; omega) hi (by rw [m2, jI_i, if_neg (by decide)]; exact hn) (TX_fr hT (by rw [m2]; exact fr21_s (fr21_rf c) (by decide)))) (fun v μ' hh => ?_)
  obtain ⟨hh0, hh1, hh2, hh3, hh4⟩ := hh
  exact ⟨hh0, hh1, by rw [hh3 4 (by decide), m2, jI_i, if_pos ⟨rfl, rfl⟩]; rfl, by rw [hh3 3 (by decide), m2, jI_i, if_neg (by decide)], ⟨fun o h => by rw [hh2 o h, m2, jI_ne h], by rw [hh3 1 (by decide), m2, jI_i, if_neg (by decide)], by rw [hh4, m2]; rfl⟩⟩
def nv0 (T : Nat → Int) (s i : Nat) : Int := if i = s then 0 else if i = s + 1 then T s - 48 else (T s - 48) * 10 + (T (s + 1) - 48)
theorem nv0_s {T : Nat → Int} {s i : Nat} {x y : Int32} (hs : s ≤ i) (h : i ≤ s + 2 → x.toInt = nv0 T s i) (hy : y.toInt = T i) (hd : ∀ q, s ≤ q → q ≤ i → 48 ≤ T q ∧ T q ≤ 57) : i + 1 ≤ s + 2 → (x * 10 + y - 48).toInt = nv0 T s (i + 1) := by
  intro h2
  have hx := h (by omega)
  have e10 : (10 : Int32).toInt = 10 := rfl
  have e48 : (48 : Int32).toInt = 48 := rfl
  have t0 := hd s (Nat.le_refl _) hs
  have ti := hd i hs (Nat.le_refl _)
  have hx2 : 0 ≤ x.toInt ∧ x.toInt ≤ 9 := by unfold nv0 at hx; omega
  have m1 : (x * 10).toInt = x.toInt * 10 := by rw [z_mul] <;> rw [e10]; omega
  have m2 : (x * 10 + y).toInt = x.toInt * 10 + T i := by rw [z_add] <;> rw [m1, hy]; omega
  rw [z_sub] <;> rw [m2, e48]
  · rcases (by omega : i = s ∨ i = s + 1) with rfl | rfl
    · unfold nv0 at *; omega
    · unfold nv0 at *; omega
  · omega
set_option maxRecDepth 100000 in
set_option maxHeartbeats 4000000 in
theorem l_pf {L : Nat} {T : Nat → Int} {s : Nat} : ∀ d : Nat, ∀ (i : Nat) (μ : JM) (xv : Int32), L ≤ i + d → i ≤ L → s ≤ i → (μ.1 21 2).toInt = (i : Int) → (μ.1 21 3).toInt = (s : Int) → TX L T μ → (i ≤ s + 2 → xv.toInt = nv0 T s i) → (∀ q, s ≤ q → q < i → 48 ≤ T q ∧ T q ≤ 57) → J G shC mX1_passFigures 7 [some (.ref 21), some (.int xv)] [] μ (fun v μ' => v = none ∧ (μ'.1 21 2).toInt = (frn L T d i : Nat) ∧ (s < frn L T d i → (μ'.1 21 5).toInt = nvT T s (frn L T d i)) ∧ (∀ o, o ≠ 21 → μ'.1 o = μ.1 o) ∧ (∀ k, k ≠ 2 → k ≠ 5 → μ'.1 21 k = μ.1 21 k) ∧ μ'.2 = μ.2) := by
  intro d
  induction d with
  | zero =>
    intro i μ xv hd hi hsi hn hs3 hT2 hx hdg
    have hL150 := hT2.2.1
    have hby : i < L → byt L T i = T i := fun h => by unfold byt; rw [if_pos h]
    have hbn : ¬ i < L → byt L T i = -1 := fun h => by unfold byt; rw [if_neg h]
    refine J_aload_n (pc := 7) dX1_passFigures_7 rfl ?_
    refine J_getI (pc := 8) fF_X1_19 rfl rfl dX1_passFigures_8 ?_
    refine J_aload_n (pc := 11) dX1_passFigures_11 rfl ?_
    refine J_getI (pc := 12) fF_X1_15 rfl rfl dX1_passFigures_12 ?_
    refine J_icmp_geW (pc := 15) (i : Int) (L : Int) hn hT2.1 62 dX1_passFigures_15 (by decide) (fun h15 => ?_) (fun h15 => ?_)
    · refine J_aload_n (pc := 62) dX1_passFigures_62 rfl ?_
      refine J_aload_n (pc := 63) dX1_passFigures_63 rfl ?_
      refine J_getI (pc := 64) fF_X1_19 rfl rfl dX1_passFigures_64 ?_
      refine J_aload_n (pc := 67) dX1_passFigures_67 rfl ?_
      refine J_getI (pc := 68) fF_X1_22 rfl rfl dX1_passFigures_68 ?_
      refine J_isubW (pc := 71) (i : Int) (s : Int) hn hs3 dX1_passFigures_71 (by omega) (fun z71 e71 => ?_)
      refine J_iconst (pc := 72) (v := 2) dX1_passFigures_72 (by decide) ?_
      refine J_icmp_leW (pc := 73) ((i : Int) - (s : Int)) 2 e71 rfl 80 dX1_passFigures_73 (by decide) (fun h73 => ?_) (fun h73 => ?_)
      · refine J_iload_n (pc := 80) dX1_passFigures_80 rfl ?_
        refine J_putIW (pc := 81) fF_X1_28 rfl rfl dX1_passFigures_81 (fun μ81 m81 => ?_)
        refine J_vret (pc := 84) dX1_passFigures_84 rfl ?_
        have efr : frn L T 0 i = i := by rfl
        rw [efr]
        refine ⟨rfl, by rw [m81, jI_i, if_neg (by decide)]; exact hn, fun hlt => ?_, fun o h => by rw [m81, jI_ne h], fun k h h5 => by rw [m81, jI_i, if_neg (fun z => h5 z.2)], by rw [m81]; rfl⟩
        rw [m81, jI_i, if_pos ⟨rfl, rfl⟩]
        first | (show (-1 : Int) = _; unfold nvT; omega) | (rw [hx (by omega)]; unfold nvT nv0; omega)
      · refine J_iconst (pc := 76) (v := (-1)) dX1_passFigures_76 (by decide) ?_
        refine J_goto (pc := 77) 81 dX1_passFigures_77 (by decide) ?_
        refine J_putIW (pc := 81) fF_X1_28 rfl rfl dX1_passFigures_81 (fun μ81 m81 => ?_)
        refine J_vret (pc := 84) dX1_passFigures_84 rfl ?_
        have efr : frn L T 0 i = i := by rfl
        rw [efr]
        refine ⟨rfl, by rw [m81, jI_i, if_neg (by decide)]; exact hn, fun hlt => ?_, fun o h => by rw [m81, jI_ne h], fun k h h5 => by rw [m81, jI_i, if_neg (fun z => h5 z.2)], by rw [m81]; rfl⟩
        rw [m81, jI_i, if_pos ⟨rfl, rfl⟩]
        first | (show (-1 : Int) = _; unfold nvT; omega) | (rw [hx (by omega)]; unfold nvT nv0; omega)
    · exfalso; omega
  | succ d ih =>
    intro i μ xv hd hi hsi hn hs3 hT2 hx hdg
    have hL150 := hT2.2.1
    have hby : i < L → byt L T i = T i := fun h => by unfold byt; rw [if_pos h]
    have hbn : ¬ i < L → byt L T i = -1 := fun h => by unfold byt; rw [if_neg h]
    refine J_aload_n (pc := 7) dX1_passFigures_7 rfl ?_
    refine J_getI (pc := 8) fF_X1_19 rfl rfl dX1_passFigures_8 ?_
    refine J_aload_n (pc := 11) dX1_passFigures_11 rfl ?_
    refine J_getI (pc := 12) fF_X1_15 rfl rfl dX1_passFigures_12 ?_
    refine J_icmp_geW (pc := 15) (i : Int) (L : Int) hn hT2.1 62 dX1_passFigures_15 (by decide) (fun h15 => ?_) (fun h15 => ?_)
    · refine J_aload_n (pc := 62) dX1_passFigures_62 rfl ?_
      refine J_aload_n (pc := 63) dX1_passFigures_63 rfl ?_
      refine J_getI (pc := 64) fF_X1_19 rfl rfl dX1_passFigures_64 ?_
      refine J_aload_n (pc := 67) dX1_passFigures_67 rfl ?_
      refine J_getI (pc := 68) fF_X1_22 rfl rfl dX1_passFigures_68 ?_
      refine J_isubW (pc := 71) (i : Int) (s : Int) hn hs3 dX1_passFigures_71 (by omega) (fun z71 e71 => ?_)
      refine J_iconst (pc := 72) (v := 2) dX1_passFigures_72 (by decide) ?_
      refine J_icmp_leW (pc := 73) ((i : Int) - (s : Int)) 2 e71 rfl 80 dX1_passFigures_73 (by decide) (fun h73 => ?_) (fun h73 => ?_)
      · refine J_iload_n (pc := 80) dX1_passFigures_80 rfl ?_
        refine J_putIW (pc := 81) fF_X1_28 rfl rfl dX1_passFigures_81 (fun μ81 m81 => ?_)
        refine J_vret (pc := 84) dX1_passFigures_84 rfl ?_
        have efr : frn L T (d + 1) i = i := by rw [frn, if_neg (by first | omega | (intro h; exact absurd h.2 (by rw [← hby (by omega)]; assumption)))]
        rw [efr]
        refine ⟨rfl, by rw [m81, jI_i, if_neg (by decide)]; exact hn, fun hlt => ?_, fun o h => by rw [m81, jI_ne h], fun k h h5 => by rw [m81, jI_i, if_neg (fun z => h5 z.2)], by rw [m81]; rfl⟩
        rw [m81, jI_i, if_pos ⟨rfl, rfl⟩]
        first | (show (-1 : Int) = _; unfold nvT; omega) | (rw [hx (by omega)]; unfold nvT nv0; omega)
      · refine J_iconst (pc := 76) (v := (-1)) dX1_passFigures_76 (by decide) ?_
        refine J_goto (pc := 77) 81 dX1_passFigures_77 (by decide) ?_
        refine J_putIW (pc := 81) fF_X1_28 rfl rfl dX1_passFigures_81 (fun μ81 m81 => ?_)
        refine J_vret (pc := 84) dX1_passFigures_84 rfl ?_
        have efr : frn L T (d + 1) i = i := by rw [frn, if_neg (by first | omega | (intro h; exact absurd h.2 (by rw [← hby (by omega)]; assumption)))]
        rw [efr]
        refine ⟨rfl, by rw [m81, jI_i, if_neg (by decide)]; exact hn, fun hlt => ?_, fun o h => by rw [m81, jI_ne h], fun k h h5 => by rw [m81, jI_i, if_neg (fun z => h5 z.2)], by rw [m81]; rfl⟩
        rw [m81, jI_i, if_pos ⟨rfl, rfl⟩]
        first | (show (-1 : Int) = _; unfold nvT; omega) | (rw [hx (by omega)]; unfold nvT nv0; omega)
    · refine J_aload_n (pc := 18) dX1_passFigures_18 rfl ?_
      refine J_aload_n (pc := 19) dX1_passFigures_19 rfl ?_
      refine J_getI (pc := 20) fF_X1_19 rfl rfl dX1_passFigures_20 ?_
      refine J_callVz (pc := 23) fC_X1_31 rfl dX1_passFigures_23 (c_X1_byteAt hT2 i (hn)) rfl ⟨Nat.le_of_ble_eq_true rfl, Nat.le_of_ble_eq_true rfl⟩ rfl (Nat.le_of_ble_eq_true rfl) (fun z23 e23 => ?_)
      refine J_callSc (pc := 26) fC_X1_42 dX1_passFigures_26 (c_X1_isFigure (byt L T i) e23) rfl ⟨Nat.le_of_ble_eq_true rfl, Nat.le_of_ble_eq_true rfl⟩ rfl (Nat.le_of_ble_eq_true rfl) (fun h26 => ?_) (fun h26 => ?_)
      · refine J_if_eq_F (pc := 29) 62 dX1_passFigures_29 (by decide) (by decide) ?_
        refine J_iload_n (pc := 32) dX1_passFigures_32 rfl ?_
        refine J_bipush (pc := 33) (v := 10) dX1_passFigures_33 (by decide) ?_
        refine J_imul (pc := 35) dX1_passFigures_35 ?_
        refine J_aload_n (pc := 36) dX1_passFigures_36 rfl ?_
        refine J_aload_n (pc := 37) dX1_passFigures_37 rfl ?_
        refine J_getI (pc := 38) fF_X1_19 rfl rfl dX1_passFigures_38 ?_
        refine J_callVz (pc := 41) fC_X1_31 rfl dX1_passFigures_41 (c_X1_byteAt hT2 i (hn)) rfl ⟨Nat.le_of_ble_eq_true rfl, Nat.le_of_ble_eq_true rfl⟩ rfl (Nat.le_of_ble_eq_true rfl) (fun z41 e41 => ?_)
        refine J_iadd (pc := 44) dX1_passFigures_44 ?_
        refine J_bipush (pc := 45) (v := 48) dX1_passFigures_45 (by decide) ?_
        refine J_isub (pc := 47) dX1_passFigures_47 ?_
        refine J_istore_n (pc := 48) (lv' := [some (.ref 21), some (.int (((xv * 10) + z41) - 48))]) dX1_passFigures_48 (Nat.le_of_ble_eq_true rfl) rfl rfl ?_
        refine J_aload_n (pc := 49) dX1_passFigures_49 rfl ?_
        refine J_dup (pc := 50) dX1_passFigures_50 rfl ?_
        refine J_getI (pc := 51) fF_X1_19 rfl rfl dX1_passFigures_51 ?_
        refine J_iconst (pc := 54) (v := 1) dX1_passFigures_54 (by decide) ?_
        refine J_iaddW (pc := 55) (i : Int) 1 hn rfl dX1_passFigures_55 (by omega) (fun z55 e55 => ?_)
        refine J_putIW (pc := 56) fF_X1_19 rfl rfl dX1_passFigures_56 (fun μ56 m56 => ?_)
        refine J_goto (pc := 59) 7 dX1_passFigures_59 (by decide) ?_
        have hlet : i < L ∧ (48 ≤ T i ∧ T i ≤ 57) := ⟨by omega, by rw [← hby (by omega)]; assumption⟩
        have hdg2 : ∀ q, s ≤ q → q ≤ i → 48 ≤ T q ∧ T q ≤ 57 := fun q h1 h2 => by rcases (by omega : q < i ∨ q = i) with h3 | rfl; exact hdg q h1 h3; exact hlet.2
        refine J_mono (ih (i + 1) μ56 _ (by omega) (by omega) (by omega) (by rw [m56, jI_i, if_pos ⟨rfl, rfl⟩]; omega) (by rw [m56, jI_i, if_neg (by decide)]; exact hs3) (TX_fr hT2 (by rw [m56]; exact fr21_s (fr21_rf μ) (by decide))) (nv0_s hsi hx (by rw [e41]; exact hby hlet.1) hdg2) (fun q h1 h2 => hdg2 q h1 (by omega))) (fun v μ' hh => ?_)
        obtain ⟨hh0, hh1, hh5, hh2, hh3, hh4⟩ := hh
        rw [frn, if_pos hlet]
        exact ⟨hh0, hh1, hh5, fun o h => (hh2 o h).trans (by rw [m56, jI_ne h]), fun k h h5 => (hh3 k h h5).trans (by rw [m56, jI_i, if_neg (fun z => h z.2)]), hh4.trans (by rw [m56]; rfl)⟩
      · refine J_if_eq_T (pc := 29) 62 dX1_passFigures_29 (by decide) (by decide) ?_
        refine J_aload_n (pc := 62) dX1_passFigures_62 rfl ?_
        refine J_aload_n (pc := 63) dX1_passFigures_63 rfl ?_
        refine J_getI (pc := 64) fF_X1_19 rfl rfl dX1_passFigures_64 ?_
        refine J_aload_n (pc := 67) dX1_passFigures_67 rfl ?_
        refine J_getI (pc := 68) fF_X1_22 rfl rfl dX1_passFigures_68 ?_
        refine J_isubW (pc := 71) (i : Int) (s : Int) hn hs3 dX1_passFigures_71 (by omega) (fun z71 e71 => ?_)
        refine J_iconst (pc := 72) (v := 2) dX1_passFigures_72 (by decide) ?_
        refine J_icmp_leW (pc := 73) ((i : Int) - (s : Int)) 2 e71 rfl 80 dX1_passFigures_73 (by decide) (fun h73 => ?_) (fun h73 => ?_)
        · refine J_iload_n (pc := 80) dX1_passFigures_80 rfl ?_
          refine J_putIW (pc := 81) fF_X1_28 rfl rfl dX1_passFigures_81 (fun μ81 m81 => ?_)
          refine J_vret (pc := 84) dX1_passFigures_84 rfl ?_
          have efr : frn L T (d + 1) i = i := by rw [frn, if_neg (by first | omega | (intro h; exact absurd h.2 (by rw [← hby (by omega)]; assumption)))]
          rw [efr]
          refine ⟨rfl, by rw [m81, jI_i, if_neg (by decide)]; exact hn, fun hlt => ?_, fun o h => by rw [m81, jI_ne h], fun k h h5 => by rw [m81, jI_i, if_neg (fun z => h5 z.2)], by rw [m81]; rfl⟩
          rw [m81, jI_i, if_pos ⟨rfl, rfl⟩]
          first | (show (-1 : Int) = _; unfold nvT; omega) | (rw [hx (by omega)]; unfold nvT nv0; omega)
        · refine J_iconst (pc := 76) (v := (-1)) dX1_passFigures_76 (by decide) ?_
          refine J_goto (pc := 77) 81 dX1_passFigures_77 (by decide) ?_
          refine J_putIW (pc := 81) fF_X1_28 rfl rfl dX1_passFigures_81 (fun μ81 m81 => ?_)
          refine J_vret (pc := 84) dX1_passFigures_84 rfl ?_
          have efr : frn L T (d + 1) i = i := by rw [frn, if_neg (by first | omega | (intro h; exact absurd h.2 (by rw [← hby (by omega)]; assumption)))]
          rw [efr]
          refine ⟨rfl, by rw [m81, jI_i, if_neg (by decide)]; exact hn, fun hlt => ?_, fun o h => by rw [m81, jI_ne h], fun k h h5 => by rw [m81, jI_i, if_neg (fun z => h5 z.2)], by rw [m81]; rfl⟩
          rw [m81, jI_i, if_pos ⟨rfl, rfl⟩]
          first | (show (-1 : Int) = _; unfold nvT; omega) | (rw [hx (by omega)]; unfold nvT nv0; omega)
set_option maxRecDepth 100000 in
set_option maxHeartbeats 4000000 in
theorem c_X1_passFigures {c : JM} {L : Nat} {T : Nat → Int} (hT : TX L T c) {i : Nat} (hn : (c.1 21 2).toInt = (i : Int)) (hs3 : (c.1 21 3).toInt = (i : Int)) (hi : i < L ∧ (48 ≤ T i ∧ T i ≤ 57)) : Con G shC mX1_passFigures [.ref 21] c (fun v μ' => v = none ∧ (μ'.1 21 2).toInt = (FN L T i : Nat) ∧ (μ'.1 21 4).toInt = 2 ∧ (μ'.1 21 5).toInt = nvT T i (FN L T i) ∧ (μ'.1 21 3) = c.1 21 3 ∧ fr21 c μ') := by
  refine Con_of [some (.ref 21), none] (by decide +kernel) (Nat.le_of_ble_eq_true rfl) (fun _ h => h) ?_
  refine J_aload_n (pc := 0) dX1_passFigures_0 rfl ?_
  refine J_iconst (pc := 1) (v := 2) dX1_passFigures_1 (by decide) ?_
  refine J_putIW (pc := 2) fF_X1_25 rfl rfl dX1_passFigures_2 (fun μ2 m2 => ?_)
  refine J_iconst (pc := 5) (v := 0) dX1_passFigures_5 (by decide) ?_
  refine J_istore_n (pc := 6) (lv' := [some (.ref 21), some (.int 0)]) dX1_passFigures_6 (Nat.le_of_ble_eq_true rfl) rfl rfl ?_
  refine J_mono (l_pf (s := i) 151 i μ2 0 (by have := hT.2.1; omega) (by omega) (Nat.le_refl _) (by rw [m2, jI_i, if_neg (by decide)]; exact hn) (by rw [m2, jI_i, if_neg (by decide)]; exact hs3) (TX_fr hT (by rw [m2]; exact fr21_s (fr21_rf c) (by decide))) (fun _ => by unfold nv0; rw [if_pos rfl]; rfl) (fun q h1 h2 => absurd h2 (by omega))) (fun v μ' hh => ?_)
  obtain ⟨hh0, hh1, hh5, hh2, hh3, hh4⟩ := hh
  exact ⟨hh0, hh1, by rw [hh3 4 (by decide) (by decide), m2, jI_i, if_pos ⟨rfl, rfl⟩]; rfl, hh5 (FN_1 hi hT.2.1), by rw [hh3 3 (by decide) (by decide), m2, jI_i, if_neg (by decide)], ⟨fun o h => by rw [hh2 o h, m2, jI_ne h], by rw [hh3 1 (by decide) (by decide), m2, jI_i, if_neg (by decide)], by rw [hh4, m2]; rfl⟩⟩
def tkR (L : Nat) (T : Nat → Int) (s : Nat) (μ : JM) : Prop := (μ.1 21 3).toInt = (s : Int) ∧ ((s = L ∧ (μ.1 21 4).toInt = 0 ∧ (μ.1 21 2).toInt = (L : Int)) ∨ ((s < L ∧ 97 ≤ T s ∧ T s ≤ 122) ∧ (μ.1 21 4).toInt = 1 ∧ (μ.1 21 2).toInt = (LN L T s : Nat)) ∨ ((s < L ∧ 48 ≤ T s ∧ T s ≤ 57) ∧ (μ.1 21 4).toInt = 2 ∧ (μ.1 21 2).toInt = (FN L T s : Nat) ∧ (μ.1 21 5).toInt = nvT T s (FN L T s)) ∨ ((s < L ∧ T s = 59) ∧ (μ.1 21 4).toInt = 3 ∧ (μ.1 21 2).toInt = (s : Int) + 1) ∨ ((s < L ∧ ¬ (97 ≤ T s ∧ T s ≤ 122) ∧ ¬ (48 ≤ T s ∧ T s ≤ 57) ∧ T s ≠ 59) ∧ (μ.1 21 4).toInt = 4 ∧ (μ.1 21 2).toInt = (s : Int) + 1))
set_option maxRecDepth 100000 in
set_option maxHeartbeats 4000000 in
theorem l_adv {c : JM} {L : Nat} {T : Nat → Int} {i0 : Nat} : ∀ d : Nat, ∀ (i : Nat) (μ : JM), L ≤ i + d → i ≤ L → SK L T i0 = skp L T d i → (μ.1 21 2).toInt = (i : Int) → TX L T μ → fr21 c μ → J G shC mX1_advance 0 [some (.ref 21), none] [] μ (fun v μ' => v = none ∧ tkR L T (SK L T i0) μ' ∧ fr21 c μ') := by
  intro d
  induction d with
  | zero =>
    intro i μ hd hi hsk hn hT2 hfr
    have hL150 := hT2.2.1
    have hby : i < L → byt L T i = T i := fun h => by unfold byt; rw [if_pos h]
    have hbn : ¬ i < L → byt L T i = -1 := fun h => by unfold byt; rw [if_neg h]
    refine J_aload_n (pc := 0) dX1_advance_0 rfl ?_
    refine J_getI (pc := 1) fF_X1_19 rfl rfl dX1_advance_1 ?_
    refine J_aload_n (pc := 4) dX1_advance_4 rfl ?_
    refine J_getI (pc := 5) fF_X1_15 rfl rfl dX1_advance_5 ?_
    refine J_icmp_geW (pc := 8) (i : Int) (L : Int) hn hT2.1 37 dX1_advance_8 (by decide) (fun h8 => ?_) (fun h8 => ?_)
    · have hi0 : SK L T i0 = i := by rw [hsk]; rfl
      rw [hi0]
      refine J_aload_n (pc := 37) dX1_advance_37 rfl ?_
      refine J_aload_n (pc := 38) dX1_advance_38 rfl ?_
      refine J_getI (pc := 39) fF_X1_19 rfl rfl dX1_advance_39 ?_
      refine J_putIW (pc := 42) fF_X1_22 rfl rfl dX1_advance_42 (fun μ42 m42 => ?_)
      have hT3 := TX_fr hT2 (by rw [m42]; exact fr21_s (fr21_rf μ) (by decide) : fr21 μ μ42)
      refine J_aload_n (pc := 45) dX1_advance_45 rfl ?_
      refine J_aload_n (pc := 46) dX1_advance_46 rfl ?_
      refine J_getI (pc := 47) fF_X1_22 rfl rfl dX1_advance_47 ?_
      refine J_callVz (pc := 50) fC_X1_31 rfl dX1_advance_50 (c_X1_byteAt hT3 i (by rw [m42, jI_i, if_pos ⟨rfl, rfl⟩]; exact hn)) rfl ⟨Nat.le_of_ble_eq_true rfl, Nat.le_of_ble_eq_true rfl⟩ rfl (Nat.le_of_ble_eq_true rfl) (fun z50 e50 => ?_)
      refine J_istore_n (pc := 53) (lv' := [some (.ref 21), some (.int z50)]) dX1_advance_53 (Nat.le_of_ble_eq_true rfl) rfl rfl ?_
      refine J_iload_n (pc := 54) dX1_advance_54 rfl ?_
      refine J_callSc (pc := 55) fC_X1_35 dX1_advance_55 (c_X1_isLetter (byt L T i) e50) rfl ⟨Nat.le_of_ble_eq_true rfl, Nat.le_of_ble_eq_true rfl⟩ rfl (Nat.le_of_ble_eq_true rfl) (fun h55 => ?_) (fun h55 => ?_)
      · refine J_if_eq_F (pc := 58) 68 dX1_advance_58 (by decide) (by decide) ?_
        refine J_aload_n (pc := 61) dX1_advance_61 rfl ?_
        refine J_callVq (pc := 62) fC_X1_39 rfl dX1_advance_62 (c_X1_passLetters hT3 (by rw [m42, jI_i, if_neg (by decide)]; exact hn) hi) rfl ⟨Nat.le_of_ble_eq_true rfl, Nat.le_of_ble_eq_true rfl⟩ rfl (Nat.le_of_ble_eq_true rfl) (fun v62 μ62 q62 => ?_)
        obtain ⟨rfl, p1, p2, p3, p4⟩ := q62
        refine J_goto (pc := 65) 126 dX1_advance_65 (by decide) ?_
        refine J_vret (pc := 126) dX1_advance_126 rfl ?_
        exact ⟨rfl, ⟨by rw [p3, m42, jI_i, if_pos ⟨rfl, rfl⟩]; exact hn, Or.inr (Or.inl ⟨⟨by omega, by rw [← hby (by omega)]; exact h55⟩, p2, p1⟩)⟩, fr21_tr (fr21_tr hfr (by rw [m42]; exact fr21_s (fr21_rf μ) (by decide))) p4⟩
      · refine J_if_eq_T (pc := 58) 68 dX1_advance_58 (by decide) (by decide) ?_
        refine J_iload_n (pc := 68) dX1_advance_68 rfl ?_
        refine J_callSc (pc := 69) fC_X1_42 dX1_advance_69 (c_X1_isFigure (byt L T i) e50) rfl ⟨Nat.le_of_ble_eq_true rfl, Nat.le_of_ble_eq_true rfl⟩ rfl (Nat.le_of_ble_eq_true rfl) (fun h69 => ?_) (fun h69 => ?_)
        · refine J_if_eq_F (pc := 72) 82 dX1_advance_72 (by decide) (by decide) ?_
          refine J_aload_n (pc := 75) dX1_advance_75 rfl ?_
          refine J_callVq (pc := 76) fC_X1_45 rfl dX1_advance_76 (c_X1_passFigures hT3 (by rw [m42, jI_i, if_neg (by decide)]; exact hn) (by rw [m42, jI_i, if_pos ⟨rfl, rfl⟩]; exact hn) ⟨by omega, by rw [← hby (by omega)]; exact h69⟩) rfl ⟨Nat.le_of_ble_eq_true rfl, Nat.le_of_ble_eq_true rfl⟩ rfl (Nat.le_of_ble_eq_true rfl) (fun v76 μ76 q76 => ?_)
          obtain ⟨rfl, p1, p2, p5, p3, p4⟩ := q76
          refine J_goto (pc := 79) 126 dX1_advance_79 (by decide) ?_
          refine J_vret (pc := 126) dX1_advance_126 rfl ?_
          exact ⟨rfl, ⟨by rw [p3, m42, jI_i, if_pos ⟨rfl, rfl⟩]; exact hn, Or.inr (Or.inr (Or.inl ⟨⟨by omega, by rw [← hby (by omega)]; exact h69⟩, p2, p1, p5⟩))⟩, fr21_tr (fr21_tr hfr (by rw [m42]; exact fr21_s (fr21_rf μ) (by decide))) p4⟩
        · refine J_if_eq_T (pc := 72) 82 dX1_advance_72 (by decide) (by decide) ?_
          refine J_aload_n (pc := 82) dX1_advance_82 rfl ?_
          refine J_getI (pc := 83) fF_X1_22 rfl rfl dX1_advance_83 ?_
          refine J_aload_n (pc := 86) dX1_advance_86 rfl ?_
          refine J_getI (pc := 87) fF_X1_15 rfl rfl dX1_advance_87 ?_
          refine J_icmp_geW (pc := 90) (i : Int) (L : Int) (by rw [m42, jI_i, if_pos ⟨rfl, rfl⟩]; exact hn) hT3.1 121 dX1_advance_90 (by decide) (fun h90 => ?_) (fun h90 => ?_)
          · refine J_aload_n (pc := 121) dX1_advance_121 rfl ?_
            refine J_iconst (pc := 122) (v := 0) dX1_advance_122 (by decide) ?_
            refine J_putIW (pc := 123) fF_X1_25 rfl rfl dX1_advance_123 (fun μ123 m123 => ?_)
            refine J_vret (pc := 126) dX1_advance_126 rfl ?_
            refine ⟨rfl, ⟨by rw [m123, jI_i, if_neg (by decide), m42, jI_i, if_pos ⟨rfl, rfl⟩]; exact hn, Or.inl ⟨by omega, by rw [m123, jI_i, if_pos ⟨rfl, rfl⟩]; rfl, by rw [m123, jI_i, if_neg (by decide), m42, jI_i, if_neg (by decide)]; omega⟩⟩, ?_⟩
            rw [m123]; exact fr21_s (by rw [m42]; exact fr21_s hfr (by decide)) (by decide)
          · refine J_aload_n (pc := 93) dX1_advance_93 rfl ?_
            refine J_iload_n (pc := 94) dX1_advance_94 rfl ?_
            refine J_bipush (pc := 95) (v := 59) dX1_advance_95 (by decide) ?_
            refine J_icmp_neW (pc := 97) (byt L T i) 59 e50 rfl 104 dX1_advance_97 (by decide) (fun h97 => ?_) (fun h97 => ?_)
            · refine J_iconst (pc := 104) (v := 4) dX1_advance_104 (by decide) ?_
              refine J_putIW (pc := 105) fF_X1_25 rfl rfl dX1_advance_105 (fun μ105 m105 => ?_)
              refine J_aload_n (pc := 108) dX1_advance_108 rfl ?_
              refine J_dup (pc := 109) dX1_advance_109 rfl ?_
              refine J_getI (pc := 110) fF_X1_19 rfl rfl dX1_advance_110 ?_
              refine J_iconst (pc := 113) (v := 1) dX1_advance_113 (by decide) ?_
              refine J_iaddW (pc := 114) (i : Int) 1 (show (μ105.1 21 2).toInt = (i : Int) by simp [m105, m42, jI_i]; exact hn) rfl dX1_advance_114 (by omega) (fun z114 e114 => ?_)
              refine J_putIW (pc := 115) fF_X1_19 rfl rfl dX1_advance_115 (fun μ115 m115 => ?_)
              refine J_goto (pc := 118) 126 dX1_advance_118 (by decide) ?_
              refine J_vret (pc := 126) dX1_advance_126 rfl ?_
              first
                | (refine ⟨rfl, ⟨by rw [m115, jI_i, if_neg (by decide), m105, jI_i, if_neg (by decide), m42, jI_i, if_pos ⟨rfl, rfl⟩]; exact hn, Or.inr (Or.inr (Or.inr (Or.inl ⟨⟨by omega, by rw [← hby (by omega)]; exact h97⟩, by rw [m115, jI_i, if_neg (by decide), m105, jI_i, if_pos ⟨rfl, rfl⟩]; rfl, by rw [m115, jI_i, if_pos ⟨rfl, rfl⟩]; omega⟩)))⟩, ?_⟩; rw [m115, m105, m42]; exact fr21_s (fr21_s (fr21_s hfr (by decide)) (by decide)) (by decide))
                | (refine ⟨rfl, ⟨by rw [m115, jI_i, if_neg (by decide), m105, jI_i, if_neg (by decide), m42, jI_i, if_pos ⟨rfl, rfl⟩]; exact hn, Or.inr (Or.inr (Or.inr (Or.inr ⟨⟨by omega, by rw [← hby (by omega)]; exact h55, by rw [← hby (by omega)]; exact h69, by rw [← hby (by omega)]; exact h97⟩, by rw [m115, jI_i, if_neg (by decide), m105, jI_i, if_pos ⟨rfl, rfl⟩]; rfl, by rw [m115, jI_i, if_pos ⟨rfl, rfl⟩]; omega⟩)))⟩, ?_⟩; rw [m115, m105, m42]; exact fr21_s (fr21_s (fr21_s hfr (by decide)) (by decide)) (by decide))
            · refine J_iconst (pc := 100) (v := 3) dX1_advance_100 (by decide) ?_
              refine J_goto (pc := 101) 105 dX1_advance_101 (by decide) ?_
              refine J_putIW (pc := 105) fF_X1_25 rfl rfl dX1_advance_105 (fun μ105 m105 => ?_)
              refine J_aload_n (pc := 108) dX1_advance_108 rfl ?_
              refine J_dup (pc := 109) dX1_advance_109 rfl ?_
              refine J_getI (pc := 110) fF_X1_19 rfl rfl dX1_advance_110 ?_
              refine J_iconst (pc := 113) (v := 1) dX1_advance_113 (by decide) ?_
              refine J_iaddW (pc := 114) (i : Int) 1 (show (μ105.1 21 2).toInt = (i : Int) by simp [m105, m42, jI_i]; exact hn) rfl dX1_advance_114 (by omega) (fun z114 e114 => ?_)
              refine J_putIW (pc := 115) fF_X1_19 rfl rfl dX1_advance_115 (fun μ115 m115 => ?_)
              refine J_goto (pc := 118) 126 dX1_advance_118 (by decide) ?_
              refine J_vret (pc := 126) dX1_advance_126 rfl ?_
              first
                | (refine ⟨rfl, ⟨by rw [m115, jI_i, if_neg (by decide), m105, jI_i, if_neg (by decide), m42, jI_i, if_pos ⟨rfl, rfl⟩]; exact hn, Or.inr (Or.inr (Or.inr (Or.inl ⟨⟨by omega, by rw [← hby (by omega)]; exact h97⟩, by rw [m115, jI_i, if_neg (by decide), m105, jI_i, if_pos ⟨rfl, rfl⟩]; rfl, by rw [m115, jI_i, if_pos ⟨rfl, rfl⟩]; omega⟩)))⟩, ?_⟩; rw [m115, m105, m42]; exact fr21_s (fr21_s (fr21_s hfr (by decide)) (by decide)) (by decide))
                | (refine ⟨rfl, ⟨by rw [m115, jI_i, if_neg (by decide), m105, jI_i, if_neg (by decide), m42, jI_i, if_pos ⟨rfl, rfl⟩]; exact hn, Or.inr (Or.inr (Or.inr (Or.inr ⟨⟨by omega, by rw [← hby (by omega)]; exact h55, by rw [← hby (by omega)]; exact h69, by rw [← hby (by omega)]; exact h97⟩, by rw [m115, jI_i, if_neg (by decide), m105, jI_i, if_pos ⟨rfl, rfl⟩]; rfl, by rw [m115, jI_i, if_pos ⟨rfl, rfl⟩]; omega⟩)))⟩, ?_⟩; rw [m115, m105, m42]; exact fr21_s (fr21_s (fr21_s hfr (by decide)) (by decide)) (by decide))
    · exfalso; omega
  | succ d ih =>
    intro i μ hd hi hsk hn hT2 hfr
    have hL150 := hT2.2.1
    have hby : i < L → byt L T i = T i := fun h => by unfold byt; rw [if_pos h]
    have hbn : ¬ i < L → byt L T i = -1 := fun h => by unfold byt; rw [if_neg h]
    refine J_aload_n (pc := 0) dX1_advance_0 rfl ?_
    refine J_getI (pc := 1) fF_X1_19 rfl rfl dX1_advance_1 ?_
    refine J_aload_n (pc := 4) dX1_advance_4 rfl ?_
    refine J_getI (pc := 5) fF_X1_15 rfl rfl dX1_advance_5 ?_
    refine J_icmp_geW (pc := 8) (i : Int) (L : Int) hn hT2.1 37 dX1_advance_8 (by decide) (fun h8 => ?_) (fun h8 => ?_)
    · have hi0 : SK L T i0 = i := by rw [hsk, skp, if_neg (by first | omega | (intro h; have := h.2; rw [← hby (by omega)] at this; omega))]
      rw [hi0]
      refine J_aload_n (pc := 37) dX1_advance_37 rfl ?_
      refine J_aload_n (pc := 38) dX1_advance_38 rfl ?_
      refine J_getI (pc := 39) fF_X1_19 rfl rfl dX1_advance_39 ?_
      refine J_putIW (pc := 42) fF_X1_22 rfl rfl dX1_advance_42 (fun μ42 m42 => ?_)
      have hT3 := TX_fr hT2 (by rw [m42]; exact fr21_s (fr21_rf μ) (by decide) : fr21 μ μ42)
      refine J_aload_n (pc := 45) dX1_advance_45 rfl ?_
      refine J_aload_n (pc := 46) dX1_advance_46 rfl ?_
      refine J_getI (pc := 47) fF_X1_22 rfl rfl dX1_advance_47 ?_
      refine J_callVz (pc := 50) fC_X1_31 rfl dX1_advance_50 (c_X1_byteAt hT3 i (by rw [m42, jI_i, if_pos ⟨rfl, rfl⟩]; exact hn)) rfl ⟨Nat.le_of_ble_eq_true rfl, Nat.le_of_ble_eq_true rfl⟩ rfl (Nat.le_of_ble_eq_true rfl) (fun z50 e50 => ?_)
      refine J_istore_n (pc := 53) (lv' := [some (.ref 21), some (.int z50)]) dX1_advance_53 (Nat.le_of_ble_eq_true rfl) rfl rfl ?_
      refine J_iload_n (pc := 54) dX1_advance_54 rfl ?_
      refine J_callSc (pc := 55) fC_X1_35 dX1_advance_55 (c_X1_isLetter (byt L T i) e50) rfl ⟨Nat.le_of_ble_eq_true rfl, Nat.le_of_ble_eq_true rfl⟩ rfl (Nat.le_of_ble_eq_true rfl) (fun h55 => ?_) (fun h55 => ?_)
      · refine J_if_eq_F (pc := 58) 68 dX1_advance_58 (by decide) (by decide) ?_
        refine J_aload_n (pc := 61) dX1_advance_61 rfl ?_
        refine J_callVq (pc := 62) fC_X1_39 rfl dX1_advance_62 (c_X1_passLetters hT3 (by rw [m42, jI_i, if_neg (by decide)]; exact hn) hi) rfl ⟨Nat.le_of_ble_eq_true rfl, Nat.le_of_ble_eq_true rfl⟩ rfl (Nat.le_of_ble_eq_true rfl) (fun v62 μ62 q62 => ?_)
        obtain ⟨rfl, p1, p2, p3, p4⟩ := q62
        refine J_goto (pc := 65) 126 dX1_advance_65 (by decide) ?_
        refine J_vret (pc := 126) dX1_advance_126 rfl ?_
        exact ⟨rfl, ⟨by rw [p3, m42, jI_i, if_pos ⟨rfl, rfl⟩]; exact hn, Or.inr (Or.inl ⟨⟨by omega, by rw [← hby (by omega)]; exact h55⟩, p2, p1⟩)⟩, fr21_tr (fr21_tr hfr (by rw [m42]; exact fr21_s (fr21_rf μ) (by decide))) p4⟩
      · refine J_if_eq_T (pc := 58) 68 dX1_advance_58 (by decide) (by decide) ?_
        refine J_iload_n (pc := 68) dX1_advance_68 rfl ?_
        refine J_callSc (pc := 69) fC_X1_42 dX1_advance_69 (c_X1_isFigure (byt L T i) e50) rfl ⟨Nat.le_of_ble_eq_true rfl, Nat.le_of_ble_eq_true rfl⟩ rfl (Nat.le_of_ble_eq_true rfl) (fun h69 => ?_) (fun h69 => ?_)
        · refine J_if_eq_F (pc := 72) 82 dX1_advance_72 (by decide) (by decide) ?_
          refine J_aload_n (pc := 75) dX1_advance_75 rfl ?_
          refine J_callVq (pc := 76) fC_X1_45 rfl dX1_advance_76 (c_X1_passFigures hT3 (by rw [m42, jI_i, if_neg (by decide)]; exact hn) (by rw [m42, jI_i, if_pos ⟨rfl, rfl⟩]; exact hn) ⟨by omega, by rw [← hby (by omega)]; exact h69⟩) rfl ⟨Nat.le_of_ble_eq_true rfl, Nat.le_of_ble_eq_true rfl⟩ rfl (Nat.le_of_ble_eq_true rfl) (fun v76 μ76 q76 => ?_)
          obtain ⟨rfl, p1, p2, p5, p3, p4⟩ := q76
          refine J_goto (pc := 79) 126 dX1_advance_79 (by decide) ?_
          refine J_vret (pc := 126) dX1_advance_126 rfl ?_
          exact ⟨rfl, ⟨by rw [p3, m42, jI_i, if_pos ⟨rfl, rfl⟩]; exact hn, Or.inr (Or.inr (Or.inl ⟨⟨by omega, by rw [← hby (by omega)]; exact h69⟩, p2, p1, p5⟩))⟩, fr21_tr (fr21_tr hfr (by rw [m42]; exact fr21_s (fr21_rf μ) (by decide))) p4⟩
        · refine J_if_eq_T (pc := 72) 82 dX1_advance_72 (by decide) (by decide) ?_
          refine J_aload_n (pc := 82) dX1_advance_82 rfl ?_
          refine J_getI (pc := 83) fF_X1_22 rfl rfl dX1_advance_83 ?_
          refine J_aload_n (pc := 86) dX1_advance_86 rfl ?_
          refine J_getI (pc := 87) fF_X1_15 rfl rfl dX1_advance_87 ?_
          refine J_icmp_geW (pc := 90) (i : Int) (L : Int) (by rw [m42, jI_i, if_pos ⟨rfl, rfl⟩]; exact hn) hT3.1 121 dX1_advance_90 (by decide) (fun h90 => ?_) (fun h90 => ?_)
          · refine J_aload_n (pc := 121) dX1_advance_121 rfl ?_
            refine J_iconst (pc := 122) (v := 0) dX1_advance_122 (by decide) ?_
            refine J_putIW (pc := 123) fF_X1_25 rfl rfl dX1_advance_123 (fun μ123 m123 => ?_)
            refine J_vret (pc := 126) dX1_advance_126 rfl ?_
            refine ⟨rfl, ⟨by rw [m123, jI_i, if_neg (by decide), m42, jI_i, if_pos ⟨rfl, rfl⟩]; exact hn, Or.inl ⟨by omega, by rw [m123, jI_i, if_pos ⟨rfl, rfl⟩]; rfl, by rw [m123, jI_i, if_neg (by decide), m42, jI_i, if_neg (by decide)]; omega⟩⟩, ?_⟩
            rw [m123]; exact fr21_s (by rw [m42]; exact fr21_s hfr (by decide)) (by decide)
          · refine J_aload_n (pc := 93) dX1_advance_93 rfl ?_
            refine J_iload_n (pc := 94) dX1_advance_94 rfl ?_
            refine J_bipush (pc := 95) (v := 59) dX1_advance_95 (by decide) ?_
            refine J_icmp_neW (pc := 97) (byt L T i) 59 e50 rfl 104 dX1_advance_97 (by decide) (fun h97 => ?_) (fun h97 => ?_)
            · refine J_iconst (pc := 104) (v := 4) dX1_advance_104 (by decide) ?_
              refine J_putIW (pc := 105) fF_X1_25 rfl rfl dX1_advance_105 (fun μ105 m105 => ?_)
              refine J_aload_n (pc := 108) dX1_advance_108 rfl ?_
              refine J_dup (pc := 109) dX1_advance_109 rfl ?_
              refine J_getI (pc := 110) fF_X1_19 rfl rfl dX1_advance_110 ?_
              refine J_iconst (pc := 113) (v := 1) dX1_advance_113 (by decide) ?_
              refine J_iaddW (pc := 114) (i : Int) 1 (show (μ105.1 21 2).toInt = (i : Int) by simp [m105, m42, jI_i]; exact hn) rfl dX1_advance_114 (by omega) (fun z114 e114 => ?_)
              refine J_putIW (pc := 115) fF_X1_19 rfl rfl dX1_advance_115 (fun μ115 m115 => ?_)
              refine J_goto (pc := 118) 126 dX1_advance_118 (by decide) ?_
              refine J_vret (pc := 126) dX1_advance_126 rfl ?_
              first
                | (refine ⟨rfl, ⟨by rw [m115, jI_i, if_neg (by decide), m105, jI_i, if_neg (by decide), m42, jI_i, if_pos ⟨rfl, rfl⟩]; exact hn, Or.inr (Or.inr (Or.inr (Or.inl ⟨⟨by omega, by rw [← hby (by omega)]; exact h97⟩, by rw [m115, jI_i, if_neg (by decide), m105, jI_i, if_pos ⟨rfl, rfl⟩]; rfl, by rw [m115, jI_i, if_pos ⟨rfl, rfl⟩]; omega⟩)))⟩, ?_⟩; rw [m115, m105, m42]; exact fr21_s (fr21_s (fr21_s hfr (by decide)) (by decide)) (by decide))
                | (refine ⟨rfl, ⟨by rw [m115, jI_i, if_neg (by decide), m105, jI_i, if_neg (by decide), m42, jI_i, if_pos ⟨rfl, rfl⟩]; exact hn, Or.inr (Or.inr (Or.inr (Or.inr ⟨⟨by omega, by rw [← hby (by omega)]; exact h55, by rw [← hby (by omega)]; exact h69, by rw [← hby (by omega)]; exact h97⟩, by rw [m115, jI_i, if_neg (by decide), m105, jI_i, if_pos ⟨rfl, rfl⟩]; rfl, by rw [m115, jI_i, if_pos ⟨rfl, rfl⟩]; omega⟩)))⟩, ?_⟩; rw [m115, m105, m42]; exact fr21_s (fr21_s (fr21_s hfr (by decide)) (by decide)) (by decide))
            · refine J_iconst (pc := 100) (v := 3) dX1_advance_100 (by decide) ?_
              refine J_goto (pc := 101) 105 dX1_advance_101 (by decide) ?_
              refine J_putIW (pc := 105) fF_X1_25 rfl rfl dX1_advance_105 (fun μ105 m105 => ?_)
              refine J_aload_n (pc := 108) dX1_advance_108 rfl ?_
              refine J_dup (pc := 109) dX1_advance_109 rfl ?_
              refine J_getI (pc := 110) fF_X1_19 rfl rfl dX1_advance_110 ?_
              refine J_iconst (pc := 113) (v := 1) dX1_advance_113 (by decide) ?_
              refine J_iaddW (pc := 114) (i : Int) 1 (show (μ105.1 21 2).toInt = (i : Int) by simp [m105, m42, jI_i]; exact hn) rfl dX1_advance_114 (by omega) (fun z114 e114 => ?_)
              refine J_putIW (pc := 115) fF_X1_19 rfl rfl dX1_advance_115 (fun μ115 m115 => ?_)
              refine J_goto (pc := 118) 126 dX1_advance_118 (by decide) ?_
              refine J_vret (pc := 126) dX1_advance_126 rfl ?_
              first
                | (refine ⟨rfl, ⟨by rw [m115, jI_i, if_neg (by decide), m105, jI_i, if_neg (by decide), m42, jI_i, if_pos ⟨rfl, rfl⟩]; exact hn, Or.inr (Or.inr (Or.inr (Or.inl ⟨⟨by omega, by rw [← hby (by omega)]; exact h97⟩, by rw [m115, jI_i, if_neg (by decide), m105, jI_i, if_pos ⟨rfl, rfl⟩]; rfl, by rw [m115, jI_i, if_pos ⟨rfl, rfl⟩]; omega⟩)))⟩, ?_⟩; rw [m115, m105, m42]; exact fr21_s (fr21_s (fr21_s hfr (by decide)) (by decide)) (by decide))
                | (refine ⟨rfl, ⟨by rw [m115, jI_i, if_neg (by decide), m105, jI_i, if_neg (by decide), m42, jI_i, if_pos ⟨rfl, rfl⟩]; exact hn, Or.inr (Or.inr (Or.inr (Or.inr ⟨⟨by omega, by rw [← hby (by omega)]; exact h55, by rw [← hby (by omega)]; exact h69, by rw [← hby (by omega)]; exact h97⟩, by rw [m115, jI_i, if_neg (by decide), m105, jI_i, if_pos ⟨rfl, rfl⟩]; rfl, by rw [m115, jI_i, if_pos ⟨rfl, rfl⟩]; omega⟩)))⟩, ?_⟩; rw [m115, m105, m42]; exact fr21_s (fr21_s (fr21_s hfr (by decide)) (by decide)) (by decide))
    · refine J_aload_n (pc := 11) dX1_advance_11 rfl ?_
      refine J_aload_n (pc := 12) dX1_advance_12 rfl ?_
      refine J_getI (pc := 13) fF_X1_19 rfl rfl dX1_advance_13 ?_
      refine J_callVz (pc := 16) fC_X1_31 rfl dX1_advance_16 (c_X1_byteAt hT2 i (hn)) rfl ⟨Nat.le_of_ble_eq_true rfl, Nat.le_of_ble_eq_true rfl⟩ rfl (Nat.le_of_ble_eq_true rfl) (fun z16 e16 => ?_)
      refine J_bipush (pc := 19) (v := 32) dX1_advance_19 (by decide) ?_
      refine J_icmp_neW (pc := 21) (byt L T i) 32 e16 rfl 37 dX1_advance_21 (by decide) (fun h21 => ?_) (fun h21 => ?_)
      · have hi0 : SK L T i0 = i := by rw [hsk, skp, if_neg (by first | omega | (intro h; have := h.2; rw [← hby (by omega)] at this; omega))]
        rw [hi0]
        refine J_aload_n (pc := 37) dX1_advance_37 rfl ?_
        refine J_aload_n (pc := 38) dX1_advance_38 rfl ?_
        refine J_getI (pc := 39) fF_X1_19 rfl rfl dX1_advance_39 ?_
        refine J_putIW (pc := 42) fF_X1_22 rfl rfl dX1_advance_42 (fun μ42 m42 => ?_)
        have hT3 := TX_fr hT2 (by rw [m42]; exact fr21_s (fr21_rf μ) (by decide) : fr21 μ μ42)
        refine J_aload_n (pc := 45) dX1_advance_45 rfl ?_
        refine J_aload_n (pc := 46) dX1_advance_46 rfl ?_
        refine J_getI (pc := 47) fF_X1_22 rfl rfl dX1_advance_47 ?_
        refine J_callVz (pc := 50) fC_X1_31 rfl dX1_advance_50 (c_X1_byteAt hT3 i (by rw [m42, jI_i, if_pos ⟨rfl, rfl⟩]; exact hn)) rfl ⟨Nat.le_of_ble_eq_true rfl, Nat.le_of_ble_eq_true rfl⟩ rfl (Nat.le_of_ble_eq_true rfl) (fun z50 e50 => ?_)
        refine J_istore_n (pc := 53) (lv' := [some (.ref 21), some (.int z50)]) dX1_advance_53 (Nat.le_of_ble_eq_true rfl) rfl rfl ?_
        refine J_iload_n (pc := 54) dX1_advance_54 rfl ?_
        refine J_callSc (pc := 55) fC_X1_35 dX1_advance_55 (c_X1_isLetter (byt L T i) e50) rfl ⟨Nat.le_of_ble_eq_true rfl, Nat.le_of_ble_eq_true rfl⟩ rfl (Nat.le_of_ble_eq_true rfl) (fun h55 => ?_) (fun h55 => ?_)
        · refine J_if_eq_F (pc := 58) 68 dX1_advance_58 (by decide) (by decide) ?_
          refine J_aload_n (pc := 61) dX1_advance_61 rfl ?_
          refine J_callVq (pc := 62) fC_X1_39 rfl dX1_advance_62 (c_X1_passLetters hT3 (by rw [m42, jI_i, if_neg (by decide)]; exact hn) hi) rfl ⟨Nat.le_of_ble_eq_true rfl, Nat.le_of_ble_eq_true rfl⟩ rfl (Nat.le_of_ble_eq_true rfl) (fun v62 μ62 q62 => ?_)
          obtain ⟨rfl, p1, p2, p3, p4⟩ := q62
          refine J_goto (pc := 65) 126 dX1_advance_65 (by decide) ?_
          refine J_vret (pc := 126) dX1_advance_126 rfl ?_
          exact ⟨rfl, ⟨by rw [p3, m42, jI_i, if_pos ⟨rfl, rfl⟩]; exact hn, Or.inr (Or.inl ⟨⟨by omega, by rw [← hby (by omega)]; exact h55⟩, p2, p1⟩)⟩, fr21_tr (fr21_tr hfr (by rw [m42]; exact fr21_s (fr21_rf μ) (by decide))) p4⟩
        · refine J_if_eq_T (pc := 58) 68 dX1_advance_58 (by decide) (by decide) ?_
          refine J_iload_n (pc := 68) dX1_advance_68 rfl ?_
          refine J_callSc (pc := 69) fC_X1_42 dX1_advance_69 (c_X1_isFigure (byt L T i) e50) rfl ⟨Nat.le_of_ble_eq_true rfl, Nat.le_of_ble_eq_true rfl⟩ rfl (Nat.le_of_ble_eq_true rfl) (fun h69 => ?_) (fun h69 => ?_)
          · refine J_if_eq_F (pc := 72) 82 dX1_advance_72 (by decide) (by decide) ?_
            refine J_aload_n (pc := 75) dX1_advance_75 rfl ?_
            refine J_callVq (pc := 76) fC_X1_45 rfl dX1_advance_76 (c_X1_passFigures hT3 (by rw [m42, jI_i, if_neg (by decide)]; exact hn) (by rw [m42, jI_i, if_pos ⟨rfl, rfl⟩]; exact hn) ⟨by omega, by rw [← hby (by omega)]; exact h69⟩) rfl ⟨Nat.le_of_ble_eq_true rfl, Nat.le_of_ble_eq_true rfl⟩ rfl (Nat.le_of_ble_eq_true rfl) (fun v76 μ76 q76 => ?_)
            obtain ⟨rfl, p1, p2, p5, p3, p4⟩ := q76
            refine J_goto (pc := 79) 126 dX1_advance_79 (by decide) ?_
            refine J_vret (pc := 126) dX1_advance_126 rfl ?_
            exact ⟨rfl, ⟨by rw [p3, m42, jI_i, if_pos ⟨rfl, rfl⟩]; exact hn, Or.inr (Or.inr (Or.inl ⟨⟨by omega, by rw [← hby (by omega)]; exact h69⟩, p2, p1, p5⟩))⟩, fr21_tr (fr21_tr hfr (by rw [m42]; exact fr21_s (fr21_rf μ) (by decide))) p4⟩
          · refine J_if_eq_T (pc := 72) 82 dX1_advance_72 (by decide) (by decide) ?_
            refine J_aload_n (pc := 82) dX1_advance_82 rfl ?_
            refine J_getI (pc := 83) fF_X1_22 rfl rfl dX1_advance_83 ?_
            refine J_aload_n (pc := 86) dX1_advance_86 rfl ?_
            refine J_getI (pc := 87) fF_X1_15 rfl rfl dX1_advance_87 ?_
            refine J_icmp_geW (pc := 90) (i : Int) (L : Int) (by rw [m42, jI_i, if_pos ⟨rfl, rfl⟩]; exact hn) hT3.1 121 dX1_advance_90 (by decide) (fun h90 => ?_) (fun h90 => ?_)
            · refine J_aload_n (pc := 121) dX1_advance_121 rfl ?_
              refine J_iconst (pc := 122) (v := 0) dX1_advance_122 (by decide) ?_
              refine J_putIW (pc := 123) fF_X1_25 rfl rfl dX1_advance_123 (fun μ123 m123 => ?_)
              refine J_vret (pc := 126) dX1_advance_126 rfl ?_
              refine ⟨rfl, ⟨by rw [m123, jI_i, if_neg (by decide), m42, jI_i, if_pos ⟨rfl, rfl⟩]; exact hn, Or.inl ⟨by omega, by rw [m123, jI_i, if_pos ⟨rfl, rfl⟩]; rfl, by rw [m123, jI_i, if_neg (by decide), m42, jI_i, if_neg (by decide)]; omega⟩⟩, ?_⟩
              rw [m123]; exact fr21_s (by rw [m42]; exact fr21_s hfr (by decide)) (by decide)
            · refine J_aload_n (pc := 93) dX1_advance_93 rfl ?_
              refine J_iload_n (pc := 94) dX1_advance_94 rfl ?_
              refine J_bipush (pc := 95) (v := 59) dX1_advance_95 (by decide) ?_
              refine J_icmp_neW (pc := 97) (byt L T i) 59 e50 rfl 104 dX1_advance_97 (by decide) (fun h97 => ?_) (fun h97 => ?_)
              · refine J_iconst (pc := 104) (v := 4) dX1_advance_104 (by decide) ?_
                refine J_putIW (pc := 105) fF_X1_25 rfl rfl dX1_advance_105 (fun μ105 m105 => ?_)
                refine J_aload_n (pc := 108) dX1_advance_108 rfl ?_
                refine J_dup (pc := 109) dX1_advance_109 rfl ?_
                refine J_getI (pc := 110) fF_X1_19 rfl rfl dX1_advance_110 ?_
                refine J_iconst (pc := 113) (v := 1) dX1_advance_113 (by decide) ?_
                refine J_iaddW (pc := 114) (i : Int) 1 (show (μ105.1 21 2).toInt = (i : Int) by simp [m105, m42, jI_i]; exact hn) rfl dX1_advance_114 (by omega) (fun z114 e114 => ?_)
                refine J_putIW (pc := 115) fF_X1_19 rfl rfl dX1_advance_115 (fun μ115 m115 => ?_)
                refine J_goto (pc := 118) 126 dX1_advance_118 (by decide) ?_
                refine J_vret (pc := 126) dX1_advance_126 rfl ?_
                first
                  | (refine ⟨rfl, ⟨by rw [m115, jI_i, if_neg (by decide), m105, jI_i, if_neg (by decide), m42, jI_i, if_pos ⟨rfl, rfl⟩]; exact hn, Or.inr (Or.inr (Or.inr (Or.inl ⟨⟨by omega, by rw [← hby (by omega)]; exact h97⟩, by rw [m115, jI_i, if_neg (by decide), m105, jI_i, if_pos ⟨rfl, rfl⟩]; rfl, by rw [m115, jI_i, if_pos ⟨rfl, rfl⟩]; omega⟩)))⟩, ?_⟩; rw [m115, m105, m42]; exact fr21_s (fr21_s (fr21_s hfr (by decide)) (by decide)) (by decide))
                  | (refine ⟨rfl, ⟨by rw [m115, jI_i, if_neg (by decide), m105, jI_i, if_neg (by decide), m42, jI_i, if_pos ⟨rfl, rfl⟩]; exact hn, Or.inr (Or.inr (Or.inr (Or.inr ⟨⟨by omega, by rw [← hby (by omega)]; exact h55, by rw [← hby (by omega)]; exact h69, by rw [← hby (by omega)]; exact h97⟩, by rw [m115, jI_i, if_neg (by decide), m105, jI_i, if_pos ⟨rfl, rfl⟩]; rfl, by rw [m115, jI_i, if_pos ⟨rfl, rfl⟩]; omega⟩)))⟩, ?_⟩; rw [m115, m105, m42]; exact fr21_s (fr21_s (fr21_s hfr (by decide)) (by decide)) (by decide))
              · refine J_iconst (pc := 100) (v := 3) dX1_advance_100 (by decide) ?_
                refine J_goto (pc := 101) 105 dX1_advance_101 (by decide) ?_
                refine J_putIW (pc := 105) fF_X1_25 rfl rfl dX1_advance_105 (fun μ105 m105 => ?_)
                refine J_aload_n (pc := 108) dX1_advance_108 rfl ?_
                refine J_dup (pc := 109) dX1_advance_109 rfl ?_
                refine J_getI (pc := 110) fF_X1_19 rfl rfl dX1_advance_110 ?_
                refine J_iconst (pc := 113) (v := 1) dX1_advance_113 (by decide) ?_
                refine J_iaddW (pc := 114) (i : Int) 1 (show (μ105.1 21 2).toInt = (i : Int) by simp [m105, m42, jI_i]; exact hn) rfl dX1_advance_114 (by omega) (fun z114 e114 => ?_)
                refine J_putIW (pc := 115) fF_X1_19 rfl rfl dX1_advance_115 (fun μ115 m115 => ?_)
                refine J_goto (pc := 118) 126 dX1_advance_118 (by decide) ?_
                refine J_vret (pc := 126) dX1_advance_126 rfl ?_
                first
                  | (refine ⟨rfl, ⟨by rw [m115, jI_i, if_neg (by decide), m105, jI_i, if_neg (by decide), m42, jI_i, if_pos ⟨rfl, rfl⟩]; exact hn, Or.inr (Or.inr (Or.inr (Or.inl ⟨⟨by omega, by rw [← hby (by omega)]; exact h97⟩, by rw [m115, jI_i, if_neg (by decide), m105, jI_i, if_pos ⟨rfl, rfl⟩]; rfl, by rw [m115, jI_i, if_pos ⟨rfl, rfl⟩]; omega⟩)))⟩, ?_⟩; rw [m115, m105, m42]; exact fr21_s (fr21_s (fr21_s hfr (by decide)) (by decide)) (by decide))
                  | (refine ⟨rfl, ⟨by rw [m115, jI_i, if_neg (by decide), m105, jI_i, if_neg (by decide), m42, jI_i, if_pos ⟨rfl, rfl⟩]; exact hn, Or.inr (Or.inr (Or.inr (Or.inr ⟨⟨by omega, by rw [← hby (by omega)]; exact h55, by rw [← hby (by omega)]; exact h69, by rw [← hby (by omega)]; exact h97⟩, by rw [m115, jI_i, if_neg (by decide), m105, jI_i, if_pos ⟨rfl, rfl⟩]; rfl, by rw [m115, jI_i, if_pos ⟨rfl, rfl⟩]; omega⟩)))⟩, ?_⟩; rw [m115, m105, m42]; exact fr21_s (fr21_s (fr21_s hfr (by decide)) (by decide)) (by decide))
      · refine J_aload_n (pc := 24) dX1_advance_24 rfl ?_
        refine J_dup (pc := 25) dX1_advance_25 rfl ?_
        refine J_getI (pc := 26) fF_X1_19 rfl rfl dX1_advance_26 ?_
        refine J_iconst (pc := 29) (v := 1) dX1_advance_29 (by decide) ?_
        refine J_iaddW (pc := 30) (i : Int) 1 hn rfl dX1_advance_30 (by omega) (fun z30 e30 => ?_)
        refine J_putIW (pc := 31) fF_X1_19 rfl rfl dX1_advance_31 (fun μ31 m31 => ?_)
        refine J_goto (pc := 34) 0 dX1_advance_34 (by decide) ?_
        exact ih (i + 1) μ31 (by omega) (by omega) (by rw [hsk, skp, if_pos ⟨by omega, by rw [← hby (by omega)]; omega⟩]) (by rw [m31, jI_i, if_pos ⟨rfl, rfl⟩]; omega) (TX_fr hT2 (by rw [m31]; exact fr21_s (fr21_rf μ) (by decide))) (by rw [m31]; exact fr21_s hfr (by decide))
set_option maxRecDepth 100000 in
set_option maxHeartbeats 4000000 in
theorem c_X1_advance {c : JM} {L : Nat} {T : Nat → Int} (hT : TX L T c) {i : Nat} (hn : (c.1 21 2).toInt = (i : Int)) (hi : i ≤ L) : Con G shC mX1_advance [.ref 21] c (fun v μ' => v = none ∧ tkR L T (SK L T i) μ' ∧ fr21 c μ') := by
  refine Con_of [some (.ref 21), none] (by decide +kernel) (Nat.le_of_ble_eq_true rfl) (fun _ h => h) ?_
  exact l_adv 151 i c (by have := hT.2.1; omega) hi rfl hn hT (fr21_rf c)

/-! ===== the text constants: length, charAt ===== -/
theorem fC_J0_335 : j_C RJ0 335 mJ0_coder_7d493 0 ∧ Cond.instanceMethod mJ0_coder_7d493.1 ∈ BIGW ∧ Cond.selects mJ0_coder_7d493.1.cls mJ0_coder_7d493.1 mJ0_coder_7d493.1 ∈ BIGW := ⟨⟨Or.inl (big_t 279 (by decide +kernel) (by decide +kernel)), big_t 7 (by decide +kernel) (by decide +kernel), big_t 282 (by decide +kernel) (by decide +kernel), by decide +kernel, by decide +kernel, by decide +kernel⟩, big_t 280 (by decide +kernel) (by decide +kernel), big_t 281 (by decide +kernel) (by decide +kernel)⟩
theorem fC_J0_492 : j_C RJ0 492 mJ0_isLatin1_aae02 0 ∧ Cond.instanceMethod mJ0_isLatin1_aae02.1 ∈ BIGW ∧ Cond.selects mJ0_isLatin1_aae02.1.cls mJ0_isLatin1_aae02.1 mJ0_isLatin1_aae02.1 ∈ BIGW := ⟨⟨Or.inl (big_t 289 (by decide +kernel) (by decide +kernel)), big_t 7 (by decide +kernel) (by decide +kernel), big_t 292 (by decide +kernel) (by decide +kernel), by decide +kernel, by decide +kernel, by decide +kernel⟩, big_t 290 (by decide +kernel) (by decide +kernel), big_t 291 (by decide +kernel) (by decide +kernel)⟩
theorem fC_J0_495 : j_S RJ0 495 mJ1_charAt_3b067 2 := ⟨⟨Or.inl (big_t 293 (by decide +kernel) (by decide +kernel)), big_t 8 (by decide +kernel) (by decide +kernel), big_t 295 (by decide +kernel) (by decide +kernel), by decide +kernel, by decide +kernel, by decide +kernel⟩, big_t 294 (by decide +kernel) (by decide +kernel)⟩
theorem fC_J1_9 : j_S RJ1 9 mJ0_checkIndex_df160 2 := ⟨⟨Or.inl (big_t 296 (by decide +kernel) (by decide +kernel)), big_t 7 (by decide +kernel) (by decide +kernel), big_t 298 (by decide +kernel) (by decide +kernel), by decide +kernel, by decide +kernel, by decide +kernel⟩, big_t 297 (by decide +kernel) (by decide +kernel)⟩
theorem fC_J0_1059 : j_S RJ0 1059 mJ3_checkIndex_8e157 3 := ⟨⟨Or.inl (big_t 301 (by decide +kernel) (by decide +kernel)), big_t 9 (by decide +kernel) (by decide +kernel), big_t 303 (by decide +kernel) (by decide +kernel), by decide +kernel, by decide +kernel, by decide +kernel⟩, big_t 302 (by decide +kernel) (by decide +kernel)⟩
theorem fS_sv : Cond.fieldLink RJ0 9 "java/lang/String" "value" "[B" ∈ BIGW := big_t 978 (by decide +kernel) (by decide +kernel)
theorem fS_sc : Cond.fieldLink RJ0 15 "java/lang/String" "coder" "B" ∈ BIGW := big_t 979 (by decide +kernel) (by decide +kernel)
theorem fS_cs : Cond.fieldLink RJ0 38 "java/lang/String" "COMPACT_STRINGS" "Z" ∈ BIGW := big_t 283 (by decide +kernel) (by decide +kernel)
theorem fS_fm : Cond.fieldLink RJ0 1053 "jdk/internal/util/Preconditions" "SIOOBE_FORMATTER" "Ljava/util/function/BiFunction;" ∈ BIGW := big_t 299 (by decide +kernel) (by decide +kernel)
section JS
variable {G : JG} {sh : List JSh} {M : JMth} {pc : Nat} {lv : List (Option Value)} {st : List Value} {μ : JM} {Q : Option Value → JM → Prop}
theorem J_getSv {i index : Nat} (hi : i < 5) (hl : Cond.fieldLink M.1.cls index "java/lang/String" "value" "[B" ∈ BIGW) (hd : decode M.2.1 pc = .ok (.getfield index, 3)) (kk : J G sh M (pc + 3) lv (.ref (1020 + i) :: st) μ Q) : J G sh M pc lv (.ref (1010 + i) :: st) μ Q := by
  intro p e s m args below meth c H locs sz ls X
  have kk := kk p e s m args below meth c H locs sz ls X
  obtain ⟨x1, x2, x3, x4, x5, x6, x7, x8, x9, xa, xb, xc, xd, xe⟩ := X
  exact vk_getf x1 x2 (xd.2.2.1.1.1 i hi).2.2.1 xc x4 (j_hts x5 hl) (fun _ h => h) hd kk
theorem J_getSc {i index : Nat} (hi : i < 5) (hl : Cond.fieldLink M.1.cls index "java/lang/String" "coder" "B" ∈ BIGW) (hd : decode M.2.1 pc = .ok (.getfield index, 3)) (kk : J G sh M (pc + 3) lv (.int 0 :: st) μ Q) : J G sh M pc lv (.ref (1010 + i) :: st) μ Q := by
  intro p e s m args below meth c H locs sz ls X
  have kk := kk p e s m args below meth c H locs sz ls X
  obtain ⟨x1, x2, x3, x4, x5, x6, x7, x8, x9, xa, xb, xc, xd, xe⟩ := X
  exact vk_getf x1 x2 (xd.2.2.1.1.1 i hi).2.1 xc x4 (j_hts x5 hl) (fun _ h => h) hd kk
theorem J_getCS {index : Nat} (hl : Cond.fieldLink M.1.cls index "java/lang/String" "COMPACT_STRINGS" "Z" ∈ BIGW) (hd : decode M.2.1 pc = .ok (.getstatic index, 3)) (kk : J G sh M (pc + 3) lv (.int 1 :: st) μ Q) : J G sh M pc lv st μ Q := by
  intro p e s m args below meth c H locs sz ls X
  have kk := kk p e s m args below meth c H locs sz ls X
  obtain ⟨x1, x2, x3, x4, x5, x6, x7, x8, x9, xa, xb, xc, xd, xe⟩ := X
  exact va_gets x1 x2 xd.2.2.2.1 xc x4 (j_hts x5 hl) (fun _ h => h) hd kk
theorem J_slen {i : Nat} (hi : i < 5) (hd : decode M.2.1 pc = .ok (.arraylength, 1)) (kk : J G sh M (pc + 1) lv (.int (Int32.ofNat (j_tl.getD i 0)) :: st) μ Q) : J G sh M pc lv (.ref (1020 + i) :: st) μ Q := by
  intro p e s m args below meth c H locs sz ls X
  have kk := kk p e s m args below meth c H locs sz ls X
  obtain ⟨x1, x2, x3, x4, x5, x6, x7, x8, x9, xa, xb, xc, xd, xe⟩ := X
  exact va_tlen x1 x2 (xd.2.2.1.1.1 i hi).2.2.2 xc rfl hd kk
theorem J_sb {i : Nat} {iv : Int32} (hi : i < 5) (hin : vp_in iv (j_tl.getD i 0)) (hd : decode M.2.1 pc = .ok (.baload, 1)) (kk : J G sh M (pc + 1) lv (.int ((j_tbt.getD i []).getD iv.toNatClampNeg 0) :: st) μ Q) : J G sh M pc lv (.int iv :: .ref (1020 + i) :: st) μ Q := by
  intro p e s m args below meth c H locs sz ls X
  have kk := kk p e s m args below meth c H locs sz ls X
  obtain ⟨x1, x2, x3, x4, x5, x6, x7, x8, x9, xa, xb, xc, xd, xe⟩ := X
  exact va_tb x1 x2 (xd.2.2.1.1.1 i hi).2.2.2 xc hin rfl hd kk
theorem J_i2c {x : Int32} (hd : decode M.2.1 pc = .ok (.i2c, 1)) (kk : J G sh M (pc + 1) lv (.int (x.toUInt32 % 65536).toInt32 :: st) μ Q) : J G sh M pc lv (.int x :: st) μ Q := by
  intro p e s m args below meth c H locs sz ls X
  exact lv_i2c X.1 X.2.1 hd rfl (kk p e s m args below meth c H locs sz ls X)
theorem J_ldcS {i index : Nat} {tx : String} (hj : j_tx[i]? = some (index, tx)) (hown : M.1.cls = RX3) (hd : decode M.2.1 pc = .ok (.ldc_w index, 3)) (kk : J G sh M (pc + 3) lv (.ref (1010 + i) :: st) μ Q) : J G sh M pc lv st μ Q := by
  intro p e s m args below meth c H locs sz ls X
  have kk := kk p e s m args below meth c H locs sz ls X
  obtain ⟨x1, x2, x3, x4, x5, x6, x7, x8, x9, xa, xb, xc, xd, xe⟩ := X
  have hZ := xd.2.2.1.2 i _ hj
  intro T hT Y
  obtain ⟨t, a1, b1⟩ := kk T hT Y
  refine ⟨t, ?_, b1⟩
  rw [hown] at x4
  obtain ⟨k, cf, n, a', hk, hcf, hcp, -, hr, hev'⟩ := Cond.stringRef_spec x4 (args := #[]) hZ.1
  have hev := hZ.2
  have ea : a' = (j_ad G) (1010 + i) := by have := hev.symm.trans hev'; cases this; rfl
  obtain ⟨k', hk', he⟩ := Y.warmed.alike.2.2 _ _ hk
  have hr' : k'.resolved[index]? = some (some (.string a')) := by
    rcases Y.warmed.entry hk hk' index with h | ⟨h, -⟩
    · rw [h]; exact hr
    · rw [hr] at h; cases h
  subst ea
  have hdg : decode c.code (F0 m pc ls (st.map (j_cv (j_ad G)))).pc = .ok (.ldc_w index, 3) := by rw [x2]; exact hd
  have hsem : ∀ (Q : Unit → Pre) (E : CtlPost) (d : Bool) (acts : List Action), wp (ldc_w.sem index) Q E e d acts (T.setTop (F0 m pc ls (st.map (j_cv (j_ad G))))) ↔ Q () true acts (T.setTop { F0 m pc ls (st.map (j_cv (j_ad G))) with stack := .ref (j_ad G (1010 + i)) :: (F0 m pc ls (st.map (j_cv (j_ad G)))).stack }) := fun Q E d acts => ldc.wp_string (e := e) (s := T) (f := F0 m pc ls (st.map (j_cv (j_ad G)))) Y.here.top hk' (by rw [he]; exact hcf) hcp hr'
  jvm_step Y.here [x1, hdg, hsem]
  exact a1
/-- as Con_of and J_callS, the last argument not told -/
theorem j_blind_raw {as : List Value} {sz : Nat} : FrameBlind (va_Pc as (j_Pre G sh μ sz)) := j_blind
theorem ConR_of {as : List Value} {v0 : Value} (lv : List (Option Value)) (hy : plainName M.1.cls = true) (hn : (lg_sl (as.map (j_cv (j_ad G)) ++ [v0])).length ≤ M.2.2.1) (hl : ∀ q ∈ j_l (j_ad G) 0 lv, q ∈ lv_args 0 (as.map (j_cv (j_ad G)) ++ [v0])) (k : J G sh M 0 lv [] μ Q) (sz : Nat) : Met G.1 M.1 (j_ws M) (j_rm M) (va_Pc (as.map (j_cv (j_ad G)) ++ [v0]) (j_Pre G sh μ sz)) (j_Q G sh Q sz) 0 0 (j_A (j_ad G) sh.length sz) := by
  refine Met.ofW (cc := M.2.1) (maxL := M.2.2.1) (ret := M.2.2.2.1) hy rfl ?_
  intro p e s m args below meth c s₁ B hml hv
  obtain ⟨rfl, hsz, hP, hK, hD, hE⟩ := hv
  rw [lg_entry_eq]
  exact k p e s m _ below meth c s.heap [] sz _ ⟨B.exec, B.bytes, hml, findClass_of_methodNamed B.named, atoms_spec (ws := j_ws M) B.pre, B.returns, B.notSynchronized, hsz, hP, hK, hD, va_S.rf, hE, j_has_sub (lv_entry _ hn) hl⟩
theorem J_fmt {Mc : JMth} {i2 index : Nat} {as : List Value} {Q1 : Option Value → JM → Prop} (hl : Cond.fieldLink M.1.cls i2 "jdk/internal/util/Preconditions" "SIOOBE_FORMATTER" "Ljava/util/function/BiFunction;" ∈ BIGW) (hd0 : decode M.2.1 pc = .ok (.getstatic i2, 3)) (hf : j_S M.1.cls index Mc (as.length + 1)) (hd : decode M.2.1 (pc + 3) = .ok (.invokestatic index, 3)) (hc : ∀ (v0 : Value) (sz : Nat), v0.category = 1 → Met G.1 Mc.1 (j_ws Mc) (j_rm Mc) (va_Pc (as.map (j_cv (j_ad G)) ++ [v0]) (j_Pre G sh μ sz)) (j_Q G sh Q1 sz) 0 0 (j_A (j_ad G) sh.length sz)) (hr : j_R M Mc) (hw : (st.map Value.category).sum ≤ 8) (k : ∀ v μ1, Q1 v μ1 → J G sh M (pc + 3 + 3) lv (v.toList ++ st) μ1 Q) : J G sh M pc lv (as.reverse ++ st) μ Q := by
  intro p e s m args below meth c H locs sz ls X
  have hpre : ∀ as' : List Value, _ := j_pre_call X
  obtain ⟨x1, x2, x3, x4, x5, x6, x7, x8, x9, xa, xb, xc, xd, xe⟩ := X
  obtain ⟨⟨f1, f2, f3, f4⟩, f5⟩ := hf
  have hsub : ∀ q, j_A (j_ad G) sh.length H.size q → j_A (j_ad G) sh.length sz q := j_A_sub (by rw [← x8]; exact xc.1)
  have S : CallFix p m c M.2.1 M.2.2.1 s args (j_ws M) M.1.cls := ⟨x1, x2, x3, x4, x5⟩
  have go : ∀ (v : Option Value) (μ1 : JM) (H1 : Heap) (locs1 : List Loc), Q1 v μ1 → va_P G.2.1 vwCl (j_W G sh μ1) H1 → va_D (j_A (j_ad G) sh.length H.size) (j_W G sh μ1) → va_S (j_A (j_ad G) sh.length sz) s.heap H1 locs1 → W p G.1 e (j_rm M) s m args below meth c H1 locs1 0 0 (MQ below (j_Q G sh Q sz) args s 0 0 (j_A (j_ad G) sh.length sz)) (F0 m (pc + 3 + 3) ls ((v.map (j_cv (j_ad G))).toList ++ st.map (j_cv (j_ad G)))) := fun v μ1 H1 locs1 hq hP hD hS => by
    rw [j_map_app]
    exact k v μ1 hq p e s m args below meth c H1 locs1 sz ls ⟨x1, x2, x3, x4, x5, x6, x7, x8, hP, xa, j_D_back hD, hS, xd, xe⟩
  have key : ∀ v0 : Value, v0.category = 1 → W p G.1 e (j_rm M) s m args below meth c H locs 0 0 (MQ below (j_Q G sh Q sz) args s 0 0 (j_A (j_ad G) sh.length sz)) (F0 m (pc + 3) ls (v0 :: (as.reverse ++ st).map (j_cv (j_ad G)))) := fun v0 hv0 => by
    have hp : PreS s H (va_Pc (as.map (j_cv (j_ad G)) ++ [v0]) (j_Pre G sh μ H.size)) (as.map (j_cv (j_ad G)) ++ [v0]) := ⟨j_blind_raw, hpre _⟩
    have hstk : v0 :: (as.reverse ++ st).map (j_cv (j_ad G)) = (as.map (j_cv (j_ad G)) ++ [v0]).reverse ++ st.map (j_cv (j_ad G)) := by
      rw [List.map_append, List.map_reverse, List.reverse_append]; rfl
    have hW : 2 * (F0 m (pc + 3) ls (v0 :: (as.reverse ++ st).map (j_cv (j_ad G)))).monitorRoom + ((st.map (j_cv (j_ad G))).map fun v => v.category).sum ≤ 8 := lv_room (by rw [j_cat_map]; exact hw)
    rcases f1 with f1 | ⟨host, f1⟩
    · exact j_run (va_runS (n := as.length + 1) (y := Mc.1) (mc := 0) (ms := 0) S (hc v0 H.size hv0) ⟨callB_of (as.length + 1) x5 (j_good f3) rfl rfl rfl (j_hts x5 f2) (j_hts x5 f1) f4 hr, j_hts x5 f5⟩ hp rfl (by simp) xe.1 hstk hW hd ⟨Nat.le_refl _, Nat.le_refl _⟩) xc hsub go
    · exact j_run (va_runSN (n := as.length + 1) (y := Mc.1) (mc := 0) (ms := 0) S (hc v0 H.size hv0) ⟨va_cnB (as.length + 1) x5 (j_good f3) rfl rfl rfl (xd.1 _ f1) (j_hts x5 f2) f4 hr, j_hts x5 f5, trivial⟩ hp rfl (by simp) xe.1 hstk hW hd ⟨Nat.le_refl _, Nat.le_refl _⟩) xc hsub go
  rcases xd.2.2.2.2 with h | ⟨t, h⟩
  · exact va_gets x1 x2 h xc x4 (j_hts x5 hl) (fun _ h => h) hd0 (key _ rfl)
  · exact va_gets x1 x2 h xc x4 (j_hts x5 hl) (fun _ h => h) hd0 (key _ rfl)
end JS

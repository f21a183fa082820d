/-! ===== the law: its end, its ground, one round of its loop ===== -/
def R_law : String := "JarSpiritLaw"
def lw_P (b : Addr) (xs : List Int32) (args : Array Value) (s : State) : Prop := args = #[.ref b] ∧ s.IntsAt b xs ∧ xs.length ≤ 320 ∧ (Jvm.Cond.and given_1 narrow_1).before args s = true
def lw_Q (_ : Array Value) (s : State) (o : Outcome) (t : State) : Prop := o = .returned (some (.int 1)) ∧ Framed s o t [] 600000 7302250
def lw_Z (below : List Frame) (a : Array Value) (s : State) : State → Prop := fun t => ∃ o, t.status = .running ∧ Ended t below o ∧ lw_Q a s o t
/-- the law's own end, with 1 on the stack, nothing written that was there before, its room as the claim has it -/
theorem lw_ret {p : Program} {l : Launch} {e : Env} {s : State} {m : MethodId} {below : List Frame} {meth : Method} {c : Code} {b : Nat} (hx : p.tables.exec = Jvm.exec) (hb : c.code = code) (hr : meth.sig.returnType = ret) (hlocks : meth.locks = false) {pc : Nat} {H : Heap} {ls : Array Slot} (hdg : decode code pc = .ok (.ireturn, 1)) : W p l e room_1 s m #[Value.ref b] below meth c H [] 600000 7302250 (lw_Z below #[Value.ref b] s) (F0 m pc ls [.int 1]) := by
  intro T hT X
  obtain ⟨fs, hret, hrun, hended, hW, hframe⟩ := X.leave (v := some (.int 1)) (hlocks := hlocks) (fun h => by rw [hr] at h; cases h)
  have hmeth' : T.vm.method? m = some meth := X.method'
  refine ⟨T.setFrames fs, ?_, .returned (some (.int 1)), hrun, hended, rfl, ⟨_, rfl⟩, hW, hframe⟩
  jvm_step X.here [X.here.top, hx, hb, hdg, hmeth', hr, ret, narrow_b1]
  (try refine ⟨rfl, ?_⟩); (try refine ⟨rfl, ?_⟩)
  first | (intro acts; rw [hret _ acts rfl rfl rfl]) | rw [hret _ _ rfl rfl rfl]
  exact Steps.refl _
/-- what holds at the law's entry: the machine, the code, the tables' words (any of lw_tbl by 'hts w (by decide +kernel)'), the script of L ints xs at the cell b, what the Statement gives of the start (any of its parts by flat_of_before) -/
def lw_At (p : Program) (s : State) (m : MethodId) (meth : Method) (c : Code) (b L : Nat) (xs : Nat → Int32) : Prop :=
  p.tables.exec = Jvm.exec ∧ c.code = code ∧ meth.sig.returnType = ret ∧ c.maxLocals = 4 ∧ s.vm.findClass R_law = some m.cls ∧ (∀ w ∈ lw_tbl, w.before #[Value.ref b] s = true) ∧ va_X b L xs s s.heap ∧ b < s.heap.size ∧ meth.locks = false ∧ (Jvm.Cond.and given_1 narrow_1).before #[Value.ref b] s = true
theorem Inv0 : Inv 150 (begM mu0C 1 0) (freshM mu0M 0) := by
  have f1 : (freshM mu0M 0).1 1 = fun j => if j < 73 then freF 0 j else mu0M.1 1 j := by unfold freshM; rw [jC_at]
  have fo : ∀ o, o ≠ 1 → (freshM mu0M 0).1 o = mu0M.1 o := fun o ho => by unfold freshM; rw [jC_ne ho]
  have e9 : (freshM mu0M 0).1 0 9 = 0 := by rw [fo 0 (by decide)]; rfl
  refine ⟨⟨fun j hj => ?_, fun j hj => ?_⟩, ?_, ?_, fun i hi => ?_, ⟨?_, ?_, fun j hj => ?_⟩, ?_, ?_⟩
  · rw [fo 2 (by decide)]
    rcases (by omega : j = 0 ∨ j = 1 ∨ j = 2 ∨ j = 3 ∨ j = 4 ∨ j = 5) with rfl | rfl | rfl | rfl | rfl | rfl <;> rfl
  · rw [fo 3 (by decide)]
    rcases (by omega : j = 0 ∨ j = 1 ∨ j = 2 ∨ j = 3 ∨ j = 4 ∨ j = 5) with rfl | rfl | rfl | rfl | rfl | rfl <;> rfl
  · rw [f1]
    exact wfF_fresh (by decide) (by decide)
  · rw [f1]
    exact jrep_begin
  · rw [fo 12 (by decide)]
    refine ⟨Or.inl rfl, ?_, fun h => absurd h (by show ¬ (0 : Int32) = 1; decide)⟩
    rcases (by omega : i = 0 ∨ i = 1) with rfl | rfl <;> rfl
  · rw [e9]; rfl
  · rw [e9]; decide
  · rw [e9] at hj
    exact absurd hj (by show ¬ (j : Int) < 0; omega)
  · exact ⟨rfl, rfl⟩
  · rw [fo 4 (by decide)]; exact ⟨rfl, rfl, rfl⟩
def lw_A (s : State) : Nat → Prop := fun q => s.heap.size ≤ q
/-- the two worlds, apart -/
def LW (s : State) (D : va_G) (cI cZ : ClassId) (aC aM : Nat → Nat) (H : Heap) (locs : List Loc) (c m : JM) : Prop := va_P D vwCl (j_w cI cZ aC shC c) H ∧ va_P D vwCl (j_w cI cZ aM shM m) H ∧ va_D (lw_A s) (j_w cI cZ aC shC c) ∧ va_D (lw_A s) (j_w cI cZ aM shM m) ∧ va_S (lw_A s) s.heap H locs
/-- what does not change in the loop -/
def LF (p : Program) (s : State) (mt : MethodId) (meth : Method) (cd : Code) (b L : Nat) (xs : Nat → Int32) (D : va_G) (cI cZ : ClassId) (aC aM : Nat → Nat) : Prop := lw_At p s mt meth cd b L xs ∧ va_K D vwCl [(cI, .int), (cZ, .boolean)] s ∧ j_E aC (lw_A s) s s.heap ∧ j_E aM (lw_A s) s s.heap ∧ ∀ i j : Nat, i < 26 → j < 13 → aC i ≠ aM j
theorem keep_w {D : va_G} {cI cZ : ClassId} {ad ad' : Nat → Nat} {n : Nat} {sh : List JSh} {μ : JM} {H H1 : Heap} (hP : va_P D vwCl (j_w cI cZ ad' sh μ) H) (hne : ∀ i j : Nat, i < n → j < sh.length → ad i ≠ ad' j) (hk : ∀ q : Nat, q < H.size → ¬ j_A ad n H.size q → H1[q]? = H[q]?) : va_P D vwCl (j_w cI cZ ad' sh μ) H1 := by
  refine hP.kept (fun k q hq => ?_)
  have hlt := (hP k q hq).lt
  obtain ⟨o, ho, e⟩ := List.mem_map.mp (List.mem_of_getElem? hq)
  refine hk q.1 hlt (fun z => ?_)
  rcases z with ⟨i, hi, e2⟩ | h
  · exact hne i o hi (List.mem_range.mp ho) (by rw [← e2, ← e])
  · omega
theorem lw_cat (v : Option Value) (ad : Nat → Nat) : (((v.map (j_cv ad)).toList ++ []).map fun v : Value => v.category).sum ≤ 8 := by
  cases v with
  | none => exact Nat.zero_le _
  | some v => cases v <;> exact Nat.le_of_ble_eq_true rfl
theorem lw_in {x k : Int32} {i L : Nat} (kz : Int) (hk : k.toInt = kz) (h0 : 0 ≤ kz ∧ kz ≤ 4) (hx : x.toInt = (i : Int)) (h : i + 5 ≤ L) (hL : L ≤ 320) : vp_in (x + k) L := by
  have e : (x + k).toInt = x.toInt + k.toInt := z_add (by rw [hx, hk]; omega)
  exact vin_z (by rw [e, hx, hk]; omega)
section LAW
variable {p : Program} {l : Launch} {e : Env} {s : State} {mt : MethodId} {below : List Frame} {meth : Method} {cd : Code} {b L : Nat} {xs : Nat → Int32} {D : va_G} {cI cZ : ClassId} {aC aM : Nat → Nat} {H : Heap} {locs : List Loc} {c m : JM} {cells slots pc : Nat} {Z : State → Prop} {ls : Array Slot}
theorem lw_callC {Mc : JMth} {index n : Nat} {as rest stk : List Value} {Q1 : Option Value → JM → Prop} (F : LF p s mt meth cd b L xs D cI cZ aC aM) (X : LW s D cI cZ aC aM H locs c m) (hf : j_V R_law index Mc 3 n) (hd : decode code pc = .ok (.invokevirtual index, 3)) (hc : Con (l, D, cI, cZ, aC) shC Mc (.ref 0 :: as) c Q1) (hn : as.length = n) (hr : (j_rm Mc).frames + 1 ≤ room_1.frames ∧ 8 + (Mc.2.2.1 + 11) + (j_rm Mc).locals ≤ room_1.locals) (hsize : ls.size = 4) (hst : stk = (as.map (j_cv aC)).reverse ++ Value.ref (aC 0) :: rest) (hw : (rest.map fun v => v.category).sum ≤ 8) (hcs : cells ≤ room_1.cells ∧ slots ≤ room_1.slots)
    (kk : ∀ (v : Option Value) (c1 : JM) (H1 : Heap) (locs1 : List Loc), Q1 v c1 → LW s D cI cZ aC aM H1 locs1 c1 m → W p l e room_1 s mt #[Value.ref b] below meth cd H1 locs1 cells slots Z (F0 mt (pc + 3) ls ((v.map (j_cv aC)).toList ++ rest))) : W p l e room_1 s mt #[Value.ref b] below meth cd H locs cells slots Z (F0 mt pc ls stk) := by
  obtain ⟨⟨hx, hb, hr0, hml, hown, hts, hX, hbl, hlocks, hgv⟩, hK, hEC, hEM, hne⟩ := F
  obtain ⟨hPC, hPM, hDC, hDM, hS⟩ := X
  exact W_callV (G := (l, D, cI, cZ, aC)) (sh := shC) (Ts := lw_tbl) (own := R_law) (A0 := lw_A s) (o := 0) (rest := rest) ⟨hx, hb, hml, hown, hts⟩ hts (fun w h => (List.mem_filter.mp h).1) hf rfl hPC hK hDC hS hEC (fun _ h => h) hd hc hn hr hsize hst hw hcs (fun v c1 H1 locs1 hq hP hD hS _ hk => kk v c1 H1 locs1 hq ⟨hP, keep_w hPM (fun i j hi hj => hne i j hi hj) hk, hD, hDM, hS⟩)
theorem lw_callM {Mc : JMth} {index n : Nat} {as rest stk : List Value} {Q1 : Option Value → JM → Prop} (F : LF p s mt meth cd b L xs D cI cZ aC aM) (X : LW s D cI cZ aC aM H locs c m) (hf : j_V R_law index Mc 4 n) (hd : decode code pc = .ok (.invokevirtual index, 3)) (hc : Con (l, D, cI, cZ, aM) shM Mc (.ref 0 :: as) m Q1) (hn : as.length = n) (hr : (j_rm Mc).frames + 1 ≤ room_1.frames ∧ 8 + (Mc.2.2.1 + 11) + (j_rm Mc).locals ≤ room_1.locals) (hsize : ls.size = 4) (hst : stk = (as.map (j_cv aM)).reverse ++ Value.ref (aM 0) :: rest) (hw : (rest.map fun v => v.category).sum ≤ 8) (hcs : cells ≤ room_1.cells ∧ slots ≤ room_1.slots)
    (kk : ∀ (v : Option Value) (m1 : JM) (H1 : Heap) (locs1 : List Loc), Q1 v m1 → LW s D cI cZ aC aM H1 locs1 c m1 → W p l e room_1 s mt #[Value.ref b] below meth cd H1 locs1 cells slots Z (F0 mt (pc + 3) ls ((v.map (j_cv aM)).toList ++ rest))) : W p l e room_1 s mt #[Value.ref b] below meth cd H locs cells slots Z (F0 mt pc ls stk) := by
  obtain ⟨⟨hx, hb, hr0, hml, hown, hts, hX, hbl, hlocks, hgv⟩, hK, hEC, hEM, hne⟩ := F
  obtain ⟨hPC, hPM, hDC, hDM, hS⟩ := X
  exact W_callV (G := (l, D, cI, cZ, aM)) (sh := shM) (Ts := lw_tbl) (own := R_law) (A0 := lw_A s) (o := 0) (rest := rest) ⟨hx, hb, hml, hown, hts⟩ hts (fun w h => (List.mem_filter.mp h).1) hf rfl hPM hK hDM hS hEM (fun _ h => h) hd hc hn hr hsize hst hw hcs (fun v m1 H1 locs1 hq hP hD hS _ hk => kk v m1 H1 locs1 hq ⟨keep_w hPC (fun i j hi hj e => hne j i hj hi e.symm) hk, hP, hDC, hD, hS⟩)

theorem fL_13 : j_V R_law 13 mX3_jar 3 1 := ⟨⟨Or.inl (big_t 191 (by decide +kernel) (by decide +kernel)), big_t 1 (by decide +kernel) (by decide +kernel), big_t 194 (by decide +kernel) (by decide +kernel), by decide +kernel, by decide +kernel, by decide +kernel⟩, big_t 192 (by decide +kernel) (by decide +kernel), big_t 193 (by decide +kernel) (by decide +kernel), TX3, 11, rfl⟩
theorem fL_17 : j_V R_law 17 mX4_jar 4 1 := ⟨⟨Or.inl (big_t 701 (by decide +kernel) (by decide +kernel)), big_t 6 (by decide +kernel) (by decide +kernel), big_t 704 (by decide +kernel) (by decide +kernel), by decide +kernel, by decide +kernel, by decide +kernel⟩, big_t 702 (by decide +kernel) (by decide +kernel), big_t 703 (by decide +kernel) (by decide +kernel), TX4, 24, rfl⟩
set_option maxRecDepth 100000 in
set_option maxHeartbeats 4000000 in
theorem lw_case0 {x3 : Int32} {i : Nat} {N : Int} (F : LF p s mt meth cd b L xs D cI cZ aC aM) (X : LW s D cI cZ aC aM H locs c m) (h : Inv N c m) (hN : 150 ≤ N ∧ N < 100000) (hi : x3.toInt = (i : Int)) (hL5 : i + 5 ≤ L) (hL : L ≤ 320) (hl : lv_has ls 4 [(0, .ref b), (1, .ref (aC 0)), (2, .ref (aM 0)), (3, .int x3)]) (hcs : cells ≤ room_1.cells ∧ slots ≤ room_1.slots)
    (kk : ∀ (c1 m1 : JM) (H1 : Heap) (locs1 : List Loc), Inv (N + 1) c1 m1 → LW s D cI cZ aC aM H1 locs1 c1 m1 → W p l e room_1 s mt #[Value.ref b] below meth cd H1 locs1 cells slots Z (F0 mt 944 ls [])) : W p l e room_1 s mt #[Value.ref b] below meth cd H locs cells slots Z (F0 mt 176 ls []) := by
  obtain ⟨hx, hb, hr0, hml, hown, hts, hX, hbl, hlocks, hgv⟩ := F.1
  have hbA : ¬ lw_A s b := Nat.not_le.mpr hbl
  obtain ⟨QC, QM, hC, hM, hq⟩ := pr_jar (G := ((l, D, cI, cZ, aC), (l, D, cI, cZ, aM))) h hN (a := xs (x3 + 1).toNatClampNeg)
  refine lv_aload_n hx hb dL_law_176 rfl (lv_at hl 1 rfl) ?_
  refine lv_aload_n hx hb dL_law_177 rfl (lv_at hl 0 rfl) ?_
  refine lv_iload_n hx hb dL_law_178 rfl (lv_at hl 3 rfl) ?_
  refine lv_iconst (v := 1) hx hb dL_law_179 (by decide) ?_
  refine lv_iadd hx hb dL_law_180 ?_
  refine va_sld hx hb hX hbl hbA X.2.2.2.2 (lw_in 1 rfl (by decide) hi hL5 hL) dL_law_181 ?_
  refine lw_callC F X fL_13 dL_law_182 hC rfl ⟨Nat.le_of_ble_eq_true rfl, Nat.le_of_ble_eq_true rfl⟩ hl.1 rfl (by decide) hcs (fun v c1 H1 locs1 hq1 X => ?_)
  refine lv_aload_n hx hb dL_law_185 rfl (lv_at hl 2 rfl) ?_
  refine lv_aload_n hx hb dL_law_186 rfl (lv_at hl 0 rfl) ?_
  refine lv_iload_n hx hb dL_law_187 rfl (lv_at hl 3 rfl) ?_
  refine lv_iconst (v := 1) hx hb dL_law_188 (by decide) ?_
  refine lv_iadd hx hb dL_law_189 ?_
  refine va_sld hx hb hX hbl hbA X.2.2.2.2 (lw_in 1 rfl (by decide) hi hL5 hL) dL_law_190 ?_
  refine lw_callM F X fL_17 dL_law_191 hM rfl ⟨Nat.le_of_ble_eq_true rfl, Nat.le_of_ble_eq_true rfl⟩ hl.1 rfl (lw_cat v aC) hcs (fun w m1 H1 locs1 hq2 X => ?_)
  obtain ⟨⟨e1, z, e2⟩, hI⟩ := hq v c1 w m1 hq1 hq2
  subst e1
  subst e2
  refine W.eq (g2 := F0 mt 194 ls [.int z, .int z]) rfl ?_
  exact lv_icmp_eq (tgt := 944) hx hb dL_law_194 (by decide) (fun _ => kk c1 m1 H1 locs1 hI X) (fun h => absurd rfl h)
theorem fL_18 : j_V R_law 18 mX3_mood 3 2 := ⟨⟨Or.inl (big_t 202 (by decide +kernel) (by decide +kernel)), big_t 1 (by decide +kernel) (by decide +kernel), big_t 205 (by decide +kernel) (by decide +kernel), by decide +kernel, by decide +kernel, by decide +kernel⟩, big_t 203 (by decide +kernel) (by decide +kernel), big_t 204 (by decide +kernel) (by decide +kernel), TX3, 11, rfl⟩
theorem fL_22 : j_V R_law 22 mX4_mood 4 2 := ⟨⟨Or.inl (big_t 710 (by decide +kernel) (by decide +kernel)), big_t 6 (by decide +kernel) (by decide +kernel), big_t 713 (by decide +kernel) (by decide +kernel), by decide +kernel, by decide +kernel, by decide +kernel⟩, big_t 711 (by decide +kernel) (by decide +kernel), big_t 712 (by decide +kernel) (by decide +kernel), TX4, 24, rfl⟩
set_option maxRecDepth 100000 in
set_option maxHeartbeats 4000000 in
theorem lw_case1 {x3 : Int32} {i : Nat} {N : Int} (F : LF p s mt meth cd b L xs D cI cZ aC aM) (X : LW s D cI cZ aC aM H locs c m) (h : Inv N c m) (hN : 150 ≤ N ∧ N < 100000) (hi : x3.toInt = (i : Int)) (hL5 : i + 5 ≤ L) (hL : L ≤ 320) (hl : lv_has ls 4 [(0, .ref b), (1, .ref (aC 0)), (2, .ref (aM 0)), (3, .int x3)]) (hcs : cells ≤ room_1.cells ∧ slots ≤ room_1.slots)
    (kk : ∀ (c1 m1 : JM) (H1 : Heap) (locs1 : List Loc), Inv (N + 1) c1 m1 → LW s D cI cZ aC aM H1 locs1 c1 m1 → W p l e room_1 s mt #[Value.ref b] below meth cd H1 locs1 cells slots Z (F0 mt 944 ls [])) : W p l e room_1 s mt #[Value.ref b] below meth cd H locs cells slots Z (F0 mt 199 ls []) := by
  obtain ⟨hx, hb, hr0, hml, hown, hts, hX, hbl, hlocks, hgv⟩ := F.1
  have hbA : ¬ lw_A s b := Nat.not_le.mpr hbl
  obtain ⟨QC, QM, hC, hM, hq⟩ := pr_mood (G := ((l, D, cI, cZ, aC), (l, D, cI, cZ, aM))) h hN (a := xs (x3 + 1).toNatClampNeg) (b := xs (x3 + 2).toNatClampNeg)
  refine lv_aload_n hx hb dL_law_199 rfl (lv_at hl 1 rfl) ?_
  refine lv_aload_n hx hb dL_law_200 rfl (lv_at hl 0 rfl) ?_
  refine lv_iload_n hx hb dL_law_201 rfl (lv_at hl 3 rfl) ?_
  refine lv_iconst (v := 1) hx hb dL_law_202 (by decide) ?_
  refine lv_iadd hx hb dL_law_203 ?_
  refine va_sld hx hb hX hbl hbA X.2.2.2.2 (lw_in 1 rfl (by decide) hi hL5 hL) dL_law_204 ?_
  refine lv_aload_n hx hb dL_law_205 rfl (lv_at hl 0 rfl) ?_
  refine lv_iload_n hx hb dL_law_206 rfl (lv_at hl 3 rfl) ?_
  refine lv_iconst (v := 2) hx hb dL_law_207 (by decide) ?_
  refine lv_iadd hx hb dL_law_208 ?_
  refine va_sld hx hb hX hbl hbA X.2.2.2.2 (lw_in 2 rfl (by decide) hi hL5 hL) dL_law_209 ?_
  refine lw_callC F X fL_18 dL_law_210 hC rfl ⟨Nat.le_of_ble_eq_true rfl, Nat.le_of_ble_eq_true rfl⟩ hl.1 rfl (by decide) hcs (fun v c1 H1 locs1 hq1 X => ?_)
  refine lv_aload_n hx hb dL_law_213 rfl (lv_at hl 2 rfl) ?_
  refine lv_aload_n hx hb dL_law_214 rfl (lv_at hl 0 rfl) ?_
  refine lv_iload_n hx hb dL_law_215 rfl (lv_at hl 3 rfl) ?_
  refine lv_iconst (v := 1) hx hb dL_law_216 (by decide) ?_
  refine lv_iadd hx hb dL_law_217 ?_
  refine va_sld hx hb hX hbl hbA X.2.2.2.2 (lw_in 1 rfl (by decide) hi hL5 hL) dL_law_218 ?_
  refine lv_aload_n hx hb dL_law_219 rfl (lv_at hl 0 rfl) ?_
  refine lv_iload_n hx hb dL_law_220 rfl (lv_at hl 3 rfl) ?_
  refine lv_iconst (v := 2) hx hb dL_law_221 (by decide) ?_
  refine lv_iadd hx hb dL_law_222 ?_
  refine va_sld hx hb hX hbl hbA X.2.2.2.2 (lw_in 2 rfl (by decide) hi hL5 hL) dL_law_223 ?_
  refine lw_callM F X fL_22 dL_law_224 hM rfl ⟨Nat.le_of_ble_eq_true rfl, Nat.le_of_ble_eq_true rfl⟩ hl.1 rfl (lw_cat v aC) hcs (fun w m1 H1 locs1 hq2 X => ?_)
  obtain ⟨⟨e1, z, e2⟩, hI⟩ := hq v c1 w m1 hq1 hq2
  subst e1
  subst e2
  refine W.eq (g2 := F0 mt 227 ls [.int z, .int z]) rfl ?_
  exact lv_icmp_eq (tgt := 944) hx hb dL_law_227 (by decide) (fun _ => kk c1 m1 H1 locs1 hI X) (fun h => absurd rfl h)
theorem fL_23 : j_V R_law 23 mX3_bound 3 2 := ⟨⟨Or.inl (big_t 213 (by decide +kernel) (by decide +kernel)), big_t 1 (by decide +kernel) (by decide +kernel), big_t 216 (by decide +kernel) (by decide +kernel), by decide +kernel, by decide +kernel, by decide +kernel⟩, big_t 214 (by decide +kernel) (by decide +kernel), big_t 215 (by decide +kernel) (by decide +kernel), TX3, 11, rfl⟩
theorem fL_26 : j_V R_law 26 mX4_bound 4 2 := ⟨⟨Or.inl (big_t 715 (by decide +kernel) (by decide +kernel)), big_t 6 (by decide +kernel) (by decide +kernel), big_t 718 (by decide +kernel) (by decide +kernel), by decide +kernel, by decide +kernel, by decide +kernel⟩, big_t 716 (by decide +kernel) (by decide +kernel), big_t 717 (by decide +kernel) (by decide +kernel), TX4, 24, rfl⟩
set_option maxRecDepth 100000 in
set_option maxHeartbeats 4000000 in
theorem lw_case2 {x3 : Int32} {i : Nat} {N : Int} (F : LF p s mt meth cd b L xs D cI cZ aC aM) (X : LW s D cI cZ aC aM H locs c m) (h : Inv N c m) (hN : 150 ≤ N ∧ N < 100000) (hi : x3.toInt = (i : Int)) (hL5 : i + 5 ≤ L) (hL : L ≤ 320) (hl : lv_has ls 4 [(0, .ref b), (1, .ref (aC 0)), (2, .ref (aM 0)), (3, .int x3)]) (hcs : cells ≤ room_1.cells ∧ slots ≤ room_1.slots)
    (kk : ∀ (c1 m1 : JM) (H1 : Heap) (locs1 : List Loc), Inv (N + 1) c1 m1 → LW s D cI cZ aC aM H1 locs1 c1 m1 → W p l e room_1 s mt #[Value.ref b] below meth cd H1 locs1 cells slots Z (F0 mt 944 ls [])) : W p l e room_1 s mt #[Value.ref b] below meth cd H locs cells slots Z (F0 mt 232 ls []) := by
  obtain ⟨hx, hb, hr0, hml, hown, hts, hX, hbl, hlocks, hgv⟩ := F.1
  have hbA : ¬ lw_A s b := Nat.not_le.mpr hbl
  obtain ⟨QC, QM, hC, hM, hq⟩ := pr_bound (G := ((l, D, cI, cZ, aC), (l, D, cI, cZ, aM))) h hN (a := xs (x3 + 1).toNatClampNeg) (b := xs (x3 + 2).toNatClampNeg)
  refine lv_aload_n hx hb dL_law_232 rfl (lv_at hl 1 rfl) ?_
  refine lv_aload_n hx hb dL_law_233 rfl (lv_at hl 0 rfl) ?_
  refine lv_iload_n hx hb dL_law_234 rfl (lv_at hl 3 rfl) ?_
  refine lv_iconst (v := 1) hx hb dL_law_235 (by decide) ?_
  refine lv_iadd hx hb dL_law_236 ?_
  refine va_sld hx hb hX hbl hbA X.2.2.2.2 (lw_in 1 rfl (by decide) hi hL5 hL) dL_law_237 ?_
  refine lv_aload_n hx hb dL_law_238 rfl (lv_at hl 0 rfl) ?_
  refine lv_iload_n hx hb dL_law_239 rfl (lv_at hl 3 rfl) ?_
  refine lv_iconst (v := 2) hx hb dL_law_240 (by decide) ?_
  refine lv_iadd hx hb dL_law_241 ?_
  refine va_sld hx hb hX hbl hbA X.2.2.2.2 (lw_in 2 rfl (by decide) hi hL5 hL) dL_law_242 ?_
  refine lw_callC F X fL_23 dL_law_243 hC rfl ⟨Nat.le_of_ble_eq_true rfl, Nat.le_of_ble_eq_true rfl⟩ hl.1 rfl (by decide) hcs (fun v c1 H1 locs1 hq1 X => ?_)
  refine lv_aload_n hx hb dL_law_246 rfl (lv_at hl 2 rfl) ?_
  refine lv_aload_n hx hb dL_law_247 rfl (lv_at hl 0 rfl) ?_
  refine lv_iload_n hx hb dL_law_248 rfl (lv_at hl 3 rfl) ?_
  refine lv_iconst (v := 1) hx hb dL_law_249 (by decide) ?_
  refine lv_iadd hx hb dL_law_250 ?_
  refine va_sld hx hb hX hbl hbA X.2.2.2.2 (lw_in 1 rfl (by decide) hi hL5 hL) dL_law_251 ?_
  refine lv_aload_n hx hb dL_law_252 rfl (lv_at hl 0 rfl) ?_
  refine lv_iload_n hx hb dL_law_253 rfl (lv_at hl 3 rfl) ?_
  refine lv_iconst (v := 2) hx hb dL_law_254 (by decide) ?_
  refine lv_iadd hx hb dL_law_255 ?_
  refine va_sld hx hb hX hbl hbA X.2.2.2.2 (lw_in 2 rfl (by decide) hi hL5 hL) dL_law_256 ?_
  refine lw_callM F X fL_26 dL_law_257 hM rfl ⟨Nat.le_of_ble_eq_true rfl, Nat.le_of_ble_eq_true rfl⟩ hl.1 rfl (lw_cat v aC) hcs (fun w m1 H1 locs1 hq2 X => ?_)
  obtain ⟨⟨e1, z, e2⟩, hI⟩ := hq v c1 w m1 hq1 hq2
  subst e1
  subst e2
  refine W.eq (g2 := F0 mt 260 ls [.int z, .int z]) rfl ?_
  exact lv_icmp_eq (tgt := 944) hx hb dL_law_260 (by decide) (fun _ => kk c1 m1 H1 locs1 hI X) (fun h => absurd rfl h)
theorem fL_27 : j_V R_law 27 mX3_vow 3 2 := ⟨⟨Or.inl (big_t 220 (by decide +kernel) (by decide +kernel)), big_t 1 (by decide +kernel) (by decide +kernel), big_t 223 (by decide +kernel) (by decide +kernel), by decide +kernel, by decide +kernel, by decide +kernel⟩, big_t 221 (by decide +kernel) (by decide +kernel), big_t 222 (by decide +kernel) (by decide +kernel), TX3, 11, rfl⟩
theorem fL_30 : j_V R_law 30 mX4_vow 4 2 := ⟨⟨Or.inl (big_t 719 (by decide +kernel) (by decide +kernel)), big_t 6 (by decide +kernel) (by decide +kernel), big_t 722 (by decide +kernel) (by decide +kernel), by decide +kernel, by decide +kernel, by decide +kernel⟩, big_t 720 (by decide +kernel) (by decide +kernel), big_t 721 (by decide +kernel) (by decide +kernel), TX4, 24, rfl⟩
set_option maxRecDepth 100000 in
set_option maxHeartbeats 4000000 in
theorem lw_case3 {x3 : Int32} {i : Nat} {N : Int} (F : LF p s mt meth cd b L xs D cI cZ aC aM) (X : LW s D cI cZ aC aM H locs c m) (h : Inv N c m) (hN : 150 ≤ N ∧ N < 100000) (hi : x3.toInt = (i : Int)) (hL5 : i + 5 ≤ L) (hL : L ≤ 320) (hl : lv_has ls 4 [(0, .ref b), (1, .ref (aC 0)), (2, .ref (aM 0)), (3, .int x3)]) (hcs : cells ≤ room_1.cells ∧ slots ≤ room_1.slots)
    (kk : ∀ (c1 m1 : JM) (H1 : Heap) (locs1 : List Loc), Inv (N + 1) c1 m1 → LW s D cI cZ aC aM H1 locs1 c1 m1 → W p l e room_1 s mt #[Value.ref b] below meth cd H1 locs1 cells slots Z (F0 mt 944 ls [])) : W p l e room_1 s mt #[Value.ref b] below meth cd H locs cells slots Z (F0 mt 265 ls []) := by
  obtain ⟨hx, hb, hr0, hml, hown, hts, hX, hbl, hlocks, hgv⟩ := F.1
  have hbA : ¬ lw_A s b := Nat.not_le.mpr hbl
  obtain ⟨QC, QM, hC, hM, hq⟩ := pr_vow (G := ((l, D, cI, cZ, aC), (l, D, cI, cZ, aM))) h hN (a := xs (x3 + 1).toNatClampNeg) (b := xs (x3 + 2).toNatClampNeg)
  refine lv_aload_n hx hb dL_law_265 rfl (lv_at hl 1 rfl) ?_
  refine lv_aload_n hx hb dL_law_266 rfl (lv_at hl 0 rfl) ?_
  refine lv_iload_n hx hb dL_law_267 rfl (lv_at hl 3 rfl) ?_
  refine lv_iconst (v := 1) hx hb dL_law_268 (by decide) ?_
  refine lv_iadd hx hb dL_law_269 ?_
  refine va_sld hx hb hX hbl hbA X.2.2.2.2 (lw_in 1 rfl (by decide) hi hL5 hL) dL_law_270 ?_
  refine lv_aload_n hx hb dL_law_271 rfl (lv_at hl 0 rfl) ?_
  refine lv_iload_n hx hb dL_law_272 rfl (lv_at hl 3 rfl) ?_
  refine lv_iconst (v := 2) hx hb dL_law_273 (by decide) ?_
  refine lv_iadd hx hb dL_law_274 ?_
  refine va_sld hx hb hX hbl hbA X.2.2.2.2 (lw_in 2 rfl (by decide) hi hL5 hL) dL_law_275 ?_
  refine lw_callC F X fL_27 dL_law_276 hC rfl ⟨Nat.le_of_ble_eq_true rfl, Nat.le_of_ble_eq_true rfl⟩ hl.1 rfl (by decide) hcs (fun v c1 H1 locs1 hq1 X => ?_)
  refine lv_aload_n hx hb dL_law_279 rfl (lv_at hl 2 rfl) ?_
  refine lv_aload_n hx hb dL_law_280 rfl (lv_at hl 0 rfl) ?_
  refine lv_iload_n hx hb dL_law_281 rfl (lv_at hl 3 rfl) ?_
  refine lv_iconst (v := 1) hx hb dL_law_282 (by decide) ?_
  refine lv_iadd hx hb dL_law_283 ?_
  refine va_sld hx hb hX hbl hbA X.2.2.2.2 (lw_in 1 rfl (by decide) hi hL5 hL) dL_law_284 ?_
  refine lv_aload_n hx hb dL_law_285 rfl (lv_at hl 0 rfl) ?_
  refine lv_iload_n hx hb dL_law_286 rfl (lv_at hl 3 rfl) ?_
  refine lv_iconst (v := 2) hx hb dL_law_287 (by decide) ?_
  refine lv_iadd hx hb dL_law_288 ?_
  refine va_sld hx hb hX hbl hbA X.2.2.2.2 (lw_in 2 rfl (by decide) hi hL5 hL) dL_law_289 ?_
  refine lw_callM F X fL_30 dL_law_290 hM rfl ⟨Nat.le_of_ble_eq_true rfl, Nat.le_of_ble_eq_true rfl⟩ hl.1 rfl (lw_cat v aC) hcs (fun w m1 H1 locs1 hq2 X => ?_)
  obtain ⟨⟨e1, z, e2⟩, hI⟩ := hq v c1 w m1 hq1 hq2
  subst e1
  subst e2
  refine W.eq (g2 := F0 mt 293 ls [.int z, .int z]) rfl ?_
  exact lv_icmp_eq (tgt := 944) hx hb dL_law_293 (by decide) (fun _ => kk c1 m1 H1 locs1 hI X) (fun h => absurd rfl h)
theorem fL_31 : j_V R_law 31 mX3_type 3 1 := ⟨⟨Or.inl (big_t 230 (by decide +kernel) (by decide +kernel)), big_t 1 (by decide +kernel) (by decide +kernel), big_t 233 (by decide +kernel) (by decide +kernel), by decide +kernel, by decide +kernel, by decide +kernel⟩, big_t 231 (by decide +kernel) (by decide +kernel), big_t 232 (by decide +kernel) (by decide +kernel), TX3, 11, rfl⟩
theorem fL_34 : j_V R_law 34 mX4_type 4 1 := ⟨⟨Or.inl (big_t 725 (by decide +kernel) (by decide +kernel)), big_t 6 (by decide +kernel) (by decide +kernel), big_t 728 (by decide +kernel) (by decide +kernel), by decide +kernel, by decide +kernel, by decide +kernel⟩, big_t 726 (by decide +kernel) (by decide +kernel), big_t 727 (by decide +kernel) (by decide +kernel), TX4, 24, rfl⟩
set_option maxRecDepth 100000 in
set_option maxHeartbeats 4000000 in
theorem lw_case4 {x3 : Int32} {i : Nat} {N : Int} (F : LF p s mt meth cd b L xs D cI cZ aC aM) (X : LW s D cI cZ aC aM H locs c m) (h : Inv N c m) (hN : 150 ≤ N ∧ N < 100000) (hi : x3.toInt = (i : Int)) (hL5 : i + 5 ≤ L) (hL : L ≤ 320) (hl : lv_has ls 4 [(0, .ref b), (1, .ref (aC 0)), (2, .ref (aM 0)), (3, .int x3)]) (hcs : cells ≤ room_1.cells ∧ slots ≤ room_1.slots)
    (kk : ∀ (c1 m1 : JM) (H1 : Heap) (locs1 : List Loc), Inv (N + 1) c1 m1 → LW s D cI cZ aC aM H1 locs1 c1 m1 → W p l e room_1 s mt #[Value.ref b] below meth cd H1 locs1 cells slots Z (F0 mt 944 ls [])) : W p l e room_1 s mt #[Value.ref b] below meth cd H locs cells slots Z (F0 mt 298 ls []) := by
  obtain ⟨hx, hb, hr0, hml, hown, hts, hX, hbl, hlocks, hgv⟩ := F.1
  have hbA : ¬ lw_A s b := Nat.not_le.mpr hbl
  obtain ⟨QC, QM, hC, hM, hq⟩ := pr_type (G := ((l, D, cI, cZ, aC), (l, D, cI, cZ, aM))) h hN (a := xs (x3 + 1).toNatClampNeg)
  refine lv_aload_n hx hb dL_law_298 rfl (lv_at hl 1 rfl) ?_
  refine lv_aload_n hx hb dL_law_299 rfl (lv_at hl 0 rfl) ?_
  refine lv_iload_n hx hb dL_law_300 rfl (lv_at hl 3 rfl) ?_
  refine lv_iconst (v := 1) hx hb dL_law_301 (by decide) ?_
  refine lv_iadd hx hb dL_law_302 ?_
  refine va_sld hx hb hX hbl hbA X.2.2.2.2 (lw_in 1 rfl (by decide) hi hL5 hL) dL_law_303 ?_
  refine lw_callC F X fL_31 dL_law_304 hC rfl ⟨Nat.le_of_ble_eq_true rfl, Nat.le_of_ble_eq_true rfl⟩ hl.1 rfl (by decide) hcs (fun v c1 H1 locs1 hq1 X => ?_)
  refine lv_aload_n hx hb dL_law_307 rfl (lv_at hl 2 rfl) ?_
  refine lv_aload_n hx hb dL_law_308 rfl (lv_at hl 0 rfl) ?_
  refine lv_iload_n hx hb dL_law_309 rfl (lv_at hl 3 rfl) ?_
  refine lv_iconst (v := 1) hx hb dL_law_310 (by decide) ?_
  refine lv_iadd hx hb dL_law_311 ?_
  refine va_sld hx hb hX hbl hbA X.2.2.2.2 (lw_in 1 rfl (by decide) hi hL5 hL) dL_law_312 ?_
  refine lw_callM F X fL_34 dL_law_313 hM rfl ⟨Nat.le_of_ble_eq_true rfl, Nat.le_of_ble_eq_true rfl⟩ hl.1 rfl (lw_cat v aC) hcs (fun w m1 H1 locs1 hq2 X => ?_)
  obtain ⟨⟨e1, z, e2⟩, hI⟩ := hq v c1 w m1 hq1 hq2
  subst e1
  subst e2
  refine W.eq (g2 := F0 mt 316 ls [.int z, .int z]) rfl ?_
  exact lv_icmp_eq (tgt := 944) hx hb dL_law_316 (by decide) (fun _ => kk c1 m1 H1 locs1 hI X) (fun h => absurd rfl h)
theorem fL_35 : j_V R_law 35 mX3_clear 3 0 := ⟨⟨Or.inl (big_t 234 (by decide +kernel) (by decide +kernel)), big_t 1 (by decide +kernel) (by decide +kernel), big_t 237 (by decide +kernel) (by decide +kernel), by decide +kernel, by decide +kernel, by decide +kernel⟩, big_t 235 (by decide +kernel) (by decide +kernel), big_t 236 (by decide +kernel) (by decide +kernel), TX3, 11, rfl⟩
theorem fL_39 : j_V R_law 39 mX4_clear 4 0 := ⟨⟨Or.inl (big_t 730 (by decide +kernel) (by decide +kernel)), big_t 6 (by decide +kernel) (by decide +kernel), big_t 733 (by decide +kernel) (by decide +kernel), by decide +kernel, by decide +kernel, by decide +kernel⟩, big_t 731 (by decide +kernel) (by decide +kernel), big_t 732 (by decide +kernel) (by decide +kernel), TX4, 24, rfl⟩
set_option maxRecDepth 100000 in
set_option maxHeartbeats 4000000 in
theorem lw_case5 {x3 : Int32} {i : Nat} {N : Int} (F : LF p s mt meth cd b L xs D cI cZ aC aM) (X : LW s D cI cZ aC aM H locs c m) (h : Inv N c m) (hN : 150 ≤ N ∧ N < 100000) (hi : x3.toInt = (i : Int)) (hL5 : i + 5 ≤ L) (hL : L ≤ 320) (hl : lv_has ls 4 [(0, .ref b), (1, .ref (aC 0)), (2, .ref (aM 0)), (3, .int x3)]) (hcs : cells ≤ room_1.cells ∧ slots ≤ room_1.slots)
    (kk : ∀ (c1 m1 : JM) (H1 : Heap) (locs1 : List Loc), Inv (N + 1) c1 m1 → LW s D cI cZ aC aM H1 locs1 c1 m1 → W p l e room_1 s mt #[Value.ref b] below meth cd H1 locs1 cells slots Z (F0 mt 944 ls [])) : W p l e room_1 s mt #[Value.ref b] below meth cd H locs cells slots Z (F0 mt 321 ls []) := by
  obtain ⟨hx, hb, hr0, hml, hown, hts, hX, hbl, hlocks, hgv⟩ := F.1
  have hbA : ¬ lw_A s b := Nat.not_le.mpr hbl
  obtain ⟨QC, QM, hC, hM, hq⟩ := pr_clear (G := ((l, D, cI, cZ, aC), (l, D, cI, cZ, aM))) h hN 
  refine lv_aload_n hx hb dL_law_321 rfl (lv_at hl 1 rfl) ?_
  refine lw_callC F X fL_35 dL_law_322 hC rfl ⟨Nat.le_of_ble_eq_true rfl, Nat.le_of_ble_eq_true rfl⟩ hl.1 rfl (by decide) hcs (fun v c1 H1 locs1 hq1 X => ?_)
  refine lv_aload_n hx hb dL_law_325 rfl (lv_at hl 2 rfl) ?_
  refine lw_callM F X fL_39 dL_law_326 hM rfl ⟨Nat.le_of_ble_eq_true rfl, Nat.le_of_ble_eq_true rfl⟩ hl.1 rfl (lw_cat v aC) hcs (fun w m1 H1 locs1 hq2 X => ?_)
  obtain ⟨⟨e1, z, e2⟩, hI⟩ := hq v c1 w m1 hq1 hq2
  subst e1
  subst e2
  refine W.eq (g2 := F0 mt 329 ls [.int z, .int z]) rfl ?_
  exact lv_icmp_eq (tgt := 944) hx hb dL_law_329 (by decide) (fun _ => kk c1 m1 H1 locs1 hI X) (fun h => absurd rfl h)
theorem fL_40 : j_V R_law 40 mX3_read 3 0 := ⟨⟨Or.inl (big_t 238 (by decide +kernel) (by decide +kernel)), big_t 1 (by decide +kernel) (by decide +kernel), big_t 241 (by decide +kernel) (by decide +kernel), by decide +kernel, by decide +kernel, by decide +kernel⟩, big_t 239 (by decide +kernel) (by decide +kernel), big_t 240 (by decide +kernel) (by decide +kernel), TX3, 11, rfl⟩
theorem fL_43 : j_V R_law 43 mX4_read 4 0 := ⟨⟨Or.inl (big_t 734 (by decide +kernel) (by decide +kernel)), big_t 6 (by decide +kernel) (by decide +kernel), big_t 737 (by decide +kernel) (by decide +kernel), by decide +kernel, by decide +kernel, by decide +kernel⟩, big_t 735 (by decide +kernel) (by decide +kernel), big_t 736 (by decide +kernel) (by decide +kernel), TX4, 24, rfl⟩
set_option maxRecDepth 100000 in
set_option maxHeartbeats 4000000 in
theorem lw_case6 {x3 : Int32} {i : Nat} {N : Int} (F : LF p s mt meth cd b L xs D cI cZ aC aM) (X : LW s D cI cZ aC aM H locs c m) (h : Inv N c m) (hN : 150 ≤ N ∧ N < 100000) (hi : x3.toInt = (i : Int)) (hL5 : i + 5 ≤ L) (hL : L ≤ 320) (hl : lv_has ls 4 [(0, .ref b), (1, .ref (aC 0)), (2, .ref (aM 0)), (3, .int x3)]) (hcs : cells ≤ room_1.cells ∧ slots ≤ room_1.slots)
    (kk : ∀ (c1 m1 : JM) (H1 : Heap) (locs1 : List Loc), Inv (N + 1) c1 m1 → LW s D cI cZ aC aM H1 locs1 c1 m1 → W p l e room_1 s mt #[Value.ref b] below meth cd H1 locs1 cells slots Z (F0 mt 944 ls [])) : W p l e room_1 s mt #[Value.ref b] below meth cd H locs cells slots Z (F0 mt 334 ls []) := by
  obtain ⟨hx, hb, hr0, hml, hown, hts, hX, hbl, hlocks, hgv⟩ := F.1
  have hbA : ¬ lw_A s b := Nat.not_le.mpr hbl
  obtain ⟨QC, QM, hC, hM, hq⟩ := pr_read (G := ((l, D, cI, cZ, aC), (l, D, cI, cZ, aM))) h hN 
  refine lv_aload_n hx hb dL_law_334 rfl (lv_at hl 1 rfl) ?_
  refine lw_callC F X fL_40 dL_law_335 hC rfl ⟨Nat.le_of_ble_eq_true rfl, Nat.le_of_ble_eq_true rfl⟩ hl.1 rfl (by decide) hcs (fun v c1 H1 locs1 hq1 X => ?_)
  refine lv_aload_n hx hb dL_law_338 rfl (lv_at hl 2 rfl) ?_
  refine lw_callM F X fL_43 dL_law_339 hM rfl ⟨Nat.le_of_ble_eq_true rfl, Nat.le_of_ble_eq_true rfl⟩ hl.1 rfl (lw_cat v aC) hcs (fun w m1 H1 locs1 hq2 X => ?_)
  obtain ⟨⟨e1, z, e2⟩, hI⟩ := hq v c1 w m1 hq1 hq2
  subst e1
  subst e2
  refine W.eq (g2 := F0 mt 342 ls [.int z, .int z]) rfl ?_
  exact lv_icmp_eq (tgt := 944) hx hb dL_law_342 (by decide) (fun _ => kk c1 m1 H1 locs1 hI X) (fun h => absurd rfl h)
theorem fL_44 : j_V R_law 44 mX3_say 3 1 := ⟨⟨Or.inl (big_t 389 (by decide +kernel) (by decide +kernel)), big_t 1 (by decide +kernel) (by decide +kernel), big_t 392 (by decide +kernel) (by decide +kernel), by decide +kernel, by decide +kernel, by decide +kernel⟩, big_t 390 (by decide +kernel) (by decide +kernel), big_t 391 (by decide +kernel) (by decide +kernel), TX3, 11, rfl⟩
theorem fL_47 : j_V R_law 47 mX4_say 4 1 := ⟨⟨Or.inl (big_t 804 (by decide +kernel) (by decide +kernel)), big_t 6 (by decide +kernel) (by decide +kernel), big_t 807 (by decide +kernel) (by decide +kernel), by decide +kernel, by decide +kernel, by decide +kernel⟩, big_t 805 (by decide +kernel) (by decide +kernel), big_t 806 (by decide +kernel) (by decide +kernel), TX4, 24, rfl⟩
set_option maxRecDepth 100000 in
set_option maxHeartbeats 4000000 in
theorem lw_case7 {x3 : Int32} {i : Nat} {N : Int} (F : LF p s mt meth cd b L xs D cI cZ aC aM) (X : LW s D cI cZ aC aM H locs c m) (h : Inv N c m) (hN : 150 ≤ N ∧ N < 100000) (hi : x3.toInt = (i : Int)) (hL5 : i + 5 ≤ L) (hL : L ≤ 320) (hl : lv_has ls 4 [(0, .ref b), (1, .ref (aC 0)), (2, .ref (aM 0)), (3, .int x3)]) (hcs : cells ≤ room_1.cells ∧ slots ≤ room_1.slots)
    (kk : ∀ (c1 m1 : JM) (H1 : Heap) (locs1 : List Loc), Inv (N + 1) c1 m1 → LW s D cI cZ aC aM H1 locs1 c1 m1 → W p l e room_1 s mt #[Value.ref b] below meth cd H1 locs1 cells slots Z (F0 mt 944 ls [])) : W p l e room_1 s mt #[Value.ref b] below meth cd H locs cells slots Z (F0 mt 347 ls []) := by
  obtain ⟨hx, hb, hr0, hml, hown, hts, hX, hbl, hlocks, hgv⟩ := F.1
  have hbA : ¬ lw_A s b := Nat.not_le.mpr hbl
  obtain ⟨QC, QM, hC, hM, hq⟩ := pr_say (G := ((l, D, cI, cZ, aC), (l, D, cI, cZ, aM))) h hN (a := xs (x3 + 1).toNatClampNeg)
  refine lv_aload_n hx hb dL_law_347 rfl (lv_at hl 1 rfl) ?_
  refine lv_aload_n hx hb dL_law_348 rfl (lv_at hl 0 rfl) ?_
  refine lv_iload_n hx hb dL_law_349 rfl (lv_at hl 3 rfl) ?_
  refine lv_iconst (v := 1) hx hb dL_law_350 (by decide) ?_
  refine lv_iadd hx hb dL_law_351 ?_
  refine va_sld hx hb hX hbl hbA X.2.2.2.2 (lw_in 1 rfl (by decide) hi hL5 hL) dL_law_352 ?_
  refine lw_callC F X fL_44 dL_law_353 hC rfl ⟨Nat.le_of_ble_eq_true rfl, Nat.le_of_ble_eq_true rfl⟩ hl.1 rfl (by decide) hcs (fun v c1 H1 locs1 hq1 X => ?_)
  refine lv_aload_n hx hb dL_law_356 rfl (lv_at hl 2 rfl) ?_
  refine lv_aload_n hx hb dL_law_357 rfl (lv_at hl 0 rfl) ?_
  refine lv_iload_n hx hb dL_law_358 rfl (lv_at hl 3 rfl) ?_
  refine lv_iconst (v := 1) hx hb dL_law_359 (by decide) ?_
  refine lv_iadd hx hb dL_law_360 ?_
  refine va_sld hx hb hX hbl hbA X.2.2.2.2 (lw_in 1 rfl (by decide) hi hL5 hL) dL_law_361 ?_
  refine lw_callM F X fL_47 dL_law_362 hM rfl ⟨Nat.le_of_ble_eq_true rfl, Nat.le_of_ble_eq_true rfl⟩ hl.1 rfl (lw_cat v aC) hcs (fun w m1 H1 locs1 hq2 X => ?_)
  obtain ⟨⟨e1, z, e2⟩, hI⟩ := hq v c1 w m1 hq1 hq2
  subst e1
  subst e2
  refine W.eq (g2 := F0 mt 365 ls [.int z, .int z]) rfl ?_
  exact lv_icmp_eq (tgt := 944) hx hb dL_law_365 (by decide) (fun _ => kk c1 m1 H1 locs1 hI X) (fun h => absurd rfl h)
theorem fL_48 : j_V R_law 48 mX3_open 3 0 := ⟨⟨Or.inl (big_t 401 (by decide +kernel) (by decide +kernel)), big_t 1 (by decide +kernel) (by decide +kernel), big_t 404 (by decide +kernel) (by decide +kernel), by decide +kernel, by decide +kernel, by decide +kernel⟩, big_t 402 (by decide +kernel) (by decide +kernel), big_t 403 (by decide +kernel) (by decide +kernel), TX3, 11, rfl⟩
theorem fL_51 : j_V R_law 51 mX4_open 4 0 := ⟨⟨Or.inl (big_t 812 (by decide +kernel) (by decide +kernel)), big_t 6 (by decide +kernel) (by decide +kernel), big_t 815 (by decide +kernel) (by decide +kernel), by decide +kernel, by decide +kernel, by decide +kernel⟩, big_t 813 (by decide +kernel) (by decide +kernel), big_t 814 (by decide +kernel) (by decide +kernel), TX4, 24, rfl⟩
set_option maxRecDepth 100000 in
set_option maxHeartbeats 4000000 in
theorem lw_case8 {x3 : Int32} {i : Nat} {N : Int} (F : LF p s mt meth cd b L xs D cI cZ aC aM) (X : LW s D cI cZ aC aM H locs c m) (h : Inv N c m) (hN : 150 ≤ N ∧ N < 100000) (hi : x3.toInt = (i : Int)) (hL5 : i + 5 ≤ L) (hL : L ≤ 320) (hl : lv_has ls 4 [(0, .ref b), (1, .ref (aC 0)), (2, .ref (aM 0)), (3, .int x3)]) (hcs : cells ≤ room_1.cells ∧ slots ≤ room_1.slots)
    (kk : ∀ (c1 m1 : JM) (H1 : Heap) (locs1 : List Loc), Inv (N + 1) c1 m1 → LW s D cI cZ aC aM H1 locs1 c1 m1 → W p l e room_1 s mt #[Value.ref b] below meth cd H1 locs1 cells slots Z (F0 mt 944 ls [])) : W p l e room_1 s mt #[Value.ref b] below meth cd H locs cells slots Z (F0 mt 370 ls []) := by
  obtain ⟨hx, hb, hr0, hml, hown, hts, hX, hbl, hlocks, hgv⟩ := F.1
  have hbA : ¬ lw_A s b := Nat.not_le.mpr hbl
  obtain ⟨QC, QM, hC, hM, hq⟩ := pr_open (G := ((l, D, cI, cZ, aC), (l, D, cI, cZ, aM))) h hN 
  refine lv_aload_n hx hb dL_law_370 rfl (lv_at hl 1 rfl) ?_
  refine lw_callC F X fL_48 dL_law_371 hC rfl ⟨Nat.le_of_ble_eq_true rfl, Nat.le_of_ble_eq_true rfl⟩ hl.1 rfl (by decide) hcs (fun v c1 H1 locs1 hq1 X => ?_)
  refine lv_aload_n hx hb dL_law_374 rfl (lv_at hl 2 rfl) ?_
  refine lw_callM F X fL_51 dL_law_375 hM rfl ⟨Nat.le_of_ble_eq_true rfl, Nat.le_of_ble_eq_true rfl⟩ hl.1 rfl (lw_cat v aC) hcs (fun w m1 H1 locs1 hq2 X => ?_)
  obtain ⟨⟨e1, z, e2⟩, hI⟩ := hq v c1 w m1 hq1 hq2
  subst e1
  subst e2
  refine W.eq (g2 := F0 mt 378 ls [.int z, .int z]) rfl ?_
  exact lv_icmp_eq (tgt := 944) hx hb dL_law_378 (by decide) (fun _ => kk c1 m1 H1 locs1 hI X) (fun h => absurd rfl h)
theorem fL_52 : j_V R_law 52 mX3_undo 3 0 := ⟨⟨Or.inl (big_t 407 (by decide +kernel) (by decide +kernel)), big_t 1 (by decide +kernel) (by decide +kernel), big_t 410 (by decide +kernel) (by decide +kernel), by decide +kernel, by decide +kernel, by decide +kernel⟩, big_t 408 (by decide +kernel) (by decide +kernel), big_t 409 (by decide +kernel) (by decide +kernel), TX3, 11, rfl⟩
theorem fL_55 : j_V R_law 55 mX4_undo 4 0 := ⟨⟨Or.inl (big_t 816 (by decide +kernel) (by decide +kernel)), big_t 6 (by decide +kernel) (by decide +kernel), big_t 819 (by decide +kernel) (by decide +kernel), by decide +kernel, by decide +kernel, by decide +kernel⟩, big_t 817 (by decide +kernel) (by decide +kernel), big_t 818 (by decide +kernel) (by decide +kernel), TX4, 24, rfl⟩
set_option maxRecDepth 100000 in
set_option maxHeartbeats 4000000 in
theorem lw_case9 {x3 : Int32} {i : Nat} {N : Int} (F : LF p s mt meth cd b L xs D cI cZ aC aM) (X : LW s D cI cZ aC aM H locs c m) (h : Inv N c m) (hN : 150 ≤ N ∧ N < 100000) (hi : x3.toInt = (i : Int)) (hL5 : i + 5 ≤ L) (hL : L ≤ 320) (hl : lv_has ls 4 [(0, .ref b), (1, .ref (aC 0)), (2, .ref (aM 0)), (3, .int x3)]) (hcs : cells ≤ room_1.cells ∧ slots ≤ room_1.slots)
    (kk : ∀ (c1 m1 : JM) (H1 : Heap) (locs1 : List Loc), Inv (N + 1) c1 m1 → LW s D cI cZ aC aM H1 locs1 c1 m1 → W p l e room_1 s mt #[Value.ref b] below meth cd H1 locs1 cells slots Z (F0 mt 944 ls [])) : W p l e room_1 s mt #[Value.ref b] below meth cd H locs cells slots Z (F0 mt 383 ls []) := by
  obtain ⟨hx, hb, hr0, hml, hown, hts, hX, hbl, hlocks, hgv⟩ := F.1
  have hbA : ¬ lw_A s b := Nat.not_le.mpr hbl
  obtain ⟨QC, QM, hC, hM, hq⟩ := pr_undo (G := ((l, D, cI, cZ, aC), (l, D, cI, cZ, aM))) h hN 
  refine lv_aload_n hx hb dL_law_383 rfl (lv_at hl 1 rfl) ?_
  refine lw_callC F X fL_52 dL_law_384 hC rfl ⟨Nat.le_of_ble_eq_true rfl, Nat.le_of_ble_eq_true rfl⟩ hl.1 rfl (by decide) hcs (fun v c1 H1 locs1 hq1 X => ?_)
  refine lv_aload_n hx hb dL_law_387 rfl (lv_at hl 2 rfl) ?_
  refine lw_callM F X fL_55 dL_law_388 hM rfl ⟨Nat.le_of_ble_eq_true rfl, Nat.le_of_ble_eq_true rfl⟩ hl.1 rfl (lw_cat v aC) hcs (fun w m1 H1 locs1 hq2 X => ?_)
  obtain ⟨⟨e1, z, e2⟩, hI⟩ := hq v c1 w m1 hq1 hq2
  subst e1
  subst e2
  refine W.eq (g2 := F0 mt 391 ls [.int z, .int z]) rfl ?_
  exact lv_icmp_eq (tgt := 944) hx hb dL_law_391 (by decide) (fun _ => kk c1 m1 H1 locs1 hI X) (fun h => absurd rfl h)
theorem fL_56 : j_V R_law 56 mX3_now 3 1 := ⟨⟨Or.inl (big_t 416 (by decide +kernel) (by decide +kernel)), big_t 1 (by decide +kernel) (by decide +kernel), big_t 419 (by decide +kernel) (by decide +kernel), by decide +kernel, by decide +kernel, by decide +kernel⟩, big_t 417 (by decide +kernel) (by decide +kernel), big_t 418 (by decide +kernel) (by decide +kernel), TX3, 11, rfl⟩
theorem fL_59 : j_V R_law 59 mX4_now 4 1 := ⟨⟨Or.inl (big_t 820 (by decide +kernel) (by decide +kernel)), big_t 6 (by decide +kernel) (by decide +kernel), big_t 823 (by decide +kernel) (by decide +kernel), by decide +kernel, by decide +kernel, by decide +kernel⟩, big_t 821 (by decide +kernel) (by decide +kernel), big_t 822 (by decide +kernel) (by decide +kernel), TX4, 24, rfl⟩
set_option maxRecDepth 100000 in
set_option maxHeartbeats 4000000 in
theorem lw_case10 {x3 : Int32} {i : Nat} {N : Int} (F : LF p s mt meth cd b L xs D cI cZ aC aM) (X : LW s D cI cZ aC aM H locs c m) (h : Inv N c m) (hN : 150 ≤ N ∧ N < 100000) (hi : x3.toInt = (i : Int)) (hL5 : i + 5 ≤ L) (hL : L ≤ 320) (hl : lv_has ls 4 [(0, .ref b), (1, .ref (aC 0)), (2, .ref (aM 0)), (3, .int x3)]) (hcs : cells ≤ room_1.cells ∧ slots ≤ room_1.slots)
    (kk : ∀ (c1 m1 : JM) (H1 : Heap) (locs1 : List Loc), Inv (N + 1) c1 m1 → LW s D cI cZ aC aM H1 locs1 c1 m1 → W p l e room_1 s mt #[Value.ref b] below meth cd H1 locs1 cells slots Z (F0 mt 944 ls [])) : W p l e room_1 s mt #[Value.ref b] below meth cd H locs cells slots Z (F0 mt 396 ls []) := by
  obtain ⟨hx, hb, hr0, hml, hown, hts, hX, hbl, hlocks, hgv⟩ := F.1
  have hbA : ¬ lw_A s b := Nat.not_le.mpr hbl
  obtain ⟨QC, QM, hC, hM, hq⟩ := pr_now (G := ((l, D, cI, cZ, aC), (l, D, cI, cZ, aM))) h hN (a := xs (x3 + 1).toNatClampNeg)
  refine lv_aload_n hx hb dL_law_396 rfl (lv_at hl 1 rfl) ?_
  refine lv_aload_n hx hb dL_law_397 rfl (lv_at hl 0 rfl) ?_
  refine lv_iload_n hx hb dL_law_398 rfl (lv_at hl 3 rfl) ?_
  refine lv_iconst (v := 1) hx hb dL_law_399 (by decide) ?_
  refine lv_iadd hx hb dL_law_400 ?_
  refine va_sld hx hb hX hbl hbA X.2.2.2.2 (lw_in 1 rfl (by decide) hi hL5 hL) dL_law_401 ?_
  refine lw_callC F X fL_56 dL_law_402 hC rfl ⟨Nat.le_of_ble_eq_true rfl, Nat.le_of_ble_eq_true rfl⟩ hl.1 rfl (by decide) hcs (fun v c1 H1 locs1 hq1 X => ?_)
  refine lv_aload_n hx hb dL_law_405 rfl (lv_at hl 2 rfl) ?_
  refine lv_aload_n hx hb dL_law_406 rfl (lv_at hl 0 rfl) ?_
  refine lv_iload_n hx hb dL_law_407 rfl (lv_at hl 3 rfl) ?_
  refine lv_iconst (v := 1) hx hb dL_law_408 (by decide) ?_
  refine lv_iadd hx hb dL_law_409 ?_
  refine va_sld hx hb hX hbl hbA X.2.2.2.2 (lw_in 1 rfl (by decide) hi hL5 hL) dL_law_410 ?_
  refine lw_callM F X fL_59 dL_law_411 hM rfl ⟨Nat.le_of_ble_eq_true rfl, Nat.le_of_ble_eq_true rfl⟩ hl.1 rfl (lw_cat v aC) hcs (fun w m1 H1 locs1 hq2 X => ?_)
  obtain ⟨⟨e1, z, e2⟩, hI⟩ := hq v c1 w m1 hq1 hq2
  subst e1
  subst e2
  refine W.eq (g2 := F0 mt 414 ls [.int z, .int z]) rfl ?_
  exact lv_icmp_eq (tgt := 944) hx hb dL_law_414 (by decide) (fun _ => kk c1 m1 H1 locs1 hI X) (fun h => absurd rfl h)
theorem fL_60 : j_V R_law 60 mX3_moves 3 2 := ⟨⟨Or.inl (big_t 420 (by decide +kernel) (by decide +kernel)), big_t 1 (by decide +kernel) (by decide +kernel), big_t 423 (by decide +kernel) (by decide +kernel), by decide +kernel, by decide +kernel, by decide +kernel⟩, big_t 421 (by decide +kernel) (by decide +kernel), big_t 422 (by decide +kernel) (by decide +kernel), TX3, 11, rfl⟩
theorem fL_63 : j_V R_law 63 mX4_moves 4 2 := ⟨⟨Or.inl (big_t 825 (by decide +kernel) (by decide +kernel)), big_t 6 (by decide +kernel) (by decide +kernel), big_t 828 (by decide +kernel) (by decide +kernel), by decide +kernel, by decide +kernel, by decide +kernel⟩, big_t 826 (by decide +kernel) (by decide +kernel), big_t 827 (by decide +kernel) (by decide +kernel), TX4, 24, rfl⟩
set_option maxRecDepth 100000 in
set_option maxHeartbeats 4000000 in
theorem lw_case11 {x3 : Int32} {i : Nat} {N : Int} (F : LF p s mt meth cd b L xs D cI cZ aC aM) (X : LW s D cI cZ aC aM H locs c m) (h : Inv N c m) (hN : 150 ≤ N ∧ N < 100000) (hi : x3.toInt = (i : Int)) (hL5 : i + 5 ≤ L) (hL : L ≤ 320) (hl : lv_has ls 4 [(0, .ref b), (1, .ref (aC 0)), (2, .ref (aM 0)), (3, .int x3)]) (hcs : cells ≤ room_1.cells ∧ slots ≤ room_1.slots)
    (kk : ∀ (c1 m1 : JM) (H1 : Heap) (locs1 : List Loc), Inv (N + 1) c1 m1 → LW s D cI cZ aC aM H1 locs1 c1 m1 → W p l e room_1 s mt #[Value.ref b] below meth cd H1 locs1 cells slots Z (F0 mt 944 ls [])) : W p l e room_1 s mt #[Value.ref b] below meth cd H locs cells slots Z (F0 mt 419 ls []) := by
  obtain ⟨hx, hb, hr0, hml, hown, hts, hX, hbl, hlocks, hgv⟩ := F.1
  have hbA : ¬ lw_A s b := Nat.not_le.mpr hbl
  obtain ⟨QC, QM, hC, hM, hq⟩ := pr_moves (G := ((l, D, cI, cZ, aC), (l, D, cI, cZ, aM))) h hN (a := xs (x3 + 1).toNatClampNeg) (b := xs (x3 + 2).toNatClampNeg)
  refine lv_aload_n hx hb dL_law_419 rfl (lv_at hl 1 rfl) ?_
  refine lv_aload_n hx hb dL_law_420 rfl (lv_at hl 0 rfl) ?_
  refine lv_iload_n hx hb dL_law_421 rfl (lv_at hl 3 rfl) ?_
  refine lv_iconst (v := 1) hx hb dL_law_422 (by decide) ?_
  refine lv_iadd hx hb dL_law_423 ?_
  refine va_sld hx hb hX hbl hbA X.2.2.2.2 (lw_in 1 rfl (by decide) hi hL5 hL) dL_law_424 ?_
  refine lv_aload_n hx hb dL_law_425 rfl (lv_at hl 0 rfl) ?_
  refine lv_iload_n hx hb dL_law_426 rfl (lv_at hl 3 rfl) ?_
  refine lv_iconst (v := 2) hx hb dL_law_427 (by decide) ?_
  refine lv_iadd hx hb dL_law_428 ?_
  refine va_sld hx hb hX hbl hbA X.2.2.2.2 (lw_in 2 rfl (by decide) hi hL5 hL) dL_law_429 ?_
  refine lw_callC F X fL_60 dL_law_430 hC rfl ⟨Nat.le_of_ble_eq_true rfl, Nat.le_of_ble_eq_true rfl⟩ hl.1 rfl (by decide) hcs (fun v c1 H1 locs1 hq1 X => ?_)
  refine lv_aload_n hx hb dL_law_433 rfl (lv_at hl 2 rfl) ?_
  refine lv_aload_n hx hb dL_law_434 rfl (lv_at hl 0 rfl) ?_
  refine lv_iload_n hx hb dL_law_435 rfl (lv_at hl 3 rfl) ?_
  refine lv_iconst (v := 1) hx hb dL_law_436 (by decide) ?_
  refine lv_iadd hx hb dL_law_437 ?_
  refine va_sld hx hb hX hbl hbA X.2.2.2.2 (lw_in 1 rfl (by decide) hi hL5 hL) dL_law_438 ?_
  refine lv_aload_n hx hb dL_law_439 rfl (lv_at hl 0 rfl) ?_
  refine lv_iload_n hx hb dL_law_440 rfl (lv_at hl 3 rfl) ?_
  refine lv_iconst (v := 2) hx hb dL_law_441 (by decide) ?_
  refine lv_iadd hx hb dL_law_442 ?_
  refine va_sld hx hb hX hbl hbA X.2.2.2.2 (lw_in 2 rfl (by decide) hi hL5 hL) dL_law_443 ?_
  refine lw_callM F X fL_63 dL_law_444 hM rfl ⟨Nat.le_of_ble_eq_true rfl, Nat.le_of_ble_eq_true rfl⟩ hl.1 rfl (lw_cat v aC) hcs (fun w m1 H1 locs1 hq2 X => ?_)
  obtain ⟨⟨e1, z, e2⟩, hI⟩ := hq v c1 w m1 hq1 hq2
  subst e1
  subst e2
  refine W.eq (g2 := F0 mt 447 ls [.int z, .int z]) rfl ?_
  exact lv_icmp_eq (tgt := 944) hx hb dL_law_447 (by decide) (fun _ => kk c1 m1 H1 locs1 hI X) (fun h => absurd rfl h)
theorem fL_64 : j_V R_law 64 mX3_words 3 2 := ⟨⟨Or.inl (big_t 430 (by decide +kernel) (by decide +kernel)), big_t 1 (by decide +kernel) (by decide +kernel), big_t 433 (by decide +kernel) (by decide +kernel), by decide +kernel, by decide +kernel, by decide +kernel⟩, big_t 431 (by decide +kernel) (by decide +kernel), big_t 432 (by decide +kernel) (by decide +kernel), TX3, 11, rfl⟩
theorem fL_67 : j_V R_law 67 mX4_words 4 2 := ⟨⟨Or.inl (big_t 829 (by decide +kernel) (by decide +kernel)), big_t 6 (by decide +kernel) (by decide +kernel), big_t 832 (by decide +kernel) (by decide +kernel), by decide +kernel, by decide +kernel, by decide +kernel⟩, big_t 830 (by decide +kernel) (by decide +kernel), big_t 831 (by decide +kernel) (by decide +kernel), TX4, 24, rfl⟩
set_option maxRecDepth 100000 in
set_option maxHeartbeats 4000000 in
theorem lw_case12 {x3 : Int32} {i : Nat} {N : Int} (F : LF p s mt meth cd b L xs D cI cZ aC aM) (X : LW s D cI cZ aC aM H locs c m) (h : Inv N c m) (hN : 150 ≤ N ∧ N < 100000) (hi : x3.toInt = (i : Int)) (hL5 : i + 5 ≤ L) (hL : L ≤ 320) (hl : lv_has ls 4 [(0, .ref b), (1, .ref (aC 0)), (2, .ref (aM 0)), (3, .int x3)]) (hcs : cells ≤ room_1.cells ∧ slots ≤ room_1.slots)
    (kk : ∀ (c1 m1 : JM) (H1 : Heap) (locs1 : List Loc), Inv (N + 1) c1 m1 → LW s D cI cZ aC aM H1 locs1 c1 m1 → W p l e room_1 s mt #[Value.ref b] below meth cd H1 locs1 cells slots Z (F0 mt 944 ls [])) : W p l e room_1 s mt #[Value.ref b] below meth cd H locs cells slots Z (F0 mt 452 ls []) := by
  obtain ⟨hx, hb, hr0, hml, hown, hts, hX, hbl, hlocks, hgv⟩ := F.1
  have hbA : ¬ lw_A s b := Nat.not_le.mpr hbl
  obtain ⟨QC, QM, hC, hM, hq⟩ := pr_words (G := ((l, D, cI, cZ, aC), (l, D, cI, cZ, aM))) h hN (a := xs (x3 + 1).toNatClampNeg) (b := xs (x3 + 2).toNatClampNeg)
  refine lv_aload_n hx hb dL_law_452 rfl (lv_at hl 1 rfl) ?_
  refine lv_aload_n hx hb dL_law_453 rfl (lv_at hl 0 rfl) ?_
  refine lv_iload_n hx hb dL_law_454 rfl (lv_at hl 3 rfl) ?_
  refine lv_iconst (v := 1) hx hb dL_law_455 (by decide) ?_
  refine lv_iadd hx hb dL_law_456 ?_
  refine va_sld hx hb hX hbl hbA X.2.2.2.2 (lw_in 1 rfl (by decide) hi hL5 hL) dL_law_457 ?_
  refine lv_aload_n hx hb dL_law_458 rfl (lv_at hl 0 rfl) ?_
  refine lv_iload_n hx hb dL_law_459 rfl (lv_at hl 3 rfl) ?_
  refine lv_iconst (v := 2) hx hb dL_law_460 (by decide) ?_
  refine lv_iadd hx hb dL_law_461 ?_
  refine va_sld hx hb hX hbl hbA X.2.2.2.2 (lw_in 2 rfl (by decide) hi hL5 hL) dL_law_462 ?_
  refine lw_callC F X fL_64 dL_law_463 hC rfl ⟨Nat.le_of_ble_eq_true rfl, Nat.le_of_ble_eq_true rfl⟩ hl.1 rfl (by decide) hcs (fun v c1 H1 locs1 hq1 X => ?_)
  refine lv_aload_n hx hb dL_law_466 rfl (lv_at hl 2 rfl) ?_
  refine lv_aload_n hx hb dL_law_467 rfl (lv_at hl 0 rfl) ?_
  refine lv_iload_n hx hb dL_law_468 rfl (lv_at hl 3 rfl) ?_
  refine lv_iconst (v := 1) hx hb dL_law_469 (by decide) ?_
  refine lv_iadd hx hb dL_law_470 ?_
  refine va_sld hx hb hX hbl hbA X.2.2.2.2 (lw_in 1 rfl (by decide) hi hL5 hL) dL_law_471 ?_
  refine lv_aload_n hx hb dL_law_472 rfl (lv_at hl 0 rfl) ?_
  refine lv_iload_n hx hb dL_law_473 rfl (lv_at hl 3 rfl) ?_
  refine lv_iconst (v := 2) hx hb dL_law_474 (by decide) ?_
  refine lv_iadd hx hb dL_law_475 ?_
  refine va_sld hx hb hX hbl hbA X.2.2.2.2 (lw_in 2 rfl (by decide) hi hL5 hL) dL_law_476 ?_
  refine lw_callM F X fL_67 dL_law_477 hM rfl ⟨Nat.le_of_ble_eq_true rfl, Nat.le_of_ble_eq_true rfl⟩ hl.1 rfl (lw_cat v aC) hcs (fun w m1 H1 locs1 hq2 X => ?_)
  obtain ⟨⟨e1, z, e2⟩, hI⟩ := hq v c1 w m1 hq1 hq2
  subst e1
  subst e2
  refine W.eq (g2 := F0 mt 480 ls [.int z, .int z]) rfl ?_
  exact lv_icmp_eq (tgt := 944) hx hb dL_law_480 (by decide) (fun _ => kk c1 m1 H1 locs1 hI X) (fun h => absurd rfl h)
theorem fL_68 : j_V R_law 68 mX3_fewest 3 1 := ⟨⟨Or.inl (big_t 445 (by decide +kernel) (by decide +kernel)), big_t 1 (by decide +kernel) (by decide +kernel), big_t 448 (by decide +kernel) (by decide +kernel), by decide +kernel, by decide +kernel, by decide +kernel⟩, big_t 446 (by decide +kernel) (by decide +kernel), big_t 447 (by decide +kernel) (by decide +kernel), TX3, 11, rfl⟩
theorem fL_71 : j_V R_law 71 mX4_fewest 4 1 := ⟨⟨Or.inl (big_t 838 (by decide +kernel) (by decide +kernel)), big_t 6 (by decide +kernel) (by decide +kernel), big_t 841 (by decide +kernel) (by decide +kernel), by decide +kernel, by decide +kernel, by decide +kernel⟩, big_t 839 (by decide +kernel) (by decide +kernel), big_t 840 (by decide +kernel) (by decide +kernel), TX4, 24, rfl⟩
set_option maxRecDepth 100000 in
set_option maxHeartbeats 4000000 in
theorem lw_case13 {x3 : Int32} {i : Nat} {N : Int} (F : LF p s mt meth cd b L xs D cI cZ aC aM) (X : LW s D cI cZ aC aM H locs c m) (h : Inv N c m) (hN : 150 ≤ N ∧ N < 100000) (hi : x3.toInt = (i : Int)) (hL5 : i + 5 ≤ L) (hL : L ≤ 320) (hl : lv_has ls 4 [(0, .ref b), (1, .ref (aC 0)), (2, .ref (aM 0)), (3, .int x3)]) (hcs : cells ≤ room_1.cells ∧ slots ≤ room_1.slots)
    (kk : ∀ (c1 m1 : JM) (H1 : Heap) (locs1 : List Loc), Inv (N + 1) c1 m1 → LW s D cI cZ aC aM H1 locs1 c1 m1 → W p l e room_1 s mt #[Value.ref b] below meth cd H1 locs1 cells slots Z (F0 mt 944 ls [])) : W p l e room_1 s mt #[Value.ref b] below meth cd H locs cells slots Z (F0 mt 485 ls []) := by
  obtain ⟨hx, hb, hr0, hml, hown, hts, hX, hbl, hlocks, hgv⟩ := F.1
  have hbA : ¬ lw_A s b := Nat.not_le.mpr hbl
  obtain ⟨QC, QM, hC, hM, hq⟩ := pr_fewest (G := ((l, D, cI, cZ, aC), (l, D, cI, cZ, aM))) h hN (a := xs (x3 + 1).toNatClampNeg)
  refine lv_aload_n hx hb dL_law_485 rfl (lv_at hl 1 rfl) ?_
  refine lv_aload_n hx hb dL_law_486 rfl (lv_at hl 0 rfl) ?_
  refine lv_iload_n hx hb dL_law_487 rfl (lv_at hl 3 rfl) ?_
  refine lv_iconst (v := 1) hx hb dL_law_488 (by decide) ?_
  refine lv_iadd hx hb dL_law_489 ?_
  refine va_sld hx hb hX hbl hbA X.2.2.2.2 (lw_in 1 rfl (by decide) hi hL5 hL) dL_law_490 ?_
  refine lw_callC F X fL_68 dL_law_491 hC rfl ⟨Nat.le_of_ble_eq_true rfl, Nat.le_of_ble_eq_true rfl⟩ hl.1 rfl (by decide) hcs (fun v c1 H1 locs1 hq1 X => ?_)
  refine lv_aload_n hx hb dL_law_494 rfl (lv_at hl 2 rfl) ?_
  refine lv_aload_n hx hb dL_law_495 rfl (lv_at hl 0 rfl) ?_
  refine lv_iload_n hx hb dL_law_496 rfl (lv_at hl 3 rfl) ?_
  refine lv_iconst (v := 1) hx hb dL_law_497 (by decide) ?_
  refine lv_iadd hx hb dL_law_498 ?_
  refine va_sld hx hb hX hbl hbA X.2.2.2.2 (lw_in 1 rfl (by decide) hi hL5 hL) dL_law_499 ?_
  refine lw_callM F X fL_71 dL_law_500 hM rfl ⟨Nat.le_of_ble_eq_true rfl, Nat.le_of_ble_eq_true rfl⟩ hl.1 rfl (lw_cat v aC) hcs (fun w m1 H1 locs1 hq2 X => ?_)
  obtain ⟨⟨e1, z, e2⟩, hI⟩ := hq v c1 w m1 hq1 hq2
  subst e1
  subst e2
  refine W.eq (g2 := F0 mt 503 ls [.int z, .int z]) rfl ?_
  exact lv_icmp_eq (tgt := 944) hx hb dL_law_503 (by decide) (fun _ => kk c1 m1 H1 locs1 hI X) (fun h => absurd rfl h)
theorem fL_72 : j_V R_law 72 mX3_delay 3 2 := ⟨⟨Or.inl (big_t 476 (by decide +kernel) (by decide +kernel)), big_t 1 (by decide +kernel) (by decide +kernel), big_t 479 (by decide +kernel) (by decide +kernel), by decide +kernel, by decide +kernel, by decide +kernel⟩, big_t 477 (by decide +kernel) (by decide +kernel), big_t 478 (by decide +kernel) (by decide +kernel), TX3, 11, rfl⟩
theorem fL_75 : j_V R_law 75 mX4_delay 4 2 := ⟨⟨Or.inl (big_t 857 (by decide +kernel) (by decide +kernel)), big_t 6 (by decide +kernel) (by decide +kernel), big_t 860 (by decide +kernel) (by decide +kernel), by decide +kernel, by decide +kernel, by decide +kernel⟩, big_t 858 (by decide +kernel) (by decide +kernel), big_t 859 (by decide +kernel) (by decide +kernel), TX4, 24, rfl⟩
set_option maxRecDepth 100000 in
set_option maxHeartbeats 4000000 in
theorem lw_case14 {x3 : Int32} {i : Nat} {N : Int} (F : LF p s mt meth cd b L xs D cI cZ aC aM) (X : LW s D cI cZ aC aM H locs c m) (h : Inv N c m) (hN : 150 ≤ N ∧ N < 100000) (hi : x3.toInt = (i : Int)) (hL5 : i + 5 ≤ L) (hL : L ≤ 320) (hl : lv_has ls 4 [(0, .ref b), (1, .ref (aC 0)), (2, .ref (aM 0)), (3, .int x3)]) (hcs : cells ≤ room_1.cells ∧ slots ≤ room_1.slots)
    (kk : ∀ (c1 m1 : JM) (H1 : Heap) (locs1 : List Loc), Inv (N + 1) c1 m1 → LW s D cI cZ aC aM H1 locs1 c1 m1 → W p l e room_1 s mt #[Value.ref b] below meth cd H1 locs1 cells slots Z (F0 mt 944 ls [])) : W p l e room_1 s mt #[Value.ref b] below meth cd H locs cells slots Z (F0 mt 508 ls []) := by
  obtain ⟨hx, hb, hr0, hml, hown, hts, hX, hbl, hlocks, hgv⟩ := F.1
  have hbA : ¬ lw_A s b := Nat.not_le.mpr hbl
  obtain ⟨QC, QM, hC, hM, hq⟩ := pr_delay (G := ((l, D, cI, cZ, aC), (l, D, cI, cZ, aM))) h hN (a := xs (x3 + 1).toNatClampNeg) (b := xs (x3 + 2).toNatClampNeg)
  refine lv_aload_n hx hb dL_law_508 rfl (lv_at hl 1 rfl) ?_
  refine lv_aload_n hx hb dL_law_509 rfl (lv_at hl 0 rfl) ?_
  refine lv_iload_n hx hb dL_law_510 rfl (lv_at hl 3 rfl) ?_
  refine lv_iconst (v := 1) hx hb dL_law_511 (by decide) ?_
  refine lv_iadd hx hb dL_law_512 ?_
  refine va_sld hx hb hX hbl hbA X.2.2.2.2 (lw_in 1 rfl (by decide) hi hL5 hL) dL_law_513 ?_
  refine lv_aload_n hx hb dL_law_514 rfl (lv_at hl 0 rfl) ?_
  refine lv_iload_n hx hb dL_law_515 rfl (lv_at hl 3 rfl) ?_
  refine lv_iconst (v := 2) hx hb dL_law_516 (by decide) ?_
  refine lv_iadd hx hb dL_law_517 ?_
  refine va_sld hx hb hX hbl hbA X.2.2.2.2 (lw_in 2 rfl (by decide) hi hL5 hL) dL_law_518 ?_
  refine lw_callC F X fL_72 dL_law_519 hC rfl ⟨Nat.le_of_ble_eq_true rfl, Nat.le_of_ble_eq_true rfl⟩ hl.1 rfl (by decide) hcs (fun v c1 H1 locs1 hq1 X => ?_)
  refine lv_aload_n hx hb dL_law_522 rfl (lv_at hl 2 rfl) ?_
  refine lv_aload_n hx hb dL_law_523 rfl (lv_at hl 0 rfl) ?_
  refine lv_iload_n hx hb dL_law_524 rfl (lv_at hl 3 rfl) ?_
  refine lv_iconst (v := 1) hx hb dL_law_525 (by decide) ?_
  refine lv_iadd hx hb dL_law_526 ?_
  refine va_sld hx hb hX hbl hbA X.2.2.2.2 (lw_in 1 rfl (by decide) hi hL5 hL) dL_law_527 ?_
  refine lv_aload_n hx hb dL_law_528 rfl (lv_at hl 0 rfl) ?_
  refine lv_iload_n hx hb dL_law_529 rfl (lv_at hl 3 rfl) ?_
  refine lv_iconst (v := 2) hx hb dL_law_530 (by decide) ?_
  refine lv_iadd hx hb dL_law_531 ?_
  refine va_sld hx hb hX hbl hbA X.2.2.2.2 (lw_in 2 rfl (by decide) hi hL5 hL) dL_law_532 ?_
  refine lw_callM F X fL_75 dL_law_533 hM rfl ⟨Nat.le_of_ble_eq_true rfl, Nat.le_of_ble_eq_true rfl⟩ hl.1 rfl (lw_cat v aC) hcs (fun w m1 H1 locs1 hq2 X => ?_)
  obtain ⟨⟨e1, z, e2⟩, hI⟩ := hq v c1 w m1 hq1 hq2
  subst e1
  subst e2
  refine W.eq (g2 := F0 mt 536 ls [.int z, .int z]) rfl ?_
  exact lv_icmp_eq (tgt := 944) hx hb dL_law_536 (by decide) (fun _ => kk c1 m1 H1 locs1 hI X) (fun h => absurd rfl h)
theorem fL_76 : j_V R_law 76 mX3_strikes 3 1 := ⟨⟨Or.inl (big_t 484 (by decide +kernel) (by decide +kernel)), big_t 1 (by decide +kernel) (by decide +kernel), big_t 487 (by decide +kernel) (by decide +kernel), by decide +kernel, by decide +kernel, by decide +kernel⟩, big_t 485 (by decide +kernel) (by decide +kernel), big_t 486 (by decide +kernel) (by decide +kernel), TX3, 11, rfl⟩
theorem fL_79 : j_V R_law 79 mX4_strikes 4 1 := ⟨⟨Or.inl (big_t 880 (by decide +kernel) (by decide +kernel)), big_t 6 (by decide +kernel) (by decide +kernel), big_t 883 (by decide +kernel) (by decide +kernel), by decide +kernel, by decide +kernel, by decide +kernel⟩, big_t 881 (by decide +kernel) (by decide +kernel), big_t 882 (by decide +kernel) (by decide +kernel), TX4, 24, rfl⟩
set_option maxRecDepth 100000 in
set_option maxHeartbeats 4000000 in
theorem lw_case15 {x3 : Int32} {i : Nat} {N : Int} (F : LF p s mt meth cd b L xs D cI cZ aC aM) (X : LW s D cI cZ aC aM H locs c m) (h : Inv N c m) (hN : 150 ≤ N ∧ N < 100000) (hi : x3.toInt = (i : Int)) (hL5 : i + 5 ≤ L) (hL : L ≤ 320) (hl : lv_has ls 4 [(0, .ref b), (1, .ref (aC 0)), (2, .ref (aM 0)), (3, .int x3)]) (hcs : cells ≤ room_1.cells ∧ slots ≤ room_1.slots)
    (kk : ∀ (c1 m1 : JM) (H1 : Heap) (locs1 : List Loc), Inv (N + 1) c1 m1 → LW s D cI cZ aC aM H1 locs1 c1 m1 → W p l e room_1 s mt #[Value.ref b] below meth cd H1 locs1 cells slots Z (F0 mt 944 ls [])) : W p l e room_1 s mt #[Value.ref b] below meth cd H locs cells slots Z (F0 mt 541 ls []) := by
  obtain ⟨hx, hb, hr0, hml, hown, hts, hX, hbl, hlocks, hgv⟩ := F.1
  have hbA : ¬ lw_A s b := Nat.not_le.mpr hbl
  obtain ⟨QC, QM, hC, hM, hq⟩ := pr_strikes (G := ((l, D, cI, cZ, aC), (l, D, cI, cZ, aM))) h hN (a := xs (x3 + 1).toNatClampNeg)
  refine lv_aload_n hx hb dL_law_541 rfl (lv_at hl 1 rfl) ?_
  refine lv_aload_n hx hb dL_law_542 rfl (lv_at hl 0 rfl) ?_
  refine lv_iload_n hx hb dL_law_543 rfl (lv_at hl 3 rfl) ?_
  refine lv_iconst (v := 1) hx hb dL_law_544 (by decide) ?_
  refine lv_iadd hx hb dL_law_545 ?_
  refine va_sld hx hb hX hbl hbA X.2.2.2.2 (lw_in 1 rfl (by decide) hi hL5 hL) dL_law_546 ?_
  refine lw_callC F X fL_76 dL_law_547 hC rfl ⟨Nat.le_of_ble_eq_true rfl, Nat.le_of_ble_eq_true rfl⟩ hl.1 rfl (by decide) hcs (fun v c1 H1 locs1 hq1 X => ?_)
  refine lv_aload_n hx hb dL_law_550 rfl (lv_at hl 2 rfl) ?_
  refine lv_aload_n hx hb dL_law_551 rfl (lv_at hl 0 rfl) ?_
  refine lv_iload_n hx hb dL_law_552 rfl (lv_at hl 3 rfl) ?_
  refine lv_iconst (v := 1) hx hb dL_law_553 (by decide) ?_
  refine lv_iadd hx hb dL_law_554 ?_
  refine va_sld hx hb hX hbl hbA X.2.2.2.2 (lw_in 1 rfl (by decide) hi hL5 hL) dL_law_555 ?_
  refine lw_callM F X fL_79 dL_law_556 hM rfl ⟨Nat.le_of_ble_eq_true rfl, Nat.le_of_ble_eq_true rfl⟩ hl.1 rfl (lw_cat v aC) hcs (fun w m1 H1 locs1 hq2 X => ?_)
  obtain ⟨⟨e1, z, e2⟩, hI⟩ := hq v c1 w m1 hq1 hq2
  subst e1
  subst e2
  refine W.eq (g2 := F0 mt 559 ls [.int z, .int z]) rfl ?_
  exact lv_icmp_eq (tgt := 944) hx hb dL_law_559 (by decide) (fun _ => kk c1 m1 H1 locs1 hI X) (fun h => absurd rfl h)
theorem fL_80 : j_V R_law 80 mX3_since 3 1 := ⟨⟨Or.inl (big_t 488 (by decide +kernel) (by decide +kernel)), big_t 1 (by decide +kernel) (by decide +kernel), big_t 491 (by decide +kernel) (by decide +kernel), by decide +kernel, by decide +kernel, by decide +kernel⟩, big_t 489 (by decide +kernel) (by decide +kernel), big_t 490 (by decide +kernel) (by decide +kernel), TX3, 11, rfl⟩
theorem fL_83 : j_V R_law 83 mX4_since 4 1 := ⟨⟨Or.inl (big_t 884 (by decide +kernel) (by decide +kernel)), big_t 6 (by decide +kernel) (by decide +kernel), big_t 887 (by decide +kernel) (by decide +kernel), by decide +kernel, by decide +kernel, by decide +kernel⟩, big_t 885 (by decide +kernel) (by decide +kernel), big_t 886 (by decide +kernel) (by decide +kernel), TX4, 24, rfl⟩
set_option maxRecDepth 100000 in
set_option maxHeartbeats 4000000 in
theorem lw_case16 {x3 : Int32} {i : Nat} {N : Int} (F : LF p s mt meth cd b L xs D cI cZ aC aM) (X : LW s D cI cZ aC aM H locs c m) (h : Inv N c m) (hN : 150 ≤ N ∧ N < 100000) (hi : x3.toInt = (i : Int)) (hL5 : i + 5 ≤ L) (hL : L ≤ 320) (hl : lv_has ls 4 [(0, .ref b), (1, .ref (aC 0)), (2, .ref (aM 0)), (3, .int x3)]) (hcs : cells ≤ room_1.cells ∧ slots ≤ room_1.slots)
    (kk : ∀ (c1 m1 : JM) (H1 : Heap) (locs1 : List Loc), Inv (N + 1) c1 m1 → LW s D cI cZ aC aM H1 locs1 c1 m1 → W p l e room_1 s mt #[Value.ref b] below meth cd H1 locs1 cells slots Z (F0 mt 944 ls [])) : W p l e room_1 s mt #[Value.ref b] below meth cd H locs cells slots Z (F0 mt 564 ls []) := by
  obtain ⟨hx, hb, hr0, hml, hown, hts, hX, hbl, hlocks, hgv⟩ := F.1
  have hbA : ¬ lw_A s b := Nat.not_le.mpr hbl
  obtain ⟨QC, QM, hC, hM, hq⟩ := pr_since (G := ((l, D, cI, cZ, aC), (l, D, cI, cZ, aM))) h hN (a := xs (x3 + 1).toNatClampNeg)
  refine lv_aload_n hx hb dL_law_564 rfl (lv_at hl 1 rfl) ?_
  refine lv_aload_n hx hb dL_law_565 rfl (lv_at hl 0 rfl) ?_
  refine lv_iload_n hx hb dL_law_566 rfl (lv_at hl 3 rfl) ?_
  refine lv_iconst (v := 1) hx hb dL_law_567 (by decide) ?_
  refine lv_iadd hx hb dL_law_568 ?_
  refine va_sld hx hb hX hbl hbA X.2.2.2.2 (lw_in 1 rfl (by decide) hi hL5 hL) dL_law_569 ?_
  refine lw_callC F X fL_80 dL_law_570 hC rfl ⟨Nat.le_of_ble_eq_true rfl, Nat.le_of_ble_eq_true rfl⟩ hl.1 rfl (by decide) hcs (fun v c1 H1 locs1 hq1 X => ?_)
  refine lv_aload_n hx hb dL_law_573 rfl (lv_at hl 2 rfl) ?_
  refine lv_aload_n hx hb dL_law_574 rfl (lv_at hl 0 rfl) ?_
  refine lv_iload_n hx hb dL_law_575 rfl (lv_at hl 3 rfl) ?_
  refine lv_iconst (v := 1) hx hb dL_law_576 (by decide) ?_
  refine lv_iadd hx hb dL_law_577 ?_
  refine va_sld hx hb hX hbl hbA X.2.2.2.2 (lw_in 1 rfl (by decide) hi hL5 hL) dL_law_578 ?_
  refine lw_callM F X fL_83 dL_law_579 hM rfl ⟨Nat.le_of_ble_eq_true rfl, Nat.le_of_ble_eq_true rfl⟩ hl.1 rfl (lw_cat v aC) hcs (fun w m1 H1 locs1 hq2 X => ?_)
  obtain ⟨⟨e1, z, e2⟩, hI⟩ := hq v c1 w m1 hq1 hq2
  subst e1
  subst e2
  refine W.eq (g2 := F0 mt 582 ls [.int z, .int z]) rfl ?_
  exact lv_icmp_eq (tgt := 944) hx hb dL_law_582 (by decide) (fun _ => kk c1 m1 H1 locs1 hI X) (fun h => absurd rfl h)
theorem fL_84 : j_V R_law 84 mX3_cast 3 1 := ⟨⟨Or.inl (big_t 492 (by decide +kernel) (by decide +kernel)), big_t 1 (by decide +kernel) (by decide +kernel), big_t 495 (by decide +kernel) (by decide +kernel), by decide +kernel, by decide +kernel, by decide +kernel⟩, big_t 493 (by decide +kernel) (by decide +kernel), big_t 494 (by decide +kernel) (by decide +kernel), TX3, 11, rfl⟩
theorem fL_87 : j_V R_law 87 mX4_cast 4 1 := ⟨⟨Or.inl (big_t 888 (by decide +kernel) (by decide +kernel)), big_t 6 (by decide +kernel) (by decide +kernel), big_t 891 (by decide +kernel) (by decide +kernel), by decide +kernel, by decide +kernel, by decide +kernel⟩, big_t 889 (by decide +kernel) (by decide +kernel), big_t 890 (by decide +kernel) (by decide +kernel), TX4, 24, rfl⟩
set_option maxRecDepth 100000 in
set_option maxHeartbeats 4000000 in
theorem lw_case17 {x3 : Int32} {i : Nat} {N : Int} (F : LF p s mt meth cd b L xs D cI cZ aC aM) (X : LW s D cI cZ aC aM H locs c m) (h : Inv N c m) (hN : 150 ≤ N ∧ N < 100000) (hi : x3.toInt = (i : Int)) (hL5 : i + 5 ≤ L) (hL : L ≤ 320) (hl : lv_has ls 4 [(0, .ref b), (1, .ref (aC 0)), (2, .ref (aM 0)), (3, .int x3)]) (hcs : cells ≤ room_1.cells ∧ slots ≤ room_1.slots)
    (kk : ∀ (c1 m1 : JM) (H1 : Heap) (locs1 : List Loc), Inv (N + 1) c1 m1 → LW s D cI cZ aC aM H1 locs1 c1 m1 → W p l e room_1 s mt #[Value.ref b] below meth cd H1 locs1 cells slots Z (F0 mt 944 ls [])) : W p l e room_1 s mt #[Value.ref b] below meth cd H locs cells slots Z (F0 mt 587 ls []) := by
  obtain ⟨hx, hb, hr0, hml, hown, hts, hX, hbl, hlocks, hgv⟩ := F.1
  have hbA : ¬ lw_A s b := Nat.not_le.mpr hbl
  obtain ⟨QC, QM, hC, hM, hq⟩ := pr_cast (G := ((l, D, cI, cZ, aC), (l, D, cI, cZ, aM))) h hN (a := xs (x3 + 1).toNatClampNeg)
  refine lv_aload_n hx hb dL_law_587 rfl (lv_at hl 1 rfl) ?_
  refine lv_aload_n hx hb dL_law_588 rfl (lv_at hl 0 rfl) ?_
  refine lv_iload_n hx hb dL_law_589 rfl (lv_at hl 3 rfl) ?_
  refine lv_iconst (v := 1) hx hb dL_law_590 (by decide) ?_
  refine lv_iadd hx hb dL_law_591 ?_
  refine va_sld hx hb hX hbl hbA X.2.2.2.2 (lw_in 1 rfl (by decide) hi hL5 hL) dL_law_592 ?_
  refine lw_callC F X fL_84 dL_law_593 hC rfl ⟨Nat.le_of_ble_eq_true rfl, Nat.le_of_ble_eq_true rfl⟩ hl.1 rfl (by decide) hcs (fun v c1 H1 locs1 hq1 X => ?_)
  refine lv_aload_n hx hb dL_law_596 rfl (lv_at hl 2 rfl) ?_
  refine lv_aload_n hx hb dL_law_597 rfl (lv_at hl 0 rfl) ?_
  refine lv_iload_n hx hb dL_law_598 rfl (lv_at hl 3 rfl) ?_
  refine lv_iconst (v := 1) hx hb dL_law_599 (by decide) ?_
  refine lv_iadd hx hb dL_law_600 ?_
  refine va_sld hx hb hX hbl hbA X.2.2.2.2 (lw_in 1 rfl (by decide) hi hL5 hL) dL_law_601 ?_
  refine lw_callM F X fL_87 dL_law_602 hM rfl ⟨Nat.le_of_ble_eq_true rfl, Nat.le_of_ble_eq_true rfl⟩ hl.1 rfl (lw_cat v aC) hcs (fun w m1 H1 locs1 hq2 X => ?_)
  obtain ⟨⟨e1, z, e2⟩, hI⟩ := hq v c1 w m1 hq1 hq2
  subst e1
  subst e2
  refine W.eq (g2 := F0 mt 605 ls [.int z, .int z]) rfl ?_
  exact lv_icmp_eq (tgt := 944) hx hb dL_law_605 (by decide) (fun _ => kk c1 m1 H1 locs1 hI X) (fun h => absurd rfl h)
theorem fL_88 : j_V R_law 88 mX3_reward 3 1 := ⟨⟨Or.inl (big_t 496 (by decide +kernel) (by decide +kernel)), big_t 1 (by decide +kernel) (by decide +kernel), big_t 499 (by decide +kernel) (by decide +kernel), by decide +kernel, by decide +kernel, by decide +kernel⟩, big_t 497 (by decide +kernel) (by decide +kernel), big_t 498 (by decide +kernel) (by decide +kernel), TX3, 11, rfl⟩
theorem fL_91 : j_V R_law 91 mX4_reward 4 1 := ⟨⟨Or.inl (big_t 892 (by decide +kernel) (by decide +kernel)), big_t 6 (by decide +kernel) (by decide +kernel), big_t 895 (by decide +kernel) (by decide +kernel), by decide +kernel, by decide +kernel, by decide +kernel⟩, big_t 893 (by decide +kernel) (by decide +kernel), big_t 894 (by decide +kernel) (by decide +kernel), TX4, 24, rfl⟩
set_option maxRecDepth 100000 in
set_option maxHeartbeats 4000000 in
theorem lw_case18 {x3 : Int32} {i : Nat} {N : Int} (F : LF p s mt meth cd b L xs D cI cZ aC aM) (X : LW s D cI cZ aC aM H locs c m) (h : Inv N c m) (hN : 150 ≤ N ∧ N < 100000) (hi : x3.toInt = (i : Int)) (hL5 : i + 5 ≤ L) (hL : L ≤ 320) (hl : lv_has ls 4 [(0, .ref b), (1, .ref (aC 0)), (2, .ref (aM 0)), (3, .int x3)]) (hcs : cells ≤ room_1.cells ∧ slots ≤ room_1.slots)
    (kk : ∀ (c1 m1 : JM) (H1 : Heap) (locs1 : List Loc), Inv (N + 1) c1 m1 → LW s D cI cZ aC aM H1 locs1 c1 m1 → W p l e room_1 s mt #[Value.ref b] below meth cd H1 locs1 cells slots Z (F0 mt 944 ls [])) : W p l e room_1 s mt #[Value.ref b] below meth cd H locs cells slots Z (F0 mt 610 ls []) := by
  obtain ⟨hx, hb, hr0, hml, hown, hts, hX, hbl, hlocks, hgv⟩ := F.1
  have hbA : ¬ lw_A s b := Nat.not_le.mpr hbl
  obtain ⟨QC, QM, hC, hM, hq⟩ := pr_reward (G := ((l, D, cI, cZ, aC), (l, D, cI, cZ, aM))) h hN (a := xs (x3 + 1).toNatClampNeg)
  refine lv_aload_n hx hb dL_law_610 rfl (lv_at hl 1 rfl) ?_
  refine lv_aload_n hx hb dL_law_611 rfl (lv_at hl 0 rfl) ?_
  refine lv_iload_n hx hb dL_law_612 rfl (lv_at hl 3 rfl) ?_
  refine lv_iconst (v := 1) hx hb dL_law_613 (by decide) ?_
  refine lv_iadd hx hb dL_law_614 ?_
  refine va_sld hx hb hX hbl hbA X.2.2.2.2 (lw_in 1 rfl (by decide) hi hL5 hL) dL_law_615 ?_
  refine lw_callC F X fL_88 dL_law_616 hC rfl ⟨Nat.le_of_ble_eq_true rfl, Nat.le_of_ble_eq_true rfl⟩ hl.1 rfl (by decide) hcs (fun v c1 H1 locs1 hq1 X => ?_)
  refine lv_aload_n hx hb dL_law_619 rfl (lv_at hl 2 rfl) ?_
  refine lv_aload_n hx hb dL_law_620 rfl (lv_at hl 0 rfl) ?_
  refine lv_iload_n hx hb dL_law_621 rfl (lv_at hl 3 rfl) ?_
  refine lv_iconst (v := 1) hx hb dL_law_622 (by decide) ?_
  refine lv_iadd hx hb dL_law_623 ?_
  refine va_sld hx hb hX hbl hbA X.2.2.2.2 (lw_in 1 rfl (by decide) hi hL5 hL) dL_law_624 ?_
  refine lw_callM F X fL_91 dL_law_625 hM rfl ⟨Nat.le_of_ble_eq_true rfl, Nat.le_of_ble_eq_true rfl⟩ hl.1 rfl (lw_cat v aC) hcs (fun w m1 H1 locs1 hq2 X => ?_)
  obtain ⟨⟨e1, z, e2⟩, hI⟩ := hq v c1 w m1 hq1 hq2
  subst e1
  subst e2
  refine W.eq (g2 := F0 mt 628 ls [.int z, .int z]) rfl ?_
  exact lv_icmp_eq (tgt := 944) hx hb dL_law_628 (by decide) (fun _ => kk c1 m1 H1 locs1 hI X) (fun h => absurd rfl h)
theorem fL_92 : j_V R_law 92 mX3_note 3 4 := ⟨⟨Or.inl (big_t 510 (by decide +kernel) (by decide +kernel)), big_t 1 (by decide +kernel) (by decide +kernel), big_t 513 (by decide +kernel) (by decide +kernel), by decide +kernel, by decide +kernel, by decide +kernel⟩, big_t 511 (by decide +kernel) (by decide +kernel), big_t 512 (by decide +kernel) (by decide +kernel), TX3, 11, rfl⟩
theorem fL_96 : j_V R_law 96 mX4_note 4 4 := ⟨⟨Or.inl (big_t 903 (by decide +kernel) (by decide +kernel)), big_t 6 (by decide +kernel) (by decide +kernel), big_t 906 (by decide +kernel) (by decide +kernel), by decide +kernel, by decide +kernel, by decide +kernel⟩, big_t 904 (by decide +kernel) (by decide +kernel), big_t 905 (by decide +kernel) (by decide +kernel), TX4, 24, rfl⟩
set_option maxRecDepth 100000 in
set_option maxHeartbeats 4000000 in
theorem lw_case19 {x3 : Int32} {i : Nat} {N : Int} (F : LF p s mt meth cd b L xs D cI cZ aC aM) (X : LW s D cI cZ aC aM H locs c m) (h : Inv N c m) (hN : 150 ≤ N ∧ N < 100000) (hi : x3.toInt = (i : Int)) (hL5 : i + 5 ≤ L) (hL : L ≤ 320) (hl : lv_has ls 4 [(0, .ref b), (1, .ref (aC 0)), (2, .ref (aM 0)), (3, .int x3)]) (hcs : cells ≤ room_1.cells ∧ slots ≤ room_1.slots)
    (kk : ∀ (c1 m1 : JM) (H1 : Heap) (locs1 : List Loc), Inv (N + 1) c1 m1 → LW s D cI cZ aC aM H1 locs1 c1 m1 → W p l e room_1 s mt #[Value.ref b] below meth cd H1 locs1 cells slots Z (F0 mt 944 ls [])) : W p l e room_1 s mt #[Value.ref b] below meth cd H locs cells slots Z (F0 mt 633 ls []) := by
  obtain ⟨hx, hb, hr0, hml, hown, hts, hX, hbl, hlocks, hgv⟩ := F.1
  have hbA : ¬ lw_A s b := Nat.not_le.mpr hbl
  obtain ⟨QC, QM, hC, hM, hq⟩ := pr_note (G := ((l, D, cI, cZ, aC), (l, D, cI, cZ, aM))) h hN (a := xs (x3 + 1).toNatClampNeg) (b := xs (x3 + 2).toNatClampNeg) (x := xs (x3 + 3).toNatClampNeg) (y := xs (x3 + 4).toNatClampNeg)
  refine lv_aload_n hx hb dL_law_633 rfl (lv_at hl 1 rfl) ?_
  refine lv_aload_n hx hb dL_law_634 rfl (lv_at hl 0 rfl) ?_
  refine lv_iload_n hx hb dL_law_635 rfl (lv_at hl 3 rfl) ?_
  refine lv_iconst (v := 1) hx hb dL_law_636 (by decide) ?_
  refine lv_iadd hx hb dL_law_637 ?_
  refine va_sld hx hb hX hbl hbA X.2.2.2.2 (lw_in 1 rfl (by decide) hi hL5 hL) dL_law_638 ?_
  refine lv_aload_n hx hb dL_law_639 rfl (lv_at hl 0 rfl) ?_
  refine lv_iload_n hx hb dL_law_640 rfl (lv_at hl 3 rfl) ?_
  refine lv_iconst (v := 2) hx hb dL_law_641 (by decide) ?_
  refine lv_iadd hx hb dL_law_642 ?_
  refine va_sld hx hb hX hbl hbA X.2.2.2.2 (lw_in 2 rfl (by decide) hi hL5 hL) dL_law_643 ?_
  refine lv_aload_n hx hb dL_law_644 rfl (lv_at hl 0 rfl) ?_
  refine lv_iload_n hx hb dL_law_645 rfl (lv_at hl 3 rfl) ?_
  refine lv_iconst (v := 3) hx hb dL_law_646 (by decide) ?_
  refine lv_iadd hx hb dL_law_647 ?_
  refine va_sld hx hb hX hbl hbA X.2.2.2.2 (lw_in 3 rfl (by decide) hi hL5 hL) dL_law_648 ?_
  refine lv_aload_n hx hb dL_law_649 rfl (lv_at hl 0 rfl) ?_
  refine lv_iload_n hx hb dL_law_650 rfl (lv_at hl 3 rfl) ?_
  refine lv_iconst (v := 4) hx hb dL_law_651 (by decide) ?_
  refine lv_iadd hx hb dL_law_652 ?_
  refine va_sld hx hb hX hbl hbA X.2.2.2.2 (lw_in 4 rfl (by decide) hi hL5 hL) dL_law_653 ?_
  refine lw_callC F X fL_92 dL_law_654 hC rfl ⟨Nat.le_of_ble_eq_true rfl, Nat.le_of_ble_eq_true rfl⟩ hl.1 rfl (by decide) hcs (fun v c1 H1 locs1 hq1 X => ?_)
  refine lv_aload_n hx hb dL_law_657 rfl (lv_at hl 2 rfl) ?_
  refine lv_aload_n hx hb dL_law_658 rfl (lv_at hl 0 rfl) ?_
  refine lv_iload_n hx hb dL_law_659 rfl (lv_at hl 3 rfl) ?_
  refine lv_iconst (v := 1) hx hb dL_law_660 (by decide) ?_
  refine lv_iadd hx hb dL_law_661 ?_
  refine va_sld hx hb hX hbl hbA X.2.2.2.2 (lw_in 1 rfl (by decide) hi hL5 hL) dL_law_662 ?_
  refine lv_aload_n hx hb dL_law_663 rfl (lv_at hl 0 rfl) ?_
  refine lv_iload_n hx hb dL_law_664 rfl (lv_at hl 3 rfl) ?_
  refine lv_iconst (v := 2) hx hb dL_law_665 (by decide) ?_
  refine lv_iadd hx hb dL_law_666 ?_
  refine va_sld hx hb hX hbl hbA X.2.2.2.2 (lw_in 2 rfl (by decide) hi hL5 hL) dL_law_667 ?_
  refine lv_aload_n hx hb dL_law_668 rfl (lv_at hl 0 rfl) ?_
  refine lv_iload_n hx hb dL_law_669 rfl (lv_at hl 3 rfl) ?_
  refine lv_iconst (v := 3) hx hb dL_law_670 (by decide) ?_
  refine lv_iadd hx hb dL_law_671 ?_
  refine va_sld hx hb hX hbl hbA X.2.2.2.2 (lw_in 3 rfl (by decide) hi hL5 hL) dL_law_672 ?_
  refine lv_aload_n hx hb dL_law_673 rfl (lv_at hl 0 rfl) ?_
  refine lv_iload_n hx hb dL_law_674 rfl (lv_at hl 3 rfl) ?_
  refine lv_iconst (v := 4) hx hb dL_law_675 (by decide) ?_
  refine lv_iadd hx hb dL_law_676 ?_
  refine va_sld hx hb hX hbl hbA X.2.2.2.2 (lw_in 4 rfl (by decide) hi hL5 hL) dL_law_677 ?_
  refine lw_callM F X fL_96 dL_law_678 hM rfl ⟨Nat.le_of_ble_eq_true rfl, Nat.le_of_ble_eq_true rfl⟩ hl.1 rfl (lw_cat v aC) hcs (fun w m1 H1 locs1 hq2 X => ?_)
  obtain ⟨⟨e1, z, e2⟩, hI⟩ := hq v c1 w m1 hq1 hq2
  subst e1
  subst e2
  refine W.eq (g2 := F0 mt 681 ls [.int z, .int z]) rfl ?_
  exact lv_icmp_eq (tgt := 944) hx hb dL_law_681 (by decide) (fun _ => kk c1 m1 H1 locs1 hI X) (fun h => absurd rfl h)
theorem fL_97 : j_V R_law 97 mX3_forget 3 0 := ⟨⟨Or.inl (big_t 518 (by decide +kernel) (by decide +kernel)), big_t 1 (by decide +kernel) (by decide +kernel), big_t 521 (by decide +kernel) (by decide +kernel), by decide +kernel, by decide +kernel, by decide +kernel⟩, big_t 519 (by decide +kernel) (by decide +kernel), big_t 520 (by decide +kernel) (by decide +kernel), TX3, 11, rfl⟩
theorem fL_100 : j_V R_law 100 mX4_forget 4 0 := ⟨⟨Or.inl (big_t 909 (by decide +kernel) (by decide +kernel)), big_t 6 (by decide +kernel) (by decide +kernel), big_t 912 (by decide +kernel) (by decide +kernel), by decide +kernel, by decide +kernel, by decide +kernel⟩, big_t 910 (by decide +kernel) (by decide +kernel), big_t 911 (by decide +kernel) (by decide +kernel), TX4, 24, rfl⟩
set_option maxRecDepth 100000 in
set_option maxHeartbeats 4000000 in
theorem lw_case20 {x3 : Int32} {i : Nat} {N : Int} (F : LF p s mt meth cd b L xs D cI cZ aC aM) (X : LW s D cI cZ aC aM H locs c m) (h : Inv N c m) (hN : 150 ≤ N ∧ N < 100000) (hi : x3.toInt = (i : Int)) (hL5 : i + 5 ≤ L) (hL : L ≤ 320) (hl : lv_has ls 4 [(0, .ref b), (1, .ref (aC 0)), (2, .ref (aM 0)), (3, .int x3)]) (hcs : cells ≤ room_1.cells ∧ slots ≤ room_1.slots)
    (kk : ∀ (c1 m1 : JM) (H1 : Heap) (locs1 : List Loc), Inv (N + 1) c1 m1 → LW s D cI cZ aC aM H1 locs1 c1 m1 → W p l e room_1 s mt #[Value.ref b] below meth cd H1 locs1 cells slots Z (F0 mt 944 ls [])) : W p l e room_1 s mt #[Value.ref b] below meth cd H locs cells slots Z (F0 mt 686 ls []) := by
  obtain ⟨hx, hb, hr0, hml, hown, hts, hX, hbl, hlocks, hgv⟩ := F.1
  have hbA : ¬ lw_A s b := Nat.not_le.mpr hbl
  obtain ⟨QC, QM, hC, hM, hq⟩ := pr_forget (G := ((l, D, cI, cZ, aC), (l, D, cI, cZ, aM))) h hN 
  refine lv_aload_n hx hb dL_law_686 rfl (lv_at hl 1 rfl) ?_
  refine lw_callC F X fL_97 dL_law_687 hC rfl ⟨Nat.le_of_ble_eq_true rfl, Nat.le_of_ble_eq_true rfl⟩ hl.1 rfl (by decide) hcs (fun v c1 H1 locs1 hq1 X => ?_)
  refine lv_aload_n hx hb dL_law_690 rfl (lv_at hl 2 rfl) ?_
  refine lw_callM F X fL_100 dL_law_691 hM rfl ⟨Nat.le_of_ble_eq_true rfl, Nat.le_of_ble_eq_true rfl⟩ hl.1 rfl (lw_cat v aC) hcs (fun w m1 H1 locs1 hq2 X => ?_)
  obtain ⟨⟨e1, z, e2⟩, hI⟩ := hq v c1 w m1 hq1 hq2
  subst e1
  subst e2
  refine W.eq (g2 := F0 mt 694 ls [.int z, .int z]) rfl ?_
  exact lv_icmp_eq (tgt := 944) hx hb dL_law_694 (by decide) (fun _ => kk c1 m1 H1 locs1 hI X) (fun h => absurd rfl h)
theorem fL_101 : j_V R_law 101 mX3_is 3 0 := ⟨⟨Or.inl (big_t 522 (by decide +kernel) (by decide +kernel)), big_t 1 (by decide +kernel) (by decide +kernel), big_t 525 (by decide +kernel) (by decide +kernel), by decide +kernel, by decide +kernel, by decide +kernel⟩, big_t 523 (by decide +kernel) (by decide +kernel), big_t 524 (by decide +kernel) (by decide +kernel), TX3, 11, rfl⟩
theorem fL_104 : j_V R_law 104 mX4_is 4 0 := ⟨⟨Or.inl (big_t 913 (by decide +kernel) (by decide +kernel)), big_t 6 (by decide +kernel) (by decide +kernel), big_t 916 (by decide +kernel) (by decide +kernel), by decide +kernel, by decide +kernel, by decide +kernel⟩, big_t 914 (by decide +kernel) (by decide +kernel), big_t 915 (by decide +kernel) (by decide +kernel), TX4, 24, rfl⟩
set_option maxRecDepth 100000 in
set_option maxHeartbeats 4000000 in
theorem lw_case21 {x3 : Int32} {i : Nat} {N : Int} (F : LF p s mt meth cd b L xs D cI cZ aC aM) (X : LW s D cI cZ aC aM H locs c m) (h : Inv N c m) (hN : 150 ≤ N ∧ N < 100000) (hi : x3.toInt = (i : Int)) (hL5 : i + 5 ≤ L) (hL : L ≤ 320) (hl : lv_has ls 4 [(0, .ref b), (1, .ref (aC 0)), (2, .ref (aM 0)), (3, .int x3)]) (hcs : cells ≤ room_1.cells ∧ slots ≤ room_1.slots)
    (kk : ∀ (c1 m1 : JM) (H1 : Heap) (locs1 : List Loc), Inv (N + 1) c1 m1 → LW s D cI cZ aC aM H1 locs1 c1 m1 → W p l e room_1 s mt #[Value.ref b] below meth cd H1 locs1 cells slots Z (F0 mt 944 ls [])) : W p l e room_1 s mt #[Value.ref b] below meth cd H locs cells slots Z (F0 mt 699 ls []) := by
  obtain ⟨hx, hb, hr0, hml, hown, hts, hX, hbl, hlocks, hgv⟩ := F.1
  have hbA : ¬ lw_A s b := Nat.not_le.mpr hbl
  obtain ⟨QC, QM, hC, hM, hq⟩ := pr_is (G := ((l, D, cI, cZ, aC), (l, D, cI, cZ, aM))) h hN 
  refine lv_aload_n hx hb dL_law_699 rfl (lv_at hl 1 rfl) ?_
  refine lw_callC F X fL_101 dL_law_700 hC rfl ⟨Nat.le_of_ble_eq_true rfl, Nat.le_of_ble_eq_true rfl⟩ hl.1 rfl (by decide) hcs (fun v c1 H1 locs1 hq1 X => ?_)
  refine lv_aload_n hx hb dL_law_703 rfl (lv_at hl 2 rfl) ?_
  refine lw_callM F X fL_104 dL_law_704 hM rfl ⟨Nat.le_of_ble_eq_true rfl, Nat.le_of_ble_eq_true rfl⟩ hl.1 rfl (lw_cat v aC) hcs (fun w m1 H1 locs1 hq2 X => ?_)
  obtain ⟨⟨e1, z, e2⟩, hI⟩ := hq v c1 w m1 hq1 hq2
  subst e1
  subst e2
  refine W.eq (g2 := F0 mt 707 ls [.int z, .int z]) rfl ?_
  exact lv_icmp_eq (tgt := 944) hx hb dL_law_707 (by decide) (fun _ => kk c1 m1 H1 locs1 hI X) (fun h => absurd rfl h)
theorem fL_105 : j_V R_law 105 mX3_next 3 0 := ⟨⟨Or.inl (big_t 530 (by decide +kernel) (by decide +kernel)), big_t 1 (by decide +kernel) (by decide +kernel), big_t 533 (by decide +kernel) (by decide +kernel), by decide +kernel, by decide +kernel, by decide +kernel⟩, big_t 531 (by decide +kernel) (by decide +kernel), big_t 532 (by decide +kernel) (by decide +kernel), TX3, 11, rfl⟩
theorem fL_108 : j_V R_law 108 mX4_next 4 0 := ⟨⟨Or.inl (big_t 921 (by decide +kernel) (by decide +kernel)), big_t 6 (by decide +kernel) (by decide +kernel), big_t 924 (by decide +kernel) (by decide +kernel), by decide +kernel, by decide +kernel, by decide +kernel⟩, big_t 922 (by decide +kernel) (by decide +kernel), big_t 923 (by decide +kernel) (by decide +kernel), TX4, 24, rfl⟩
set_option maxRecDepth 100000 in
set_option maxHeartbeats 4000000 in
theorem lw_case22 {x3 : Int32} {i : Nat} {N : Int} (F : LF p s mt meth cd b L xs D cI cZ aC aM) (X : LW s D cI cZ aC aM H locs c m) (h : Inv N c m) (hN : 150 ≤ N ∧ N < 100000) (hi : x3.toInt = (i : Int)) (hL5 : i + 5 ≤ L) (hL : L ≤ 320) (hl : lv_has ls 4 [(0, .ref b), (1, .ref (aC 0)), (2, .ref (aM 0)), (3, .int x3)]) (hcs : cells ≤ room_1.cells ∧ slots ≤ room_1.slots)
    (kk : ∀ (c1 m1 : JM) (H1 : Heap) (locs1 : List Loc), Inv (N + 1) c1 m1 → LW s D cI cZ aC aM H1 locs1 c1 m1 → W p l e room_1 s mt #[Value.ref b] below meth cd H1 locs1 cells slots Z (F0 mt 944 ls [])) : W p l e room_1 s mt #[Value.ref b] below meth cd H locs cells slots Z (F0 mt 712 ls []) := by
  obtain ⟨hx, hb, hr0, hml, hown, hts, hX, hbl, hlocks, hgv⟩ := F.1
  have hbA : ¬ lw_A s b := Nat.not_le.mpr hbl
  obtain ⟨QC, QM, hC, hM, hq⟩ := pr_next (G := ((l, D, cI, cZ, aC), (l, D, cI, cZ, aM))) h hN 
  refine lv_aload_n hx hb dL_law_712 rfl (lv_at hl 1 rfl) ?_
  refine lw_callC F X fL_105 dL_law_713 hC rfl ⟨Nat.le_of_ble_eq_true rfl, Nat.le_of_ble_eq_true rfl⟩ hl.1 rfl (by decide) hcs (fun v c1 H1 locs1 hq1 X => ?_)
  refine lv_aload_n hx hb dL_law_716 rfl (lv_at hl 2 rfl) ?_
  refine lw_callM F X fL_108 dL_law_717 hM rfl ⟨Nat.le_of_ble_eq_true rfl, Nat.le_of_ble_eq_true rfl⟩ hl.1 rfl (lw_cat v aC) hcs (fun w m1 H1 locs1 hq2 X => ?_)
  obtain ⟨⟨e1, z, e2⟩, hI⟩ := hq v c1 w m1 hq1 hq2
  subst e1
  subst e2
  refine W.eq (g2 := F0 mt 720 ls [.int z, .int z]) rfl ?_
  exact lv_icmp_eq (tgt := 944) hx hb dL_law_720 (by decide) (fun _ => kk c1 m1 H1 locs1 hI X) (fun h => absurd rfl h)
theorem fL_109 : j_V R_law 109 mX3_lie 3 1 := ⟨⟨Or.inl (big_t 541 (by decide +kernel) (by decide +kernel)), big_t 1 (by decide +kernel) (by decide +kernel), big_t 544 (by decide +kernel) (by decide +kernel), by decide +kernel, by decide +kernel, by decide +kernel⟩, big_t 542 (by decide +kernel) (by decide +kernel), big_t 543 (by decide +kernel) (by decide +kernel), TX3, 11, rfl⟩
theorem fL_112 : j_V R_law 112 mX4_lie 4 1 := ⟨⟨Or.inl (big_t 929 (by decide +kernel) (by decide +kernel)), big_t 6 (by decide +kernel) (by decide +kernel), big_t 932 (by decide +kernel) (by decide +kernel), by decide +kernel, by decide +kernel, by decide +kernel⟩, big_t 930 (by decide +kernel) (by decide +kernel), big_t 931 (by decide +kernel) (by decide +kernel), TX4, 24, rfl⟩
set_option maxRecDepth 100000 in
set_option maxHeartbeats 4000000 in
theorem lw_case23 {x3 : Int32} {i : Nat} {N : Int} (F : LF p s mt meth cd b L xs D cI cZ aC aM) (X : LW s D cI cZ aC aM H locs c m) (h : Inv N c m) (hN : 150 ≤ N ∧ N < 100000) (hi : x3.toInt = (i : Int)) (hL5 : i + 5 ≤ L) (hL : L ≤ 320) (hl : lv_has ls 4 [(0, .ref b), (1, .ref (aC 0)), (2, .ref (aM 0)), (3, .int x3)]) (hcs : cells ≤ room_1.cells ∧ slots ≤ room_1.slots)
    (kk : ∀ (c1 m1 : JM) (H1 : Heap) (locs1 : List Loc), Inv (N + 1) c1 m1 → LW s D cI cZ aC aM H1 locs1 c1 m1 → W p l e room_1 s mt #[Value.ref b] below meth cd H1 locs1 cells slots Z (F0 mt 944 ls [])) : W p l e room_1 s mt #[Value.ref b] below meth cd H locs cells slots Z (F0 mt 725 ls []) := by
  obtain ⟨hx, hb, hr0, hml, hown, hts, hX, hbl, hlocks, hgv⟩ := F.1
  have hbA : ¬ lw_A s b := Nat.not_le.mpr hbl
  obtain ⟨QC, QM, hC, hM, hq⟩ := pr_lie (G := ((l, D, cI, cZ, aC), (l, D, cI, cZ, aM))) h hN (a := xs (x3 + 1).toNatClampNeg)
  refine lv_aload_n hx hb dL_law_725 rfl (lv_at hl 1 rfl) ?_
  refine lv_aload_n hx hb dL_law_726 rfl (lv_at hl 0 rfl) ?_
  refine lv_iload_n hx hb dL_law_727 rfl (lv_at hl 3 rfl) ?_
  refine lv_iconst (v := 1) hx hb dL_law_728 (by decide) ?_
  refine lv_iadd hx hb dL_law_729 ?_
  refine va_sld hx hb hX hbl hbA X.2.2.2.2 (lw_in 1 rfl (by decide) hi hL5 hL) dL_law_730 ?_
  refine lw_callC F X fL_109 dL_law_731 hC rfl ⟨Nat.le_of_ble_eq_true rfl, Nat.le_of_ble_eq_true rfl⟩ hl.1 rfl (by decide) hcs (fun v c1 H1 locs1 hq1 X => ?_)
  refine lv_aload_n hx hb dL_law_734 rfl (lv_at hl 2 rfl) ?_
  refine lv_aload_n hx hb dL_law_735 rfl (lv_at hl 0 rfl) ?_
  refine lv_iload_n hx hb dL_law_736 rfl (lv_at hl 3 rfl) ?_
  refine lv_iconst (v := 1) hx hb dL_law_737 (by decide) ?_
  refine lv_iadd hx hb dL_law_738 ?_
  refine va_sld hx hb hX hbl hbA X.2.2.2.2 (lw_in 1 rfl (by decide) hi hL5 hL) dL_law_739 ?_
  refine lw_callM F X fL_112 dL_law_740 hM rfl ⟨Nat.le_of_ble_eq_true rfl, Nat.le_of_ble_eq_true rfl⟩ hl.1 rfl (lw_cat v aC) hcs (fun w m1 H1 locs1 hq2 X => ?_)
  obtain ⟨⟨e1, z, e2⟩, hI⟩ := hq v c1 w m1 hq1 hq2
  subst e1
  subst e2
  refine W.eq (g2 := F0 mt 743 ls [.int z, .int z]) rfl ?_
  exact lv_icmp_eq (tgt := 944) hx hb dL_law_743 (by decide) (fun _ => kk c1 m1 H1 locs1 hI X) (fun h => absurd rfl h)
theorem fL_113 : j_V R_law 113 mX3_odds 3 2 := ⟨⟨Or.inl (big_t 550 (by decide +kernel) (by decide +kernel)), big_t 1 (by decide +kernel) (by decide +kernel), big_t 553 (by decide +kernel) (by decide +kernel), by decide +kernel, by decide +kernel, by decide +kernel⟩, big_t 551 (by decide +kernel) (by decide +kernel), big_t 552 (by decide +kernel) (by decide +kernel), TX3, 11, rfl⟩
theorem fL_116 : j_V R_law 116 mX4_odds 4 2 := ⟨⟨Or.inl (big_t 937 (by decide +kernel) (by decide +kernel)), big_t 6 (by decide +kernel) (by decide +kernel), big_t 940 (by decide +kernel) (by decide +kernel), by decide +kernel, by decide +kernel, by decide +kernel⟩, big_t 938 (by decide +kernel) (by decide +kernel), big_t 939 (by decide +kernel) (by decide +kernel), TX4, 24, rfl⟩
set_option maxRecDepth 100000 in
set_option maxHeartbeats 4000000 in
theorem lw_case24 {x3 : Int32} {i : Nat} {N : Int} (F : LF p s mt meth cd b L xs D cI cZ aC aM) (X : LW s D cI cZ aC aM H locs c m) (h : Inv N c m) (hN : 150 ≤ N ∧ N < 100000) (hi : x3.toInt = (i : Int)) (hL5 : i + 5 ≤ L) (hL : L ≤ 320) (hl : lv_has ls 4 [(0, .ref b), (1, .ref (aC 0)), (2, .ref (aM 0)), (3, .int x3)]) (hcs : cells ≤ room_1.cells ∧ slots ≤ room_1.slots)
    (kk : ∀ (c1 m1 : JM) (H1 : Heap) (locs1 : List Loc), Inv (N + 1) c1 m1 → LW s D cI cZ aC aM H1 locs1 c1 m1 → W p l e room_1 s mt #[Value.ref b] below meth cd H1 locs1 cells slots Z (F0 mt 944 ls [])) : W p l e room_1 s mt #[Value.ref b] below meth cd H locs cells slots Z (F0 mt 748 ls []) := by
  obtain ⟨hx, hb, hr0, hml, hown, hts, hX, hbl, hlocks, hgv⟩ := F.1
  have hbA : ¬ lw_A s b := Nat.not_le.mpr hbl
  obtain ⟨QC, QM, hC, hM, hq⟩ := pr_odds (G := ((l, D, cI, cZ, aC), (l, D, cI, cZ, aM))) h hN (a := xs (x3 + 1).toNatClampNeg) (b := xs (x3 + 2).toNatClampNeg)
  refine lv_aload_n hx hb dL_law_748 rfl (lv_at hl 1 rfl) ?_
  refine lv_aload_n hx hb dL_law_749 rfl (lv_at hl 0 rfl) ?_
  refine lv_iload_n hx hb dL_law_750 rfl (lv_at hl 3 rfl) ?_
  refine lv_iconst (v := 1) hx hb dL_law_751 (by decide) ?_
  refine lv_iadd hx hb dL_law_752 ?_
  refine va_sld hx hb hX hbl hbA X.2.2.2.2 (lw_in 1 rfl (by decide) hi hL5 hL) dL_law_753 ?_
  refine lv_aload_n hx hb dL_law_754 rfl (lv_at hl 0 rfl) ?_
  refine lv_iload_n hx hb dL_law_755 rfl (lv_at hl 3 rfl) ?_
  refine lv_iconst (v := 2) hx hb dL_law_756 (by decide) ?_
  refine lv_iadd hx hb dL_law_757 ?_
  refine va_sld hx hb hX hbl hbA X.2.2.2.2 (lw_in 2 rfl (by decide) hi hL5 hL) dL_law_758 ?_
  refine lw_callC F X fL_113 dL_law_759 hC rfl ⟨Nat.le_of_ble_eq_true rfl, Nat.le_of_ble_eq_true rfl⟩ hl.1 rfl (by decide) hcs (fun v c1 H1 locs1 hq1 X => ?_)
  refine lv_aload_n hx hb dL_law_762 rfl (lv_at hl 2 rfl) ?_
  refine lv_aload_n hx hb dL_law_763 rfl (lv_at hl 0 rfl) ?_
  refine lv_iload_n hx hb dL_law_764 rfl (lv_at hl 3 rfl) ?_
  refine lv_iconst (v := 1) hx hb dL_law_765 (by decide) ?_
  refine lv_iadd hx hb dL_law_766 ?_
  refine va_sld hx hb hX hbl hbA X.2.2.2.2 (lw_in 1 rfl (by decide) hi hL5 hL) dL_law_767 ?_
  refine lv_aload_n hx hb dL_law_768 rfl (lv_at hl 0 rfl) ?_
  refine lv_iload_n hx hb dL_law_769 rfl (lv_at hl 3 rfl) ?_
  refine lv_iconst (v := 2) hx hb dL_law_770 (by decide) ?_
  refine lv_iadd hx hb dL_law_771 ?_
  refine va_sld hx hb hX hbl hbA X.2.2.2.2 (lw_in 2 rfl (by decide) hi hL5 hL) dL_law_772 ?_
  refine lw_callM F X fL_116 dL_law_773 hM rfl ⟨Nat.le_of_ble_eq_true rfl, Nat.le_of_ble_eq_true rfl⟩ hl.1 rfl (lw_cat v aC) hcs (fun w m1 H1 locs1 hq2 X => ?_)
  obtain ⟨⟨e1, z, e2⟩, hI⟩ := hq v c1 w m1 hq1 hq2
  subst e1
  subst e2
  refine W.eq (g2 := F0 mt 776 ls [.int z, .int z]) rfl ?_
  exact lv_icmp_eq (tgt := 944) hx hb dL_law_776 (by decide) (fun _ => kk c1 m1 H1 locs1 hI X) (fun h => absurd rfl h)
theorem fL_117 : j_V R_law 117 mX3_jars 3 2 := ⟨⟨Or.inl (big_t 562 (by decide +kernel) (by decide +kernel)), big_t 1 (by decide +kernel) (by decide +kernel), big_t 565 (by decide +kernel) (by decide +kernel), by decide +kernel, by decide +kernel, by decide +kernel⟩, big_t 563 (by decide +kernel) (by decide +kernel), big_t 564 (by decide +kernel) (by decide +kernel), TX3, 11, rfl⟩
theorem fL_120 : j_V R_law 120 mX4_jars 4 2 := ⟨⟨Or.inl (big_t 942 (by decide +kernel) (by decide +kernel)), big_t 6 (by decide +kernel) (by decide +kernel), big_t 945 (by decide +kernel) (by decide +kernel), by decide +kernel, by decide +kernel, by decide +kernel⟩, big_t 943 (by decide +kernel) (by decide +kernel), big_t 944 (by decide +kernel) (by decide +kernel), TX4, 24, rfl⟩
set_option maxRecDepth 100000 in
set_option maxHeartbeats 4000000 in
theorem lw_case25 {x3 : Int32} {i : Nat} {N : Int} (F : LF p s mt meth cd b L xs D cI cZ aC aM) (X : LW s D cI cZ aC aM H locs c m) (h : Inv N c m) (hN : 150 ≤ N ∧ N < 100000) (hi : x3.toInt = (i : Int)) (hL5 : i + 5 ≤ L) (hL : L ≤ 320) (hl : lv_has ls 4 [(0, .ref b), (1, .ref (aC 0)), (2, .ref (aM 0)), (3, .int x3)]) (hcs : cells ≤ room_1.cells ∧ slots ≤ room_1.slots)
    (kk : ∀ (c1 m1 : JM) (H1 : Heap) (locs1 : List Loc), Inv (N + 1) c1 m1 → LW s D cI cZ aC aM H1 locs1 c1 m1 → W p l e room_1 s mt #[Value.ref b] below meth cd H1 locs1 cells slots Z (F0 mt 944 ls [])) : W p l e room_1 s mt #[Value.ref b] below meth cd H locs cells slots Z (F0 mt 781 ls []) := by
  obtain ⟨hx, hb, hr0, hml, hown, hts, hX, hbl, hlocks, hgv⟩ := F.1
  have hbA : ¬ lw_A s b := Nat.not_le.mpr hbl
  obtain ⟨QC, QM, hC, hM, hq⟩ := pr_jars (G := ((l, D, cI, cZ, aC), (l, D, cI, cZ, aM))) h hN (a := xs (x3 + 1).toNatClampNeg) (b := xs (x3 + 2).toNatClampNeg)
  refine lv_aload_n hx hb dL_law_781 rfl (lv_at hl 1 rfl) ?_
  refine lv_aload_n hx hb dL_law_782 rfl (lv_at hl 0 rfl) ?_
  refine lv_iload_n hx hb dL_law_783 rfl (lv_at hl 3 rfl) ?_
  refine lv_iconst (v := 1) hx hb dL_law_784 (by decide) ?_
  refine lv_iadd hx hb dL_law_785 ?_
  refine va_sld hx hb hX hbl hbA X.2.2.2.2 (lw_in 1 rfl (by decide) hi hL5 hL) dL_law_786 ?_
  refine lv_aload_n hx hb dL_law_787 rfl (lv_at hl 0 rfl) ?_
  refine lv_iload_n hx hb dL_law_788 rfl (lv_at hl 3 rfl) ?_
  refine lv_iconst (v := 2) hx hb dL_law_789 (by decide) ?_
  refine lv_iadd hx hb dL_law_790 ?_
  refine va_sld hx hb hX hbl hbA X.2.2.2.2 (lw_in 2 rfl (by decide) hi hL5 hL) dL_law_791 ?_
  refine lw_callC F X fL_117 dL_law_792 hC rfl ⟨Nat.le_of_ble_eq_true rfl, Nat.le_of_ble_eq_true rfl⟩ hl.1 rfl (by decide) hcs (fun v c1 H1 locs1 hq1 X => ?_)
  refine lv_aload_n hx hb dL_law_795 rfl (lv_at hl 2 rfl) ?_
  refine lv_aload_n hx hb dL_law_796 rfl (lv_at hl 0 rfl) ?_
  refine lv_iload_n hx hb dL_law_797 rfl (lv_at hl 3 rfl) ?_
  refine lv_iconst (v := 1) hx hb dL_law_798 (by decide) ?_
  refine lv_iadd hx hb dL_law_799 ?_
  refine va_sld hx hb hX hbl hbA X.2.2.2.2 (lw_in 1 rfl (by decide) hi hL5 hL) dL_law_800 ?_
  refine lv_aload_n hx hb dL_law_801 rfl (lv_at hl 0 rfl) ?_
  refine lv_iload_n hx hb dL_law_802 rfl (lv_at hl 3 rfl) ?_
  refine lv_iconst (v := 2) hx hb dL_law_803 (by decide) ?_
  refine lv_iadd hx hb dL_law_804 ?_
  refine va_sld hx hb hX hbl hbA X.2.2.2.2 (lw_in 2 rfl (by decide) hi hL5 hL) dL_law_805 ?_
  refine lw_callM F X fL_120 dL_law_806 hM rfl ⟨Nat.le_of_ble_eq_true rfl, Nat.le_of_ble_eq_true rfl⟩ hl.1 rfl (lw_cat v aC) hcs (fun w m1 H1 locs1 hq2 X => ?_)
  obtain ⟨⟨e1, z, e2⟩, hI⟩ := hq v c1 w m1 hq1 hq2
  subst e1
  subst e2
  refine W.eq (g2 := F0 mt 809 ls [.int z, .int z]) rfl ?_
  exact lv_icmp_eq (tgt := 944) hx hb dL_law_809 (by decide) (fun _ => kk c1 m1 H1 locs1 hI X) (fun h => absurd rfl h)
theorem fL_121 : j_V R_law 121 mX3_part 3 1 := ⟨⟨Or.inl (big_t 572 (by decide +kernel) (by decide +kernel)), big_t 1 (by decide +kernel) (by decide +kernel), big_t 575 (by decide +kernel) (by decide +kernel), by decide +kernel, by decide +kernel, by decide +kernel⟩, big_t 573 (by decide +kernel) (by decide +kernel), big_t 574 (by decide +kernel) (by decide +kernel), TX3, 11, rfl⟩
theorem fL_125 : j_V R_law 125 mX4_part 4 1 := ⟨⟨Or.inl (big_t 952 (by decide +kernel) (by decide +kernel)), big_t 6 (by decide +kernel) (by decide +kernel), big_t 955 (by decide +kernel) (by decide +kernel), by decide +kernel, by decide +kernel, by decide +kernel⟩, big_t 953 (by decide +kernel) (by decide +kernel), big_t 954 (by decide +kernel) (by decide +kernel), TX4, 24, rfl⟩
set_option maxRecDepth 100000 in
set_option maxHeartbeats 4000000 in
theorem lw_case26 {x3 : Int32} {i : Nat} {N : Int} (F : LF p s mt meth cd b L xs D cI cZ aC aM) (X : LW s D cI cZ aC aM H locs c m) (h : Inv N c m) (hN : 150 ≤ N ∧ N < 100000) (hi : x3.toInt = (i : Int)) (hL5 : i + 5 ≤ L) (hL : L ≤ 320) (hl : lv_has ls 4 [(0, .ref b), (1, .ref (aC 0)), (2, .ref (aM 0)), (3, .int x3)]) (hcs : cells ≤ room_1.cells ∧ slots ≤ room_1.slots)
    (kk : ∀ (c1 m1 : JM) (H1 : Heap) (locs1 : List Loc), Inv (N + 1) c1 m1 → LW s D cI cZ aC aM H1 locs1 c1 m1 → W p l e room_1 s mt #[Value.ref b] below meth cd H1 locs1 cells slots Z (F0 mt 944 ls [])) : W p l e room_1 s mt #[Value.ref b] below meth cd H locs cells slots Z (F0 mt 814 ls []) := by
  obtain ⟨hx, hb, hr0, hml, hown, hts, hX, hbl, hlocks, hgv⟩ := F.1
  have hbA : ¬ lw_A s b := Nat.not_le.mpr hbl
  obtain ⟨QC, QM, hC, hM, hq⟩ := pr_part (G := ((l, D, cI, cZ, aC), (l, D, cI, cZ, aM))) h hN (a := xs (x3 + 1).toNatClampNeg)
  refine lv_aload_n hx hb dL_law_814 rfl (lv_at hl 1 rfl) ?_
  refine lv_aload_n hx hb dL_law_815 rfl (lv_at hl 0 rfl) ?_
  refine lv_iload_n hx hb dL_law_816 rfl (lv_at hl 3 rfl) ?_
  refine lv_iconst (v := 1) hx hb dL_law_817 (by decide) ?_
  refine lv_iadd hx hb dL_law_818 ?_
  refine va_sld hx hb hX hbl hbA X.2.2.2.2 (lw_in 1 rfl (by decide) hi hL5 hL) dL_law_819 ?_
  refine lw_callC F X fL_121 dL_law_820 hC rfl ⟨Nat.le_of_ble_eq_true rfl, Nat.le_of_ble_eq_true rfl⟩ hl.1 rfl (by decide) hcs (fun v c1 H1 locs1 hq1 X => ?_)
  refine lv_aload_n hx hb dL_law_823 rfl (lv_at hl 2 rfl) ?_
  refine lv_aload_n hx hb dL_law_824 rfl (lv_at hl 0 rfl) ?_
  refine lv_iload_n hx hb dL_law_825 rfl (lv_at hl 3 rfl) ?_
  refine lv_iconst (v := 1) hx hb dL_law_826 (by decide) ?_
  refine lv_iadd hx hb dL_law_827 ?_
  refine va_sld hx hb hX hbl hbA X.2.2.2.2 (lw_in 1 rfl (by decide) hi hL5 hL) dL_law_828 ?_
  refine lw_callM F X fL_125 dL_law_829 hM rfl ⟨Nat.le_of_ble_eq_true rfl, Nat.le_of_ble_eq_true rfl⟩ hl.1 rfl (lw_cat v aC) hcs (fun w m1 H1 locs1 hq2 X => ?_)
  obtain ⟨⟨e1, z, e2⟩, hI⟩ := hq v c1 w m1 hq1 hq2
  subst e1
  subst e2
  refine W.eq (g2 := F0 mt 832 ls [.long z, .long z]) rfl ?_
  refine W.lcmp hx hb dL_law_832 ?_
  refine lv_if_eq (tgt := 944) hx hb dL_law_833 (by decide) (fun _ => kk c1 m1 H1 locs1 hI X) (fun h => absurd (by simp [lg_cmp]) h)
theorem fL_126 : j_V R_law 126 mX3_image 3 1 := ⟨⟨Or.inl (big_t 576 (by decide +kernel) (by decide +kernel)), big_t 1 (by decide +kernel) (by decide +kernel), big_t 579 (by decide +kernel) (by decide +kernel), by decide +kernel, by decide +kernel, by decide +kernel⟩, big_t 577 (by decide +kernel) (by decide +kernel), big_t 578 (by decide +kernel) (by decide +kernel), TX3, 11, rfl⟩
theorem fL_129 : j_V R_law 129 mX4_image 4 1 := ⟨⟨Or.inl (big_t 956 (by decide +kernel) (by decide +kernel)), big_t 6 (by decide +kernel) (by decide +kernel), big_t 959 (by decide +kernel) (by decide +kernel), by decide +kernel, by decide +kernel, by decide +kernel⟩, big_t 957 (by decide +kernel) (by decide +kernel), big_t 958 (by decide +kernel) (by decide +kernel), TX4, 24, rfl⟩
set_option maxRecDepth 100000 in
set_option maxHeartbeats 4000000 in
theorem lw_case27 {x3 : Int32} {i : Nat} {N : Int} (F : LF p s mt meth cd b L xs D cI cZ aC aM) (X : LW s D cI cZ aC aM H locs c m) (h : Inv N c m) (hN : 150 ≤ N ∧ N < 100000) (hi : x3.toInt = (i : Int)) (hL5 : i + 5 ≤ L) (hL : L ≤ 320) (hl : lv_has ls 4 [(0, .ref b), (1, .ref (aC 0)), (2, .ref (aM 0)), (3, .int x3)]) (hcs : cells ≤ room_1.cells ∧ slots ≤ room_1.slots)
    (kk : ∀ (c1 m1 : JM) (H1 : Heap) (locs1 : List Loc), Inv (N + 1) c1 m1 → LW s D cI cZ aC aM H1 locs1 c1 m1 → W p l e room_1 s mt #[Value.ref b] below meth cd H1 locs1 cells slots Z (F0 mt 944 ls [])) : W p l e room_1 s mt #[Value.ref b] below meth cd H locs cells slots Z (F0 mt 838 ls []) := by
  obtain ⟨hx, hb, hr0, hml, hown, hts, hX, hbl, hlocks, hgv⟩ := F.1
  have hbA : ¬ lw_A s b := Nat.not_le.mpr hbl
  obtain ⟨QC, QM, hC, hM, hq⟩ := pr_image (G := ((l, D, cI, cZ, aC), (l, D, cI, cZ, aM))) h hN (a := xs (x3 + 1).toNatClampNeg)
  refine lv_aload_n hx hb dL_law_838 rfl (lv_at hl 1 rfl) ?_
  refine lv_aload_n hx hb dL_law_839 rfl (lv_at hl 0 rfl) ?_
  refine lv_iload_n hx hb dL_law_840 rfl (lv_at hl 3 rfl) ?_
  refine lv_iconst (v := 1) hx hb dL_law_841 (by decide) ?_
  refine lv_iadd hx hb dL_law_842 ?_
  refine va_sld hx hb hX hbl hbA X.2.2.2.2 (lw_in 1 rfl (by decide) hi hL5 hL) dL_law_843 ?_
  refine lw_callC F X fL_126 dL_law_844 hC rfl ⟨Nat.le_of_ble_eq_true rfl, Nat.le_of_ble_eq_true rfl⟩ hl.1 rfl (by decide) hcs (fun v c1 H1 locs1 hq1 X => ?_)
  refine lv_aload_n hx hb dL_law_847 rfl (lv_at hl 2 rfl) ?_
  refine lv_aload_n hx hb dL_law_848 rfl (lv_at hl 0 rfl) ?_
  refine lv_iload_n hx hb dL_law_849 rfl (lv_at hl 3 rfl) ?_
  refine lv_iconst (v := 1) hx hb dL_law_850 (by decide) ?_
  refine lv_iadd hx hb dL_law_851 ?_
  refine va_sld hx hb hX hbl hbA X.2.2.2.2 (lw_in 1 rfl (by decide) hi hL5 hL) dL_law_852 ?_
  refine lw_callM F X fL_129 dL_law_853 hM rfl ⟨Nat.le_of_ble_eq_true rfl, Nat.le_of_ble_eq_true rfl⟩ hl.1 rfl (lw_cat v aC) hcs (fun w m1 H1 locs1 hq2 X => ?_)
  obtain ⟨⟨e1, z, e2⟩, hI⟩ := hq v c1 w m1 hq1 hq2
  subst e1
  subst e2
  refine W.eq (g2 := F0 mt 856 ls [.int z, .int z]) rfl ?_
  exact lv_icmp_eq (tgt := 944) hx hb dL_law_856 (by decide) (fun _ => kk c1 m1 H1 locs1 hI X) (fun h => absurd rfl h)
theorem fL_130 : j_V R_law 130 mX3_from 3 1 := ⟨⟨Or.inl (big_t 584 (by decide +kernel) (by decide +kernel)), big_t 1 (by decide +kernel) (by decide +kernel), big_t 587 (by decide +kernel) (by decide +kernel), by decide +kernel, by decide +kernel, by decide +kernel⟩, big_t 585 (by decide +kernel) (by decide +kernel), big_t 586 (by decide +kernel) (by decide +kernel), TX3, 11, rfl⟩
theorem fL_133 : j_V R_law 133 mX4_from 4 1 := ⟨⟨Or.inl (big_t 960 (by decide +kernel) (by decide +kernel)), big_t 6 (by decide +kernel) (by decide +kernel), big_t 963 (by decide +kernel) (by decide +kernel), by decide +kernel, by decide +kernel, by decide +kernel⟩, big_t 961 (by decide +kernel) (by decide +kernel), big_t 962 (by decide +kernel) (by decide +kernel), TX4, 24, rfl⟩
set_option maxRecDepth 100000 in
set_option maxHeartbeats 4000000 in
theorem lw_case28 {x3 : Int32} {i : Nat} {N : Int} (F : LF p s mt meth cd b L xs D cI cZ aC aM) (X : LW s D cI cZ aC aM H locs c m) (h : Inv N c m) (hN : 150 ≤ N ∧ N < 100000) (hi : x3.toInt = (i : Int)) (hL5 : i + 5 ≤ L) (hL : L ≤ 320) (hl : lv_has ls 4 [(0, .ref b), (1, .ref (aC 0)), (2, .ref (aM 0)), (3, .int x3)]) (hcs : cells ≤ room_1.cells ∧ slots ≤ room_1.slots)
    (kk : ∀ (c1 m1 : JM) (H1 : Heap) (locs1 : List Loc), Inv (N + 1) c1 m1 → LW s D cI cZ aC aM H1 locs1 c1 m1 → W p l e room_1 s mt #[Value.ref b] below meth cd H1 locs1 cells slots Z (F0 mt 944 ls [])) : W p l e room_1 s mt #[Value.ref b] below meth cd H locs cells slots Z (F0 mt 861 ls []) := by
  obtain ⟨hx, hb, hr0, hml, hown, hts, hX, hbl, hlocks, hgv⟩ := F.1
  have hbA : ¬ lw_A s b := Nat.not_le.mpr hbl
  obtain ⟨QC, QM, hC, hM, hq⟩ := pr_from (G := ((l, D, cI, cZ, aC), (l, D, cI, cZ, aM))) h hN (a := xs (x3 + 1).toNatClampNeg)
  refine lv_aload_n hx hb dL_law_861 rfl (lv_at hl 1 rfl) ?_
  refine lv_aload_n hx hb dL_law_862 rfl (lv_at hl 0 rfl) ?_
  refine lv_iload_n hx hb dL_law_863 rfl (lv_at hl 3 rfl) ?_
  refine lv_iconst (v := 1) hx hb dL_law_864 (by decide) ?_
  refine lv_iadd hx hb dL_law_865 ?_
  refine va_sld hx hb hX hbl hbA X.2.2.2.2 (lw_in 1 rfl (by decide) hi hL5 hL) dL_law_866 ?_
  refine lw_callC F X fL_130 dL_law_867 hC rfl ⟨Nat.le_of_ble_eq_true rfl, Nat.le_of_ble_eq_true rfl⟩ hl.1 rfl (by decide) hcs (fun v c1 H1 locs1 hq1 X => ?_)
  refine lv_aload_n hx hb dL_law_870 rfl (lv_at hl 2 rfl) ?_
  refine lv_aload_n hx hb dL_law_871 rfl (lv_at hl 0 rfl) ?_
  refine lv_iload_n hx hb dL_law_872 rfl (lv_at hl 3 rfl) ?_
  refine lv_iconst (v := 1) hx hb dL_law_873 (by decide) ?_
  refine lv_iadd hx hb dL_law_874 ?_
  refine va_sld hx hb hX hbl hbA X.2.2.2.2 (lw_in 1 rfl (by decide) hi hL5 hL) dL_law_875 ?_
  refine lw_callM F X fL_133 dL_law_876 hM rfl ⟨Nat.le_of_ble_eq_true rfl, Nat.le_of_ble_eq_true rfl⟩ hl.1 rfl (lw_cat v aC) hcs (fun w m1 H1 locs1 hq2 X => ?_)
  obtain ⟨⟨e1, z, e2⟩, hI⟩ := hq v c1 w m1 hq1 hq2
  subst e1
  subst e2
  refine W.eq (g2 := F0 mt 879 ls [.int z, .int z]) rfl ?_
  exact lv_icmp_eq (tgt := 944) hx hb dL_law_879 (by decide) (fun _ => kk c1 m1 H1 locs1 hI X) (fun h => absurd rfl h)
theorem fL_134 : j_V R_law 134 mX3_status 3 1 := ⟨⟨Or.inl (big_t 588 (by decide +kernel) (by decide +kernel)), big_t 1 (by decide +kernel) (by decide +kernel), big_t 591 (by decide +kernel) (by decide +kernel), by decide +kernel, by decide +kernel, by decide +kernel⟩, big_t 589 (by decide +kernel) (by decide +kernel), big_t 590 (by decide +kernel) (by decide +kernel), TX3, 11, rfl⟩
theorem fL_137 : j_V R_law 137 mX4_status 4 1 := ⟨⟨Or.inl (big_t 689 (by decide +kernel) (by decide +kernel)), big_t 6 (by decide +kernel) (by decide +kernel), big_t 692 (by decide +kernel) (by decide +kernel), by decide +kernel, by decide +kernel, by decide +kernel⟩, big_t 690 (by decide +kernel) (by decide +kernel), big_t 691 (by decide +kernel) (by decide +kernel), TX4, 24, rfl⟩
set_option maxRecDepth 100000 in
set_option maxHeartbeats 4000000 in
theorem lw_case29 {x3 : Int32} {i : Nat} {N : Int} (F : LF p s mt meth cd b L xs D cI cZ aC aM) (X : LW s D cI cZ aC aM H locs c m) (h : Inv N c m) (hN : 150 ≤ N ∧ N < 100000) (hi : x3.toInt = (i : Int)) (hL5 : i + 5 ≤ L) (hL : L ≤ 320) (hl : lv_has ls 4 [(0, .ref b), (1, .ref (aC 0)), (2, .ref (aM 0)), (3, .int x3)]) (hcs : cells ≤ room_1.cells ∧ slots ≤ room_1.slots)
    (kk : ∀ (c1 m1 : JM) (H1 : Heap) (locs1 : List Loc), Inv (N + 1) c1 m1 → LW s D cI cZ aC aM H1 locs1 c1 m1 → W p l e room_1 s mt #[Value.ref b] below meth cd H1 locs1 cells slots Z (F0 mt 944 ls [])) : W p l e room_1 s mt #[Value.ref b] below meth cd H locs cells slots Z (F0 mt 884 ls []) := by
  obtain ⟨hx, hb, hr0, hml, hown, hts, hX, hbl, hlocks, hgv⟩ := F.1
  have hbA : ¬ lw_A s b := Nat.not_le.mpr hbl
  obtain ⟨QC, QM, hC, hM, hq⟩ := pr_status (G := ((l, D, cI, cZ, aC), (l, D, cI, cZ, aM))) h hN (a := xs (x3 + 1).toNatClampNeg)
  refine lv_aload_n hx hb dL_law_884 rfl (lv_at hl 1 rfl) ?_
  refine lv_aload_n hx hb dL_law_885 rfl (lv_at hl 0 rfl) ?_
  refine lv_iload_n hx hb dL_law_886 rfl (lv_at hl 3 rfl) ?_
  refine lv_iconst (v := 1) hx hb dL_law_887 (by decide) ?_
  refine lv_iadd hx hb dL_law_888 ?_
  refine va_sld hx hb hX hbl hbA X.2.2.2.2 (lw_in 1 rfl (by decide) hi hL5 hL) dL_law_889 ?_
  refine lw_callC F X fL_134 dL_law_890 hC rfl ⟨Nat.le_of_ble_eq_true rfl, Nat.le_of_ble_eq_true rfl⟩ hl.1 rfl (by decide) hcs (fun v c1 H1 locs1 hq1 X => ?_)
  refine lv_aload_n hx hb dL_law_893 rfl (lv_at hl 2 rfl) ?_
  refine lv_aload_n hx hb dL_law_894 rfl (lv_at hl 0 rfl) ?_
  refine lv_iload_n hx hb dL_law_895 rfl (lv_at hl 3 rfl) ?_
  refine lv_iconst (v := 1) hx hb dL_law_896 (by decide) ?_
  refine lv_iadd hx hb dL_law_897 ?_
  refine va_sld hx hb hX hbl hbA X.2.2.2.2 (lw_in 1 rfl (by decide) hi hL5 hL) dL_law_898 ?_
  refine lw_callM F X fL_137 dL_law_899 hM rfl ⟨Nat.le_of_ble_eq_true rfl, Nat.le_of_ble_eq_true rfl⟩ hl.1 rfl (lw_cat v aC) hcs (fun w m1 H1 locs1 hq2 X => ?_)
  obtain ⟨⟨e1, z, e2⟩, hI⟩ := hq v c1 w m1 hq1 hq2
  subst e1
  subst e2
  refine W.eq (g2 := F0 mt 902 ls [.int z, .int z]) rfl ?_
  exact lv_icmp_eq (tgt := 944) hx hb dL_law_902 (by decide) (fun _ => kk c1 m1 H1 locs1 hI X) (fun h => absurd rfl h)
theorem fL_138 : j_V R_law 138 mX3_count 3 1 := ⟨⟨Or.inl (big_t 592 (by decide +kernel) (by decide +kernel)), big_t 1 (by decide +kernel) (by decide +kernel), big_t 595 (by decide +kernel) (by decide +kernel), by decide +kernel, by decide +kernel, by decide +kernel⟩, big_t 593 (by decide +kernel) (by decide +kernel), big_t 594 (by decide +kernel) (by decide +kernel), TX3, 11, rfl⟩
theorem fL_141 : j_V R_law 141 mX4_count 4 1 := ⟨⟨Or.inl (big_t 964 (by decide +kernel) (by decide +kernel)), big_t 6 (by decide +kernel) (by decide +kernel), big_t 967 (by decide +kernel) (by decide +kernel), by decide +kernel, by decide +kernel, by decide +kernel⟩, big_t 965 (by decide +kernel) (by decide +kernel), big_t 966 (by decide +kernel) (by decide +kernel), TX4, 24, rfl⟩
set_option maxRecDepth 100000 in
set_option maxHeartbeats 4000000 in
theorem lw_case30 {x3 : Int32} {i : Nat} {N : Int} (F : LF p s mt meth cd b L xs D cI cZ aC aM) (X : LW s D cI cZ aC aM H locs c m) (h : Inv N c m) (hN : 150 ≤ N ∧ N < 100000) (hi : x3.toInt = (i : Int)) (hL5 : i + 5 ≤ L) (hL : L ≤ 320) (hl : lv_has ls 4 [(0, .ref b), (1, .ref (aC 0)), (2, .ref (aM 0)), (3, .int x3)]) (hcs : cells ≤ room_1.cells ∧ slots ≤ room_1.slots)
    (kk : ∀ (c1 m1 : JM) (H1 : Heap) (locs1 : List Loc), Inv (N + 1) c1 m1 → LW s D cI cZ aC aM H1 locs1 c1 m1 → W p l e room_1 s mt #[Value.ref b] below meth cd H1 locs1 cells slots Z (F0 mt 944 ls [])) : W p l e room_1 s mt #[Value.ref b] below meth cd H locs cells slots Z (F0 mt 907 ls []) := by
  obtain ⟨hx, hb, hr0, hml, hown, hts, hX, hbl, hlocks, hgv⟩ := F.1
  have hbA : ¬ lw_A s b := Nat.not_le.mpr hbl
  obtain ⟨QC, QM, hC, hM, hq⟩ := pr_count (G := ((l, D, cI, cZ, aC), (l, D, cI, cZ, aM))) h hN (a := xs (x3 + 1).toNatClampNeg)
  refine lv_aload_n hx hb dL_law_907 rfl (lv_at hl 1 rfl) ?_
  refine lv_aload_n hx hb dL_law_908 rfl (lv_at hl 0 rfl) ?_
  refine lv_iload_n hx hb dL_law_909 rfl (lv_at hl 3 rfl) ?_
  refine lv_iconst (v := 1) hx hb dL_law_910 (by decide) ?_
  refine lv_iadd hx hb dL_law_911 ?_
  refine va_sld hx hb hX hbl hbA X.2.2.2.2 (lw_in 1 rfl (by decide) hi hL5 hL) dL_law_912 ?_
  refine lw_callC F X fL_138 dL_law_913 hC rfl ⟨Nat.le_of_ble_eq_true rfl, Nat.le_of_ble_eq_true rfl⟩ hl.1 rfl (by decide) hcs (fun v c1 H1 locs1 hq1 X => ?_)
  refine lv_aload_n hx hb dL_law_916 rfl (lv_at hl 2 rfl) ?_
  refine lv_aload_n hx hb dL_law_917 rfl (lv_at hl 0 rfl) ?_
  refine lv_iload_n hx hb dL_law_918 rfl (lv_at hl 3 rfl) ?_
  refine lv_iconst (v := 1) hx hb dL_law_919 (by decide) ?_
  refine lv_iadd hx hb dL_law_920 ?_
  refine va_sld hx hb hX hbl hbA X.2.2.2.2 (lw_in 1 rfl (by decide) hi hL5 hL) dL_law_921 ?_
  refine lw_callM F X fL_141 dL_law_922 hM rfl ⟨Nat.le_of_ble_eq_true rfl, Nat.le_of_ble_eq_true rfl⟩ hl.1 rfl (lw_cat v aC) hcs (fun w m1 H1 locs1 hq2 X => ?_)
  obtain ⟨⟨e1, z, e2⟩, hI⟩ := hq v c1 w m1 hq1 hq2
  subst e1
  subst e2
  refine W.eq (g2 := F0 mt 925 ls [.int z, .int z]) rfl ?_
  exact lv_icmp_eq (tgt := 944) hx hb dL_law_925 (by decide) (fun _ => kk c1 m1 H1 locs1 hI X) (fun h => absurd rfl h)
theorem fL_142 : j_V R_law 142 mX3_digest 3 0 := ⟨⟨Or.inl (big_t 596 (by decide +kernel) (by decide +kernel)), big_t 1 (by decide +kernel) (by decide +kernel), big_t 599 (by decide +kernel) (by decide +kernel), by decide +kernel, by decide +kernel, by decide +kernel⟩, big_t 597 (by decide +kernel) (by decide +kernel), big_t 598 (by decide +kernel) (by decide +kernel), TX3, 11, rfl⟩
theorem fL_146 : j_V R_law 146 mX4_digest 4 0 := ⟨⟨Or.inl (big_t 972 (by decide +kernel) (by decide +kernel)), big_t 6 (by decide +kernel) (by decide +kernel), big_t 975 (by decide +kernel) (by decide +kernel), by decide +kernel, by decide +kernel, by decide +kernel⟩, big_t 973 (by decide +kernel) (by decide +kernel), big_t 974 (by decide +kernel) (by decide +kernel), TX4, 24, rfl⟩
set_option maxRecDepth 100000 in
set_option maxHeartbeats 4000000 in
theorem lw_case31 {x3 : Int32} {i : Nat} {N : Int} (F : LF p s mt meth cd b L xs D cI cZ aC aM) (X : LW s D cI cZ aC aM H locs c m) (h : Inv N c m) (hN : 150 ≤ N ∧ N < 100000) (hi : x3.toInt = (i : Int)) (hL5 : i + 5 ≤ L) (hL : L ≤ 320) (hl : lv_has ls 4 [(0, .ref b), (1, .ref (aC 0)), (2, .ref (aM 0)), (3, .int x3)]) (hcs : cells ≤ room_1.cells ∧ slots ≤ room_1.slots)
    (kk : ∀ (c1 m1 : JM) (H1 : Heap) (locs1 : List Loc), Inv (N + 1) c1 m1 → LW s D cI cZ aC aM H1 locs1 c1 m1 → W p l e room_1 s mt #[Value.ref b] below meth cd H1 locs1 cells slots Z (F0 mt 944 ls [])) : W p l e room_1 s mt #[Value.ref b] below meth cd H locs cells slots Z (F0 mt 930 ls []) := by
  obtain ⟨hx, hb, hr0, hml, hown, hts, hX, hbl, hlocks, hgv⟩ := F.1
  have hbA : ¬ lw_A s b := Nat.not_le.mpr hbl
  obtain ⟨QC, QM, hC, hM, hq⟩ := pr_digest (G := ((l, D, cI, cZ, aC), (l, D, cI, cZ, aM))) h hN 
  refine lv_aload_n hx hb dL_law_930 rfl (lv_at hl 1 rfl) ?_
  refine lw_callC F X fL_142 dL_law_931 hC rfl ⟨Nat.le_of_ble_eq_true rfl, Nat.le_of_ble_eq_true rfl⟩ hl.1 rfl (by decide) hcs (fun v c1 H1 locs1 hq1 X => ?_)
  refine lv_aload_n hx hb dL_law_934 rfl (lv_at hl 2 rfl) ?_
  refine lw_callM F X fL_146 dL_law_935 hM rfl ⟨Nat.le_of_ble_eq_true rfl, Nat.le_of_ble_eq_true rfl⟩ hl.1 rfl (lw_cat v aC) hcs (fun w m1 H1 locs1 hq2 X => ?_)
  obtain ⟨⟨e1, z, e2⟩, hI⟩ := hq v c1 w m1 hq1 hq2
  subst e1
  subst e2
  refine W.eq (g2 := F0 mt 938 ls [.long z, .long z]) rfl ?_
  refine W.lcmp hx hb dL_law_938 ?_
  refine lv_if_eq (tgt := 944) hx hb dL_law_939 (by decide) (fun _ => kk c1 m1 H1 locs1 hI X) (fun h => absurd (by simp [lg_cmp]) h)
end LAW

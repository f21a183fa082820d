section JC
variable {G : JG} {sh : List JSh} {M : JMth} {pc : Nat} {lv : List (Option Value)} {st : List Value} {μ : JM} {Q : Option Value → JM → Prop}
/-! ===== arrays of the world ===== -/
theorem J_iald {o n : Nat} {i : Int32} (ho : sh[o]? = some (.inr (0, n))) (hi : vp_in i n) (hd : decode M.2.1 pc = .ok (.iaload, 1)) (kk : J G sh M (pc + 1) lv (.int (μ.1 o i.toNatClampNeg) :: st) μ Q) : J G sh M pc lv (.int i :: .ref o :: st) μ Q := by
  intro p e s m args below meth c H locs sz ls X
  have kk := kk p e s m args below meth c H locs sz ls X
  obtain ⟨x1, x2, x3, x4, x5, x6, x7, x8, x9, xa, xb, xc, xd, xe⟩ := X
  exact va_iald x1 x2 xa x9 o 0 (j_w_get ho) rfl hi hd kk
theorem J_zald {o n : Nat} {i : Int32} (ho : sh[o]? = some (.inr (1, n))) (hi : vp_in i n) (hd : decode M.2.1 pc = .ok (.baload, 1)) (kk : J G sh M (pc + 1) lv (.int (μ.1 o i.toNatClampNeg) :: st) μ Q) : J G sh M pc lv (.int i :: .ref o :: st) μ Q := by
  intro p e s m args below meth c H locs sz ls X
  have kk := kk p e s m args below meth c H locs sz ls X
  obtain ⟨x1, x2, x3, x4, x5, x6, x7, x8, x9, xa, xb, xc, xd, xe⟩ := X
  exact va_zald x1 x2 xa x9 o 1 (j_w_get ho) rfl hi hd kk
theorem J_iast {o n : Nat} {i x : Int32} (ho : sh[o]? = some (.inr (0, n))) (hi : vp_in i n) (hd : decode M.2.1 pc = .ok (.iastore, 1)) (kk : J G sh M (pc + 1) lv st (jI μ o i.toNatClampNeg x) Q) : J G sh M pc lv (.int x :: .int i :: .ref o :: st) μ Q := by
  intro p e s m args below meth c H locs sz ls X
  obtain ⟨x1, x2, x3, x4, x5, x6, x7, x8, x9, xa, xb, xc, xd, xe⟩ := X
  have hw : (j_W G sh μ).set o (G.2.2.2.2 o, .inl (if (0 : Nat) = 0 then G.2.2.1 else G.2.2.2.1, n, .inl (upd (μ.1 o) i.toNatClampNeg x))) = j_W G sh (jI μ o i.toNatClampNeg x) := j_w_A ho
  exact va_iast x1 x2 xa x9 xb xc o 0 (j_w_get ho) rfl hi hd (fun H1 locs1 hP hD hS => kk p e s m args below meth c H1 locs1 sz ls ⟨x1, x2, x3, x4, x5, x6, x7, x8, by rw [hw] at hP; exact hP, xa, by rw [hw] at hD; exact hD, hS, xd, xe⟩)
theorem J_zast {o n : Nat} {i x : Int32} (ho : sh[o]? = some (.inr (1, n))) (hi : vp_in i n) (hx : x = 0 ∨ x = 1) (hd : decode M.2.1 pc = .ok (.bastore, 1)) (kk : J G sh M (pc + 1) lv st (jI μ o i.toNatClampNeg x) Q) : J G sh M pc lv (.int x :: .int i :: .ref o :: st) μ Q := by
  intro p e s m args below meth c H locs sz ls X
  obtain ⟨x1, x2, x3, x4, x5, x6, x7, x8, x9, xa, xb, xc, xd, xe⟩ := X
  have hw : (j_W G sh μ).set o (G.2.2.2.2 o, .inl (if (1 : Nat) = 0 then G.2.2.1 else G.2.2.2.1, n, .inl (upd (μ.1 o) i.toNatClampNeg (vp_nar .boolean x)))) = j_W G sh (jI μ o i.toNatClampNeg (vp_nar .boolean x)) := j_w_A ho
  have hn : vp_nar .boolean x = x := by rcases hx with rfl | rfl <;> rfl
  exact va_zast x1 x2 xa x9 xb xc o 1 (j_w_get ho) rfl hi hd (fun H1 locs1 hP hD hS => kk p e s m args below meth c H1 locs1 sz ls ⟨x1, x2, x3, x4, x5, x6, x7, x8, by rw [hw, hn] at hP; exact hP, xa, by rw [hw, hn] at hD; exact hD, hS, xd, xe⟩)
theorem J_alen {o n t : Nat} (ho : sh[o]? = some (.inr (t, n))) (hd : decode M.2.1 pc = .ok (.arraylength, 1)) (kk : J G sh M (pc + 1) lv (.int (nI n) :: st) μ Q) : J G sh M pc lv (.ref o :: st) μ Q := by
  intro p e s m args below meth c H locs sz ls X
  have kk := kk p e s m args below meth c H locs sz ls X
  obtain ⟨x1, x2, x3, x4, x5, x6, x7, x8, x9, xa, xb, xc, xd, xe⟩ := X
  by_cases ht : t = 0
  · exact va_alen (ty := .int) (x := (n, .inl (μ.1 o))) x1 x2 xa x9 o 0 (j_w_get ho) (by show some (G.2.2.1, FieldType.int) = some (if t = 0 then _ else _, _); rw [if_pos ht]) rfl hd kk
  · exact va_alen (ty := .boolean) (x := (n, .inl (μ.1 o))) x1 x2 xa x9 o 1 (j_w_get ho) (by show some (G.2.2.2.1, FieldType.boolean) = some (if t = 0 then _ else _, _); rw [if_neg ht]) rfl hd kk
/-! ===== the static tables ===== -/
theorem J_gets {index j : Nat} {x : String × Nat × (Nat → Int32)} (hj : j_tb[j]? = some x) (hl : Cond.fieldLink M.1.cls index RX3 x.1 "[I" ∈ BIGW) (hd : decode M.2.1 pc = .ok (.getstatic index, 3)) (kk : J G sh M (pc + 3) lv (.ref (1000 + j) :: st) μ Q) : J G sh M pc lv st μ Q := by
  intro p e s m args below meth c H locs sz ls X
  have kk := kk p e s m args below meth c H locs sz ls X
  obtain ⟨x1, x2, x3, x4, x5, x6, x7, x8, x9, xa, xb, xc, xd, xe⟩ := X
  exact va_gets x1 x2 (xd.2.1 j x hj).1 xc x4 (j_hts x5 hl) (fun _ h => h) hd kk
theorem J_getsN {index j : Nat} {x : String × Nat × (Nat → Int32)} {host : String} (hj : j_tb[j]? = some x) (hl : Cond.fieldLinkNest M.1.cls index RX3 x.1 "[I" host ∈ NESTW) (hd : decode M.2.1 pc = .ok (.getstatic index, 3)) (kk : J G sh M (pc + 3) lv (.ref (1000 + j) :: st) μ Q) : J G sh M pc lv st μ Q := by
  intro p e s m args below meth c H locs sz ls X
  have kk := kk p e s m args below meth c H locs sz ls X
  obtain ⟨x1, x2, x3, x4, x5, x6, x7, x8, x9, xa, xb, xc, xd, xe⟩ := X
  exact va_getsN x1 x2 (xd.2.1 j x hj).1 xc x4 (nest_use hl (xd.1 _ hl)) (fun _ h => h) hd kk
theorem J_ti {j : Nat} {x : String × Nat × (Nat → Int32)} {i : Int32} (hj : j_tb[j]? = some x) (hi : vp_in i x.2.1) (hd : decode M.2.1 pc = .ok (.iaload, 1)) (kk : J G sh M (pc + 1) lv (.int (x.2.2 i.toNatClampNeg) :: st) μ Q) : J G sh M pc lv (.int i :: .ref (1000 + j) :: st) μ Q := by
  intro p e s m args below meth c H locs sz ls X
  have kk := kk p e s m args below meth c H locs sz ls X
  obtain ⟨x1, x2, x3, x4, x5, x6, x7, x8, x9, xa, xb, xc, xd, xe⟩ := X
  exact va_ti x1 x2 (xd.2.1 j x hj).2 xc hi rfl hd kk
theorem J_tlen {j : Nat} {x : String × Nat × (Nat → Int32)} (hj : j_tb[j]? = some x) (hd : decode M.2.1 pc = .ok (.arraylength, 1)) (kk : J G sh M (pc + 1) lv (.int (nI x.2.1) :: st) μ Q) : J G sh M pc lv (.ref (1000 + j) :: st) μ Q := by
  intro p e s m args below meth c H locs sz ls X
  have kk := kk p e s m args below meth c H locs sz ls X
  obtain ⟨x1, x2, x3, x4, x5, x6, x7, x8, x9, xa, xb, xc, xd, xe⟩ := X
  exact va_tlen x1 x2 (xd.2.1 j x hj).2 xc rfl hd kk
/-! ===== Math ===== -/
def j_mw (own : String) (idx : Nat) (y : MethodName) (b : ByteArray) (n : Nat) (r : FieldType) : Prop := Cond.methodLink own idx y ∈ BIGW ∧ Cond.static y ∈ BIGW ∧ Cond.initialized "java/lang/Math" ∈ BIGW ∧ Cond.code y b n (some r) ∈ BIGW
theorem J_min {index : Nat} {x y : Int32} (hw : j_mw M.1.cls index Lib.Math.min.name Lib.Math.min.code 2 .int) (hf : 1 ≤ M.2.2.2.2.1) (hl : (st.map Value.category).sum + 13 ≤ M.2.2.2.2.2) (hd : decode M.2.1 pc = .ok (.invokestatic index, 3)) (kk : J G sh M (pc + 3) lv (.int (if y < x then y else x) :: st) μ Q) : J G sh M pc lv (.int y :: .int x :: st) μ Q := by
  intro p e s m args below meth c H locs sz ls X
  have kk := kk p e s m args below meth c H locs sz ls X
  obtain ⟨x1, x2, x3, x4, x5, x6, x7, x8, x9, xa, xb, xc, xd, xe⟩ := X
  exact va_mmin x1 x2 (x3.trans xe.1.symm) x4 (j_hts x5 hw.1) (j_hts x5 hw.2.1) (j_hts x5 hw.2.2.1) (j_hts x5 hw.2.2.2) hf (by rw [j_cat_map]; exact hl) (Nat.zero_le _) (Nat.zero_le _) hd kk
theorem J_max {index : Nat} {x y : Int32} (hw : j_mw M.1.cls index Lib.Math.max.name Lib.Math.max.code 2 .int) (hf : 1 ≤ M.2.2.2.2.1) (hl : (st.map Value.category).sum + 13 ≤ M.2.2.2.2.2) (hd : decode M.2.1 pc = .ok (.invokestatic index, 3)) (kk : J G sh M (pc + 3) lv (.int (if x < y then y else x) :: st) μ Q) : J G sh M pc lv (.int y :: .int x :: st) μ Q := by
  intro p e s m args below meth c H locs sz ls X
  have kk := kk p e s m args below meth c H locs sz ls X
  obtain ⟨x1, x2, x3, x4, x5, x6, x7, x8, x9, xa, xb, xc, xd, xe⟩ := X
  exact va_mmax x1 x2 (x3.trans xe.1.symm) x4 (j_hts x5 hw.1) (j_hts x5 hw.2.1) (j_hts x5 hw.2.2.1) (j_hts x5 hw.2.2.2) hf (by rw [j_cat_map]; exact hl) (Nat.zero_le _) (Nat.zero_le _) hd kk
theorem J_absl {index : Nat} {x : Int64} (hw : j_mw M.1.cls index Lib.MathLoose.abs_long.x Lib.MathLoose.abs_long.code 2 .long) (hf : 1 ≤ M.2.2.2.2.1) (hl : (st.map Value.category).sum + 13 ≤ M.2.2.2.2.2) (hd : decode M.2.1 pc = .ok (.invokestatic index, 3)) (kk : J G sh M (pc + 3) lv (.long (if 0 < x then x else -x) :: st) μ Q) : J G sh M pc lv (.long x :: st) μ Q := by
  intro p e s m args below meth c H locs sz ls X
  have kk := kk p e s m args below meth c H locs sz ls X
  obtain ⟨x1, x2, x3, x4, x5, x6, x7, x8, x9, xa, xb, xc, xd, xe⟩ := X
  exact va_mabs_long x1 x2 (x3.trans xe.1.symm) x4 (j_hts x5 hw.1) (j_hts x5 hw.2.1) (j_hts x5 hw.2.2.1) (j_hts x5 hw.2.2.2) hf (by rw [j_cat_map]; exact hl) (Nat.zero_le _) (Nat.zero_le _) hd kk
/-! ===== arraycopy ===== -/
def j_acw (own : String) (idx : Nat) : Prop := Cond.methodLink own idx arraycopyName ∈ BIGW ∧ Cond.native arraycopyName ∈ BIGW ∧ Cond.static arraycopyName ∈ BIGW ∧ Cond.initialized "java/lang/System" ∈ BIGW
theorem J_copy {index o0 o1 n0 n1 : Nat} {sp dp n : Int32} (hw : j_acw M.1.cls index) (h0 : sh[o0]? = some (.inr (0, n0))) (h1 : sh[o1]? = some (.inr (0, n1))) (hs : ¬ sp < 0) (hp : ¬ dp < 0) (hn : ¬ n < 0) (h4 : sp.toNatClampNeg + n.toNatClampNeg ≤ n0) (h5 : dp.toNatClampNeg + n.toNatClampNeg ≤ n1) (hf : 1 ≤ M.2.2.2.2.1) (hl : (st.map Value.category).sum + (nativeFrameWords "java/lang/System" "arraycopy" 5 + 11) ≤ M.2.2.2.2.2) (hd : decode M.2.1 pc = .ok (.invokestatic index, 3)) (kk : J G sh M (pc + 3) lv st (jC μ o1 (va_cpy (μ.1 o0) (μ.1 o1) sp.toNatClampNeg dp.toNatClampNeg n.toNatClampNeg)) Q) : J G sh M pc lv (.int n :: .int dp :: .ref o1 :: .int sp :: .ref o0 :: st) μ Q := by
  intro p e s m args below meth c H locs sz ls X
  obtain ⟨x1, x2, x3, x4, x5, x6, x7, x8, x9, xa, xb, xc, xd, xe⟩ := X
  have hj : (j_W G sh μ).set o1 (G.2.2.2.2 o1, .inl (if (0 : Nat) = 0 then G.2.2.1 else G.2.2.2.1, n1, .inl (va_cpy (μ.1 o0) (μ.1 o1) sp.toNatClampNeg dp.toNatClampNeg n.toNatClampNeg))) = j_W G sh (jC μ o1 (va_cpy (μ.1 o0) (μ.1 o1) sp.toNatClampNeg dp.toNatClampNeg n.toNatClampNeg)) := j_w_C h1
  exact va_copyi x1 x2 (x3.trans xe.1.symm) x4 (j_hts x5 hw.1) (j_hts x5 hw.2.1) (j_hts x5 hw.2.2.1) (j_hts x5 hw.2.2.2) xa x9 xb xc o0 o1 0 0 (j_w_get h0) (j_w_get h1) rfl rfl rfl hs hp hn h4 h5 (fun i hi => rfl) hf (by rw [j_cat_map]; exact hl) hd (fun H1 locs1 hP hD hS => kk p e s m args below meth c H1 locs1 sz ls ⟨x1, x2, x3, x4, x5, x6, x7, x8, by rw [hj] at hP; exact hP, xa, by rw [hj] at hD; exact hD, hS, xd, xe⟩)
/-! ===== calls ===== -/
theorem j_run {p : Program} {e : Env} {R : Room} {s : State} {m : MethodId} {args : Array Value} {below : List Frame} {meth : Method} {c : Code} {H : Heap} {locs : List Loc} {Z : State → Prop} {ls : Array Slot} {st0 rest : List Value} {a : Array Value} {A0 : Nat → Prop} {Q1 : Option Value → JM → Prop}
    (hr : va_Run p G.1 e R s m args below meth c H locs 0 0 0 0 (F0 m pc ls st0) rest (j_Q G sh Q1 H.size a) (j_A (j_ad G) sh.length H.size)) (hS : va_S A0 s.heap H locs) (hA : ∀ q, j_A (j_ad G) sh.length H.size q → A0 q)
    (kk : ∀ (v : Option Value) (μ1 : JM) (H1 : Heap) (locs1 : List Loc), Q1 v μ1 → va_P G.2.1 vwCl (j_W G sh μ1) H1 → va_D (j_A (j_ad G) sh.length H.size) (j_W G sh μ1) → va_S A0 s.heap H1 locs1 → W p G.1 e R s m args below meth c H1 locs1 0 0 Z (F0 m (pc + 3) ls ((v.map (j_cv (j_ad G))).toList ++ rest))) : W p G.1 e R s m args below meth c H locs 0 0 Z (F0 m pc ls st0) := by
  intro T hT X
  obtain ⟨v, st₀, t, T', L, h0, X', hL, e1, e2, ⟨⟨w, μ1, hv, hq, hP, hK, hD⟩, hz, hk⟩, go⟩ := hr T hT X
  cases hv
  rw [h0] at hz hk
  obtain ⟨t2, a1, b1⟩ := kk w μ1 T'.heap (locs ++ L) hq (by rw [e1]; exact hP) hD
    ⟨Nat.le_trans hS.1 (by rw [e1]; exact hz), fun q h1 h2 => by rw [e1, hk q (Nat.lt_of_lt_of_le h1 hS.1) (fun z => h2 (hA q z))]; exact hS.2.1 q h1 h2, fun q hq => by
      rcases List.mem_append.mp hq with h | h
      · exact hS.2.2 q h
      · exact hA _ (hL q h)⟩ T' rfl X'
  exact ⟨t2, go t2 a1, b1⟩
theorem j_blind {as : List Value} {sz : Nat} : FrameBlind (va_Pc as (j_Pre G sh μ sz)) := by
  intro a U g mk h
  obtain ⟨h1, h2, h3, h4, h5, h6⟩ := h
  exact ⟨h1, h2, h3, va_K.moved (u := U) (U := U.calling g mk a) (Vm.Alike.refl U.vm) h4, h5, j_E_same (u := U) (U := U.calling g mk a) rfl h6⟩
theorem j_A_sub {ad : Nat → Nat} {n sz sz' : Nat} (h : sz ≤ sz') : ∀ q, j_A ad n sz' q → j_A ad n sz q := fun q hq => hq.elim Or.inl (fun h2 => Or.inr (Nat.le_trans h h2))
theorem j_pre_call {p : Program} {s : State} {m : MethodId} {args : Array Value} {meth : Method} {c : Code} {H : Heap} {locs : List Loc} {sz : Nat} {ls : Array Slot} (X : j_X G sh M p s m args meth c H locs sz ls lv μ) (as : List Value) : ∀ U : State, U.heap = H → s.WarmedH U.vm → va_Pc as (j_Pre G sh μ H.size) as.toArray U := by
  intro U hU hW
  obtain ⟨x1, x2, x3, x4, x5, x6, x7, x8, x9, xa, xb, xc, xd, xe⟩ := X
  refine ⟨rfl, by rw [hU], by rw [hU]; exact x9, xa.moved hW.alike, ⟨xb.1, fun k q hq => ?_⟩, ?_⟩
  · have hq2 := List.mem_map.mp (List.mem_of_getElem? hq)
    obtain ⟨o, ho, e⟩ := hq2
    exact Or.inl ⟨o, List.mem_range.mp ho, by rw [← e]⟩
  · rw [hU]
    exact j_E_go xd hW xc.2.1 (j_A_sub (by rw [← x8]; exact xc.1))
theorem j_D_back {sz sz' : Nat} {μ1 : JM} (h : va_D (j_A (j_ad G) sh.length sz') (j_W G sh μ1)) : va_D (j_A (j_ad G) sh.length sz) (j_W G sh μ1) := by
  refine ⟨h.1, fun k q hq => ?_⟩
  obtain ⟨o, ho, e⟩ := List.mem_map.mp (List.mem_of_getElem? hq)
  exact Or.inl ⟨o, List.mem_range.mp ho, by rw [← e]⟩
theorem j_good {M Mc : JMth} (h : Cond.code Mc.1 Mc.2.1 Mc.2.2.1 Mc.2.2.2.1 ∈ BIGW) : GoodIn (j_ws M) (j_ws Mc) := by
  intro w hw
  have hb : w ∈ BIGW := by
    rcases List.mem_cons.mp hw with rfl | h2
    · exact h
    · exact h2
  exact ⟨List.mem_cons_of_mem _ hb, big_good hb⟩
/-- what a call wants of the tables -/
def j_C (own : String) (idx : Nat) (Mc : JMth) (n : Nat) : Prop := (Cond.methodLink own idx Mc.1 ∈ BIGW ∨ ∃ host, Cond.methodLinkNest own idx Mc.1 host ∈ NESTW) ∧ Cond.initialized Mc.1.cls ∈ BIGW ∧ Cond.code Mc.1 Mc.2.1 Mc.2.2.1 Mc.2.2.2.1 ∈ BIGW ∧ (Mc.1.cls ≠ "java/lang/invoke/MethodHandle" ∧ Mc.1.cls ≠ "java/lang/invoke/VarHandle" ∧ (parseMethodDescriptor Mc.1.desc).map (fun d => d.parameters.length) = some n)
def j_V (own : String) (idx : Nat) (Mc : JMth) (ci n : Nat) : Prop := j_C own idx Mc n ∧ Cond.instanceMethod Mc.1 ∈ BIGW ∧ Cond.selects Mc.1.cls Mc.1 Mc.1 ∈ BIGW ∧ ∃ T N, vwCl[ci]? = some (Mc.1.cls, T, N)
def j_S (own : String) (idx : Nat) (Mc : JMth) (n : Nat) : Prop := j_C own idx Mc n ∧ Cond.static Mc.1 ∈ BIGW
/-- the callee's room fits -/
def j_R (M Mc : JMth) : Prop := Mc.2.2.2.2.1 + 1 ≤ M.2.2.2.2.1 ∧ 8 + (Mc.2.2.1 + 11) + Mc.2.2.2.2.2 ≤ M.2.2.2.2.2
theorem j_map_app (v : Option Value) (st : List Value) : (v.map (j_cv (j_ad G))).toList ++ st.map (j_cv (j_ad G)) = (v.toList ++ st).map (j_cv (j_ad G)) := by cases v <;> rfl
/-- a call of an instance method; the receiver's cell is told -/
theorem J_callR {Mc : JMth} {index n o : Nat} {as stk : List Value} {Q1 : Option Value → JM → Prop} (hf : j_C M.1.cls index Mc n ∧ Cond.instanceMethod Mc.1 ∈ BIGW ∧ Cond.selects Mc.1.cls Mc.1 Mc.1 ∈ BIGW) (hrec : ∀ (s : State) (H : Heap) (locs : List Loc) (sz : Nat), va_P G.2.1 vwCl (j_W G sh μ) H → va_K G.2.1 vwCl (j_ty G) s → va_S (j_A (j_ad G) sh.length sz) s.heap H locs → j_E (j_ad G) (j_A (j_ad G) sh.length sz) s s.heap → ∃ cell : Cell, H[j_ad G o]? = some cell ∧ cell.vm.isStatics = false ∧ s.vm.findClass Mc.1.cls = some cell.cls) (hd : decode M.2.1 pc = .ok (.invokevirtual index, 3)) (hc : Con G sh Mc (.ref o :: as) μ Q1) (hn : as.length = n) (hr : j_R M Mc) (hst : stk = as.reverse ++ .ref o :: st) (hw : (st.map Value.category).sum ≤ 8) (k : ∀ v μ1, Q1 v μ1 → J G sh M (pc + 3) lv (v.toList ++ st) μ1 Q) : J G sh M pc lv stk μ Q := by
  intro p e s m args below meth c H locs sz ls X
  have hpre := j_pre_call X
  obtain ⟨x1, x2, x3, x4, x5, x6, x7, x8, x9, xa, xb, xc, xd, xe⟩ := X
  obtain ⟨⟨f1, f2, f3, f4⟩, f5, f6⟩ := hf
  subst hst
  have hsub : ∀ q, j_A (j_ad G) sh.length H.size q → j_A (j_ad G) sh.length sz q := j_A_sub (by rw [← x8]; exact xc.1)
  have S : CallFix p m c M.2.1 M.2.2.1 s args (j_ws M) M.1.cls := ⟨x1, x2, x3, x4, x5⟩
  have hp : PreV s H Mc.1.cls (j_ad G o) (va_Pc ((Value.ref o :: as).map (j_cv (j_ad G))) (j_Pre G sh μ H.size)) (as.map (j_cv (j_ad G))) := ⟨j_blind, hrec s H locs sz x9 xa xc xd, hpre _⟩
  have hstk : (as.reverse ++ Value.ref o :: st).map (j_cv (j_ad G)) = (as.map (j_cv (j_ad G))).reverse ++ Value.ref (j_ad G o) :: st.map (j_cv (j_ad G)) := by
    rw [List.map_append, List.map_reverse]; rfl
  have go : ∀ (v : Option Value) (μ1 : JM) (H1 : Heap) (locs1 : List Loc), Q1 v μ1 → va_P G.2.1 vwCl (j_W G sh μ1) H1 → va_D (j_A (j_ad G) sh.length H.size) (j_W G sh μ1) → va_S (j_A (j_ad G) sh.length sz) s.heap H1 locs1 → W p G.1 e (j_rm M) s m args below meth c H1 locs1 0 0 (MQ below (j_Q G sh Q sz) args s 0 0 (j_A (j_ad G) sh.length sz)) (F0 m (pc + 3) ls ((v.map (j_cv (j_ad G))).toList ++ st.map (j_cv (j_ad G)))) := fun v μ1 H1 locs1 hq hP hD hS => by
    rw [j_map_app]
    exact k v μ1 hq p e s m args below meth c H1 locs1 sz ls ⟨x1, x2, x3, x4, x5, x6, x7, x8, hP, xa, j_D_back hD, hS, xd, xe⟩
  have hW : 2 * (F0 m pc ls ((as.reverse ++ Value.ref o :: st).map (j_cv (j_ad G)))).monitorRoom + ((st.map (j_cv (j_ad G))).map fun v => v.category).sum ≤ 8 := lv_room (by rw [j_cat_map]; exact hw)
  rcases f1 with f1 | ⟨host, f1⟩
  · exact j_run (va_runV (n := n) (y := Mc.1) (mc := 0) (ms := 0) S (hc H.size) ⟨callB_of n x5 (j_good f3) rfl rfl rfl (j_hts x5 f2) (j_hts x5 f1) f4 hr, j_hts x5 f5, j_hts x5 f6⟩ hp rfl (by rw [List.length_map]; exact hn) xe.1 hstk hW hd ⟨Nat.le_refl _, Nat.le_refl _⟩) xc hsub go
  · exact j_run (va_runVN (n := n) (y := Mc.1) (mc := 0) (ms := 0) S (hc H.size) ⟨va_cnB n x5 (j_good f3) rfl rfl rfl (xd.1 _ f1) (j_hts x5 f2) f4 hr, j_hts x5 f5, j_hts x5 f6⟩ hp rfl (by rw [List.length_map]; exact hn) xe.1 hstk hW hd ⟨Nat.le_refl _, Nat.le_refl _⟩) xc hsub go
theorem J_callV {Mc : JMth} {index n o ci : Nat} {ks : List Nat} {as stk : List Value} {Q1 : Option Value → JM → Prop} (hf : j_V M.1.cls index Mc ci n) (ho : sh[o]? = some (.inl (ci, ks))) (hd : decode M.2.1 pc = .ok (.invokevirtual index, 3)) (hc : Con G sh Mc (.ref o :: as) μ Q1) (hn : as.length = n) (hr : j_R M Mc) (hst : stk = as.reverse ++ .ref o :: st) (hw : (st.map Value.category).sum ≤ 8) (k : ∀ v μ1, Q1 v μ1 → J G sh M (pc + 3) lv (v.toList ++ st) μ1 Q) : J G sh M pc lv stk μ Q := by
  obtain ⟨f1, f2, f3, T, N, f4⟩ := hf
  exact J_callR ⟨f1, f2, f3⟩ (fun s H locs sz hP hK _ _ => va_recv hK hP f4 (j_w_get ho)) hd hc hn hr hst hw k
theorem J_callS {Mc : JMth} {index n : Nat} {as stk : List Value} {Q1 : Option Value → JM → Prop} (hf : j_S M.1.cls index Mc n) (hd : decode M.2.1 pc = .ok (.invokestatic index, 3)) (hc : Con G sh Mc as μ Q1) (hn : as.length = n) (hr : j_R M Mc) (hst : stk = as.reverse ++ st) (hw : (st.map Value.category).sum ≤ 8) (k : ∀ v μ1, Q1 v μ1 → J G sh M (pc + 3) lv (v.toList ++ st) μ1 Q) : J G sh M pc lv stk μ Q := by
  intro p e s m args below meth c H locs sz ls X
  have hpre := j_pre_call X
  obtain ⟨x1, x2, x3, x4, x5, x6, x7, x8, x9, xa, xb, xc, xd, xe⟩ := X
  obtain ⟨⟨f1, f2, f3, f4⟩, f5⟩ := hf
  subst hst
  have hsub : ∀ q, j_A (j_ad G) sh.length H.size q → j_A (j_ad G) sh.length sz q := j_A_sub (by rw [← x8]; exact xc.1)
  have S : CallFix p m c M.2.1 M.2.2.1 s args (j_ws M) M.1.cls := ⟨x1, x2, x3, x4, x5⟩
  have hp : PreS s H (va_Pc (as.map (j_cv (j_ad G))) (j_Pre G sh μ H.size)) (as.map (j_cv (j_ad G))) := ⟨j_blind, hpre _⟩
  have hstk : (as.reverse ++ st).map (j_cv (j_ad G)) = (as.map (j_cv (j_ad G))).reverse ++ st.map (j_cv (j_ad G)) := by
    rw [List.map_append, List.map_reverse]
  have go : ∀ (v : Option Value) (μ1 : JM) (H1 : Heap) (locs1 : List Loc), Q1 v μ1 → va_P G.2.1 vwCl (j_W G sh μ1) H1 → va_D (j_A (j_ad G) sh.length H.size) (j_W G sh μ1) → va_S (j_A (j_ad G) sh.length sz) s.heap H1 locs1 → W p G.1 e (j_rm M) s m args below meth c H1 locs1 0 0 (MQ below (j_Q G sh Q sz) args s 0 0 (j_A (j_ad G) sh.length sz)) (F0 m (pc + 3) ls ((v.map (j_cv (j_ad G))).toList ++ st.map (j_cv (j_ad G)))) := fun v μ1 H1 locs1 hq hP hD hS => by
    rw [j_map_app]
    exact k v μ1 hq p e s m args below meth c H1 locs1 sz ls ⟨x1, x2, x3, x4, x5, x6, x7, x8, hP, xa, j_D_back hD, hS, xd, xe⟩
  have hW : 2 * (F0 m pc ls ((as.reverse ++ st).map (j_cv (j_ad G)))).monitorRoom + ((st.map (j_cv (j_ad G))).map fun v => v.category).sum ≤ 8 := lv_room (by rw [j_cat_map]; exact hw)
  rcases f1 with f1 | ⟨host, f1⟩
  · exact j_run (va_runS (n := n) (y := Mc.1) (mc := 0) (ms := 0) S (hc H.size) ⟨callB_of n x5 (j_good f3) rfl rfl rfl (j_hts x5 f2) (j_hts x5 f1) f4 hr, j_hts x5 f5⟩ hp rfl (by rw [List.length_map]; exact hn) xe.1 hstk hW hd ⟨Nat.le_refl _, Nat.le_refl _⟩) xc hsub go
  · exact j_run (va_runSN (n := n) (y := Mc.1) (mc := 0) (ms := 0) S (hc H.size) ⟨va_cnB n x5 (j_good f3) rfl rfl rfl (xd.1 _ f1) (j_hts x5 f2) f4 hr, j_hts x5 f5, trivial⟩ hp rfl (by rw [List.length_map]; exact hn) xe.1 hstk hW hd ⟨Nat.le_refl _, Nat.le_refl _⟩) xc hsub go
/-- an answer and a memory known beforehand -/
def j_is (v : Option Value) (μ : JM) : Option Value → JM → Prop := fun w μ' => w = v ∧ μ' = μ
theorem J_callVd {Mc : JMth} {index n o ci : Nat} {ks : List Nat} {as stk : List Value} {v : Option Value} {μ1 : JM} (hf : j_V M.1.cls index Mc ci n) (ho : sh[o]? = some (.inl (ci, ks))) (hd : decode M.2.1 pc = .ok (.invokevirtual index, 3)) (hc : Con G sh Mc (.ref o :: as) μ (j_is v μ1)) (hn : as.length = n) (hr : j_R M Mc) (hst : stk = as.reverse ++ .ref o :: st) (hw : (st.map Value.category).sum ≤ 8) (k : J G sh M (pc + 3) lv (v.toList ++ st) μ1 Q) : J G sh M pc lv stk μ Q :=
  J_callV hf ho hd hc hn hr hst hw (fun w μ2 h => by rw [h.1, h.2]; exact k)
theorem J_callSd {Mc : JMth} {index n : Nat} {as stk : List Value} {v : Option Value} {μ1 : JM} (hf : j_S M.1.cls index Mc n) (hd : decode M.2.1 pc = .ok (.invokestatic index, 3)) (hc : Con G sh Mc as μ (j_is v μ1)) (hn : as.length = n) (hr : j_R M Mc) (hst : stk = as.reverse ++ st) (hw : (st.map Value.category).sum ≤ 8) (k : J G sh M (pc + 3) lv (v.toList ++ st) μ1 Q) : J G sh M pc lv stk μ Q :=
  J_callS hf hd hc hn hr hst hw (fun w μ2 h => by rw [h.1, h.2]; exact k)
/-- an answer yes or no, the memory known in each case -/
def j_b (c : Prop) (μ1 μ0 : JM) : Option Value → JM → Prop := fun w μ' => (c ∧ w = some (.int 1) ∧ μ' = μ1) ∨ (¬ c ∧ w = some (.int 0) ∧ μ' = μ0)
theorem J_callVb {Mc : JMth} {index n o ci : Nat} {ks : List Nat} {as stk : List Value} {cc : Prop} {μ1 μ0 : JM} (hf : j_V M.1.cls index Mc ci n) (ho : sh[o]? = some (.inl (ci, ks))) (hd : decode M.2.1 pc = .ok (.invokevirtual index, 3)) (hc : Con G sh Mc (.ref o :: as) μ (j_b cc μ1 μ0)) (hn : as.length = n) (hr : j_R M Mc) (hst : stk = as.reverse ++ .ref o :: st) (hw : (st.map Value.category).sum ≤ 8) (k1 : cc → J G sh M (pc + 3) lv (.int 1 :: st) μ1 Q) (k0 : ¬ cc → J G sh M (pc + 3) lv (.int 0 :: st) μ0 Q) : J G sh M pc lv stk μ Q :=
  J_callV hf ho hd hc hn hr hst hw (fun w μ2 h => by
    rcases h with ⟨h1, rfl, rfl⟩ | ⟨h1, rfl, rfl⟩
    · exact k1 h1
    · exact k0 h1)
theorem J_callSb {Mc : JMth} {index n : Nat} {as stk : List Value} {cc : Prop} {μ1 μ0 : JM} (hf : j_S M.1.cls index Mc n) (hd : decode M.2.1 pc = .ok (.invokestatic index, 3)) (hc : Con G sh Mc as μ (j_b cc μ1 μ0)) (hn : as.length = n) (hr : j_R M Mc) (hst : stk = as.reverse ++ st) (hw : (st.map Value.category).sum ≤ 8) (k1 : cc → J G sh M (pc + 3) lv (.int 1 :: st) μ1 Q) (k0 : ¬ cc → J G sh M (pc + 3) lv (.int 0 :: st) μ0 Q) : J G sh M pc lv stk μ Q :=
  J_callS hf hd hc hn hr hst hw (fun w μ2 h => by
    rcases h with ⟨h1, rfl, rfl⟩ | ⟨h1, rfl, rfl⟩
    · exact k1 h1
    · exact k0 h1)
end JC

def j_tl : List Nat := [3, 4, 5, 3, 3]
def j_tbt : List (List Int32) := [[106, 97, 114], [109, 111, 111, 100], [98, 111, 117, 110, 100], [118, 111, 119], [115, 97, 121]]
/-- what a method may lean on beside its own world -/
def j_E (ad : Nat → Nat) (A : Nat → Prop) (U : State) (H : Heap) : Prop :=
  (∀ w ∈ NESTW, va_Nw w U) ∧ (∀ (j : Nat) (x : String × Nat × (Nat → Int32)), j_tb[j]? = some x → va_Z RX3 x.1 "[I" (.ref (ad (1000 + j))) A U H ∧ va_T .int (ad (1000 + j)) x.2.1 (fun i => .int (x.2.2 i)) A U H) ∧
  (vk_S 5 j_tl j_tbt (fun i => ad (1010 + i)) (fun i => ad (1020 + i)) A U H ∧ ∀ (i : Nat) (x : Nat × String), j_tx[i]? = some x → vk_R RX3 x.1 x.2 (ad (1010 + i)) U) ∧
  va_Z "java/lang/String" "COMPACT_STRINGS" "Z" (.int 1) A U H ∧ va_Zq "jdk/internal/util/Preconditions" "SIOOBE_FORMATTER" "Ljava/util/function/BiFunction;" A U H
theorem j_E_go {ad : Nat → Nat} {A B : Nat → Prop} {s U : State} {H : Heap} (h : j_E ad A s s.heap) (hW : s.WarmedH U.vm) (hk : ∀ a : Nat, a < s.heap.size → ¬ A a → H[a]? = s.heap[a]?) (hAB : ∀ q, B q → A q) : j_E ad B U H := by
  obtain ⟨h1, h2, ⟨h3, h4⟩, h5, h6⟩ := h
  exact ⟨fun w hw => nest_warm hw hW (h1 w hw), fun j x hx => ⟨((h2 j x hx).1.moved hW.alike |>.kept hk).narrow hAB, ((h2 j x hx).2.moved hW.alike |>.kept hk).narrow hAB⟩, ⟨((h3.moved hW.alike).kept hk).narrow hAB, fun i x hx => (h4 i x hx).warm hW⟩, ((h5.moved hW.alike).kept hk).narrow hAB, ((h6.moved hW.alike).kept hk).narrow hAB⟩
theorem j_E_same {ad : Nat → Nat} {A : Nat → Prop} {u U : State} {H : Heap} (hv : u.vm = U.vm) (h : j_E ad A u H) : j_E ad A U H := by
  obtain ⟨h1, h2, ⟨h3, h4⟩, h5, h6⟩ := h
  have al : u.vm.Alike U.vm := by rw [hv]; exact Vm.Alike.refl _
  exact ⟨fun w hw => nest_same hw hv (h1 w hw), fun j x hx => ⟨(h2 j x hx).1.moved al, (h2 j x hx).2.moved al⟩, ⟨h3.moved al, fun i x hx => (h4 i x hx).same hv.symm⟩, h5.moved al, h6.moved al⟩
/-! ===== contracts and walks ===== -/
abbrev j_ty (G : JG) : List (ClassId × FieldType) := [(G.2.2.1, .int), (G.2.2.2.1, .boolean)]
abbrev j_W (G : JG) (sh : List JSh) (μ : JM) : va_W := j_w G.2.2.1 G.2.2.2.1 G.2.2.2.2 sh μ
abbrev j_ad (G : JG) : Nat → Nat := G.2.2.2.2
def j_ws (M : JMth) : List Cond := .code M.1 M.2.1 M.2.2.1 M.2.2.2.1 :: BIGW
def j_rm (M : JMth) : Room := { frames := M.2.2.2.2.1, cells := 0, slots := 0, locals := M.2.2.2.2.2 }
def j_Pre (G : JG) (sh : List JSh) (μ : JM) (sz : Nat) : State → Prop := fun U => U.heap.size = sz ∧ va_P G.2.1 vwCl (j_W G sh μ) U.heap ∧ va_K G.2.1 vwCl (j_ty G) U ∧ va_D (j_A (j_ad G) sh.length sz) (j_W G sh μ) ∧ j_E (j_ad G) (j_A (j_ad G) sh.length sz) U U.heap
def j_Q (G : JG) (sh : List JSh) (Q : Option Value → JM → Prop) (sz : Nat) : Array Value → State → Outcome → State → Prop := fun _ st o t => (∃ (v : Option Value) (μ : JM), o = .returned (v.map (j_cv (j_ad G))) ∧ Q v μ ∧ va_P G.2.1 vwCl (j_W G sh μ) t.heap ∧ va_K G.2.1 vwCl (j_ty G) t ∧ va_D (j_A (j_ad G) sh.length sz) (j_W G sh μ)) ∧ va_F (j_A (j_ad G) sh.length sz) st t
/-- a method's contract: from this memory it returns, and Q holds of its answer and the memory then -/
def Con (G : JG) (sh : List JSh) (M : JMth) (as : List Value) (μ : JM) (Q : Option Value → JM → Prop) : Prop := ∀ sz : Nat, Met G.1 M.1 (j_ws M) (j_rm M) (va_Pc (as.map (j_cv (j_ad G))) (j_Pre G sh μ sz)) (j_Q G sh Q sz) 0 0 (j_A (j_ad G) sh.length sz)
def j_X (G : JG) (sh : List JSh) (M : JMth) (p : Program) (s : State) (m : MethodId) (args : Array Value) (meth : Method) (c : Code) (H : Heap) (locs : List Loc) (sz : Nat) (ls : Array Slot) (lv : List (Option Value)) (μ : JM) : Prop :=
  p.tables.exec = Jvm.exec ∧ c.code = M.2.1 ∧ c.maxLocals = M.2.2.1 ∧ s.vm.findClass M.1.cls = some m.cls ∧ (∀ w ∈ j_ws M, w.before args s = true) ∧ meth.sig.returnType = M.2.2.2.1 ∧ meth.locks = false ∧ s.heap.size = sz ∧
  va_P G.2.1 vwCl (j_W G sh μ) H ∧ va_K G.2.1 vwCl (j_ty G) s ∧ va_D (j_A (j_ad G) sh.length sz) (j_W G sh μ) ∧ va_S (j_A (j_ad G) sh.length sz) s.heap H locs ∧ j_E (j_ad G) (j_A (j_ad G) sh.length sz) s s.heap ∧ lv_has ls M.2.2.1 (j_l (j_ad G) 0 lv)
/-- the machine at pc of method M, with these locals, this stack, this memory, comes to its end with Q -/
def J (G : JG) (sh : List JSh) (M : JMth) (pc : Nat) (lv : List (Option Value)) (st : List Value) (μ : JM) (Q : Option Value → JM → Prop) : Prop :=
  ∀ (p : Program) (e : Env) (s : State) (m : MethodId) (args : Array Value) (below : List Frame) (meth : Method) (c : Code) (H : Heap) (locs : List Loc) (sz : Nat) (ls : Array Slot), j_X G sh M p s m args meth c H locs sz ls lv μ →
  W p G.1 e (j_rm M) s m args below meth c H locs 0 0 (MQ below (j_Q G sh Q sz) args s 0 0 (j_A (j_ad G) sh.length sz)) (F0 m pc ls (st.map (j_cv (j_ad G))))
theorem Con_of {G : JG} {sh : List JSh} {M : JMth} {as : List Value} {μ : JM} {Q : Option Value → JM → Prop} (lv : List (Option Value)) (hy : plainName M.1.cls = true) (hn : (lg_sl (as.map (j_cv (j_ad G)))).length ≤ M.2.2.1) (hl : ∀ q ∈ j_l (j_ad G) 0 lv, q ∈ lv_args 0 (as.map (j_cv (j_ad G)))) (k : J G sh M 0 lv [] μ Q) : Con G sh M as μ Q := by
  intro sz
  refine Met.ofW (cc := M.2.1) (maxL := M.2.2.1) (ret := M.2.2.2.1) hy rfl ?_
  intro p e s m args below meth c s₁ B hml hv
  obtain ⟨rfl, hsz, hP, hK, hD, hE⟩ := hv
  rw [lg_entry_eq]
  exact k p e s m _ below meth c s.heap [] sz _ ⟨B.exec, B.bytes, hml, findClass_of_methodNamed B.named, atoms_spec (ws := j_ws M) B.pre, B.returns, B.notSynchronized, hsz, hP, hK, hD, va_S.rf, hE, j_has_sub (lv_entry _ hn) hl⟩
/-- a weaker end -/
theorem Con_mono {G : JG} {sh : List JSh} {M : JMth} {as : List Value} {μ : JM} {Q Q' : Option Value → JM → Prop} (h : Con G sh M as μ Q) (hQ : ∀ v μ', Q v μ' → Q' v μ') : Con G sh M as μ Q' := by
  intro sz p e ha hc hk s m args below hf hs hp ht
  obtain ⟨t, o, h1, h2, h3, ⟨⟨⟨v, μ', g1, g2, g3⟩, g4⟩, h5⟩⟩ := h sz p e ha hc hk s m args below hf hs hp ht
  exact ⟨t, o, h1, h2, h3, ⟨⟨⟨v, μ', g1, hQ v μ' g2, g3⟩, g4⟩, h5⟩⟩
theorem J_mono {G : JG} {sh : List JSh} {M : JMth} {pc : Nat} {lv : List (Option Value)} {st : List Value} {μ : JM} {Q Q' : Option Value → JM → Prop} (h : J G sh M pc lv st μ Q) (hQ : ∀ v μ', Q v μ' → Q' v μ') : J G sh M pc lv st μ Q' := by
  intro p e s m args below meth c H locs sz ls X T hT S
  obtain ⟨t, h1, o, h2, h3, ⟨⟨v, μ', g1, g2, g3⟩, g4⟩, h5⟩ := h p e s m args below meth c H locs sz ls X T hT S
  exact ⟨t, h1, o, h2, h3, ⟨⟨v, μ', g1, hQ v μ' g2, g3⟩, g4⟩, h5⟩
/-- fewer locals are known -/
theorem J_lv {G : JG} {sh : List JSh} {M : JMth} {pc : Nat} {lv lv' : List (Option Value)} {st : List Value} {μ : JM} {Q : Option Value → JM → Prop} (hs : ∀ (i : Nat) (v : Value), lv'[i]? = some (some v) → lv[i]? = some (some v)) (h : J G sh M pc lv' st μ Q) : J G sh M pc lv st μ Q := by
  intro p e s m args below meth c H locs sz ls X
  obtain ⟨x1, x2, x3, x4, x5, x6, x7, x8, x9, xa, xb, xc, xd, xe⟩ := X
  refine h p e s m args below meth c H locs sz ls ⟨x1, x2, x3, x4, x5, x6, x7, x8, x9, xa, xb, xc, xd, j_has_sub xe (fun q hq => ?_)⟩
  obtain ⟨j, v, h1, e1⟩ := j_l_mem.mp hq
  exact j_l_mem.mpr ⟨j, v, hs j v h1, e1⟩

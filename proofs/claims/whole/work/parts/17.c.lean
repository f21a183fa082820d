/-! ===== a static table's numbers copied into a row of the world ===== -/
theorem J_copyT {G : JG} {sh : List JSh} {M : JMth} {pc : Nat} {lv : List (Option Value)} {st : List Value} {μ : JM} {Q : Option Value → JM → Prop} {index j o1 n1 n : Nat} {v : Int32} {x : String × Nat × (Nat → Int32)} (hw : j_acw M.1.cls index) (hj : j_tb[j]? = some x) (h1 : sh[o1]? = some (.inr (0, n1))) (hv : v = nI n) (hn : n ≤ x.2.1) (hn1 : n ≤ n1) (hlt : n < 2 ^ 31) (hf : 1 ≤ M.2.2.2.2.1) (hl : (st.map Value.category).sum + (nativeFrameWords "java/lang/System" "arraycopy" 5 + 11) ≤ M.2.2.2.2.2) (hd : decode M.2.1 pc = .ok (.invokestatic index, 3)) (kk : J G sh M (pc + 3) lv st (jC μ o1 (fun i => if i < n then x.2.2 i else μ.1 o1 i)) Q) : J G sh M pc lv (.int v :: .int 0 :: .ref o1 :: .int 0 :: .ref (1000 + j) :: st) μ Q := by
  intro p e s m args below meth c H locs sz ls X
  obtain ⟨x1, x2, x3, x4, x5, x6, x7, x8, x9, xa, xb, xc, xd, xe⟩ := X
  have hcp : va_cpy x.2.2 (μ.1 o1) 0 0 n = fun i => if i < n then x.2.2 i else μ.1 o1 i := by
    funext i
    simp [va_cpy]
  have hset : (j_W G sh μ).set o1 (G.2.2.2.2 o1, .inl (G.2.2.1, n1, .inl (va_cpy x.2.2 (μ.1 o1) 0 0 n))) = j_W G sh (jC μ o1 (fun i => if i < n then x.2.2 i else μ.1 o1 i)) := by
    rw [hcp]
    exact j_w_C h1
  have ha1 : (j_W G sh μ)[o1]? = some (G.2.2.2.2 o1, .inl (G.2.2.1, n1, .inl (μ.1 o1))) := j_w_get h1
  subst hv
  intro T hT Y
  obtain ⟨-, scr, c1, ⟨c2, k0, hk0, cm0, hkk0⟩, c3, c4, -, c6, c7⟩ := xd.2.1 j x hj
  have hsrc : H[j_ad G (1000 + j)]? = some scr := by rw [xc.2.1 _ (Array.getElem?_eq_some_iff.mp c1).1 c7]; exact c1
  have hdst : H[G.2.2.2.2 o1]? = some (vp_cell G.2.2.1 (n1, .inl (μ.1 o1))) := x9 o1 _ ha1
  obtain ⟨-, k1, hk1, cm1, hkk1⟩ := (xa.2 0 (G.2.2.1, .int) rfl).1 n1 (fun i => .int (μ.1 o1 i))
  have hnI : (nI n).toInt = n := nI_toInt hlt
  have hnN : (nI n).toNatClampNeg = n := nI_clamp hlt
  obtain ⟨vm', Y', step⟩ := Y.arraycopy x1 x4 (j_hts x5 hw.1) (j_hts x5 hw.2.1) (j_hts x5 hw.2.2.1) (j_hts x5 hw.2.2.2) (src := j_ad G (1000 + j)) (dst := G.2.2.2.2 o1) (srcPos := 0) (destPos := 0) (n := nI n) (cs := scr) (cd := vp_cell G.2.2.1 (n1, .inl (μ.1 o1)))
    (by rw [hT]; exact hsrc) (by rw [hT]; exact hdst) c2 (fun _ h => by cases h) c3 (fun h => by cases h) hk0 hk1 hkk0 hkk1 (by simp [refKind]) (by decide) (by decide) (nI_pos hlt)
    (by rw [hnI, z0]; omega)
    (by rw [hnI, z0]; show ¬ _ > ((arrV G.2.2.1 n1 (fun i => .int (μ.1 o1 i))).slots.size : Int); rw [arrV_size]; omega)
    (fun vm₁ _ i hi => by
      rw [hnN] at hi
      have e1 : scr.slots.getD ((0 : Int32).toNatClampNeg + i) .null = .int (x.2.2 i) := by
        rw [Array.getD_eq_getD_getElem?, show (0 : Int32).toNatClampNeg + i = i by rw [show (0 : Int32).toNatClampNeg = 0 from rfl, Nat.zero_add], c6 i (by omega)]
        rfl
      exact ⟨by rw [e1]; rfl, by rw [e1]; exact trivial⟩)
    (g := F0 m pc ls ((Value.int (nI n) :: .int 0 :: .ref o1 :: .int 0 :: .ref (1000 + j) :: st).map (j_cv (j_ad G)))) rfl (by rw [x3]; exact xe.1) (rest := st.map (j_cv (j_ad G))) rfl (by rw [x2]; exact hd) hf (by rw [j_cat_map]; show 2 * 0 + _ + _ ≤ M.2.2.2.2.2; omega)
  have e1 : copied scr (vp_cell G.2.2.1 (n1, .inl (μ.1 o1))) 0 0 (nI n) = vp_cell G.2.2.1 (n1, .inl (va_cpy x.2.2 (μ.1 o1) 0 0 n)) := by
    have q := va_copiedX (fun z => Value.int z) scr G.2.2.1 (sp := 0) (dp := 0) (n := n) (n1 := n1) x.2.2 (μ.1 o1) c6 (by omega)
    show (arrV G.2.2.1 n1 (fun i => .int (μ.1 o1 i))).storeRun (0 : Int32).toNatClampNeg (scr.stretch (0 : Int32).toNatClampNeg (nI n).toNatClampNeg) = _
    rw [hnN]
    exact q
  rw [e1] at Y' step
  have hlt2 : G.2.2.2.2 o1 < H.size := (Array.getElem?_eq_some_iff.mp hdst).1
  have hheap : ((T.setVm vm').setCell (G.2.2.2.2 o1) (vp_cell G.2.2.1 (n1, .inl (va_cpy x.2.2 (μ.1 o1) 0 0 n)))).heap = H.setIfInBounds (G.2.2.2.2 o1) (vp_cell G.2.2.1 (n1, .inl (va_cpy x.2.2 (μ.1 o1) 0 0 n))) := by rw [← hT]; rfl
  have oq : ∀ q : Nat, q ≠ G.2.2.2.2 o1 → (H.setIfInBounds (G.2.2.2.2 o1) (vp_cell G.2.2.1 (n1, .inl (va_cpy x.2.2 (μ.1 o1) 0 0 n))))[q]? = H[q]? := fun q hq => by simp [Array.getElem?_setIfInBounds, Ne.symm hq]
  have hP := x9.set xb ha1 (e := .inl (G.2.2.1, n1, .inl (va_cpy x.2.2 (μ.1 o1) 0 0 n))) (show (H.setIfInBounds (G.2.2.2.2 o1) _)[G.2.2.2.2 o1]? = some _ by simp [Array.getElem?_setIfInBounds, hlt2]) oq
  have hD := xb.set (e := .inl (G.2.2.1, n1, .inl (va_cpy x.2.2 (μ.1 o1) 0 0 n))) ha1
  rw [hset] at hP hD
  obtain ⟨t, a1, b1⟩ := kk p e s m args below meth c _ _ sz ls ⟨x1, x2, x3, x4, x5, x6, x7, x8, hP, xa, hD, ⟨by simp; exact xc.1, fun q g1 g2 => by
      rw [oq q (fun z => g2 (by rw [z]; exact xb.2 o1 _ ha1))]
      exact xc.2.1 q g1 g2, fun q hq => by
      rcases List.mem_append.mp hq with h | h
      · exact xc.2.2 q h
      · obtain ⟨z, -, hz⟩ := List.mem_map.mp h
        rw [← hz]
        exact xb.2 o1 _ ha1⟩, xd, xe⟩ _ hheap Y'
  exact ⟨t, step t a1, b1⟩
theorem J_copyW {G : JG} {sh : List JSh} {M : JMth} {pc : Nat} {lv : List (Option Value)} {st : List Value} {μ : JM} {Q : Option Value → JM → Prop} {index o0 o1 n0 n1 : Nat} {sp dp n : Int32} (s d c : Nat) (es : sp.toNatClampNeg = s) (ed : dp.toNatClampNeg = d) (ec : n.toNatClampNeg = c) (hs : ¬ sp < 0) (hp : ¬ dp < 0) (hn : ¬ n < 0) (hw : j_acw M.1.cls index) (h0 : sh[o0]? = some (.inr (0, n0))) (h1 : sh[o1]? = some (.inr (0, n1))) (h4 : s + c ≤ n0) (h5 : d + c ≤ n1) (hf : 1 ≤ M.2.2.2.2.1) (hl : (st.map Value.category).sum + (nativeFrameWords "java/lang/System" "arraycopy" 5 + 11) ≤ M.2.2.2.2.2) (hd : decode M.2.1 pc = .ok (.invokestatic index, 3)) (kk : ∀ μ' : JM, μ' = jC μ o1 (va_cpy (μ.1 o0) (μ.1 o1) s d c) → J G sh M (pc + 3) lv st μ' Q) : J G sh M pc lv (.int n :: .int dp :: .ref o1 :: .int sp :: .ref o0 :: st) μ Q := by
  subst es ed ec
  exact J_copy hw h0 h1 hs hp hn h4 h5 hf hl hd (kk _ rfl)
/-- fewer locals -/
def j_sub : List (Option Value) → List (Option Value) → Prop
  | [], _ => True
  | none :: _, [] => False
  | none :: t, _ :: t' => j_sub t t'
  | some _ :: _, [] => False
  | some v :: t, w :: t' => w = some v ∧ j_sub t t'
theorem j_sub_get : ∀ {l' l : List (Option Value)}, j_sub l' l → ∀ (i : Nat) (v : Value), l'[i]? = some (some v) → l[i]? = some (some v)
  | [], _, _, i, v, h => by simp at h
  | none :: t, [], hs, _, _, _ => hs.elim
  | none :: t, w :: t', hs, 0, v, h => by simp at h
  | none :: t, w :: t', hs, i + 1, v, h => by simpa using j_sub_get (l' := t) (l := t') hs i v (by simpa using h)
  | some u :: t, [], hs, _, _, _ => hs.elim
  | some u :: t, w :: t', hs, 0, v, h => by
    have h2 : u = v := by simpa using h
    rw [← h2]
    simpa using hs.1
  | some u :: t, w :: t', hs, i + 1, v, h => by simpa using j_sub_get (l' := t) (l := t') hs.2 i v (by simpa using h)
theorem J_lv' {G : JG} {sh : List JSh} {M : JMth} {pc : Nat} {lv lv' : List (Option Value)} {st : List Value} {μ : JM} {Q : Option Value → JM → Prop} (hs : j_sub lv' lv) (h : J G sh M pc lv' st μ Q) : J G sh M pc lv st μ Q := J_lv (j_sub_get hs) h
/-- an int by its number -/
def iZ (x : Int) : Int32 := Int32.ofInt x
theorem iZ_of {z : Int32} {x : Int} (h : z.toInt = x) : z = iZ x := by rw [← h]; exact (Int32.ofInt_toInt z).symm
theorem iZ_i {x : Int} (h : -2147483648 ≤ x ∧ x < 2147483648) : (iZ x).toInt = x := by
  unfold iZ
  rw [Int32.toInt_ofInt, z_bm h]
theorem iZ_t (z : Int32) : iZ z.toInt = z := Int32.ofInt_toInt z
theorem J_copyTW {G : JG} {sh : List JSh} {M : JMth} {pc : Nat} {lv : List (Option Value)} {st : List Value} {μ : JM} {Q : Option Value → JM → Prop} {index j o1 n1 n : Nat} {v : Int32} {x : String × Nat × (Nat → Int32)} (hw : j_acw M.1.cls index) (hj : j_tb[j]? = some x) (h1 : sh[o1]? = some (.inr (0, n1))) (hv : v = nI n) (hn : n ≤ x.2.1) (hn1 : n ≤ n1) (hlt : n < 2 ^ 31) (hf : 1 ≤ M.2.2.2.2.1) (hl : (st.map Value.category).sum + (nativeFrameWords "java/lang/System" "arraycopy" 5 + 11) ≤ M.2.2.2.2.2) (hd : decode M.2.1 pc = .ok (.invokestatic index, 3)) (kk : ∀ μ' : JM, μ' = jC μ o1 (fun i => if i < n then x.2.2 i else μ.1 o1 i) → J G sh M (pc + 3) lv st μ' Q) : J G sh M pc lv (.int v :: .int 0 :: .ref o1 :: .int 0 :: .ref (1000 + j) :: st) μ Q := J_copyT hw hj h1 hv hn hn1 hlt hf hl hd (kk _ rfl)
/-- a loop that counts up to N -/
theorem loop_up (N : Nat) {P : Nat → Prop} (h : ∀ i, i ≤ N → (∀ j, i < j → j ≤ N → P j) → P i) : ∀ i, i ≤ N → P i := by
  have key : ∀ d i, N - i ≤ d → i ≤ N → P i := by
    intro d
    induction d with
    | zero => exact fun i hd hi => h i hi (fun j h1 h2 => by omega)
    | succ d ih => exact fun i hd hi => h i hi (fun j h1 h2 => ih j (by omega) h2)
  exact fun i hi => key (N - i) i (Nat.le_refl _) hi

section JR
variable {G : JG} {sh : List JSh} {M : JMth} {pc : Nat} {lv : List (Option Value)} {st : List Value} {μ : JM} {Q : Option Value → JM → Prop}
theorem J_iconst {n : Int} {v : Int32} (hd : decode M.2.1 pc = .ok (.iconst n, 1)) (hv : Int32.ofInt n = v) (k : J G sh M (pc + 1) lv (.int v :: st) μ Q) : J G sh M pc lv (st) μ Q := by
  intro p e s m args below meth c H locs sz ls X
  exact lv_iconst X.1 X.2.1 hd hv (k p e s m args below meth c H locs sz ls X)
theorem J_bipush {n : Int} {v : Int32} (hd : decode M.2.1 pc = .ok (.bipush n, 2)) (hv : (Int8.ofInt n).toInt32 = v) (k : J G sh M (pc + 2) lv (.int v :: st) μ Q) : J G sh M pc lv (st) μ Q := by
  intro p e s m args below meth c H locs sz ls X
  exact lv_bipush X.1 X.2.1 hd hv (k p e s m args below meth c H locs sz ls X)
theorem J_sipush {n : Int} {v : Int32} (hd : decode M.2.1 pc = .ok (.sipush n, 3)) (hv : (Int16.ofInt n).toInt32 = v) (k : J G sh M (pc + 3) lv (.int v :: st) μ Q) : J G sh M pc lv (st) μ Q := by
  intro p e s m args below meth c H locs sz ls X
  exact lv_sipush X.1 X.2.1 hd hv (k p e s m args below meth c H locs sz ls X)
theorem J_lconst {n : Fin 2} {v : Int64} (hd : decode M.2.1 pc = .ok (.lconst n, 1)) (hv : Int64.ofNat (n : Nat) = v) (k : J G sh M (pc + 1) lv (.long v :: st) μ Q) : J G sh M pc lv (st) μ Q := by
  intro p e s m args below meth c H locs sz ls X
  exact lv_lconst X.1 X.2.1 hd hv (k p e s m args below meth c H locs sz ls X)
theorem J_iload_n {k : Fin 4} {x : Int32} (hd : decode M.2.1 pc = .ok (.iload_n k, 1)) (hl : lv[(k : Nat)]? = some (some (.int x))) (k' : J G sh M (pc + 1) lv (.int x :: st) μ Q) : J G sh M pc lv st μ Q := by
  intro p e s m args below meth c H locs sz ls X
  exact lv_iload_n X.1 X.2.1 hd rfl (j_has_get X.2.2.2.2.2.2.2.2.2.2.2.2.2 hl) (k' p e s m args below meth c H locs sz ls X)
theorem J_iload {i : Nat} {x : Int32} (hd : decode M.2.1 pc = .ok (.iload i, 2)) (hl : lv[i]? = some (some (.int x))) (k : J G sh M (pc + 2) lv (.int x :: st) μ Q) : J G sh M pc lv st μ Q := by
  intro p e s m args below meth c H locs sz ls X
  exact lv_iload X.1 X.2.1 hd (j_has_get X.2.2.2.2.2.2.2.2.2.2.2.2.2 hl) (k p e s m args below meth c H locs sz ls X)
theorem J_lload_n {k : Fin 4} {x : Int64} (hd : decode M.2.1 pc = .ok (.lload_n k, 1)) (hl : lv[(k : Nat)]? = some (some (.long x))) (k' : J G sh M (pc + 1) lv (.long x :: st) μ Q) : J G sh M pc lv st μ Q := by
  intro p e s m args below meth c H locs sz ls X
  exact lv_lload_n X.1 X.2.1 hd rfl (j_has_get X.2.2.2.2.2.2.2.2.2.2.2.2.2 hl) (k' p e s m args below meth c H locs sz ls X)
theorem J_lload {i : Nat} {x : Int64} (hd : decode M.2.1 pc = .ok (.lload i, 2)) (hl : lv[i]? = some (some (.long x))) (k : J G sh M (pc + 2) lv (.long x :: st) μ Q) : J G sh M pc lv st μ Q := by
  intro p e s m args below meth c H locs sz ls X
  exact lv_lload X.1 X.2.1 hd (j_has_get X.2.2.2.2.2.2.2.2.2.2.2.2.2 hl) (k p e s m args below meth c H locs sz ls X)
theorem J_aload_n {k : Fin 4} {x : Nat} (hd : decode M.2.1 pc = .ok (.aload_n k, 1)) (hl : lv[(k : Nat)]? = some (some (.ref x))) (k' : J G sh M (pc + 1) lv (.ref x :: st) μ Q) : J G sh M pc lv st μ Q := by
  intro p e s m args below meth c H locs sz ls X
  exact lv_aload_n X.1 X.2.1 hd rfl (j_has_get X.2.2.2.2.2.2.2.2.2.2.2.2.2 hl) (k' p e s m args below meth c H locs sz ls X)
theorem J_aload {i : Nat} {x : Nat} (hd : decode M.2.1 pc = .ok (.aload i, 2)) (hl : lv[i]? = some (some (.ref x))) (k : J G sh M (pc + 2) lv (.ref x :: st) μ Q) : J G sh M pc lv st μ Q := by
  intro p e s m args below meth c H locs sz ls X
  exact lv_aload X.1 X.2.1 hd (j_has_get X.2.2.2.2.2.2.2.2.2.2.2.2.2 hl) (k p e s m args below meth c H locs sz ls X)
theorem J_istore_n {k : Fin 4} {x : Int32} {lv' : List (Option Value)} (hd : decode M.2.1 pc = .ok (.istore_n k, 1)) (hn : (k : Nat) < M.2.2.1) (ho : j_ok lv (k : Nat) = true) (hl : (lv.set (k : Nat) (some (.int x))) = lv') (k' : J G sh M (pc + 1) lv' st μ Q) : J G sh M pc lv (.int x :: st) μ Q := by
  intro p e s m args below meth c H locs sz ls X
  obtain ⟨x1, x2, x3, x4, x5, x6, x7, x8, x9, xa, xb, xc, xd, xe⟩ := X
  exact lv_istore_n x1 x2 hd rfl xe hn rfl (fun ls' h' => k' p e s m args below meth c H locs sz ls' ⟨x1, x2, x3, x4, x5, x6, x7, x8, x9, xa, xb, xc, xd, by rw [← hl]; exact j_has_sub h' (j_l_st1 (v := .int x) ho)⟩)
theorem J_istore {i : Nat} {x : Int32} {lv' : List (Option Value)} (hd : decode M.2.1 pc = .ok (.istore i, 2)) (hn : i < M.2.2.1) (ho : j_ok lv i = true) (hl : (lv.set i (some (.int x))) = lv') (k' : J G sh M (pc + 2) lv' st μ Q) : J G sh M pc lv (.int x :: st) μ Q := by
  intro p e s m args below meth c H locs sz ls X
  obtain ⟨x1, x2, x3, x4, x5, x6, x7, x8, x9, xa, xb, xc, xd, xe⟩ := X
  exact lv_istore x1 x2 hd xe hn rfl (fun ls' h' => k' p e s m args below meth c H locs sz ls' ⟨x1, x2, x3, x4, x5, x6, x7, x8, x9, xa, xb, xc, xd, by rw [← hl]; exact j_has_sub h' (j_l_st1 (v := .int x) ho)⟩)
theorem J_lstore_n {k : Fin 4} {x : Int64} {lv' : List (Option Value)} (hd : decode M.2.1 pc = .ok (.lstore_n k, 1)) (hn : (k : Nat) + 1 < M.2.2.1) (ho : j_ok lv (k : Nat) = true) (hl : ((lv.set (k : Nat) (some (.long x))).set ((k : Nat) + 1) none) = lv') (k' : J G sh M (pc + 1) lv' st μ Q) : J G sh M pc lv (.long x :: st) μ Q := by
  intro p e s m args below meth c H locs sz ls X
  obtain ⟨x1, x2, x3, x4, x5, x6, x7, x8, x9, xa, xb, xc, xd, xe⟩ := X
  exact lv_lstore_n x1 x2 hd rfl xe hn rfl (fun ls' h' => k' p e s m args below meth c H locs sz ls' ⟨x1, x2, x3, x4, x5, x6, x7, x8, x9, xa, xb, xc, xd, by rw [← hl]; exact j_has_sub h' (j_l_st2 (v := .long x) ho)⟩)
theorem J_lstore {i : Nat} {x : Int64} {lv' : List (Option Value)} (hd : decode M.2.1 pc = .ok (.lstore i, 2)) (hn : i + 1 < M.2.2.1) (ho : j_ok lv i = true) (hl : ((lv.set i (some (.long x))).set (i + 1) none) = lv') (k' : J G sh M (pc + 2) lv' st μ Q) : J G sh M pc lv (.long x :: st) μ Q := by
  intro p e s m args below meth c H locs sz ls X
  obtain ⟨x1, x2, x3, x4, x5, x6, x7, x8, x9, xa, xb, xc, xd, xe⟩ := X
  exact lv_lstore x1 x2 hd xe hn rfl (fun ls' h' => k' p e s m args below meth c H locs sz ls' ⟨x1, x2, x3, x4, x5, x6, x7, x8, x9, xa, xb, xc, xd, by rw [← hl]; exact j_has_sub h' (j_l_st2 (v := .long x) ho)⟩)
theorem J_astore_n {k : Fin 4} {x : Nat} {lv' : List (Option Value)} (hd : decode M.2.1 pc = .ok (.astore_n k, 1)) (hn : (k : Nat) < M.2.2.1) (ho : j_ok lv (k : Nat) = true) (hl : (lv.set (k : Nat) (some (.ref x))) = lv') (k' : J G sh M (pc + 1) lv' st μ Q) : J G sh M pc lv (.ref x :: st) μ Q := by
  intro p e s m args below meth c H locs sz ls X
  obtain ⟨x1, x2, x3, x4, x5, x6, x7, x8, x9, xa, xb, xc, xd, xe⟩ := X
  exact lv_astore_n x1 x2 hd rfl xe hn rfl (fun ls' h' => k' p e s m args below meth c H locs sz ls' ⟨x1, x2, x3, x4, x5, x6, x7, x8, x9, xa, xb, xc, xd, by rw [← hl]; exact j_has_sub h' (j_l_st1 (v := .ref x) ho)⟩)
theorem J_astore {i : Nat} {x : Nat} {lv' : List (Option Value)} (hd : decode M.2.1 pc = .ok (.astore i, 2)) (hn : i < M.2.2.1) (ho : j_ok lv i = true) (hl : (lv.set i (some (.ref x))) = lv') (k' : J G sh M (pc + 2) lv' st μ Q) : J G sh M pc lv (.ref x :: st) μ Q := by
  intro p e s m args below meth c H locs sz ls X
  obtain ⟨x1, x2, x3, x4, x5, x6, x7, x8, x9, xa, xb, xc, xd, xe⟩ := X
  exact lv_astore x1 x2 hd xe hn rfl (fun ls' h' => k' p e s m args below meth c H locs sz ls' ⟨x1, x2, x3, x4, x5, x6, x7, x8, x9, xa, xb, xc, xd, by rw [← hl]; exact j_has_sub h' (j_l_st1 (v := .ref x) ho)⟩)
theorem J_iinc {i : Nat} {n : Int} {x v : Int32} {lv' : List (Option Value)} (hd : decode M.2.1 pc = .ok (.iinc i n, 3)) (hg : lv[i]? = some (some (.int x))) (hv : x + Int32.ofInt n = v) (hn : i < M.2.2.1) (ho : j_ok lv i = true) (hl : (lv.set i (some (.int v))) = lv') (k' : J G sh M (pc + 3) lv' st μ Q) : J G sh M pc lv st μ Q := by
  intro p e s m args below meth c H locs sz ls X
  obtain ⟨x1, x2, x3, x4, x5, x6, x7, x8, x9, xa, xb, xc, xd, xe⟩ := X
  obtain ⟨kk, hkk⟩ := List.getElem?_of_mem (j_l_mem (ad := j_ad G) (b := 0) |>.mpr ⟨i, _, hg, by rw [Nat.zero_add]⟩)
  exact lv_iinc (k := kk) x1 x2 hd xe hkk hv hn rfl (fun ls' h' => k' p e s m args below meth c H locs sz ls' ⟨x1, x2, x3, x4, x5, x6, x7, x8, x9, xa, xb, xc, xd, by rw [← hl]; exact j_has_sub h' (j_l_st1 (v := .int v) ho)⟩)
theorem J_iincW {i : Nat} {n : Int} {x v : Int32} {lv' : List (Option Value)} (hd : decode M.2.1 pc = .ok (.iinc i n, 6)) (hg : lv[i]? = some (some (.int x))) (hv : x + Int32.ofInt n = v) (hn : i < M.2.2.1) (ho : j_ok lv i = true) (hl : (lv.set i (some (.int v))) = lv') (k' : J G sh M (pc + 6) lv' st μ Q) : J G sh M pc lv st μ Q := by
  intro p e s m args below meth c H locs sz ls X
  obtain ⟨x1, x2, x3, x4, x5, x6, x7, x8, x9, xa, xb, xc, xd, xe⟩ := X
  obtain ⟨kk, hkk⟩ := List.getElem?_of_mem (j_l_mem (ad := j_ad G) (b := 0) |>.mpr ⟨i, _, hg, by rw [Nat.zero_add]⟩)
  exact lv_iincW (k := kk) x1 x2 hd xe hkk hv hn rfl (fun ls' h' => k' p e s m args below meth c H locs sz ls' ⟨x1, x2, x3, x4, x5, x6, x7, x8, x9, xa, xb, xc, xd, by rw [← hl]; exact j_has_sub h' (j_l_st1 (v := .int v) ho)⟩)
theorem J_iadd {x y : Int32} (hd : decode M.2.1 pc = .ok (.iadd, 1)) (k : J G sh M (pc + 1) lv (.int (x + y) :: st) μ Q) : J G sh M pc lv (.int y :: .int x :: st) μ Q := by
  intro p e s m args below meth c H locs sz ls X
  exact lv_iadd X.1 X.2.1 hd (k p e s m args below meth c H locs sz ls X)
theorem J_isub {x y : Int32} (hd : decode M.2.1 pc = .ok (.isub, 1)) (k : J G sh M (pc + 1) lv (.int (x - y) :: st) μ Q) : J G sh M pc lv (.int y :: .int x :: st) μ Q := by
  intro p e s m args below meth c H locs sz ls X
  exact lv_isub X.1 X.2.1 hd (k p e s m args below meth c H locs sz ls X)
theorem J_imul {x y : Int32} (hd : decode M.2.1 pc = .ok (.imul, 1)) (k : J G sh M (pc + 1) lv (.int (x * y) :: st) μ Q) : J G sh M pc lv (.int y :: .int x :: st) μ Q := by
  intro p e s m args below meth c H locs sz ls X
  exact lv_imul X.1 X.2.1 hd (k p e s m args below meth c H locs sz ls X)
theorem J_iand {x y : Int32} (hd : decode M.2.1 pc = .ok (.iand, 1)) (k : J G sh M (pc + 1) lv (.int (x &&& y) :: st) μ Q) : J G sh M pc lv (.int y :: .int x :: st) μ Q := by
  intro p e s m args below meth c H locs sz ls X
  exact lv_iand X.1 X.2.1 hd (k p e s m args below meth c H locs sz ls X)
theorem J_ior {x y : Int32} (hd : decode M.2.1 pc = .ok (.ior, 1)) (k : J G sh M (pc + 1) lv (.int (x ||| y) :: st) μ Q) : J G sh M pc lv (.int y :: .int x :: st) μ Q := by
  intro p e s m args below meth c H locs sz ls X
  exact lv_ior X.1 X.2.1 hd (k p e s m args below meth c H locs sz ls X)
theorem J_ixor {x y : Int32} (hd : decode M.2.1 pc = .ok (.ixor, 1)) (k : J G sh M (pc + 1) lv (.int (x ^^^ y) :: st) μ Q) : J G sh M pc lv (.int y :: .int x :: st) μ Q := by
  intro p e s m args below meth c H locs sz ls X
  exact lv_ixor X.1 X.2.1 hd (k p e s m args below meth c H locs sz ls X)
theorem J_ishl {x y : Int32} (hd : decode M.2.1 pc = .ok (.ishl, 1)) (k : J G sh M (pc + 1) lv (.int (x <<< (y &&& 31)) :: st) μ Q) : J G sh M pc lv (.int y :: .int x :: st) μ Q := by
  intro p e s m args below meth c H locs sz ls X
  exact lv_ishl X.1 X.2.1 hd (k p e s m args below meth c H locs sz ls X)
theorem J_ishr {x y : Int32} (hd : decode M.2.1 pc = .ok (.ishr, 1)) (k : J G sh M (pc + 1) lv (.int (x >>> (y &&& 31)) :: st) μ Q) : J G sh M pc lv (.int y :: .int x :: st) μ Q := by
  intro p e s m args below meth c H locs sz ls X
  exact lv_ishr X.1 X.2.1 hd (k p e s m args below meth c H locs sz ls X)
theorem J_idiv {x y : Int32} (hd : decode M.2.1 pc = .ok (.idiv, 1)) (hne : ¬ y = 0) (k : J G sh M (pc + 1) lv (.int (x / y) :: st) μ Q) : J G sh M pc lv (.int y :: .int x :: st) μ Q := by
  intro p e s m args below meth c H locs sz ls X
  exact lv_idiv X.1 X.2.1 hd hne (k p e s m args below meth c H locs sz ls X)
theorem J_irem {x y : Int32} (hd : decode M.2.1 pc = .ok (.irem, 1)) (hne : ¬ y = 0) (k : J G sh M (pc + 1) lv (.int (x - x / y * y) :: st) μ Q) : J G sh M pc lv (.int y :: .int x :: st) μ Q := by
  intro p e s m args below meth c H locs sz ls X
  exact lv_irem X.1 X.2.1 hd hne (k p e s m args below meth c H locs sz ls X)
theorem J_ineg {x : Int32} (hd : decode M.2.1 pc = .ok (.ineg, 1)) (k : J G sh M (pc + 1) lv (.int (-x) :: st) μ Q) : J G sh M pc lv (.int x :: st) μ Q := by
  intro p e s m args below meth c H locs sz ls X
  exact lv_ineg X.1 X.2.1 hd (k p e s m args below meth c H locs sz ls X)
theorem J_ladd {x y : Int64} (hd : decode M.2.1 pc = .ok (.ladd, 1)) (k : J G sh M (pc + 1) lv (.long (x + y) :: st) μ Q) : J G sh M pc lv (.long y :: .long x :: st) μ Q := by
  intro p e s m args below meth c H locs sz ls X
  exact lv_ladd X.1 X.2.1 hd (k p e s m args below meth c H locs sz ls X)
theorem J_lsub {x y : Int64} (hd : decode M.2.1 pc = .ok (.lsub, 1)) (k : J G sh M (pc + 1) lv (.long (x - y) :: st) μ Q) : J G sh M pc lv (.long y :: .long x :: st) μ Q := by
  intro p e s m args below meth c H locs sz ls X
  exact lv_lsub X.1 X.2.1 hd (k p e s m args below meth c H locs sz ls X)
theorem J_lmul {x y : Int64} (hd : decode M.2.1 pc = .ok (.lmul, 1)) (k : J G sh M (pc + 1) lv (.long (x * y) :: st) μ Q) : J G sh M pc lv (.long y :: .long x :: st) μ Q := by
  intro p e s m args below meth c H locs sz ls X
  exact lv_lmul X.1 X.2.1 hd (k p e s m args below meth c H locs sz ls X)
theorem J_ldiv {x y : Int64} (hd : decode M.2.1 pc = .ok (.ldiv, 1)) (hne : ¬ y = 0) (k : J G sh M (pc + 1) lv (.long (x / y) :: st) μ Q) : J G sh M pc lv (.long y :: .long x :: st) μ Q := by
  intro p e s m args below meth c H locs sz ls X
  exact lv_ldiv X.1 X.2.1 hd hne (k p e s m args below meth c H locs sz ls X)
theorem J_lrem {x y : Int64} (hd : decode M.2.1 pc = .ok (.lrem, 1)) (hne : ¬ y = 0) (k : J G sh M (pc + 1) lv (.long (x - x / y * y) :: st) μ Q) : J G sh M pc lv (.long y :: .long x :: st) μ Q := by
  intro p e s m args below meth c H locs sz ls X
  exact lv_lrem X.1 X.2.1 hd hne (k p e s m args below meth c H locs sz ls X)
theorem J_lneg {x : Int64} (hd : decode M.2.1 pc = .ok (.lneg, 1)) (k : J G sh M (pc + 1) lv (.long (-x) :: st) μ Q) : J G sh M pc lv (.long x :: st) μ Q := by
  intro p e s m args below meth c H locs sz ls X
  exact lv_lneg X.1 X.2.1 hd (k p e s m args below meth c H locs sz ls X)
theorem J_i2l {x : Int32} {v : Int64} (hd : decode M.2.1 pc = .ok (.i2l, 1)) (hv : x.toInt64 = v) (k : J G sh M (pc + 1) lv (.long v :: st) μ Q) : J G sh M pc lv (.int x :: st) μ Q := by
  intro p e s m args below meth c H locs sz ls X
  exact lv_i2l X.1 X.2.1 hd hv (k p e s m args below meth c H locs sz ls X)
theorem J_l2i {x : Int64} {v : Int32} (hd : decode M.2.1 pc = .ok (.l2i, 1)) (hv : x.toInt32 = v) (k : J G sh M (pc + 1) lv (.int v :: st) μ Q) : J G sh M pc lv (.long x :: st) μ Q := by
  intro p e s m args below meth c H locs sz ls X
  exact lv_l2i X.1 X.2.1 hd hv (k p e s m args below meth c H locs sz ls X)
theorem J_dup {va : Value} (hd : decode M.2.1 pc = .ok (.dup, 1)) (hva : va.category = 1) (k : J G sh M (pc + 1) lv (va :: va :: st) μ Q) : J G sh M pc lv (va :: st) μ Q := by
  intro p e s m args below meth c H locs sz ls X
  exact lv_dup X.1 X.2.1 hd ((j_cv_cat _ _).trans hva) (k p e s m args below meth c H locs sz ls X)
theorem J_pop {va : Value} (hd : decode M.2.1 pc = .ok (.pop, 1)) (hva : va.category = 1) (k : J G sh M (pc + 1) lv st μ Q) : J G sh M pc lv (va :: st) μ Q := by
  intro p e s m args below meth c H locs sz ls X
  exact lv_pop X.1 X.2.1 hd ((j_cv_cat _ _).trans hva) (k p e s m args below meth c H locs sz ls X)
theorem J_dup_x1 {va vb : Value} (hd : decode M.2.1 pc = .ok (.dup_x1, 1)) (hva : va.category = 1) (hvb : vb.category = 1) (k : J G sh M (pc + 1) lv (va :: vb :: va :: st) μ Q) : J G sh M pc lv (va :: vb :: st) μ Q := by
  intro p e s m args below meth c H locs sz ls X
  exact lv_dup_x1 X.1 X.2.1 hd ((j_cv_cat _ _).trans hva) ((j_cv_cat _ _).trans hvb) (k p e s m args below meth c H locs sz ls X)
theorem J_dup2 {va vb : Value} (hd : decode M.2.1 pc = .ok (.dup2, 1)) (hva : va.category = 1) (hvb : vb.category = 1) (k : J G sh M (pc + 1) lv (va :: vb :: va :: vb :: st) μ Q) : J G sh M pc lv (va :: vb :: st) μ Q := by
  intro p e s m args below meth c H locs sz ls X
  exact lv_dup2_11 X.1 X.2.1 hd ((j_cv_cat _ _).trans hva) ((j_cv_cat _ _).trans hvb) (k p e s m args below meth c H locs sz ls X)
theorem J_if_eq {x : Int32} {off : Int} (tgt : Nat) (hd : decode M.2.1 pc = .ok (.ifCond .eq off, 3)) (ht : (pc : Int) + off = (tgt : Int)) (kt : x = 0 → J G sh M tgt lv st μ Q) (kf : ¬ x = 0 → J G sh M (pc + 3) lv st μ Q) : J G sh M pc lv (.int x :: st) μ Q := by
  intro p e s m args below meth c H locs sz ls X
  exact lv_if_eq X.1 X.2.1 hd ht (fun h => kt h p e s m args below meth c H locs sz ls X) (fun h => kf h p e s m args below meth c H locs sz ls X)
theorem J_icmp_eq {x y : Int32} {off : Int} (tgt : Nat) (hd : decode M.2.1 pc = .ok (.if_icmp .eq off, 3)) (ht : (pc : Int) + off = (tgt : Int)) (kt : x = y → J G sh M tgt lv st μ Q) (kf : ¬ x = y → J G sh M (pc + 3) lv st μ Q) : J G sh M pc lv (.int y :: .int x :: st) μ Q := by
  intro p e s m args below meth c H locs sz ls X
  exact lv_icmp_eq X.1 X.2.1 hd ht (fun h => kt h p e s m args below meth c H locs sz ls X) (fun h => kf h p e s m args below meth c H locs sz ls X)
theorem J_if_ne {x : Int32} {off : Int} (tgt : Nat) (hd : decode M.2.1 pc = .ok (.ifCond .ne off, 3)) (ht : (pc : Int) + off = (tgt : Int)) (kt : ¬ x = 0 → J G sh M tgt lv st μ Q) (kf : x = 0 → J G sh M (pc + 3) lv st μ Q) : J G sh M pc lv (.int x :: st) μ Q := by
  intro p e s m args below meth c H locs sz ls X
  exact lv_if_ne X.1 X.2.1 hd ht (fun h => kt h p e s m args below meth c H locs sz ls X) (fun h => kf h p e s m args below meth c H locs sz ls X)
theorem J_icmp_ne {x y : Int32} {off : Int} (tgt : Nat) (hd : decode M.2.1 pc = .ok (.if_icmp .ne off, 3)) (ht : (pc : Int) + off = (tgt : Int)) (kt : ¬ x = y → J G sh M tgt lv st μ Q) (kf : x = y → J G sh M (pc + 3) lv st μ Q) : J G sh M pc lv (.int y :: .int x :: st) μ Q := by
  intro p e s m args below meth c H locs sz ls X
  exact lv_icmp_ne X.1 X.2.1 hd ht (fun h => kt h p e s m args below meth c H locs sz ls X) (fun h => kf h p e s m args below meth c H locs sz ls X)
theorem J_if_lt {x : Int32} {off : Int} (tgt : Nat) (hd : decode M.2.1 pc = .ok (.ifCond .lt off, 3)) (ht : (pc : Int) + off = (tgt : Int)) (kt : x < 0 → J G sh M tgt lv st μ Q) (kf : ¬ x < 0 → J G sh M (pc + 3) lv st μ Q) : J G sh M pc lv (.int x :: st) μ Q := by
  intro p e s m args below meth c H locs sz ls X
  exact lv_if_lt X.1 X.2.1 hd ht (fun h => kt h p e s m args below meth c H locs sz ls X) (fun h => kf h p e s m args below meth c H locs sz ls X)
theorem J_icmp_lt {x y : Int32} {off : Int} (tgt : Nat) (hd : decode M.2.1 pc = .ok (.if_icmp .lt off, 3)) (ht : (pc : Int) + off = (tgt : Int)) (kt : x < y → J G sh M tgt lv st μ Q) (kf : ¬ x < y → J G sh M (pc + 3) lv st μ Q) : J G sh M pc lv (.int y :: .int x :: st) μ Q := by
  intro p e s m args below meth c H locs sz ls X
  exact lv_icmp_lt X.1 X.2.1 hd ht (fun h => kt h p e s m args below meth c H locs sz ls X) (fun h => kf h p e s m args below meth c H locs sz ls X)
theorem J_if_ge {x : Int32} {off : Int} (tgt : Nat) (hd : decode M.2.1 pc = .ok (.ifCond .ge off, 3)) (ht : (pc : Int) + off = (tgt : Int)) (kt : 0 ≤ x → J G sh M tgt lv st μ Q) (kf : ¬ 0 ≤ x → J G sh M (pc + 3) lv st μ Q) : J G sh M pc lv (.int x :: st) μ Q := by
  intro p e s m args below meth c H locs sz ls X
  exact lv_if_ge X.1 X.2.1 hd ht (fun h => kt h p e s m args below meth c H locs sz ls X) (fun h => kf h p e s m args below meth c H locs sz ls X)
theorem J_icmp_ge {x y : Int32} {off : Int} (tgt : Nat) (hd : decode M.2.1 pc = .ok (.if_icmp .ge off, 3)) (ht : (pc : Int) + off = (tgt : Int)) (kt : y ≤ x → J G sh M tgt lv st μ Q) (kf : ¬ y ≤ x → J G sh M (pc + 3) lv st μ Q) : J G sh M pc lv (.int y :: .int x :: st) μ Q := by
  intro p e s m args below meth c H locs sz ls X
  exact lv_icmp_ge X.1 X.2.1 hd ht (fun h => kt h p e s m args below meth c H locs sz ls X) (fun h => kf h p e s m args below meth c H locs sz ls X)
theorem J_if_gt {x : Int32} {off : Int} (tgt : Nat) (hd : decode M.2.1 pc = .ok (.ifCond .gt off, 3)) (ht : (pc : Int) + off = (tgt : Int)) (kt : 0 < x → J G sh M tgt lv st μ Q) (kf : ¬ 0 < x → J G sh M (pc + 3) lv st μ Q) : J G sh M pc lv (.int x :: st) μ Q := by
  intro p e s m args below meth c H locs sz ls X
  exact lv_if_gt X.1 X.2.1 hd ht (fun h => kt h p e s m args below meth c H locs sz ls X) (fun h => kf h p e s m args below meth c H locs sz ls X)
theorem J_icmp_gt {x y : Int32} {off : Int} (tgt : Nat) (hd : decode M.2.1 pc = .ok (.if_icmp .gt off, 3)) (ht : (pc : Int) + off = (tgt : Int)) (kt : y < x → J G sh M tgt lv st μ Q) (kf : ¬ y < x → J G sh M (pc + 3) lv st μ Q) : J G sh M pc lv (.int y :: .int x :: st) μ Q := by
  intro p e s m args below meth c H locs sz ls X
  exact lv_icmp_gt X.1 X.2.1 hd ht (fun h => kt h p e s m args below meth c H locs sz ls X) (fun h => kf h p e s m args below meth c H locs sz ls X)
theorem J_if_le {x : Int32} {off : Int} (tgt : Nat) (hd : decode M.2.1 pc = .ok (.ifCond .le off, 3)) (ht : (pc : Int) + off = (tgt : Int)) (kt : x ≤ 0 → J G sh M tgt lv st μ Q) (kf : ¬ x ≤ 0 → J G sh M (pc + 3) lv st μ Q) : J G sh M pc lv (.int x :: st) μ Q := by
  intro p e s m args below meth c H locs sz ls X
  exact lv_if_le X.1 X.2.1 hd ht (fun h => kt h p e s m args below meth c H locs sz ls X) (fun h => kf h p e s m args below meth c H locs sz ls X)
theorem J_icmp_le {x y : Int32} {off : Int} (tgt : Nat) (hd : decode M.2.1 pc = .ok (.if_icmp .le off, 3)) (ht : (pc : Int) + off = (tgt : Int)) (kt : x ≤ y → J G sh M tgt lv st μ Q) (kf : ¬ x ≤ y → J G sh M (pc + 3) lv st μ Q) : J G sh M pc lv (.int y :: .int x :: st) μ Q := by
  intro p e s m args below meth c H locs sz ls X
  exact lv_icmp_le X.1 X.2.1 hd ht (fun h => kt h p e s m args below meth c H locs sz ls X) (fun h => kf h p e s m args below meth c H locs sz ls X)
theorem J_goto {off : Int} (tgt : Nat) (hd : decode M.2.1 pc = .ok (.goto off, 3)) (ht : (pc : Int) + off = (tgt : Int)) (k : J G sh M tgt lv st μ Q) : J G sh M pc lv st μ Q := by
  intro p e s m args below meth c H locs sz ls X
  exact lv_goto X.1 X.2.1 hd ht (k p e s m args below meth c H locs sz ls X)
theorem J_ifnull {x : Nat} {off : Int} (hd : decode M.2.1 pc = .ok (.ifnull off, 3)) (k : J G sh M (pc + 3) lv st μ Q) : J G sh M pc lv (.ref x :: st) μ Q := by
  intro p e s m args below meth c H locs sz ls X
  exact lv_ifnull X.1 X.2.1 hd (k p e s m args below meth c H locs sz ls X)
theorem J_ifnullN {off : Int} (tgt : Nat) (hd : decode M.2.1 pc = .ok (.ifnull off, 3)) (ht : (pc : Int) + off = (tgt : Int)) (k : J G sh M tgt lv st μ Q) : J G sh M pc lv (.null :: st) μ Q := by
  intro p e s m args below meth c H locs sz ls X
  exact lv_ifnullN X.1 X.2.1 hd ht (k p e s m args below meth c H locs sz ls X)
theorem J_lcmp {x y : Int64} (hd : decode M.2.1 pc = .ok (.lcmp, 1)) (k : J G sh M (pc + 1) lv (.int (lg_cmp x y) :: st) μ Q) : J G sh M pc lv (.long y :: .long x :: st) μ Q := by
  intro p e s m args below meth c H locs sz ls X
  exact W.lcmp X.1 X.2.1 hd (k p e s m args below meth c H locs sz ls X)
theorem j_hts {w : Cond} {s : State} {args : Array Value} (h : ∀ w ∈ j_ws M, w.before args s = true) (hw : w ∈ BIGW) : w.before args s = true := h w (List.mem_cons_of_mem _ hw)
theorem J_ldc2 {index : Nat} {v : Int64} (hc : Cond.constantLong M.1.cls index v ∈ BIGW) (hd : decode M.2.1 pc = .ok (.ldc2_w index, 3)) (k : J G sh M (pc + 3) lv (.long v :: st) μ Q) : J G sh M pc lv st μ Q := by
  intro p e s m args below meth c H locs sz ls X
  exact lv_ldc2 X.1 X.2.1 X.2.2.2.1 (j_hts X.2.2.2.2.1 hc) hd (k p e s m args below meth c H locs sz ls X)
theorem J_ldc {index : Nat} {v : Int32} (hc : Cond.constant M.1.cls index v ∈ BIGW) (hd : decode M.2.1 pc = .ok (.ldc index, 2)) (k : J G sh M (pc + 2) lv (.int v :: st) μ Q) : J G sh M pc lv st μ Q := by
  intro p e s m args below meth c H locs sz ls X
  exact lv_ldc X.1 X.2.1 X.2.2.2.1 (j_hts X.2.2.2.2.1 hc) hd (k p e s m args below meth c H locs sz ls X)
theorem J_ldcw {index : Nat} {v : Int32} (hc : Cond.constant M.1.cls index v ∈ BIGW) (hd : decode M.2.1 pc = .ok (.ldc_w index, 3)) (k : J G sh M (pc + 3) lv (.int v :: st) μ Q) : J G sh M pc lv st μ Q := by
  intro p e s m args below meth c H locs sz ls X
  exact lv_ldcw X.1 X.2.1 X.2.2.2.1 (j_hts X.2.2.2.2.1 hc) hd (k p e s m args below meth c H locs sz ls X)
theorem J_tsIn {dflt lo hi : Int} {offs : Array Int} {len : Nat} {x : Int32} (tgt : Nat) (hd : decode M.2.1 pc = .ok (.tableswitch dflt lo hi offs, len)) {z : Int} (hz : x.toInt = z) (h1 : ¬ z < lo) (h2 : ¬ hi < z) {off : Int} (ho : offs[(z - lo).toNat]? = some off) (ht : (pc : Int) + off = (tgt : Int)) (k : J G sh M tgt lv st μ Q) : J G sh M pc lv (.int x :: st) μ Q := by
  subst hz
  intro p e s m args below meth c H locs sz ls X
  exact lv_tableIn X.1 X.2.1 hd h1 h2 ho ht (k p e s m args below meth c H locs sz ls X)
theorem J_tsOut {dflt lo hi : Int} {offs : Array Int} {len : Nat} {x : Int32} (tgt : Nat) (hd : decode M.2.1 pc = .ok (.tableswitch dflt lo hi offs, len)) (h : x.toInt < lo ∨ hi < x.toInt) (ht : (pc : Int) + dflt = (tgt : Int)) (k : J G sh M tgt lv st μ Q) : J G sh M pc lv (.int x :: st) μ Q := by
  intro p e s m args below meth c H locs sz ls X
  exact lv_tableOut X.1 X.2.1 hd h ht (k p e s m args below meth c H locs sz ls X)
theorem J_look {dflt : Int} {ps : Array (Int × Int)} {len : Nat} {x : Int32} (tgt : Nat) (hd : decode M.2.1 pc = .ok (.lookupswitch dflt ps, len)) (hp : (ps.toList.zip (ps.toList.drop 1)).all (fun (a, next) => a.1 < next.1) = true) {off : Int} (ho : Op.lookupswitch.offset ps.toList dflt x.toInt = off) (ht : (pc : Int) + off = (tgt : Int)) (k : J G sh M tgt lv st μ Q) : J G sh M pc lv (.int x :: st) μ Q := by
  intro p e s m args below meth c H locs sz ls X
  exact lv_lookup X.1 X.2.1 hd hp ho ht (k p e s m args below meth c H locs sz ls X)
theorem j_end {G : JG} {sh : List JSh} {Q : Option Value → JM → Prop} {μ : JM} {v : Option Value} {p : Program} {s : State} {m : MethodId} {args : Array Value} {meth : Method} {c : Code} {H : Heap} {locs : List Loc} {sz : Nat} {ls : Array Slot} (X : j_X G sh M p s m args meth c H locs sz ls lv μ) (hq : Q v μ) : ∀ t : State, t.heap = H → s.WarmedH t.vm → j_Q G sh Q sz args s (.returned (v.map (j_cv (j_ad G)))) t := by
  intro t ht hW
  obtain ⟨x1, x2, x3, x4, x5, x6, x7, x8, x9, xa, xb, xc, xd, xe⟩ := X
  exact ⟨⟨v, μ, rfl, hq, by rw [ht]; exact x9, xa.moved hW.alike, xb⟩, xc.F ht⟩
theorem J_iret {x : Int32} (hd : decode M.2.1 pc = .ok (.ireturn, 1)) (hr : M.2.2.2.1 = some .int) (hq : Q (some (.int x)) μ) : J G sh M pc lv [.int x] μ Q := by
  intro p e s m args below meth c H locs sz ls X
  exact W.iret X.1 X.2.1 (X.2.2.2.2.2.1.trans hr) (j_end X hq) X.2.2.2.2.2.2.2.2.2.2.2.1.2.2 hd (hlocks := X.2.2.2.2.2.2.1)
theorem J_lret {x : Int64} (hd : decode M.2.1 pc = .ok (.lreturn, 1)) (hr : M.2.2.2.1 = some .long) (hq : Q (some (.long x)) μ) : J G sh M pc lv [.long x] μ Q := by
  intro p e s m args below meth c H locs sz ls X
  exact W.lret X.1 X.2.1 (X.2.2.2.2.2.1.trans hr) (j_end X hq) X.2.2.2.2.2.2.2.2.2.2.2.1.2.2 hd (hlocks := X.2.2.2.2.2.2.1)
theorem J_zret {x : Int32} (hd : decode M.2.1 pc = .ok (.ireturn, 1)) (hr : M.2.2.2.1 = some .boolean) (hx : x = 0 ∨ x = 1) (hq : Q (some (.int x)) μ) : J G sh M pc lv [.int x] μ Q := by
  intro p e s m args below meth c H locs sz ls X
  have hn : narrow .boolean (.int x) = .int x := by rcases hx with rfl | rfl <;> rfl
  exact W.zret X.1 X.2.1 (X.2.2.2.2.2.1.trans hr) hn (j_end X hq) X.2.2.2.2.2.2.2.2.2.2.2.1.2.2 hd (hlocks := X.2.2.2.2.2.2.1)
theorem J_nret {x : Int32} {ty : FieldType} (hd : decode M.2.1 pc = .ok (.ireturn, 1)) (hr : M.2.2.2.1 = some ty) (hn : narrow ty (.int x) = .int x) (hq : Q (some (.int x)) μ) : J G sh M pc lv [.int x] μ Q := by
  intro p e s m args below meth c H locs sz ls X
  exact W.zret X.1 X.2.1 (X.2.2.2.2.2.1.trans hr) hn (j_end X hq) X.2.2.2.2.2.2.2.2.2.2.2.1.2.2 hd (hlocks := X.2.2.2.2.2.2.1)
theorem J_vret (hd : decode M.2.1 pc = .ok (.return_, 1)) (hr : M.2.2.2.1 = none) (hq : Q none μ) : J G sh M pc lv [] μ Q := by
  intro p e s m args below meth c H locs sz ls X
  exact W.vret X.1 X.2.1 (X.2.2.2.2.2.1.trans hr) (j_end X hq) X.2.2.2.2.2.2.2.2.2.2.2.1.2.2 hd (hlocks := X.2.2.2.2.2.2.1)
theorem J_aret {x : Nat} {n : String} (hd : decode M.2.1 pc = .ok (.areturn, 1)) (hr : M.2.2.2.1 = some (.object n)) (hq : Q (some (.ref x)) μ) : J G sh M pc lv [.ref x] μ Q := by
  intro p e s m args below meth c H locs sz ls X
  exact W.aret X.1 X.2.1 (X.2.2.2.2.2.1.trans hr) (Or.inl ⟨n, rfl⟩) (Or.inr ⟨_, rfl⟩) (j_end X hq) X.2.2.2.2.2.2.2.2.2.2.2.1.2.2 hd (hlocks := X.2.2.2.2.2.2.1)
/-- the field k of class ci, as class own's entry idx names it: type, final or not -/
def j_F (own : String) (idx ci k : Nat) (ty : FieldType) (fin : Bool) : Prop := ∃ (C : String) (T : u_T) (N : Nat) (tys : Nat → FieldType), vwCl[ci]? = some (C, T, N) ∧ k < N ∧ (∀ w ∈ u_ws C T N, w ∈ BIGW) ∧ (∀ a, a < N → ∀ b, b < N → a ≠ b → (T a).2.1 ≠ (T b).2.1) ∧ (∀ k, k < N → parseFieldDescriptor (T k).2.2.1 = some (tys k)) ∧ parseFieldDescriptor (T k).2.2.1 = some ty ∧ (T k).2.2.2 = fin ∧ (Cond.fieldLink own idx (T k).1 (T k).2.1 (T k).2.2.1 ∈ BIGW ∨ ∃ host, Cond.fieldLinkNest own idx (T k).1 (T k).2.1 (T k).2.2.1 host ∈ NESTW)
theorem J_get {index ci k o t : Nat} {ks : List Nat} {ty : FieldType} {fin : Bool} {v : Value} (hf : j_F M.1.cls index ci k ty fin) (ho : sh[o]? = some (.inl (ci, ks))) (hk : ks[k]? = some t) (hv : j_fv (j_ad G) μ o k t = j_cv (j_ad G) v) (hd : decode M.2.1 pc = .ok (.getfield index, 3)) (kk : J G sh M (pc + 3) lv (v :: st) μ Q) : J G sh M pc lv (.ref o :: st) μ Q := by
  intro p e s m args below meth c H locs sz ls X
  have kk := kk p e s m args below meth c H locs sz ls X
  obtain ⟨x1, x2, x3, x4, x5, x6, x7, x8, x9, xa, xb, xc, xd, xe⟩ := X
  obtain ⟨C, T, N, tys, f1, f2, f3, f4, f5, f6, f7, f8⟩ := hf
  rw [List.map_cons, ← hv] at kk
  rcases f8 with f8 | ⟨host, f8⟩
  · exact va_get x1 x2 x5 (fun w hw => List.mem_cons_of_mem _ (f3 w hw)) x4 xa x9 o (j_w_get ho) f1 k f2 (j_hts x5 f8) (fun _ h => h) (j_fs_get hk) hd kk
  · exact va_getN x1 x2 x5 (fun w hw => List.mem_cons_of_mem _ (f3 w hw)) x4 xa x9 o (j_w_get ho) f1 k f2 (nest_use f8 (xd.1 _ f8)) (fun _ h => h) (j_fs_get hk) hd kk
theorem J_getI {index ci k o : Nat} {ks : List Nat} {ty : FieldType} {fin : Bool} (hf : j_F M.1.cls index ci k ty fin) (ho : sh[o]? = some (.inl (ci, ks))) (hk : ks[k]? = some 0) (hd : decode M.2.1 pc = .ok (.getfield index, 3)) (kk : J G sh M (pc + 3) lv (.int (μ.1 o k) :: st) μ Q) : J G sh M pc lv (.ref o :: st) μ Q := J_get hf ho hk rfl hd kk
theorem J_getL {index ci k o : Nat} {ks : List Nat} {ty : FieldType} {fin : Bool} (hf : j_F M.1.cls index ci k ty fin) (ho : sh[o]? = some (.inl (ci, ks))) (hk : ks[k]? = some 1) (hd : decode M.2.1 pc = .ok (.getfield index, 3)) (kk : J G sh M (pc + 3) lv (.long (μ.2 o k) :: st) μ Q) : J G sh M pc lv (.ref o :: st) μ Q := J_get hf ho hk rfl hd kk
theorem J_getR {index ci k o : Nat} (t : Nat) {ks : List Nat} {ty : FieldType} {fin : Bool} (hf : j_F M.1.cls index ci k ty fin) (ho : sh[o]? = some (.inl (ci, ks))) (hk : ks[k]? = some (2 * t + 2)) (hd : decode M.2.1 pc = .ok (.getfield index, 3)) (kk : J G sh M (pc + 3) lv (.ref t :: st) μ Q) : J G sh M pc lv (.ref o :: st) μ Q := J_get (v := .ref t) hf ho hk (by show (if (2 * t) % 2 = 0 then Value.ref (j_ad G ((2 * t) / 2)) else _) = _; rw [if_pos (by omega), show 2 * t / 2 = t by omega]; rfl) hd kk
theorem J_getN0 {index ci k o : Nat} (t : Nat) {ks : List Nat} {ty : FieldType} {fin : Bool} (hf : j_F M.1.cls index ci k ty fin) (ho : sh[o]? = some (.inl (ci, ks))) (hk : ks[k]? = some (2 * t + 3)) (h0 : μ.1 o k = 0) (hd : decode M.2.1 pc = .ok (.getfield index, 3)) (kk : J G sh M (pc + 3) lv (.null :: st) μ Q) : J G sh M pc lv (.ref o :: st) μ Q := J_get (v := .null) hf ho hk (by show (if (2 * t + 1) % 2 = 0 then Value.ref (j_ad G ((2 * t + 1) / 2)) else if μ.1 o k = 0 then Value.null else _) = _; rw [if_neg (by omega), if_pos h0]; rfl) hd kk
theorem J_getN1 {index ci k o : Nat} (t : Nat) {ks : List Nat} {ty : FieldType} {fin : Bool} (hf : j_F M.1.cls index ci k ty fin) (ho : sh[o]? = some (.inl (ci, ks))) (hk : ks[k]? = some (2 * t + 3)) (h0 : ¬ μ.1 o k = 0) (hd : decode M.2.1 pc = .ok (.getfield index, 3)) (kk : J G sh M (pc + 3) lv (.ref t :: st) μ Q) : J G sh M pc lv (.ref o :: st) μ Q := J_get (v := .ref t) hf ho hk (by show (if (2 * t + 1) % 2 = 0 then Value.ref (j_ad G ((2 * t + 1) / 2)) else if μ.1 o k = 0 then Value.null else Value.ref (j_ad G ((2 * t + 1) / 2))) = _; rw [if_neg (by omega), if_neg h0, show (2 * t + 1) / 2 = t by omega]; rfl) hd kk
theorem J_put {μ' : JM} {index ci k o : Nat} {ks : List Nat} {ty : FieldType} {v : Value} (hf : j_F M.1.cls index ci k ty false) (ho : sh[o]? = some (.inl (ci, ks))) (hk : k < ks.length) (hn : narrow ty (j_cv (j_ad G) v) = j_cv (j_ad G) v) (hfit : fits ty (j_cv (j_ad G) v) = true) (hw : (j_W G sh μ).set o (j_ad G o, .inr (ci, (j_fs (j_ad G) μ o ks).set k (j_cv (j_ad G) v))) = j_W G sh μ') (hd : decode M.2.1 pc = .ok (.putfield index, 3)) (kk : J G sh M (pc + 3) lv st μ' Q) : J G sh M pc lv (v :: .ref o :: st) μ Q := by
  intro p e s m args below meth c H locs sz ls X
  obtain ⟨x1, x2, x3, x4, x5, x6, x7, x8, x9, xa, xb, xc, xd, xe⟩ := X
  obtain ⟨C, T, N, tys, f1, f2, f3, f4, f5, f6, f7, f8⟩ := hf
  have go : ∀ (H1 : Heap) (locs1 : List Loc), va_P G.2.1 vwCl ((j_W G sh μ).set o (j_ad G o, .inr (ci, (j_fs (j_ad G) μ o ks).set k (j_cv (j_ad G) v)))) H1 → va_D (j_A (j_ad G) sh.length sz) ((j_W G sh μ).set o (j_ad G o, .inr (ci, (j_fs (j_ad G) μ o ks).set k (j_cv (j_ad G) v)))) → va_S (j_A (j_ad G) sh.length sz) s.heap H1 locs1 → W p G.1 e (j_rm M) s m args below meth c H1 locs1 0 0 (MQ below (j_Q G sh Q sz) args s 0 0 (j_A (j_ad G) sh.length sz)) (F0 m (pc + 3) ls (st.map (j_cv (j_ad G)))) := fun H1 locs1 hP hD hS => kk p e s m args below meth c H1 locs1 sz ls ⟨x1, x2, x3, x4, x5, x6, x7, x8, by rw [hw] at hP; exact hP, xa, by rw [hw] at hD; exact hD, hS, xd, xe⟩
  rcases f8 with f8 | ⟨host, f8⟩
  · exact va_put x1 x2 x5 (fun w hw => List.mem_cons_of_mem _ (f3 w hw)) tys f5 f4 x4 xa x9 xb xc o (j_w_get ho) f1 k f2 (j_hts x5 f8) (fun _ h => h) f7 f6 hn hfit (by rw [j_fs_len]; exact hk) hd go
  · exact va_putN x1 x2 x5 (fun w hw => List.mem_cons_of_mem _ (f3 w hw)) tys f5 f4 x4 xa x9 xb xc o (j_w_get ho) f1 k f2 (nest_use f8 (xd.1 _ f8)) (fun _ h => h) f7 f6 hn hfit (by rw [j_fs_len]; exact hk) hd go
theorem j_lt {α : Type} {l : List α} {i : Nat} {x : α} (h : l[i]? = some x) : i < l.length := (List.getElem?_eq_some_iff.mp h).1
theorem J_putI {index ci k o : Nat} {ks : List Nat} {x : Int32} (hf : j_F M.1.cls index ci k .int false) (ho : sh[o]? = some (.inl (ci, ks))) (hk : ks[k]? = some 0) (hd : decode M.2.1 pc = .ok (.putfield index, 3)) (kk : J G sh M (pc + 3) lv st (jI μ o k x) Q) : J G sh M pc lv (.int x :: .ref o :: st) μ Q := J_put hf ho (j_lt hk) rfl rfl (j_w_I ho hk) hd kk
theorem J_putZ {index ci k o : Nat} {ks : List Nat} {x : Int32} (hx : x = 0 ∨ x = 1) (hf : j_F M.1.cls index ci k .boolean false) (ho : sh[o]? = some (.inl (ci, ks))) (hk : ks[k]? = some 0) (hd : decode M.2.1 pc = .ok (.putfield index, 3)) (kk : J G sh M (pc + 3) lv st (jI μ o k x) Q) : J G sh M pc lv (.int x :: .ref o :: st) μ Q := J_put hf ho (j_lt hk) (by rcases hx with rfl | rfl <;> rfl) (by rcases hx with rfl | rfl <;> rfl) (j_w_I ho hk) hd kk
theorem J_putL {index ci k o : Nat} {ks : List Nat} {x : Int64} (hf : j_F M.1.cls index ci k .long false) (ho : sh[o]? = some (.inl (ci, ks))) (hk : ks[k]? = some 1) (hd : decode M.2.1 pc = .ok (.putfield index, 3)) (kk : J G sh M (pc + 3) lv st (jL μ o k x) Q) : J G sh M pc lv (.long x :: .ref o :: st) μ Q := J_put hf ho (j_lt hk) rfl rfl (j_w_L ho hk) hd kk
theorem J_putN {index ci k o t : Nat} {ks : List Nat} {n : String} (hf : j_F M.1.cls index ci k (.object n) false) (ho : sh[o]? = some (.inl (ci, ks))) (hk : ks[k]? = some (2 * t + 3)) (hd : decode M.2.1 pc = .ok (.putfield index, 3)) (kk : J G sh M (pc + 3) lv st (jI μ o k 1) Q) : J G sh M pc lv (.ref t :: .ref o :: st) μ Q := J_put hf ho (j_lt hk) rfl rfl (j_w_N ho hk) hd kk
end JR

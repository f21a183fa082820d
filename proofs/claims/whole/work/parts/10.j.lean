/-! A small logic over the kit's rows: memory as functions of (object, slot), one word list for all methods. -/
/-- the words that last -/
def BIGW : List Cond := lw_tbl.filter goodWord
def j_nest (w : Cond) : Bool := match w with
  | .methodLinkNest .. => true
  | .fieldLinkNest .. => true
  | _ => false
/-- the links of nest mates -/
def NESTW : List Cond := tables_1.filter j_nest
theorem big_t {w : Cond} (i : Nat) (h : tables_1[i]? = some w) (hg : goodWord w = true) : w ∈ BIGW := List.mem_filter.mpr ⟨List.mem_append_right _ (List.mem_of_getElem? h), hg⟩
theorem big_s {w : Cond} (i : Nat) (h : (k2_sels lw_privs)[i]? = some w) (hg : goodWord w = true) : w ∈ BIGW := List.mem_filter.mpr ⟨List.mem_append_left _ (List.mem_of_getElem? h), hg⟩
theorem nest_t {w : Cond} (i : Nat) (h : tables_1[i]? = some w) (hg : j_nest w = true) : w ∈ NESTW := List.mem_filter.mpr ⟨List.mem_of_getElem? h, hg⟩
theorem big_good {w : Cond} (h : w ∈ BIGW) : (w.onTables && w.keeps) = true ∨ ∃ ty, w = .arrayClass ty := good_of_word (List.mem_filter.mp h).2
theorem nest_warm {w : Cond} (h : w ∈ NESTW) {s U : State} (hW : s.WarmedH U.vm) (hw : va_Nw w s) : va_Nw w U := by
  have h1 := (List.mem_filter.mp h).2
  cases w <;> first | exact va_Nw.warmM hW hw | exact va_Nw.warmF hW hw | cases h1
theorem nest_same {w : Cond} (h : w ∈ NESTW) {u U : State} (hv : u.vm = U.vm) (hw : va_Nw w u) : va_Nw w U := by
  have h1 := (List.mem_filter.mp h).2
  cases w <;> first | exact va_Nw.same rfl hv hw | cases h1
theorem nest_use {w : Cond} (h : w ∈ NESTW) {A : Array Value} {U : State} (hw : va_Nw w U) : w.before A U = true := by
  have h1 := (List.mem_filter.mp h).2
  cases w <;> first | exact va_Nw.use rfl hw | cases h1
/-- an object's shape: a class and its fields' kinds (0 int, 1 long, 2 + 2 t the object t, 3 + 2 t the object t or null), or an array (0 int, 1 boolean) and its length -/
abbrev JSh : Type := (Nat × List Nat) ⊕ (Nat × Nat)
abbrev JM : Type := (Nat → Nat → Int32) × (Nat → Nat → Int64)
abbrev JG : Type := Launch × va_G × ClassId × ClassId × (Nat → Nat)
/-- a method: its name, code, locals, answer; frames and locals of its room -/
abbrev JMth : Type := MethodName × ByteArray × Nat × Option FieldType × Nat × Nat
def j_cv (ad : Nat → Nat) (v : Value) : Value := match v with
  | .ref a => .ref (ad a)
  | v => v
def j_fv (ad : Nat → Nat) (μ : JM) (o k t : Nat) : Value := match t with
  | 0 => .int (μ.1 o k)
  | 1 => .long (μ.2 o k)
  | t + 2 => if t % 2 = 0 then .ref (ad (t / 2)) else if μ.1 o k = 0 then .null else .ref (ad (t / 2))
def j_fs (ad : Nat → Nat) (μ : JM) (o : Nat) (ks : List Nat) : List Value := (List.range ks.length).map (fun k => j_fv ad μ o k (ks.getD k 0))
def j_cell (cI cZ : ClassId) (ad : Nat → Nat) (μ : JM) (o : Nat) (x : JSh) : va_E := match x with
  | .inl (ci, ks) => .inr (ci, j_fs ad μ o ks)
  | .inr (t, n) => .inl (if t = 0 then cI else cZ, n, .inl (μ.1 o))
def j_w (cI cZ : ClassId) (ad : Nat → Nat) (sh : List JSh) (μ : JM) : va_W := (List.range sh.length).map (fun o => (ad o, j_cell cI cZ ad μ o (sh.getD o (.inr (0, 0)))))
def jI (μ : JM) (o k : Nat) (x : Int32) : JM := (fun a b => if a = o ∧ b = k then x else μ.1 a b, μ.2)
def jL (μ : JM) (o k : Nat) (x : Int64) : JM := (μ.1, fun a b => if a = o ∧ b = k then x else μ.2 a b)
theorem jI_i (μ : JM) (o k : Nat) (x : Int32) (a b : Nat) : (jI μ o k x).1 a b = if a = o ∧ b = k then x else μ.1 a b := rfl
theorem jI_l (μ : JM) (o k : Nat) (x : Int32) : (jI μ o k x).2 = μ.2 := rfl
theorem jL_i (μ : JM) (o k : Nat) (x : Int64) : (jL μ o k x).1 = μ.1 := rfl
theorem jL_l (μ : JM) (o k : Nat) (x : Int64) (a b : Nat) : (jL μ o k x).2 a b = if a = o ∧ b = k then x else μ.2 a b := rfl
/-- an array's part is overwritten -/
def jC (μ : JM) (o : Nat) (f : Nat → Int32) : JM := (fun a => if a = o then f else μ.1 a, μ.2)
theorem j_w_get {cI cZ : ClassId} {ad : Nat → Nat} {sh : List JSh} {μ : JM} {o : Nat} {x : JSh} (h : sh[o]? = some x) : (j_w cI cZ ad sh μ)[o]? = some (ad o, j_cell cI cZ ad μ o x) := by
  have hl := (List.getElem?_eq_some_iff.mp h).1
  have e : sh[o] = x := (List.getElem?_eq_some_iff.mp h).2
  simp [j_w, hl, e]
theorem j_fs_get {ad : Nat → Nat} {μ : JM} {o k t : Nat} {ks : List Nat} (h : ks[k]? = some t) : (j_fs ad μ o ks)[k]? = some (j_fv ad μ o k t) := by
  have hl := (List.getElem?_eq_some_iff.mp h).1
  have e : ks[k] = t := (List.getElem?_eq_some_iff.mp h).2
  simp [j_fs, hl, e]
theorem j_fs_len {ad : Nat → Nat} {μ : JM} {o : Nat} {ks : List Nat} : (j_fs ad μ o ks).length = ks.length := by simp [j_fs]
theorem j_w_len {cI cZ : ClassId} {ad : Nat → Nat} {sh : List JSh} {μ : JM} : (j_w cI cZ ad sh μ).length = sh.length := by simp [j_w]
/-- one cell anew: the world of the new memory -/
theorem j_w_set {cI cZ : ClassId} {ad : Nat → Nat} {sh : List JSh} {μ μ' : JM} {o : Nat} {x : JSh} {e : va_E} (h : sh[o]? = some x) (he : e = j_cell cI cZ ad μ' o x) (hk : ∀ a, a ≠ o → ∀ y, j_cell cI cZ ad μ' a y = j_cell cI cZ ad μ a y) : (j_w cI cZ ad sh μ).set o (ad o, e) = j_w cI cZ ad sh μ' := by
  have hl := (List.getElem?_eq_some_iff.mp h).1
  apply List.ext_getElem?
  intro i
  by_cases hi : i = o
  · subst hi
    rw [List.getElem?_set_self (by rw [j_w_len]; exact hl), j_w_get h, he]
  · rw [List.getElem?_set_ne (Ne.symm hi)]
    by_cases hl2 : i < sh.length
    · obtain ⟨y, hy⟩ : ∃ y, sh[i]? = some y := ⟨_, List.getElem?_eq_getElem hl2⟩
      rw [j_w_get hy, j_w_get hy, hk i hi]
    · rw [List.getElem?_eq_none (by rw [j_w_len]; omega), List.getElem?_eq_none (by rw [j_w_len]; omega)]
theorem j_fs_set {ad : Nat → Nat} {μ μ' : JM} {o k t : Nat} {ks : List Nat} {v : Value} (h : ks[k]? = some t) (hv : v = j_fv ad μ' o k t) (hk : ∀ b, b ≠ k → ∀ u, j_fv ad μ' o b u = j_fv ad μ o b u) : (j_fs ad μ o ks).set k v = j_fs ad μ' o ks := by
  have hl := (List.getElem?_eq_some_iff.mp h).1
  apply List.ext_getElem?
  intro i
  by_cases hi : i = k
  · subst hi
    rw [List.getElem?_set_self (by rw [j_fs_len]; exact hl), j_fs_get h, hv]
  · rw [List.getElem?_set_ne (Ne.symm hi)]
    by_cases hl2 : i < ks.length
    · obtain ⟨y, hy⟩ : ∃ y, ks[i]? = some y := ⟨_, List.getElem?_eq_getElem hl2⟩
      rw [j_fs_get hy, j_fs_get hy, hk i hi]
    · rw [List.getElem?_eq_none (by rw [j_fs_len]; omega), List.getElem?_eq_none (by rw [j_fs_len]; omega)]
theorem j_fv_I {ad : Nat → Nat} {μ : JM} {o k a b t : Nat} {x : Int32} (h : ¬ (a = o ∧ b = k)) : j_fv ad (jI μ o k x) a b t = j_fv ad μ a b t := by
  match t with
  | 0 => simp [j_fv, jI, h]
  | 1 => simp [j_fv, jI]
  | t + 2 => simp [j_fv, jI, h]
theorem j_fv_L {ad : Nat → Nat} {μ : JM} {o k a b t : Nat} {x : Int64} (h : ¬ (a = o ∧ b = k)) : j_fv ad (jL μ o k x) a b t = j_fv ad μ a b t := by
  match t with
  | 0 => simp [j_fv, jL]
  | 1 => simp [j_fv, jL, h]
  | t + 2 => rfl
theorem j_fs_congr {ad : Nat → Nat} {μ μ' : JM} {a : Nat} {ks : List Nat} (h : ∀ b t, j_fv ad μ' a b t = j_fv ad μ a b t) : j_fs ad μ' a ks = j_fs ad μ a ks := by
  simp [j_fs, h]
theorem j_cell_I {cI cZ : ClassId} {ad : Nat → Nat} {μ : JM} {o k a : Nat} {x : Int32} (h : a ≠ o) (y : JSh) : j_cell cI cZ ad (jI μ o k x) a y = j_cell cI cZ ad μ a y := by
  match y with
  | .inl (ci, ks) => simp only [j_cell]; rw [j_fs_congr (fun b t => j_fv_I (fun z => h z.1))]
  | .inr (t, n) => simp [j_cell, jI, h]
theorem j_cell_L {cI cZ : ClassId} {ad : Nat → Nat} {μ : JM} {o k a : Nat} {x : Int64} (h : a ≠ o) (y : JSh) : j_cell cI cZ ad (jL μ o k x) a y = j_cell cI cZ ad μ a y := by
  match y with
  | .inl (ci, ks) => simp only [j_cell]; rw [j_fs_congr (fun b t => j_fv_L (fun z => h z.1))]
  | .inr (t, n) => simp [j_cell, jL]
theorem j_cell_C {cI cZ : ClassId} {ad : Nat → Nat} {μ : JM} {o a : Nat} {f : Nat → Int32} (h : a ≠ o) (y : JSh) : j_cell cI cZ ad (jC μ o f) a y = j_cell cI cZ ad μ a y := by
  match y with
  | .inl (ci, ks) =>
    simp only [j_cell]
    rw [j_fs_congr (fun b t => ?_)]
    match t with
    | 0 => simp [j_fv, jC, h]
    | 1 => simp [j_fv, jC]
    | t + 2 => simp [j_fv, jC, h]
  | .inr (t, n) => simp [j_cell, jC, h]
theorem j_w_I {cI cZ : ClassId} {ad : Nat → Nat} {sh : List JSh} {μ : JM} {o k ci : Nat} {ks : List Nat} {x : Int32} (h : sh[o]? = some (.inl (ci, ks))) (hk : ks[k]? = some 0) : (j_w cI cZ ad sh μ).set o (ad o, .inr (ci, (j_fs ad μ o ks).set k (.int x))) = j_w cI cZ ad sh (jI μ o k x) := by
  refine j_w_set h ?_ (fun a ha y => j_cell_I ha y)
  rw [j_fs_set (μ' := jI μ o k x) hk (by simp [j_fv, jI]) (fun b hb u => j_fv_I (fun z => hb z.2))]
  rfl
theorem j_w_L {cI cZ : ClassId} {ad : Nat → Nat} {sh : List JSh} {μ : JM} {o k ci : Nat} {ks : List Nat} {x : Int64} (h : sh[o]? = some (.inl (ci, ks))) (hk : ks[k]? = some 1) : (j_w cI cZ ad sh μ).set o (ad o, .inr (ci, (j_fs ad μ o ks).set k (.long x))) = j_w cI cZ ad sh (jL μ o k x) := by
  refine j_w_set h ?_ (fun a ha y => j_cell_L ha y)
  rw [j_fs_set (μ' := jL μ o k x) hk (by simp [j_fv, jL]) (fun b hb u => j_fv_L (fun z => hb z.2))]
  rfl
theorem j_w_N {cI cZ : ClassId} {ad : Nat → Nat} {sh : List JSh} {μ : JM} {o k ci t : Nat} {ks : List Nat} (h : sh[o]? = some (.inl (ci, ks))) (hk : ks[k]? = some (2 * t + 3)) : (j_w cI cZ ad sh μ).set o (ad o, .inr (ci, (j_fs ad μ o ks).set k (.ref (ad t)))) = j_w cI cZ ad sh (jI μ o k 1) := by
  refine j_w_set h ?_ (fun a ha y => j_cell_I ha y)
  have e2 : j_fv ad (jI μ o k 1) o k (2 * t + 3) = .ref (ad t) := by
    show (if (2 * t + 1) % 2 = 0 then Value.ref (ad ((2 * t + 1) / 2)) else if (jI μ o k 1).1 o k = 0 then .null else .ref (ad ((2 * t + 1) / 2))) = _
    have e3 : (jI μ o k 1).1 o k = 1 := by simp [jI]
    rw [if_neg (by omega), if_neg (by rw [e3]; decide), show (2 * t + 1) / 2 = t by omega]
  rw [j_fs_set (μ' := jI μ o k 1) hk e2.symm (fun b hb u => j_fv_I (fun z => hb z.2))]
  rfl
theorem j_w_A {cI cZ : ClassId} {ad : Nat → Nat} {sh : List JSh} {μ : JM} {o k t n : Nat} {x : Int32} (h : sh[o]? = some (.inr (t, n))) : (j_w cI cZ ad sh μ).set o (ad o, .inl (if t = 0 then cI else cZ, n, .inl (upd (μ.1 o) k x))) = j_w cI cZ ad sh (jI μ o k x) := by
  refine j_w_set h ?_ (fun a ha y => j_cell_I ha y)
  have e : upd (μ.1 o) k x = (jI μ o k x).1 o := by
    funext b
    simp [upd, jI]
  rw [e]
  rfl
theorem j_w_C {cI cZ : ClassId} {ad : Nat → Nat} {sh : List JSh} {μ : JM} {o t n : Nat} {f : Nat → Int32} (h : sh[o]? = some (.inr (t, n))) : (j_w cI cZ ad sh μ).set o (ad o, .inl (if t = 0 then cI else cZ, n, .inl f)) = j_w cI cZ ad sh (jC μ o f) := by
  refine j_w_set h ?_ (fun a ha y => j_cell_C ha y)
  have e : f = (jC μ o f).1 o := by simp [jC]
  rw [show j_cell cI cZ ad (jC μ o f) o (.inr (t, n)) = .inl (if t = 0 then cI else cZ, n, .inl ((jC μ o f).1 o)) from rfl, ← e]
/-! ===== the locals: a list of values or nothing ===== -/
def j_l (ad : Nat → Nat) : Nat → List (Option Value) → List (Nat × Value)
  | _, [] => []
  | i, none :: t => j_l ad (i + 1) t
  | i, some v :: t => (i, j_cv ad v) :: j_l ad (i + 1) t
theorem j_l_mem {ad : Nat → Nat} : ∀ {lv : List (Option Value)} {b : Nat} {q : Nat × Value}, q ∈ j_l ad b lv ↔ ∃ j v, lv[j]? = some (some v) ∧ q = (b + j, j_cv ad v)
  | [], b, q => by simp [j_l]
  | none :: t, b, q => by
    rw [j_l, j_l_mem (lv := t)]
    constructor
    · rintro ⟨j, v, h, e⟩
      exact ⟨j + 1, v, by simpa using h, by rw [e]; congr 1; omega⟩
    · rintro ⟨j, v, h, e⟩
      match j with
      | 0 => simp at h
      | j + 1 => exact ⟨j, v, by simpa using h, by rw [e]; congr 1; omega⟩
  | some w :: t, b, q => by
    rw [j_l, List.mem_cons, j_l_mem (lv := t)]
    constructor
    · rintro (e | ⟨j, v, h, e⟩)
      · exact ⟨0, w, rfl, e⟩
      · exact ⟨j + 1, v, by simpa using h, by rw [e]; congr 1; omega⟩
    · rintro ⟨j, v, h, e⟩
      match j with
      | 0 => left; simp at h; rw [e, h]; rfl
      | j + 1 => right; exact ⟨j, v, by simpa using h, by rw [e]; congr 1; omega⟩
/-- no long ends at place i -/
def j_ok (lv : List (Option Value)) (i : Nat) : Bool := match i with
  | 0 => true
  | j + 1 => match lv[j]? with
    | some (some (.long _)) => false
    | some (some (.double _)) => false
    | _ => true
theorem j_cv_cat (ad : Nat → Nat) (v : Value) : (j_cv ad v).category = v.category := by cases v <;> rfl
theorem j_ok_cat {ad : Nat → Nat} {lv : List (Option Value)} {i j : Nat} {v : Value} (h : j_ok lv i = true) (hj : lv[j]? = some (some v)) (hi : j + 1 = i) : (j_cv ad v).category ≠ 2 := by
  subst hi
  rw [j_cv_cat]
  simp only [j_ok, hj] at h
  cases v <;> simp_all [Value.category]
theorem j_l_st1 {ad : Nat → Nat} {lv : List (Option Value)} {i : Nat} {v : Value} (h : j_ok lv i = true) : ∀ q ∈ j_l ad 0 (lv.set i (some v)), q ∈ (i, j_cv ad v) :: (j_l ad 0 lv).filter (fun q => !(q.1 == i) && !(q.1 + 1 == i && q.2.category == 2)) := by
  intro q hq
  obtain ⟨j, w, h1, e⟩ := j_l_mem.mp hq
  by_cases hj : j = i
  · subst hj
    rw [List.getElem?_set] at h1
    split at h1
    · split at h1
      · cases h1
        rw [e, Nat.zero_add]
        exact List.mem_cons_self
      · cases h1
    · rename_i z; exact absurd rfl z
  · rw [List.getElem?_set_ne (Ne.symm hj)] at h1
    refine List.mem_cons_of_mem _ (List.mem_filter.mpr ⟨j_l_mem.mpr ⟨j, w, h1, e⟩, ?_⟩)
    rw [e, Nat.zero_add]
    by_cases hz : j + 1 = i
    · have := j_ok_cat (ad := ad) h h1 hz
      simp [hj, this]
    · simp [hj, hz]
theorem j_l_st2 {ad : Nat → Nat} {lv : List (Option Value)} {i : Nat} {v : Value} (h : j_ok lv i = true) : ∀ q ∈ j_l ad 0 ((lv.set i (some v)).set (i + 1) none), q ∈ (i, j_cv ad v) :: (j_l ad 0 lv).filter (fun q => !(q.1 == i) && (!(q.1 == i + 1) && !(q.1 + 1 == i && q.2.category == 2))) := by
  intro q hq
  obtain ⟨j, w, h1, e⟩ := j_l_mem.mp hq
  by_cases hj1 : j = i + 1
  · subst hj1
    rw [List.getElem?_set] at h1
    split at h1
    · split at h1 <;> cases h1
    · rename_i z; exact absurd rfl z
  · rw [List.getElem?_set_ne (Ne.symm hj1)] at h1
    by_cases hj : j = i
    · subst hj
      rw [List.getElem?_set] at h1
      split at h1
      · split at h1
        · cases h1
          rw [e, Nat.zero_add]
          exact List.mem_cons_self
        · cases h1
      · rename_i z; exact absurd rfl z
    · rw [List.getElem?_set_ne (Ne.symm hj)] at h1
      refine List.mem_cons_of_mem _ (List.mem_filter.mpr ⟨j_l_mem.mpr ⟨j, w, h1, e⟩, ?_⟩)
      rw [e, Nat.zero_add]
      by_cases hz : j + 1 = i
      · have := j_ok_cat (ad := ad) h h1 hz
        simp [hj, hj1, this]
      · simp [hj, hj1, hz]
theorem j_has_get {ad : Nat → Nat} {lv : List (Option Value)} {ls : Array Slot} {n i : Nat} {v : Value} (h : lv_has ls n (j_l ad 0 lv)) (hv : lv[i]? = some (some v)) : ls[i]? = some (.val (j_cv ad v)) :=
  h.2.2 (i, j_cv ad v) (j_l_mem.mpr ⟨i, v, hv, by rw [Nat.zero_add]⟩)
theorem j_has_sub {ls : Array Slot} {n : Nat} {l l' : List (Nat × Value)} (h : lv_has ls n l) (hs : ∀ q ∈ l', q ∈ l) : lv_has ls n l' := ⟨h.1, h.2.1, fun q hq => h.2.2 q (hs q hq)⟩
theorem j_cat_map (ad : Nat → Nat) (st : List Value) : ((st.map (j_cv ad)).map fun v => v.category).sum = (st.map Value.category).sum := by
  rw [List.map_map]
  congr 1
  exact List.map_congr_left (fun v _ => j_cv_cat ad v)
/-! ===== what lies outside: static tables and the text constants ===== -/
def j_A (ad : Nat → Nat) (n sz : Nat) : Nat → Prop := fun q => (∃ o, o < n ∧ q = ad o) ∨ sz ≤ q
def j_tA : Nat → Int32 := fun i => match i with
  | 0 => -1
  | 1 => 1
  | 3 => -2
  | 4 => -3
  | 5 => 2
  | _ => 0
def j_tP : Nat → Int32 := fun i => match i with
  | 1 => 3
  | 2 => 2
  | 4 => -1
  | _ => 0
def j_tV : Nat → Int32 := fun i => match i with
  | 0 => 0
  | 1 => 1
  | 2 => 2
  | 3 => 3
  | _ => 4
/-- the static tables: objects 1000, 1001, 1002 -/
def j_tb : List (String × Nat × (Nat → Int32)) := [("PLAIN_ANGER", 6, j_tA), ("PLAIN_PRIDE", 6, j_tP), ("FIRST_VOWS", 8, j_tV)]
/-- the text constants: entry, text, bytes; objects 1010 .. (their byte rows 1020 ..) -/
def j_tx : List (Nat × String) := [(285, "jar"), (297, "mood"), (302, "bound"), (307, "vow"), (312, "say")]

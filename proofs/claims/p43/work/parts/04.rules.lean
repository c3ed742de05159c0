section XR
variable {L : Launch} {O : xWd} {M : xMd} {R : Room} {K : xOc → List xOb → Prop} {pc : Nat} {ls : List (Nat × Value)} {st : List Value} {G : List xOb} {cs ns : Nat}
theorem lv_has_in {lsM : Array Slot} {n : Nat} {l l' : List (Nat × Value)} (h : lv_has lsM n l) (hi : ∀ q ∈ l', q ∈ l) : lv_has lsM n l' := ⟨h.1, h.2.1, fun q hq => h.2.2 q (hi q hq)⟩
theorem xlv {lsM : Array Slot} {n : Nat} (h : lv_has lsM n (ls.map (fun q => (q.1, xtr O q.2)))) {k i : Nat} {v : Value} (hk : ls[k]? = some (i, v)) : lsM[i]? = some (.val (xtr O v)) :=
  h.2.2 (i, xtr O v) (List.mem_map.mpr ⟨(i, v), List.mem_of_getElem? hk, rfl⟩)
/-- a local gets a value: in its place, or behind the others -/
def xup (i : Nat) (v : Value) : List (Nat × Value) → List (Nat × Value)
  | [] => [(i, v)]
  | q :: r => if q.1 = i then (i, v) :: r.filter (fun q => !(q.1 == i)) else q :: xup i v r
theorem xup_in {i : Nat} {v : Value} : ∀ {l : List (Nat × Value)} {q : Nat × Value}, q ∈ xup i v l → q = (i, v) ∨ (q ∈ l ∧ q.1 ≠ i)
  | [], q, h => Or.inl (List.mem_singleton.mp h)
  | a :: r, q, h => by
    unfold xup at h
    split at h
    · rcases List.mem_cons.mp h with h | h
      · exact Or.inl h
      · obtain ⟨h1, h2⟩ := List.mem_filter.mp h
        exact Or.inr ⟨List.mem_cons_of_mem _ h1, by simpa using h2⟩
    · next c =>
      rcases List.mem_cons.mp h with h | h
      · exact Or.inr ⟨by rw [h]; exact List.mem_cons_self, by rw [h]; exact c⟩
      · rcases xup_in h with h | ⟨h1, h2⟩
        · exact Or.inl h
        · exact Or.inr ⟨List.mem_cons_of_mem _ h1, h2⟩
/-- nothing of the list is spoilt by a value of one slot (of two slots) put at i -/
def xok1 (i : Nat) (l : List (Nat × Value)) : Bool := l.all (fun q => !(q.1 + 1 == i && q.2.category == 2))
def xok2 (i : Nat) (l : List (Nat × Value)) : Bool := l.all (fun q => !(q.1 + 1 == i && q.2.category == 2) && !(q.1 == i + 1))
theorem xst1 {i : Nat} {v : Value} {lsM : Array Slot} {n : Nat} (hok : xok1 i ls = true) {l2 : List (Nat × Value)} (hu : xup i v ls = l2) (h : lv_has lsM n ((i, xtr O v) :: (ls.map (fun q => (q.1, xtr O q.2))).filter (fun q => !(q.1 == i) && !(q.1 + 1 == i && q.2.category == 2)))) : lv_has lsM n (l2.map (fun q => (q.1, xtr O q.2))) := by
  subst hu
  refine lv_has_in h fun q hq => ?_
  obtain ⟨a, ha, rfl⟩ := List.mem_map.mp hq
  rcases xup_in ha with rfl | ⟨h1, h2⟩
  · exact List.mem_cons_self
  · refine List.mem_cons_of_mem _ (List.mem_filter.mpr ⟨List.mem_map.mpr ⟨a, h1, rfl⟩, ?_⟩)
    have h3 := List.all_eq_true.mp hok a h1
    simp only [xtr_cat]
    simp [h2, h3]
theorem xst2 {i : Nat} {v : Value} {lsM : Array Slot} {n : Nat} (hok : xok2 i ls = true) {l2 : List (Nat × Value)} (hu : xup i v ls = l2) (h : lv_has lsM n ((i, xtr O v) :: (ls.map (fun q => (q.1, xtr O q.2))).filter (fun q => !(q.1 == i) && (!(q.1 == i + 1) && !(q.1 + 1 == i && q.2.category == 2))))) : lv_has lsM n (l2.map (fun q => (q.1, xtr O q.2))) := by
  subst hu
  refine lv_has_in h fun q hq => ?_
  obtain ⟨a, ha, rfl⟩ := List.mem_map.mp hq
  rcases xup_in ha with rfl | ⟨h1, h2⟩
  · exact List.mem_cons_self
  · refine List.mem_cons_of_mem _ (List.mem_filter.mpr ⟨List.mem_map.mpr ⟨a, h1, rfl⟩, ?_⟩)
    have h3 := List.all_eq_true.mp hok a h1
    simp only [xtr_cat]
    simp only [Bool.and_eq_true, Bool.not_eq_true', beq_eq_false_iff_ne] at h3 ⊢
    exact ⟨h2, h3.2, h3.1⟩
/-- fewer locals -/
theorem xw_loc (l2 : List (Nat × Value)) (hi : ∀ q ∈ l2, q ∈ ls) (k : xWP L O M R K pc l2 st G cs ns) : xWP L O M R K pc ls st G cs ns := fun p e s m args below meth c H locs lsM hC hR hS hl =>
  k p e s m args below meth c H locs lsM hC hR hS (lv_has_in hl fun q hq => by
    obtain ⟨a, ha, rfl⟩ := List.mem_map.mp hq
    exact List.mem_map.mpr ⟨a, hi a ha, rfl⟩)
/-- more room is told -/
theorem xw_wid {c2 n2 : Nat} (h1 : cs ≤ c2) (h2 : ns ≤ n2) (k : xWP L O M R K pc ls st G c2 n2) : xWP L O M R K pc ls st G cs ns := fun p e s m args below meth c H locs lsM hC hR hS hl =>
  W.widen h1 h2 (k p e s m args below meth c H locs lsM hC hR hS hl)
theorem xMQ_mono {O : xWd} {K K' : xOc → List xOb → Prop} {below : List Frame} {args : Array Value} {s : State} {mc ms : Nat} {A : Nat → Prop} (h : ∀ o G, K o G → K' o G) (t : State) (q : vx_MQ below (xQc O K) (xXC O K) args s mc ms A t) : vx_MQ below (xQc O K') (xXC O K') args s mc ms A t := by
  obtain ⟨o, h1, h2, h3⟩ := q
  refine ⟨o, h1, h2, ?_⟩
  rcases h3 with ⟨⟨v, G', e, hK, r⟩, f⟩ | ⟨q, e, E, ce, L9, ⟨G', hK, r⟩, r2⟩
  · exact Or.inl ⟨⟨v, G', e, h _ _ hK, r⟩, f⟩
  · exact Or.inr ⟨q, e, E, ce, L9, ⟨G', h _ _ hK, r⟩, r2⟩
theorem xw_mono {K' : xOc → List xOb → Prop} (h : ∀ o G, K o G → K' o G) (k : xWP L O M R K pc ls st G cs ns) : xWP L O M R K' pc ls st G cs ns := fun p e s m args below meth c H locs lsM hC hR hS hl => by
  intro T hT X
  obtain ⟨t, a, b⟩ := k p e s m args below meth c H locs lsM hC hR hS hl T hT X
  exact ⟨t, a, xMQ_mono h t b⟩
theorem xw_eq {pc2 : Nat} {l2 : List (Nat × Value)} {s2 : List Value} {G2 : List xOb} (h1 : pc = pc2) (h2 : ls = l2) (h3 : st = s2) (h4 : G = G2) (k : xWP L O M R K pc2 l2 s2 G2 cs ns) : xWP L O M R K pc ls st G cs ns := by
  subst h1; subst h2; subst h3; subst h4; exact k

theorem xw_iconst {n : Int} {v : Int32} (hd : decode M.2.1 pc = .ok (.iconst n, 1)) (hv : Int32.ofInt n = v) (k : xWP L O M R K (pc + 1) ls (.int v :: st) G cs ns) : xWP L O M R K pc ls (st) G cs ns := by
  intro p e s m args below meth c H locs lsM hC hR hS hl
  exact lv_iconst hC.1 hC.2.1 hd hv (k p e s m args below meth c H locs lsM hC hR hS hl)

theorem xw_bipush {n : Int} {v : Int32} (hd : decode M.2.1 pc = .ok (.bipush n, 2)) (hv : (Int8.ofInt n).toInt32 = v) (k : xWP L O M R K (pc + 2) ls (.int v :: st) G cs ns) : xWP L O M R K pc ls (st) G cs ns := by
  intro p e s m args below meth c H locs lsM hC hR hS hl
  exact lv_bipush hC.1 hC.2.1 hd hv (k p e s m args below meth c H locs lsM hC hR hS hl)

theorem xw_sipush {n : Int} {v : Int32} (hd : decode M.2.1 pc = .ok (.sipush n, 3)) (hv : (Int16.ofInt n).toInt32 = v) (k : xWP L O M R K (pc + 3) ls (.int v :: st) G cs ns) : xWP L O M R K pc ls (st) G cs ns := by
  intro p e s m args below meth c H locs lsM hC hR hS hl
  exact lv_sipush hC.1 hC.2.1 hd hv (k p e s m args below meth c H locs lsM hC hR hS hl)

theorem xw_lconst {n : Fin 2} {v : Int64} (hd : decode M.2.1 pc = .ok (.lconst n, 1)) (hv : Int64.ofNat (n : Nat) = v) (k : xWP L O M R K (pc + 1) ls (.long v :: st) G cs ns) : xWP L O M R K pc ls (st) G cs ns := by
  intro p e s m args below meth c H locs lsM hC hR hS hl
  exact lv_lconst hC.1 hC.2.1 hd hv (k p e s m args below meth c H locs lsM hC hR hS hl)

theorem xw_fconst0 (hd : decode M.2.1 pc = .ok (.fconst 0, 1)) (k : xWP L O M R K (pc + 1) ls (.float FP.fconst0 :: st) G cs ns) : xWP L O M R K pc ls (st) G cs ns := by
  intro p e s m args below meth c H locs lsM hC hR hS hl
  exact lv_fconst0 hC.1 hC.2.1 hd (k p e s m args below meth c H locs lsM hC hR hS hl)

theorem xw_ldc {i : Nat} {v : Int32} (hd : decode M.2.1 pc = .ok (.ldc i, 2)) (hw : Cond.constant M.1.cls i v ∈ xTG) (k : xWP L O M R K (pc + 2) ls (.int v :: st) G cs ns) : xWP L O M R K pc ls (st) G cs ns := by
  intro p e s m args below meth c H locs lsM hC hR hS hl
  exact lv_ldc hC.1 hC.2.1 (own := M.1.cls) hC.2.2.2.2.1 (hC.2.2.2.2.2.1 _ hw) hd (k p e s m args below meth c H locs lsM hC hR hS hl)

theorem xw_ldcw {i : Nat} {v : Int32} (hd : decode M.2.1 pc = .ok (.ldc_w i, 3)) (hw : Cond.constant M.1.cls i v ∈ xTG) (k : xWP L O M R K (pc + 3) ls (.int v :: st) G cs ns) : xWP L O M R K pc ls (st) G cs ns := by
  intro p e s m args below meth c H locs lsM hC hR hS hl
  exact lv_ldcw hC.1 hC.2.1 (own := M.1.cls) hC.2.2.2.2.1 (hC.2.2.2.2.2.1 _ hw) hd (k p e s m args below meth c H locs lsM hC hR hS hl)

theorem xw_ldc2 {i : Nat} {v : Int64} (hd : decode M.2.1 pc = .ok (.ldc2_w i, 3)) (hw : Cond.constantLong M.1.cls i v ∈ xTG) (k : xWP L O M R K (pc + 3) ls (.long v :: st) G cs ns) : xWP L O M R K pc ls (st) G cs ns := by
  intro p e s m args below meth c H locs lsM hC hR hS hl
  exact lv_ldc2 hC.1 hC.2.1 (own := M.1.cls) hC.2.2.2.2.1 (hC.2.2.2.2.2.1 _ hw) hd (k p e s m args below meth c H locs lsM hC hR hS hl)

theorem xw_ldcf {i : Nat} {v : UInt32} (hd : decode M.2.1 pc = .ok (.ldc i, 2)) (hw : Cond.constantFloat M.1.cls i v ∈ xTG) (k : xWP L O M R K (pc + 2) ls (.float v :: st) G cs ns) : xWP L O M R K pc ls (st) G cs ns := by
  intro p e s m args below meth c H locs lsM hC hR hS hl
  exact lv_ldcf hC.1 hC.2.1 (own := M.1.cls) hC.2.2.2.2.1 (hC.2.2.2.2.2.1 _ hw) hd (k p e s m args below meth c H locs lsM hC hR hS hl)

theorem xw_iload {x : Int32} {i : Nat} (k0 : Nat) (hd : decode M.2.1 pc = .ok (.iload i, 2)) (hk : ls[k0]? = some (i, .int x)) (k : xWP L O M R K (pc + 2) ls (.int x :: st) G cs ns) : xWP L O M R K pc ls st G cs ns := by
  intro p e s m args below meth c H locs lsM hC hR hS hl
  exact lv_iload hC.1 hC.2.1 hd (xlv hl hk) (k p e s m args below meth c H locs lsM hC hR hS hl)

theorem xw_iload_n {x : Int32} {i : Fin 4} (k0 : Nat) (hd : decode M.2.1 pc = .ok (.iload_n i, 1)) (hk : ls[k0]? = some ((i : Nat), .int x)) (k : xWP L O M R K (pc + 1) ls (.int x :: st) G cs ns) : xWP L O M R K pc ls st G cs ns := by
  intro p e s m args below meth c H locs lsM hC hR hS hl
  exact lv_iload_n hC.1 hC.2.1 hd rfl (xlv hl hk) (k p e s m args below meth c H locs lsM hC hR hS hl)

theorem xw_lload {x : Int64} {i : Nat} (k0 : Nat) (hd : decode M.2.1 pc = .ok (.lload i, 2)) (hk : ls[k0]? = some (i, .long x)) (k : xWP L O M R K (pc + 2) ls (.long x :: st) G cs ns) : xWP L O M R K pc ls st G cs ns := by
  intro p e s m args below meth c H locs lsM hC hR hS hl
  exact lv_lload hC.1 hC.2.1 hd (xlv hl hk) (k p e s m args below meth c H locs lsM hC hR hS hl)

theorem xw_lload_n {x : Int64} {i : Fin 4} (k0 : Nat) (hd : decode M.2.1 pc = .ok (.lload_n i, 1)) (hk : ls[k0]? = some ((i : Nat), .long x)) (k : xWP L O M R K (pc + 1) ls (.long x :: st) G cs ns) : xWP L O M R K pc ls st G cs ns := by
  intro p e s m args below meth c H locs lsM hC hR hS hl
  exact lv_lload_n hC.1 hC.2.1 hd rfl (xlv hl hk) (k p e s m args below meth c H locs lsM hC hR hS hl)

theorem xw_fload {x : UInt32} {i : Nat} (k0 : Nat) (hd : decode M.2.1 pc = .ok (.fload i, 2)) (hk : ls[k0]? = some (i, .float x)) (k : xWP L O M R K (pc + 2) ls (.float x :: st) G cs ns) : xWP L O M R K pc ls st G cs ns := by
  intro p e s m args below meth c H locs lsM hC hR hS hl
  exact lv_fload hC.1 hC.2.1 hd (xlv hl hk) (k p e s m args below meth c H locs lsM hC hR hS hl)

theorem xw_fload_n {x : UInt32} {i : Fin 4} (k0 : Nat) (hd : decode M.2.1 pc = .ok (.fload_n i, 1)) (hk : ls[k0]? = some ((i : Nat), .float x)) (k : xWP L O M R K (pc + 1) ls (.float x :: st) G cs ns) : xWP L O M R K pc ls st G cs ns := by
  intro p e s m args below meth c H locs lsM hC hR hS hl
  exact lv_fload_n hC.1 hC.2.1 hd rfl (xlv hl hk) (k p e s m args below meth c H locs lsM hC hR hS hl)

theorem xw_dload {x : UInt64} {i : Nat} (k0 : Nat) (hd : decode M.2.1 pc = .ok (.dload i, 2)) (hk : ls[k0]? = some (i, .double x)) (k : xWP L O M R K (pc + 2) ls (.double x :: st) G cs ns) : xWP L O M R K pc ls st G cs ns := by
  intro p e s m args below meth c H locs lsM hC hR hS hl
  exact lv_dload hC.1 hC.2.1 hd (xlv hl hk) (k p e s m args below meth c H locs lsM hC hR hS hl)

theorem xw_dload_n {x : UInt64} {i : Fin 4} (k0 : Nat) (hd : decode M.2.1 pc = .ok (.dload_n i, 1)) (hk : ls[k0]? = some ((i : Nat), .double x)) (k : xWP L O M R K (pc + 1) ls (.double x :: st) G cs ns) : xWP L O M R K pc ls st G cs ns := by
  intro p e s m args below meth c H locs lsM hC hR hS hl
  exact lv_dload_n hC.1 hC.2.1 hd rfl (xlv hl hk) (k p e s m args below meth c H locs lsM hC hR hS hl)

theorem xw_aload {x : Nat} {i : Nat} (k0 : Nat) (hd : decode M.2.1 pc = .ok (.aload i, 2)) (hk : ls[k0]? = some (i, .ref x)) (k : xWP L O M R K (pc + 2) ls (.ref x :: st) G cs ns) : xWP L O M R K pc ls st G cs ns := by
  intro p e s m args below meth c H locs lsM hC hR hS hl
  exact lv_aload hC.1 hC.2.1 hd (xlv hl hk) (k p e s m args below meth c H locs lsM hC hR hS hl)

theorem xw_aload_n {x : Nat} {i : Fin 4} (k0 : Nat) (hd : decode M.2.1 pc = .ok (.aload_n i, 1)) (hk : ls[k0]? = some ((i : Nat), .ref x)) (k : xWP L O M R K (pc + 1) ls (.ref x :: st) G cs ns) : xWP L O M R K pc ls st G cs ns := by
  intro p e s m args below meth c H locs lsM hC hR hS hl
  exact lv_aload_n hC.1 hC.2.1 hd rfl (xlv hl hk) (k p e s m args below meth c H locs lsM hC hR hS hl)

theorem xw_istore {x : Int32} {i : Nat} {l2 : List (Nat × Value)} (hd : decode M.2.1 pc = .ok (.istore i, 2)) (hn : i < M.2.2.1) (hok : xok1 i ls = true) (hu : xup i (.int x) ls = l2) (k : xWP L O M R K (pc + 2) l2 st G cs ns) : xWP L O M R K pc ls (.int x :: st) G cs ns := by
  intro p e s m args below meth c H locs lsM hC hR hS hl
  exact lv_istore hC.1 hC.2.1 hd hl hn rfl (fun l9 h9 => k p e s m args below meth c H locs l9 hC hR hS (xst1 (v := .int x) hok hu h9))

theorem xw_istore_n {x : Int32} {i : Fin 4} {l2 : List (Nat × Value)} (hd : decode M.2.1 pc = .ok (.istore_n i, 1)) (hn : (i : Nat) < M.2.2.1) (hok : xok1 (i : Nat) ls = true) (hu : xup (i : Nat) (.int x) ls = l2) (k : xWP L O M R K (pc + 1) l2 st G cs ns) : xWP L O M R K pc ls (.int x :: st) G cs ns := by
  intro p e s m args below meth c H locs lsM hC hR hS hl
  exact lv_istore_n hC.1 hC.2.1 hd rfl hl hn rfl (fun l9 h9 => k p e s m args below meth c H locs l9 hC hR hS (xst1 (v := .int x) hok hu h9))

theorem xw_lstore {x : Int64} {i : Nat} {l2 : List (Nat × Value)} (hd : decode M.2.1 pc = .ok (.lstore i, 2)) (hn : i + 1 < M.2.2.1) (hok : xok2 i ls = true) (hu : xup i (.long x) ls = l2) (k : xWP L O M R K (pc + 2) l2 st G cs ns) : xWP L O M R K pc ls (.long x :: st) G cs ns := by
  intro p e s m args below meth c H locs lsM hC hR hS hl
  exact lv_lstore hC.1 hC.2.1 hd hl hn rfl (fun l9 h9 => k p e s m args below meth c H locs l9 hC hR hS (xst2 (v := .long x) hok hu h9))

theorem xw_lstore_n {x : Int64} {i : Fin 4} {l2 : List (Nat × Value)} (hd : decode M.2.1 pc = .ok (.lstore_n i, 1)) (hn : (i : Nat) + 1 < M.2.2.1) (hok : xok2 (i : Nat) ls = true) (hu : xup (i : Nat) (.long x) ls = l2) (k : xWP L O M R K (pc + 1) l2 st G cs ns) : xWP L O M R K pc ls (.long x :: st) G cs ns := by
  intro p e s m args below meth c H locs lsM hC hR hS hl
  exact lv_lstore_n hC.1 hC.2.1 hd rfl hl hn rfl (fun l9 h9 => k p e s m args below meth c H locs l9 hC hR hS (xst2 (v := .long x) hok hu h9))

theorem xw_fstore {x : UInt32} {i : Nat} {l2 : List (Nat × Value)} (hd : decode M.2.1 pc = .ok (.fstore i, 2)) (hn : i < M.2.2.1) (hok : xok1 i ls = true) (hu : xup i (.float x) ls = l2) (k : xWP L O M R K (pc + 2) l2 st G cs ns) : xWP L O M R K pc ls (.float x :: st) G cs ns := by
  intro p e s m args below meth c H locs lsM hC hR hS hl
  exact lv_fstore hC.1 hC.2.1 hd hl hn rfl (fun l9 h9 => k p e s m args below meth c H locs l9 hC hR hS (xst1 (v := .float x) hok hu h9))

theorem xw_fstore_n {x : UInt32} {i : Fin 4} {l2 : List (Nat × Value)} (hd : decode M.2.1 pc = .ok (.fstore_n i, 1)) (hn : (i : Nat) < M.2.2.1) (hok : xok1 (i : Nat) ls = true) (hu : xup (i : Nat) (.float x) ls = l2) (k : xWP L O M R K (pc + 1) l2 st G cs ns) : xWP L O M R K pc ls (.float x :: st) G cs ns := by
  intro p e s m args below meth c H locs lsM hC hR hS hl
  exact lv_fstore_n hC.1 hC.2.1 hd rfl hl hn rfl (fun l9 h9 => k p e s m args below meth c H locs l9 hC hR hS (xst1 (v := .float x) hok hu h9))

theorem xw_dstore {x : UInt64} {i : Nat} {l2 : List (Nat × Value)} (hd : decode M.2.1 pc = .ok (.dstore i, 2)) (hn : i + 1 < M.2.2.1) (hok : xok2 i ls = true) (hu : xup i (.double x) ls = l2) (k : xWP L O M R K (pc + 2) l2 st G cs ns) : xWP L O M R K pc ls (.double x :: st) G cs ns := by
  intro p e s m args below meth c H locs lsM hC hR hS hl
  exact lv_dstore hC.1 hC.2.1 hd hl hn rfl (fun l9 h9 => k p e s m args below meth c H locs l9 hC hR hS (xst2 (v := .double x) hok hu h9))

theorem xw_dstore_n {x : UInt64} {i : Fin 4} {l2 : List (Nat × Value)} (hd : decode M.2.1 pc = .ok (.dstore_n i, 1)) (hn : (i : Nat) + 1 < M.2.2.1) (hok : xok2 (i : Nat) ls = true) (hu : xup (i : Nat) (.double x) ls = l2) (k : xWP L O M R K (pc + 1) l2 st G cs ns) : xWP L O M R K pc ls (.double x :: st) G cs ns := by
  intro p e s m args below meth c H locs lsM hC hR hS hl
  exact lv_dstore_n hC.1 hC.2.1 hd rfl hl hn rfl (fun l9 h9 => k p e s m args below meth c H locs l9 hC hR hS (xst2 (v := .double x) hok hu h9))

theorem xw_astore {x : Nat} {i : Nat} {l2 : List (Nat × Value)} (hd : decode M.2.1 pc = .ok (.astore i, 2)) (hn : i < M.2.2.1) (hok : xok1 i ls = true) (hu : xup i (.ref x) ls = l2) (k : xWP L O M R K (pc + 2) l2 st G cs ns) : xWP L O M R K pc ls (.ref x :: st) G cs ns := by
  intro p e s m args below meth c H locs lsM hC hR hS hl
  exact lv_astore hC.1 hC.2.1 hd hl hn rfl (fun l9 h9 => k p e s m args below meth c H locs l9 hC hR hS (xst1 (v := .ref x) hok hu h9))

theorem xw_astore_n {x : Nat} {i : Fin 4} {l2 : List (Nat × Value)} (hd : decode M.2.1 pc = .ok (.astore_n i, 1)) (hn : (i : Nat) < M.2.2.1) (hok : xok1 (i : Nat) ls = true) (hu : xup (i : Nat) (.ref x) ls = l2) (k : xWP L O M R K (pc + 1) l2 st G cs ns) : xWP L O M R K pc ls (.ref x :: st) G cs ns := by
  intro p e s m args below meth c H locs lsM hC hR hS hl
  exact lv_astore_n hC.1 hC.2.1 hd rfl hl hn rfl (fun l9 h9 => k p e s m args below meth c H locs l9 hC hR hS (xst1 (v := .ref x) hok hu h9))

theorem xw_iinc {x v : Int32} {i : Nat} {n : Int} {l2 : List (Nat × Value)} (k0 : Nat) (hd : decode M.2.1 pc = .ok (.iinc i n, 3)) (hk : ls[k0]? = some (i, .int x)) (hv : x + Int32.ofInt n = v) (hn : i < M.2.2.1) (hok : xok1 i ls = true) (hu : xup i (.int v) ls = l2) (k : xWP L O M R K (pc + 3) l2 st G cs ns) : xWP L O M R K pc ls st G cs ns := by
  intro p e s m args below meth c H locs lsM hC hR hS hl
  have hk2 : (ls.map (fun q => (q.1, xtr O q.2)))[k0]? = some (i, .int x) := by rw [List.getElem?_map, hk]; rfl
  exact lv_iinc hC.1 hC.2.1 hd hl hk2 hv hn rfl (fun l9 h9 => k p e s m args below meth c H locs l9 hC hR hS (xst1 (v := .int v) hok hu h9))

theorem xw_iadd {x y : Int32} (hd : decode M.2.1 pc = .ok (.iadd, 1)) (k : xWP L O M R K (pc + 1) ls (.int (x + y) :: st) G cs ns) : xWP L O M R K pc ls (.int y :: .int x :: st) G cs ns := by
  intro p e s m args below meth c H locs lsM hC hR hS hl
  exact lv_iadd hC.1 hC.2.1 hd (k p e s m args below meth c H locs lsM hC hR hS hl)

theorem xw_isub {x y : Int32} (hd : decode M.2.1 pc = .ok (.isub, 1)) (k : xWP L O M R K (pc + 1) ls (.int (x - y) :: st) G cs ns) : xWP L O M R K pc ls (.int y :: .int x :: st) G cs ns := by
  intro p e s m args below meth c H locs lsM hC hR hS hl
  exact lv_isub hC.1 hC.2.1 hd (k p e s m args below meth c H locs lsM hC hR hS hl)

theorem xw_imul {x y : Int32} (hd : decode M.2.1 pc = .ok (.imul, 1)) (k : xWP L O M R K (pc + 1) ls (.int (x * y) :: st) G cs ns) : xWP L O M R K pc ls (.int y :: .int x :: st) G cs ns := by
  intro p e s m args below meth c H locs lsM hC hR hS hl
  exact lv_imul hC.1 hC.2.1 hd (k p e s m args below meth c H locs lsM hC hR hS hl)

theorem xw_iand {x y : Int32} (hd : decode M.2.1 pc = .ok (.iand, 1)) (k : xWP L O M R K (pc + 1) ls (.int (x &&& y) :: st) G cs ns) : xWP L O M R K pc ls (.int y :: .int x :: st) G cs ns := by
  intro p e s m args below meth c H locs lsM hC hR hS hl
  exact lv_iand hC.1 hC.2.1 hd (k p e s m args below meth c H locs lsM hC hR hS hl)

theorem xw_ladd {x y : Int64} (hd : decode M.2.1 pc = .ok (.ladd, 1)) (k : xWP L O M R K (pc + 1) ls (.long (x + y) :: st) G cs ns) : xWP L O M R K pc ls (.long y :: .long x :: st) G cs ns := by
  intro p e s m args below meth c H locs lsM hC hR hS hl
  exact lv_ladd hC.1 hC.2.1 hd (k p e s m args below meth c H locs lsM hC hR hS hl)

theorem xw_lsub {x y : Int64} (hd : decode M.2.1 pc = .ok (.lsub, 1)) (k : xWP L O M R K (pc + 1) ls (.long (x - y) :: st) G cs ns) : xWP L O M R K pc ls (.long y :: .long x :: st) G cs ns := by
  intro p e s m args below meth c H locs lsM hC hR hS hl
  exact lv_lsub hC.1 hC.2.1 hd (k p e s m args below meth c H locs lsM hC hR hS hl)

theorem xw_lmul {x y : Int64} (hd : decode M.2.1 pc = .ok (.lmul, 1)) (k : xWP L O M R K (pc + 1) ls (.long (x * y) :: st) G cs ns) : xWP L O M R K pc ls (.long y :: .long x :: st) G cs ns := by
  intro p e s m args below meth c H locs lsM hC hR hS hl
  exact lv_lmul hC.1 hC.2.1 hd (k p e s m args below meth c H locs lsM hC hR hS hl)

theorem xw_idiv {x y : Int32} (hd : decode M.2.1 pc = .ok (.idiv, 1)) (hne : ¬ y = 0) (k : xWP L O M R K (pc + 1) ls (.int (x / y) :: st) G cs ns) : xWP L O M R K pc ls (.int y :: .int x :: st) G cs ns := by
  intro p e s m args below meth c H locs lsM hC hR hS hl
  exact lv_idiv hC.1 hC.2.1 hd hne (k p e s m args below meth c H locs lsM hC hR hS hl)

theorem xw_irem {x y : Int32} (hd : decode M.2.1 pc = .ok (.irem, 1)) (hne : ¬ y = 0) (k : xWP L O M R K (pc + 1) ls (.int (x - x / y * y) :: st) G cs ns) : xWP L O M R K pc ls (.int y :: .int x :: st) G cs ns := by
  intro p e s m args below meth c H locs lsM hC hR hS hl
  exact lv_irem hC.1 hC.2.1 hd hne (k p e s m args below meth c H locs lsM hC hR hS hl)

theorem xw_ldiv {x y : Int64} (hd : decode M.2.1 pc = .ok (.ldiv, 1)) (hne : ¬ y = 0) (k : xWP L O M R K (pc + 1) ls (.long (x / y) :: st) G cs ns) : xWP L O M R K pc ls (.long y :: .long x :: st) G cs ns := by
  intro p e s m args below meth c H locs lsM hC hR hS hl
  exact lv_ldiv hC.1 hC.2.1 hd hne (k p e s m args below meth c H locs lsM hC hR hS hl)

theorem xw_lrem {x y : Int64} (hd : decode M.2.1 pc = .ok (.lrem, 1)) (hne : ¬ y = 0) (k : xWP L O M R K (pc + 1) ls (.long (x - x / y * y) :: st) G cs ns) : xWP L O M R K pc ls (.long y :: .long x :: st) G cs ns := by
  intro p e s m args below meth c H locs lsM hC hR hS hl
  exact lv_lrem hC.1 hC.2.1 hd hne (k p e s m args below meth c H locs lsM hC hR hS hl)

theorem xw_ineg {x : Int32} (hd : decode M.2.1 pc = .ok (.ineg, 1)) (k : xWP L O M R K (pc + 1) ls (.int (-x) :: st) G cs ns) : xWP L O M R K pc ls (.int x :: st) G cs ns := by
  intro p e s m args below meth c H locs lsM hC hR hS hl
  exact lv_ineg hC.1 hC.2.1 hd (k p e s m args below meth c H locs lsM hC hR hS hl)

theorem xw_i2l {x : Int32} (hd : decode M.2.1 pc = .ok (.i2l, 1)) (k : xWP L O M R K (pc + 1) ls (.long x.toInt64 :: st) G cs ns) : xWP L O M R K pc ls (.int x :: st) G cs ns := by
  intro p e s m args below meth c H locs lsM hC hR hS hl
  exact lv_i2l hC.1 hC.2.1 hd rfl (k p e s m args below meth c H locs lsM hC hR hS hl)

theorem xw_l2i {x : Int64} (hd : decode M.2.1 pc = .ok (.l2i, 1)) (k : xWP L O M R K (pc + 1) ls (.int x.toInt32 :: st) G cs ns) : xWP L O M R K pc ls (.long x :: st) G cs ns := by
  intro p e s m args below meth c H locs lsM hC hR hS hl
  exact lv_l2i hC.1 hC.2.1 hd rfl (k p e s m args below meth c H locs lsM hC hR hS hl)

theorem xw_i2c {x : Int32} (hd : decode M.2.1 pc = .ok (.i2c, 1)) (k : xWP L O M R K (pc + 1) ls (.int (x.toUInt32 % 65536).toInt32 :: st) G cs ns) : xWP L O M R K pc ls (.int x :: st) G cs ns := by
  intro p e s m args below meth c H locs lsM hC hR hS hl
  exact lv_i2c hC.1 hC.2.1 hd rfl (k p e s m args below meth c H locs lsM hC hR hS hl)

theorem xw_i2f {x : Int32} (hd : decode M.2.1 pc = .ok (.i2f, 1)) (k : xWP L O M R K (pc + 1) ls (.float (FP.i2f x) :: st) G cs ns) : xWP L O M R K pc ls (.int x :: st) G cs ns := by
  intro p e s m args below meth c H locs lsM hC hR hS hl
  exact lv_i2f hC.1 hC.2.1 hd (k p e s m args below meth c H locs lsM hC hR hS hl)

theorem xw_fmul {x y : UInt32} (hd : decode M.2.1 pc = .ok (.fmul, 1)) (hne : vf_n32 (FP.fmul x y)) (k : xWP L O M R K (pc + 1) ls (.float (FP.fmul x y) :: st) G cs ns) : xWP L O M R K pc ls (.float y :: .float x :: st) G cs ns := by
  intro p e s m args below meth c H locs lsM hC hR hS hl
  exact lv_fmul hC.1 hC.2.1 hd hne (k p e s m args below meth c H locs lsM hC hR hS hl)

theorem xw_fdiv {x y : UInt32} (hd : decode M.2.1 pc = .ok (.fdiv, 1)) (hne : vf_n32 (FP.fdiv x y)) (k : xWP L O M R K (pc + 1) ls (.float (FP.fdiv x y) :: st) G cs ns) : xWP L O M R K pc ls (.float y :: .float x :: st) G cs ns := by
  intro p e s m args below meth c H locs lsM hC hR hS hl
  exact lv_fdiv hC.1 hC.2.1 hd hne (k p e s m args below meth c H locs lsM hC hR hS hl)

theorem xw_fcmp {x y : UInt32} {op : CmpOp} (hd : decode M.2.1 pc = .ok (.fcmp op, 1)) (k : xWP L O M R K (pc + 1) ls (.int (Op.cmpValue (FP.fcmp x y) op) :: st) G cs ns) : xWP L O M R K pc ls (.float y :: .float x :: st) G cs ns := by
  intro p e s m args below meth c H locs lsM hC hR hS hl
  exact lv_fcmp hC.1 hC.2.1 hd (k p e s m args below meth c H locs lsM hC hR hS hl)

theorem xw_lcmp {x y : Int64} (hd : decode M.2.1 pc = .ok (.lcmp, 1)) (k : xWP L O M R K (pc + 1) ls (.int (lg_cmp x y) :: st) G cs ns) : xWP L O M R K pc ls (.long y :: .long x :: st) G cs ns := by
  intro p e s m args below meth c H locs lsM hC hR hS hl
  exact W.lcmp hC.1 hC.2.1 hd (k p e s m args below meth c H locs lsM hC hR hS hl)

theorem xw_dup {v : Value} (hd : decode M.2.1 pc = .ok (.dup, 1)) (hv : v.category = 1) (k : xWP L O M R K (pc + 1) ls (v :: v :: st) G cs ns) : xWP L O M R K pc ls (v :: st) G cs ns := by
  intro p e s m args below meth c H locs lsM hC hR hS hl
  exact lv_dup hC.1 hC.2.1 hd (by rw [xtr_cat]; exact hv) (k p e s m args below meth c H locs lsM hC hR hS hl)

theorem xw_pop {v : Value} (hd : decode M.2.1 pc = .ok (.pop, 1)) (hv : v.category = 1) (k : xWP L O M R K (pc + 1) ls (st) G cs ns) : xWP L O M R K pc ls (v :: st) G cs ns := by
  intro p e s m args below meth c H locs lsM hC hR hS hl
  exact lv_pop hC.1 hC.2.1 hd (by rw [xtr_cat]; exact hv) (k p e s m args below meth c H locs lsM hC hR hS hl)

theorem xw_dup_x1 {v w : Value} (hd : decode M.2.1 pc = .ok (.dup_x1, 1)) (hv : v.category = 1) (hw : w.category = 1) (k : xWP L O M R K (pc + 1) ls (v :: w :: v :: st) G cs ns) : xWP L O M R K pc ls (v :: w :: st) G cs ns := by
  intro p e s m args below meth c H locs lsM hC hR hS hl
  exact lv_dup_x1 hC.1 hC.2.1 hd (by rw [xtr_cat]; exact hv) (by rw [xtr_cat]; exact hw) (k p e s m args below meth c H locs lsM hC hR hS hl)

theorem xw_dup2 {v w : Value} (hd : decode M.2.1 pc = .ok (.dup2, 1)) (hv : v.category = 1) (hw : w.category = 1) (k : xWP L O M R K (pc + 1) ls (v :: w :: v :: w :: st) G cs ns) : xWP L O M R K pc ls (v :: w :: st) G cs ns := by
  intro p e s m args below meth c H locs lsM hC hR hS hl
  exact lv_dup2_11 hC.1 hC.2.1 hd (by rw [xtr_cat]; exact hv) (by rw [xtr_cat]; exact hw) (k p e s m args below meth c H locs lsM hC hR hS hl)

theorem xw_null (hd : decode M.2.1 pc = .ok (.aconst_null, 1)) (k : xWP L O M R K (pc + 1) ls (.null :: st) G cs ns) : xWP L O M R K pc ls (st) G cs ns := by
  intro p e s m args below meth c H locs lsM hC hR hS hl
  exact lv_null hC.1 hC.2.1 hd (k p e s m args below meth c H locs lsM hC hR hS hl)

-- BRANCHES
theorem xw_if_eq {x : Int32} {off : Int} {tgt : Nat} (hd : decode M.2.1 pc = .ok (.ifCond .eq off, 3)) (ht : (pc : Int) + off = (tgt : Int)) (kt : (x = 0) → xWP L O M R K tgt ls st G cs ns) (kf : (¬ x = 0) → xWP L O M R K (pc + 3) ls st G cs ns) : xWP L O M R K pc ls (.int x :: st) G cs ns := by
  intro p e s m args below meth c H locs lsM hC hR hS hl
  exact lv_if_eq hC.1 hC.2.1 hd ht (fun q => kt q p e s m args below meth c H locs lsM hC hR hS hl) (fun q => kf q p e s m args below meth c H locs lsM hC hR hS hl)

theorem xw_icmp_eq {x y : Int32} {off : Int} {tgt : Nat} (hd : decode M.2.1 pc = .ok (.if_icmp .eq off, 3)) (ht : (pc : Int) + off = (tgt : Int)) (kt : (x = y) → xWP L O M R K tgt ls st G cs ns) (kf : (¬ x = y) → xWP L O M R K (pc + 3) ls st G cs ns) : xWP L O M R K pc ls (.int y :: .int x :: st) G cs ns := by
  intro p e s m args below meth c H locs lsM hC hR hS hl
  exact lv_icmp_eq hC.1 hC.2.1 hd ht (fun q => kt q p e s m args below meth c H locs lsM hC hR hS hl) (fun q => kf q p e s m args below meth c H locs lsM hC hR hS hl)

theorem xw_if_ne {x : Int32} {off : Int} {tgt : Nat} (hd : decode M.2.1 pc = .ok (.ifCond .ne off, 3)) (ht : (pc : Int) + off = (tgt : Int)) (kt : (¬ x = 0) → xWP L O M R K tgt ls st G cs ns) (kf : (x = 0) → xWP L O M R K (pc + 3) ls st G cs ns) : xWP L O M R K pc ls (.int x :: st) G cs ns := by
  intro p e s m args below meth c H locs lsM hC hR hS hl
  exact lv_if_ne hC.1 hC.2.1 hd ht (fun q => kt q p e s m args below meth c H locs lsM hC hR hS hl) (fun q => kf q p e s m args below meth c H locs lsM hC hR hS hl)

theorem xw_icmp_ne {x y : Int32} {off : Int} {tgt : Nat} (hd : decode M.2.1 pc = .ok (.if_icmp .ne off, 3)) (ht : (pc : Int) + off = (tgt : Int)) (kt : (¬ x = y) → xWP L O M R K tgt ls st G cs ns) (kf : (x = y) → xWP L O M R K (pc + 3) ls st G cs ns) : xWP L O M R K pc ls (.int y :: .int x :: st) G cs ns := by
  intro p e s m args below meth c H locs lsM hC hR hS hl
  exact lv_icmp_ne hC.1 hC.2.1 hd ht (fun q => kt q p e s m args below meth c H locs lsM hC hR hS hl) (fun q => kf q p e s m args below meth c H locs lsM hC hR hS hl)

theorem xw_if_lt {x : Int32} {off : Int} {tgt : Nat} (hd : decode M.2.1 pc = .ok (.ifCond .lt off, 3)) (ht : (pc : Int) + off = (tgt : Int)) (kt : (x < 0) → xWP L O M R K tgt ls st G cs ns) (kf : (¬ x < 0) → xWP L O M R K (pc + 3) ls st G cs ns) : xWP L O M R K pc ls (.int x :: st) G cs ns := by
  intro p e s m args below meth c H locs lsM hC hR hS hl
  exact lv_if_lt hC.1 hC.2.1 hd ht (fun q => kt q p e s m args below meth c H locs lsM hC hR hS hl) (fun q => kf q p e s m args below meth c H locs lsM hC hR hS hl)

theorem xw_icmp_lt {x y : Int32} {off : Int} {tgt : Nat} (hd : decode M.2.1 pc = .ok (.if_icmp .lt off, 3)) (ht : (pc : Int) + off = (tgt : Int)) (kt : (x < y) → xWP L O M R K tgt ls st G cs ns) (kf : (¬ x < y) → xWP L O M R K (pc + 3) ls st G cs ns) : xWP L O M R K pc ls (.int y :: .int x :: st) G cs ns := by
  intro p e s m args below meth c H locs lsM hC hR hS hl
  exact lv_icmp_lt hC.1 hC.2.1 hd ht (fun q => kt q p e s m args below meth c H locs lsM hC hR hS hl) (fun q => kf q p e s m args below meth c H locs lsM hC hR hS hl)

theorem xw_if_ge {x : Int32} {off : Int} {tgt : Nat} (hd : decode M.2.1 pc = .ok (.ifCond .ge off, 3)) (ht : (pc : Int) + off = (tgt : Int)) (kt : (0 ≤ x) → xWP L O M R K tgt ls st G cs ns) (kf : (¬ 0 ≤ x) → xWP L O M R K (pc + 3) ls st G cs ns) : xWP L O M R K pc ls (.int x :: st) G cs ns := by
  intro p e s m args below meth c H locs lsM hC hR hS hl
  exact lv_if_ge hC.1 hC.2.1 hd ht (fun q => kt q p e s m args below meth c H locs lsM hC hR hS hl) (fun q => kf q p e s m args below meth c H locs lsM hC hR hS hl)

theorem xw_icmp_ge {x y : Int32} {off : Int} {tgt : Nat} (hd : decode M.2.1 pc = .ok (.if_icmp .ge off, 3)) (ht : (pc : Int) + off = (tgt : Int)) (kt : (y ≤ x) → xWP L O M R K tgt ls st G cs ns) (kf : (¬ y ≤ x) → xWP L O M R K (pc + 3) ls st G cs ns) : xWP L O M R K pc ls (.int y :: .int x :: st) G cs ns := by
  intro p e s m args below meth c H locs lsM hC hR hS hl
  exact lv_icmp_ge hC.1 hC.2.1 hd ht (fun q => kt q p e s m args below meth c H locs lsM hC hR hS hl) (fun q => kf q p e s m args below meth c H locs lsM hC hR hS hl)

theorem xw_if_gt {x : Int32} {off : Int} {tgt : Nat} (hd : decode M.2.1 pc = .ok (.ifCond .gt off, 3)) (ht : (pc : Int) + off = (tgt : Int)) (kt : (0 < x) → xWP L O M R K tgt ls st G cs ns) (kf : (¬ 0 < x) → xWP L O M R K (pc + 3) ls st G cs ns) : xWP L O M R K pc ls (.int x :: st) G cs ns := by
  intro p e s m args below meth c H locs lsM hC hR hS hl
  exact lv_if_gt hC.1 hC.2.1 hd ht (fun q => kt q p e s m args below meth c H locs lsM hC hR hS hl) (fun q => kf q p e s m args below meth c H locs lsM hC hR hS hl)

theorem xw_icmp_gt {x y : Int32} {off : Int} {tgt : Nat} (hd : decode M.2.1 pc = .ok (.if_icmp .gt off, 3)) (ht : (pc : Int) + off = (tgt : Int)) (kt : (y < x) → xWP L O M R K tgt ls st G cs ns) (kf : (¬ y < x) → xWP L O M R K (pc + 3) ls st G cs ns) : xWP L O M R K pc ls (.int y :: .int x :: st) G cs ns := by
  intro p e s m args below meth c H locs lsM hC hR hS hl
  exact lv_icmp_gt hC.1 hC.2.1 hd ht (fun q => kt q p e s m args below meth c H locs lsM hC hR hS hl) (fun q => kf q p e s m args below meth c H locs lsM hC hR hS hl)

theorem xw_if_le {x : Int32} {off : Int} {tgt : Nat} (hd : decode M.2.1 pc = .ok (.ifCond .le off, 3)) (ht : (pc : Int) + off = (tgt : Int)) (kt : (x ≤ 0) → xWP L O M R K tgt ls st G cs ns) (kf : (¬ x ≤ 0) → xWP L O M R K (pc + 3) ls st G cs ns) : xWP L O M R K pc ls (.int x :: st) G cs ns := by
  intro p e s m args below meth c H locs lsM hC hR hS hl
  exact lv_if_le hC.1 hC.2.1 hd ht (fun q => kt q p e s m args below meth c H locs lsM hC hR hS hl) (fun q => kf q p e s m args below meth c H locs lsM hC hR hS hl)

theorem xw_icmp_le {x y : Int32} {off : Int} {tgt : Nat} (hd : decode M.2.1 pc = .ok (.if_icmp .le off, 3)) (ht : (pc : Int) + off = (tgt : Int)) (kt : (x ≤ y) → xWP L O M R K tgt ls st G cs ns) (kf : (¬ x ≤ y) → xWP L O M R K (pc + 3) ls st G cs ns) : xWP L O M R K pc ls (.int y :: .int x :: st) G cs ns := by
  intro p e s m args below meth c H locs lsM hC hR hS hl
  exact lv_icmp_le hC.1 hC.2.1 hd ht (fun q => kt q p e s m args below meth c H locs lsM hC hR hS hl) (fun q => kf q p e s m args below meth c H locs lsM hC hR hS hl)

theorem xw_goto {off : Int} {tgt : Nat} (hd : decode M.2.1 pc = .ok (.goto off, 3)) (ht : (pc : Int) + off = (tgt : Int)) (k : xWP L O M R K tgt ls st G cs ns) : xWP L O M R K pc ls st G cs ns := by
  intro p e s m args below meth c H locs lsM hC hR hS hl
  exact lv_goto hC.1 hC.2.1 hd ht (k p e s m args below meth c H locs lsM hC hR hS hl)

theorem xw_tabIn {dflt lo hi : Int} {offs : Array Int} {len : Nat} {x : Int32} {off : Int} {tgt : Nat} (hd : decode M.2.1 pc = .ok (.tableswitch dflt lo hi offs, len)) (h1 : ¬ x.toInt < lo) (h2 : ¬ hi < x.toInt) (ho : offs[(x.toInt - lo).toNat]? = some off) (ht : (pc : Int) + off = (tgt : Int)) (k : xWP L O M R K tgt ls st G cs ns) : xWP L O M R K pc ls (.int x :: st) G cs ns := by
  intro p e s m args below meth c H locs lsM hC hR hS hl
  exact lv_tableIn hC.1 hC.2.1 hd h1 h2 ho ht (k p e s m args below meth c H locs lsM hC hR hS hl)

theorem xw_tabOut {dflt lo hi : Int} {offs : Array Int} {len : Nat} {x : Int32} {tgt : Nat} (hd : decode M.2.1 pc = .ok (.tableswitch dflt lo hi offs, len)) (h : x.toInt < lo ∨ hi < x.toInt) (ht : (pc : Int) + dflt = (tgt : Int)) (k : xWP L O M R K tgt ls st G cs ns) : xWP L O M R K pc ls (.int x :: st) G cs ns := by
  intro p e s m args below meth c H locs lsM hC hR hS hl
  exact lv_tableOut hC.1 hC.2.1 hd h ht (k p e s m args below meth c H locs lsM hC hR hS hl)

theorem xw_lookup {dflt : Int} {ps : Array (Int × Int)} {len : Nat} {x : Int32} {off : Int} {tgt : Nat} (hd : decode M.2.1 pc = .ok (.lookupswitch dflt ps, len)) (hp : (ps.toList.zip (ps.toList.drop 1)).all (fun (a, next) => a.1 < next.1) = true) (ho : Op.lookupswitch.offset ps.toList dflt x.toInt = off) (ht : (pc : Int) + off = (tgt : Int)) (k : xWP L O M R K tgt ls st G cs ns) : xWP L O M R K pc ls (.int x :: st) G cs ns := by
  intro p e s m args below meth c H locs lsM hC hR hS hl
  exact lv_lookup hC.1 hC.2.1 hd hp ho ht (k p e s m args below meth c H locs lsM hC hR hS hl)

theorem xF {O : xWd} {s : State} {H : Heap} {locs : List Loc} {t : State} (hS : va_S (xA O) s.heap H locs) (ht : t.heap = H) : va_F (xA O) s t := hS.F ht

theorem xw_iret {v : Int32} {ty : FieldType} (hd : decode M.2.1 pc = .ok (.ireturn, 1)) (hr : M.2.2.2.1 = some ty) (hn : narrow ty (.int v) = .int v) (hc : cs ≤ R.cells) (hs : ns ≤ R.slots) (hK : K (.inl (some (.int v))) G) : xWP L O M R K pc ls [.int v] G cs ns := by
  intro p e s m args below meth c H locs lsM hC hR hS hl
  refine W.widen hc hs (vx_ret ?_)
  exact W.zret hC.1 hC.2.1 (by rw [hC.2.2.2.1]; exact hr) hn (fun t ht hW => ⟨some (.int v), G, rfl, hK, by rw [ht]; exact hR, xF hS ht⟩) hS.2.2 hd hC.2.2.2.2.2.2.1

theorem xw_lret {v : Int64} (hd : decode M.2.1 pc = .ok (.lreturn, 1)) (hr : M.2.2.2.1 = some .long) (hc : cs ≤ R.cells) (hs : ns ≤ R.slots) (hK : K (.inl (some (.long v))) G) : xWP L O M R K pc ls [.long v] G cs ns := by
  intro p e s m args below meth c H locs lsM hC hR hS hl
  refine W.widen hc hs (vx_ret ?_)
  exact W.lret hC.1 hC.2.1 (by rw [hC.2.2.2.1]; exact hr) (fun t ht hW => ⟨some (.long v), G, rfl, hK, by rw [ht]; exact hR, xF hS ht⟩) hS.2.2 hd hC.2.2.2.2.2.2.1

theorem xw_fret {v : UInt32} (hd : decode M.2.1 pc = .ok (.freturn, 1)) (hr : M.2.2.2.1 = some .float) (hc : cs ≤ R.cells) (hs : ns ≤ R.slots) (hK : K (.inl (some (.float v))) G) : xWP L O M R K pc ls [.float v] G cs ns := by
  intro p e s m args below meth c H locs lsM hC hR hS hl
  refine W.widen hc hs (vx_ret ?_)
  exact W.fret hC.1 hC.2.1 (by rw [hC.2.2.2.1]; exact hr) (fun t ht hW => ⟨some (.float v), G, rfl, hK, by rw [ht]; exact hR, xF hS ht⟩) hS.2.2 hd hC.2.2.2.2.2.2.1

theorem xw_vret (hd : decode M.2.1 pc = .ok (.return_, 1)) (hr : M.2.2.2.1 = none) (hc : cs ≤ R.cells) (hs : ns ≤ R.slots) (hK : K (.inl none) G) : xWP L O M R K pc ls [] G cs ns := by
  intro p e s m args below meth c H locs lsM hC hR hS hl
  refine W.widen hc hs (vx_ret ?_)
  exact W.vret hC.1 hC.2.1 (by rw [hC.2.2.2.1]; exact hr) (fun t ht hW => ⟨none, G, rfl, hK, by rw [ht]; exact hR, xF hS ht⟩) hS.2.2 hd hC.2.2.2.2.2.2.1
theorem xw_aret {i : Nat} {rt : FieldType} (hd : decode M.2.1 pc = .ok (.areturn, 1)) (hr : M.2.2.2.1 = some rt) (hrt : (∃ n, rt = .object n) ∨ ∃ t, rt = .array t) (hc : cs ≤ R.cells) (hs : ns ≤ R.slots) (hK : K (.inl (some (.ref i))) G) : xWP L O M R K pc ls [.ref i] G cs ns := by
  intro p e s m args below meth c H locs lsM hC hR hS hl
  refine W.widen hc hs (vx_ret ?_)
  exact W.aret hC.1 hC.2.1 (by rw [hC.2.2.2.1]; exact hr) hrt (Or.inr ⟨_, rfl⟩) (fun t ht hW => ⟨some (.ref i), G, rfl, hK, by rw [ht]; exact hR, xF hS ht⟩) hS.2.2 hd hC.2.2.2.2.2.2.1

end XR

/-! THE ABSTRACT WORLD: objects by numbers (ids) in the order of their making, all of them behind one base; a value's reference is an id; from xBig on it is a cell ahead of the base -/
def xBig : Nat := 1099511627776
abbrev xOb : Type := Nat × List Value
/-- the world's parameters: what the classes are, what the arrays' classes are, the base, the cells ahead of it that are spoken of, the script's length and values -/
abbrev xWd : Type := va_G × (Nat → ClassId) × Nat × (Nat → Nat) × Nat × (Nat → Int32)
abbrev xMd : Type := MethodName × ByteArray × Nat × Option FieldType × List (Nat × Nat × Nat × Nat)
abbrev xOc : Type := Option Value ⊕ String
def xtr (O : xWd) : Value → Value
  | .ref i => .ref (if i < xBig then O.2.2.1 + i else O.2.2.2.1 (i - xBig))
  | .int v => .int v
  | .long v => .long v
  | .float v => .float v
  | .double v => .double v
  | .null => .null
  | .retAddr v => .retAddr v
theorem xtr_cat (O : xWd) (v : Value) : (xtr O v).category = v.category := by cases v <;> rfl
theorem xtr_id {O : xWd} {i : Nat} (h : i < xBig) : xtr O (.ref i) = .ref (O.2.2.1 + i) := by simp [xtr, h]
def xobAt (O : xWd) (a : Nat) (o : xOb) (H : Heap) : Prop :=
  if o.1 < 64 then ∃ r : vw_C, xcl[o.1]? = some r ∧ o.2.length = r.2.2 ∧ t_OB a (O.1.1 o.1) r.2.2 (O.1.2 o.1) H (fun k => xtr O (o.2.getD k .null))
  else if o.1 < 127 then H[a]? = some (arrV (O.2.1 (o.1 - 64)) o.2.length (fun k => xtr O (o.2.getD k .null)))
  else True
def xRep (O : xWd) (G : List xOb) (H : Heap) : Prop := H.size = O.2.2.1 + G.length ∧ G.length < xBig ∧ ∀ (i : Nat) (o : xOb), G[i]? = some o → xobAt O (O.2.2.1 + i) o H
def xA (O : xWd) : Nat → Prop := fun q => O.2.2.1 ≤ q
def xKn (O : xWd) (U : State) : Prop := va_K O.1 xcl [] U ∧ ∀ (j : Nat) (ty : FieldType), xaT[j]? = some ty → ArrOfT U (O.2.1 j) ty ∧ va_RA U (O.2.1 j) ty
/-- the words of the tables that go with every method; and those that are carried beside them -/
def xTG : List Cond := lw_tbl.filter goodWord
def xNw (w : Cond) : Bool := match w with
  | .fieldLinkNest _ _ _ _ _ _ => true
  | .methodLinkNest _ _ _ _ => true
  | .castable _ _ => true
  | .declares _ => true
  | _ => false
def xTN : List Cond := lw_tbl.filter xNw
theorem xTG_mem {w : Cond} (i : Nat) (h : lw_tbl[i]? = some w) (g : goodWord w = true) : w ∈ xTG := List.mem_filter.mpr ⟨List.mem_of_getElem? h, g⟩
theorem xTN_mem {w : Cond} (i : Nat) (h : lw_tbl[i]? = some w) (g : xNw w = true) : w ∈ xTN := List.mem_filter.mpr ⟨List.mem_of_getElem? h, g⟩
theorem xTN_warm {s U : State} (hW : s.WarmedH U.vm) (h : ∀ w ∈ xTN, va_Nw w s) : ∀ w ∈ xTN, va_Nw w U := by
  intro w hw
  have h1 := h w hw
  have h2 := (List.mem_filter.mp hw).2
  unfold xNw at h2
  split at h2
  · exact va_Nw.warmF hW h1
  · exact va_Nw.warmM hW h1
  · exact va_Nw.warmC hW h1
  · exact va_tabs rfl (rfl : (s.setVm U.vm).vm = U.vm) ((Cond.declares_setVm hW.alike _).trans h1)
  · cases h2
def xEx (O : xWd) (U : State) (H : Heap) : Prop :=
  vx_Zq Bundle.tN "UNASSIGNED_STACK" Bundle.steD (xA O) U H ∧ vx_Zq Bundle.tN "SUPPRESSED_SENTINEL" Bundle.listD (xA O) U H ∧ va_X (O.2.2.2.1 0) O.2.2.2.2.1 O.2.2.2.2.2 U H ∧ O.2.2.2.1 0 < O.2.2.1 ∧
  (∀ w ∈ xTN, va_Nw w U) ∧ (∀ q ∈ xNC, va_Nc q.1 q.2 U) ∧ (∀ q ∈ xST, ∃ a : Nat, vk_R q.1 q.2.1 q.2.2 a U) ∧ xEy O.2.2.1 O.2.2.2.1 U H
theorem xEx.kept {O : xWd} {U : State} {H H1 : Heap} (h : xEx O U H) (hz : O.2.2.1 ≤ H.size) (hq : ∀ a : Nat, a < H.size → ¬ xA O a → H1[a]? = H[a]?) : xEx O U H1 := by
  obtain ⟨h1, h2, h3, h4, h5, h6, h7, h8⟩ := h
  exact ⟨h1.kept hq, h2.kept hq, h3.kept (hq _ (Nat.lt_of_lt_of_le h4 hz) (Nat.not_le.mpr h4)), h4, h5, h6, h7, xEy_kept h8 hz (fun a ha => hq a (Nat.lt_of_lt_of_le ha hz) (Nat.not_le.mpr ha))⟩
theorem xEx.warm {O : xWd} {s U : State} {H : Heap} (hW : s.WarmedH U.vm) (h : xEx O s H) : xEx O U H := by
  obtain ⟨h1, h2, h3, h4, h5, h6, h7, h8⟩ := h
  exact ⟨vx_Zq.moved hW.alike h1, vx_Zq.moved hW.alike h2, h3.moved hW.alike, h4, xTN_warm hW h5, fun q hq => va_Nc.moved hW.alike (h6 q hq), fun q hq => (h7 q hq).elim fun a ha => ⟨a, vk_R.warm hW ha⟩, xEy_warm hW h8⟩
theorem xKn.warm {O : xWd} {s U : State} (hW : s.vm.Alike U.vm) (h : xKn O s) : xKn O U := ⟨va_K.moved hW h.1, fun j ty hj => ⟨arrOfT_moved hW (h.2 j ty hj).1, (h.2 j ty hj).2.moved hW⟩⟩
def xQc (O : xWd) (K : xOc → List xOb → Prop) : Array Value → State → Outcome → State → Prop := fun _ st o t => ∃ (v : Option Value) (G' : List xOb), o = .returned (v.map (xtr O)) ∧ K (.inl v) G' ∧ xRep O G' t.heap ∧ va_F (xA O) st t
def xXC (O : xWd) (K : xOc → List xOb → Prop) : String → State → State → Prop := fun E st t => ∃ G' : List xOb, K (.inr E) G' ∧ xRep O G' t.heap ∧ va_F (xA O) st t
def xcw (M : xMd) : Cond := match M.2.2.2.2 with
  | [] => .code M.1 M.2.1 M.2.2.1 M.2.2.2.1
  | h :: t => .codeWith M.1 M.2.1 M.2.2.1 M.2.2.2.1 (h :: t)
def xCt (L : Launch) (O : xWd) (M : xMd) (R : Room) (p : Program) (s : State) (m : MethodId) (args : Array Value) (meth : Method) (c : Code) : Prop :=
  p.tables.exec = Jvm.exec ∧ c.code = M.2.1 ∧ c.maxLocals = M.2.2.1 ∧ meth.sig.returnType = M.2.2.2.1 ∧ s.vm.findClass M.1.cls = some m.cls ∧ (∀ w ∈ xTG, w.before args s = true) ∧ meth.locks = false ∧ meth.name = M.1.name ∧ c.exceptionTable.toList = tableOf M.2.2.2.2 ∧ L.stackTraces = false ∧
  xKn O s ∧ xEx O s s.heap ∧ O.2.2.1 ≤ s.heap.size
/-- from here on the method comes to an end with K -/
def xWP (L : Launch) (O : xWd) (M : xMd) (R : Room) (K : xOc → List xOb → Prop) (pc : Nat) (ls : List (Nat × Value)) (st : List Value) (G : List xOb) (cs ns : Nat) : Prop :=
  ∀ (p : Program) (e : Env) (s : State) (m : MethodId) (args : Array Value) (below : List Frame) (meth : Method) (c : Code) (H : Heap) (locs : List Loc) (lsM : Array Slot),
    xCt L O M R p s m args meth c → xRep O G H → va_S (xA O) s.heap H locs → lv_has lsM M.2.2.1 (ls.map (fun q => (q.1, xtr O q.2))) →
    W p L e R s m args below meth c H locs cs ns (vx_MQ below (xQc O K) (xXC O K) args s R.cells R.slots (xA O)) (F0 m pc lsM (st.map (xtr O)))
def xPre (O : xWd) (G : List xOb) (U : State) : Prop := xRep O G U.heap ∧ O.2.2.1 ≤ U.heap.size ∧ xKn O U ∧ xEx O U U.heap
def xMet (L : Launch) (O : xWd) (M : xMd) (rm : Room) (As : List Value) (G : List xOb) (K : xOc → List xOb → Prop) : Prop :=
  vx_Met L M.1 (xcw M :: xTG) rm (va_Pc (As.map (xtr O)) (xPre O G)) (xQc O K) (xXC O K) rm.cells rm.slots (xA O)
theorem xargs_map (O : xWd) : ∀ (vs : List Value) (i : Nat), lv_args i (vs.map (xtr O)) = (lv_args i vs).map (fun q => (q.1, xtr O q.2))
  | [], _ => rfl
  | v :: vs, i => by
    simp only [List.map_cons, lv_args, xtr_cat]
    rw [xargs_map O vs]
theorem xsl_len (O : xWd) : ∀ (vs : List Value), (lg_sl (vs.map (xtr O))).length = (lg_sl vs).length
  | [] => rfl
  | v :: vs => by
    have ih := xsl_len O vs
    cases v <;> simp_all [lg_sl, xtr, Value.category]
/-- a method's contract out of its walk -/
theorem xMet_of {L : Launch} {O : xWd} {M : xMd} {rm : Room} {As : List Value} {G : List xOb} {K : xOc → List xOb → Prop} (hy : plainName M.1.cls = true) (hl : L.stackTraces = false) (hn : (lg_sl As).length ≤ M.2.2.1)
    (h : xWP L O M rm K 0 (lv_args 0 As) [] G 0 0) : xMet L O M rm As G K := by
  obtain ⟨y, cc, maxL, ret, hh⟩ := M
  have body : ∀ (p : Program) (e : Env) (s : State) (m : MethodId) (args : Array Value) (below : List Frame) (meth : Method) (c : Code) (s₁ : State), BodyLoose p L y (headSpec (xcw (y, cc, maxL, ret, hh) :: xTG) rm) cc maxL ret e s m args below meth c s₁ → c.maxLocals = maxL → c.exceptionTable.toList = tableOf hh → va_Pc (As.map (xtr O)) (xPre O G) args s →
      W p L e rm s m args below meth c s.heap [] 0 0 (vx_MQ below (xQc O K) (xXC O K) args s rm.cells rm.slots (xA O)) (entryFrame m args maxL) := by
    intro p e s m args below meth c s₁ B hml ht hv
    obtain ⟨rfl, hR, hb, hK, hE⟩ := hv
    have hl9 := lv_entry (As.map (xtr O)) (n := maxL) (by rw [xsl_len]; exact hn)
    rw [lg_entry_eq]
    rw [xargs_map] at hl9
    exact h p e s m _ below meth c s.heap [] _ ⟨B.exec, B.bytes, hml, B.returns, findClass_of_methodNamed B.named, fun w hw => atoms_spec B.pre w (List.mem_cons_of_mem _ hw), B.notSynchronized, (name_of_methodNamed B.named B.method).1, ht, hl, hK, hE, hb⟩ hR va_S.rf hl9
  cases hh with
  | nil => exact vx_ofW (cc := cc) (maxL := maxL) (ret := ret) hy rfl (fun p e s m args below meth c s₁ B hml ht hv => body p e s m args below meth c s₁ B hml (by
      cases hq : c.exceptionTable.toList with
      | nil => rfl
      | cons x t => exact (ht x (by rw [hq]; exact List.mem_cons_self)).elim) hv)
  | cons x t => exact vx_ofWH (cc := cc) (maxL := maxL) (ret := ret) (hh := x :: t) hy rfl (fun p e s m args below meth c s₁ B hml hv => body p e s m args below meth c s₁ B hml (vx_table (x := y) B (atoms_spec (ws := xcw (y, cc, maxL, ret, x :: t) :: xTG) B.pre _ List.mem_cons_self)) hv)
/-! a world's cells -/
theorem xRep.set {O : xWd} {G : List xOb} {H H1 : Heap} {i : Nat} {o o' : xOb} (h : xRep O G H) (hi : G[i]? = some o) (hz : H1.size = H.size) (hn : xobAt O (O.2.2.1 + i) o' H1) (oq : ∀ q : Nat, q ≠ O.2.2.1 + i → H1[q]? = H[q]?) : xRep O (G.set i o') H1 := by
  have hlt := (List.getElem?_eq_some_iff.mp hi).1
  refine ⟨by rw [hz, List.length_set]; exact h.1, by rw [List.length_set]; exact h.2.1, fun j o2 hj => ?_⟩
  by_cases e : j = i
  · subst e
    rw [List.getElem?_set_self hlt] at hj
    cases hj
    exact hn
  · rw [List.getElem?_set_ne (Ne.symm e)] at hj
    have h2 := h.2.2 j o2 hj
    have hq : H1[O.2.2.1 + j]? = H[O.2.2.1 + j]? := oq _ (by omega)
    unfold xobAt at h2 ⊢
    split at h2
    · next c =>
      rw [if_pos c]
      obtain ⟨r, a1, a2, a3⟩ := h2
      exact ⟨r, a1, a2, a3.kept hq⟩
    · next c =>
      rw [if_neg c]
      split at h2
      · next c2 => rw [if_pos c2, hq]; exact h2
      · next c2 => rw [if_neg c2]; trivial
theorem xRep.push {O : xWd} {G : List xOb} {H H1 : Heap} {o : xOb} (h : xRep O G H) (hz : H1.size = H.size + 1) (hG : G.length + 1 < xBig) (hn : xobAt O (O.2.2.1 + G.length) o H1) (oq : ∀ q : Nat, q < H.size → H1[q]? = H[q]?) : xRep O (G ++ [o]) H1 := by
  refine ⟨by rw [hz, List.length_append, h.1]; rfl, by rw [List.length_append]; exact hG, fun j o2 hj => ?_⟩
  by_cases e : j < G.length
  · rw [List.getElem?_append_left e] at hj
    have h2 := h.2.2 j o2 hj
    have hq : H1[O.2.2.1 + j]? = H[O.2.2.1 + j]? := oq _ (by rw [h.1]; omega)
    unfold xobAt at h2 ⊢
    split at h2
    · next c =>
      rw [if_pos c]
      obtain ⟨r, a1, a2, a3⟩ := h2
      exact ⟨r, a1, a2, a3.kept hq⟩
    · next c =>
      rw [if_neg c]
      split at h2
      · next c2 => rw [if_pos c2, hq]; exact h2
      · next c2 => rw [if_neg c2]; trivial
  · rw [List.getElem?_append_right (by omega)] at hj
    have h0 : j - G.length < 1 := (List.getElem?_eq_some_iff.mp hj).1
    have e2 : j = G.length := by omega
    subst e2
    rw [Nat.sub_self] at hj
    cases hj
    exact hn
theorem xobj {O : xWd} {G : List xOb} {H : Heap} (h : xRep O G H) {i ci : Nat} {fs : List Value} (hi : G[i]? = some (ci, fs)) (hc : ci < 64) : ∃ r : vw_C, xcl[ci]? = some r ∧ fs.length = r.2.2 ∧ t_OB (O.2.2.1 + i) (O.1.1 ci) r.2.2 (O.1.2 ci) H (fun k => xtr O (fs.getD k .null)) := by
  have h2 := h.2.2 i _ hi
  unfold xobAt at h2
  rw [if_pos hc] at h2
  exact h2
theorem xarr {O : xWd} {G : List xOb} {H : Heap} (h : xRep O G H) {i t : Nat} {vs : List Value} (hi : G[i]? = some (64 + t, vs)) (hc : t < 63) : H[O.2.2.1 + i]? = some (arrV (O.2.1 t) vs.length (fun k => xtr O (vs.getD k .null))) := by
  have h2 := h.2.2 i _ hi
  unfold xobAt at h2
  rw [if_neg (by omega), if_pos (by omega)] at h2
  have e : 64 + t - 64 = t := by omega
  simp only [e] at h2
  exact h2

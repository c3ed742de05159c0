section XCALL
variable {L : Launch} {O : xWd} {M M' : xMd} {R rm : Room} {K K' : xOc → List xOb → Prop} {pc : Nat} {ls : List (Nat × Value)} {st : List Value} {G : List xOb} {cs ns : Nat}
/-- an exception of the class E is under way at pc -/
def xTh (L : Launch) (O : xWd) (M : xMd) (R : Room) (K : xOc → List xOb → Prop) (pc : Nat) (ls : List (Nat × Value)) (st : List Value) (G : List xOb) (cs ns : Nat) (E : String) : Prop :=
  ∀ (p : Program) (e : Env) (s : State) (m : MethodId) (args : Array Value) (below : List Frame) (meth : Method) (c : Code) (H : Heap) (locs : List Loc) (lsM : Array Slot) (q : Addr) (ce : Cell),
    xCt L O M R p s m args meth c → xRep O G H → va_S (xA O) s.heap H locs → lv_has lsM M.2.2.1 (ls.map (fun q => (q.1, xtr O q.2))) → H[q]? = some ce → ce.vm = .none → s.vm.findClass E = some ce.cls →
    vx_W p L e R s m args below meth c H locs cs ns (vx_MQ below (xQc O K) (xXC O K) args s R.cells R.slots (xA O)) (F0 m pc lsM (st.map (xtr O))) q
theorem xth_out {E : String} (hh : M.2.2.2.2 = []) (hc : cs ≤ R.cells) (hs : ns ≤ R.slots) (hK : K (.inr E) G) : xTh L O M R K pc ls st G cs ns E := by
  intro p e s m args below meth c H locs lsM q ce hC hR hS hl h1 h2 h3
  refine vx_out (fun x hx => ?_) hC.2.2.2.2.2.2.1 h1 h2 h3 (fun t ht ha => ⟨G, hK, by rw [ht]; exact hR, xF hS ht⟩) hS.2.2 hc hs
  rw [hC.2.2.2.2.2.2.2.2.1, hh] at hx
  cases hx
theorem xth_mono (h : ∀ o G, K o G → K' o G) {E : String} (k : xTh L O M R K pc ls st G cs ns E) : xTh L O M R K' pc ls st G cs ns E := by
  intro p e s m args below meth c H locs lsM q ce hC hR hS hl h1 h2 h3
  intro T hT X
  obtain ⟨t, a, b⟩ := k p e s m args below meth c H locs lsM q ce hC hR hS hl h1 h2 h3 T hT X
  exact ⟨t, a, xMQ_mono h t b⟩
/-- it is caught by the n-th row of the table, whose handler begins by putting it away -/
theorem xth_catch {E nm : String} {a b h ct kl len : Nat} (n : Nat) (hrow : M.2.2.2.2[n]? = some (a, b, h, ct)) (hcov : covers ⟨a, b, h, ct⟩ pc = true) (hct : ct ≠ 0) (hlink : Cond.classLink M.1.cls ct nm ∈ xTG) (hcast : Cond.castable E nm ∈ xTN)
    (hpre : ∀ z ∈ M.2.2.2.2.take n, covers ⟨z.1, z.2.1, z.2.2.1, z.2.2.2⟩ pc = false ∨ (z.2.2.2 ≠ 0 ∧ ∃ nm : String, Cond.classLink M.1.cls z.2.2.2 nm ∈ xTG ∧ (E, nm) ∈ xNC))
    (hd : (∃ i : Fin 4, (i : Nat) = kl ∧ len = 1 ∧ decode M.2.1 h = .ok (.astore_n i, 1)) ∨ (len = 2 ∧ decode M.2.1 h = .ok (.astore kl, 2))) (hkl : kl < M.2.2.1) (hok : xok1 kl ls = true) {l2 : List (Nat × Value)} (hl2 : ls.filter (fun q => !(q.1 == kl)) = l2)
    (kk : xWP L O M R K (h + len) l2 [] G cs ns) : xTh L O M R K pc ls st G cs ns E := by
  intro p e s m args below meth c H locs lsM q ce hC hR hS hl h1 h2 h3
  obtain ⟨hx, hb, hml, -, hown, hts, -, -, htb, -, hK, hE, -⟩ := id hC
  have hsp : M.2.2.2.2 = M.2.2.2.2.take n ++ (a, b, h, ct) :: M.2.2.2.2.drop (n + 1) := by
    obtain ⟨hlt, hget⟩ := List.getElem?_eq_some_iff.mp hrow
    rw [← hget, ← List.drop_eq_getElem_cons hlt, List.take_append_drop]
  have hsplit : c.exceptionTable.toList = tableOf (M.2.2.2.2.take n) ++ ⟨a, b, h, ct⟩ :: tableOf (M.2.2.2.2.drop (n + 1)) := by
    rw [htb]
    exact (congrArg tableOf hsp).trans (by simp [tableOf])
  refine vx_catch hown _ _ _ hsplit (fun z hz => ?_) hcov hct (hts _ hlink) (va_Nw.use rfl (hE.2.2.2.2.1 _ hcast)) h1 h2 h3 ?_
  · obtain ⟨z9, hz9, rfl⟩ := List.mem_map.mp hz
    rcases hpre z9 hz9 with h | ⟨h, nm2, h5, h6⟩
    · exact Or.inl h
    · exact Or.inr ⟨h, nm2, hts _ h5, hE.2.2.2.2.2.1 _ h6⟩
  · have fin : ∀ l9 : Array Slot, lv_has l9 M.2.2.1 ((kl, Value.ref q) :: (ls.map (fun q => (q.1, xtr O q.2))).filter (fun q => !(q.1 == kl) && !(q.1 + 1 == kl && q.2.category == 2))) → W p L e R s m args below meth c H locs cs ns (vx_MQ below (xQc O K) (xXC O K) args s R.cells R.slots (xA O)) (F0 m (h + len) l9 []) := fun l9 h9 =>
      kk p e s m args below meth c H locs l9 hC hR hS (lv_has_in h9 fun w hw => by
        obtain ⟨w9, hw9, rfl⟩ := List.mem_map.mp hw
        rw [← hl2] at hw9
        obtain ⟨g1, g2⟩ := List.mem_filter.mp hw9
        refine List.mem_cons_of_mem _ (List.mem_filter.mpr ⟨List.mem_map.mpr ⟨w9, g1, rfl⟩, ?_⟩)
        have h3 := List.all_eq_true.mp hok w9 g1
        simp only [xtr_cat]
        rw [Bool.and_eq_true]
        exact ⟨g2, h3⟩)
    rcases hd with ⟨i, rfl, rfl, hd⟩ | ⟨rfl, hd⟩
    · exact lv_astore_n hx hb hd rfl hl hkl rfl fin
    · exact lv_astore hx hb hd hl hkl rfl fin
theorem xblind {As : List Value} : FrameBlind (va_Pc (As.map (xtr O)) (xPre O G)) := fun a U g mk q => by
  obtain ⟨h0, h1, h2, h3, h4⟩ := q
  exact ⟨h0, h1, h2, xKn.warm (s := U) (U := U.calling g mk a) (Vm.Alike.refl U.vm) h3, xEx.warm (s := U) (U := U.calling g mk a) (State.WarmedH.refl U) h4⟩
theorem xpre {s U : State} {H : Heap} {locs : List Loc} (hR : xRep O G H) (hS : va_S (xA O) s.heap H locs) (hK : xKn O s) (hE : xEx O s s.heap) (hb : O.2.2.1 ≤ s.heap.size) (hU : U.heap = H) (hW : s.WarmedH U.vm) : xPre O G U :=
  ⟨by rw [hU]; exact hR, by rw [hU]; exact Nat.le_trans hb hS.1, hK.warm hW.alike, by rw [hU]; exact xEx.warm hW (hE.kept hb hS.2.1)⟩
theorem xwords {s : State} {args : Array Value} (hts : ∀ w ∈ xTG, w.before args s = true) (hcw : xcw M' ∈ xTG) : ∀ w ∈ xcw M' :: xTG, ∀ (a' : Array Value) (U : State), s.WarmedH U.vm → w.before a' U = true := fun w hw a' U hW => by
  have h1 : w ∈ xTG := (List.mem_cons.mp hw).elim (fun e => by rw [e]; exact hcw) id
  exact word_at hW (good_of_word (List.mem_filter.mp h1).2) (hts w h1)
/-- behind a call -/
theorem xw_run {p : Program} {e : Env} {s : State} {m : MethodId} {args a : Array Value} {below : List Frame} {meth : Method} {c : Code} {H : Heap} {locs : List Loc} {lsM : Array Slot} {mc ms : Nat} {st0 : List Value} (hC : xCt L O M R p s m args meth c) (hS : va_S (xA O) s.heap H locs) (hl : lv_has lsM M.2.2.1 (ls.map (fun q => (q.1, xtr O q.2))))
    (hr : vx_Run p L e R s m args below meth c H locs cs ns mc ms (F0 m pc lsM st0) (st.map (xtr O)) (xQc O K' a) (xXC O K') (xA O))
    (hk : ∀ (v : Option Value) (G' : List xOb), K' (.inl v) G' → xWP L O M R K (pc + 3) ls (v.toList ++ st) G' (cs + mc) (ns + ms)) (hx : ∀ (E : String) (G' : List xOb), K' (.inr E) G' → xTh L O M R K pc ls st G' (cs + mc) (ns + ms) E) :
    W p L e R s m args below meth c H locs cs ns (vx_MQ below (xQc O K) (xXC O K) args s R.cells R.slots (xA O)) (F0 m pc lsM st0) := by
  intro T hT X
  rcases hr T hT X with ⟨v, st₀, t, T', L9, h0, X', hL, e1, e2, ⟨v', G', hv, hK', hR', hF⟩, stp⟩ | ⟨q, st₀, t, T', L9, E, ce, h0, X', hL, e1, e2, ⟨G', hK', hR', hF⟩, hce, hcv, hcl, stp⟩
  · cases hv
    obtain ⟨-, -, k3⟩ := vx_keep h0 e1 hS (fun _ _ h => h) (fun _ h => h) hL hF
    have h9 := hk v' G' hK' p e s m args below meth c T'.heap (locs ++ L9) lsM hC (by rw [e1]; exact hR') k3 hl
    have e9 : (v'.toList ++ st).map (xtr O) = (v'.map (xtr O)).toList ++ st.map (xtr O) := by cases v' <;> rfl
    rw [e9] at h9
    obtain ⟨t2, a1, b1⟩ := h9 T' rfl X'
    exact ⟨t2, stp t2 a1, b1⟩
  · obtain ⟨-, -, k3⟩ := vx_keep h0 e1 hS (fun _ _ h => h) (fun _ h => h) hL hF
    obtain ⟨t2, a1, b1⟩ := hx E G' hK' p e s m args below meth c T'.heap (locs ++ L9) lsM q ce hC (by rw [e1]; exact hR') k3 hl (by rw [e1]; exact hce) hcv hcl T' rfl X'
    exact ⟨t2, stp.trans a1, b1⟩
/-- what the tables say of a method that is called: n parameters -/
def xOkB (M : xMd) (n : Nat) : Prop := plainName M.1.cls = true ∧ (M.1.cls ≠ "java/lang/invoke/MethodHandle" ∧ M.1.cls ≠ "java/lang/invoke/VarHandle") ∧ (parseMethodDescriptor M.1.desc).map (fun d => d.parameters.length) = some n ∧ xcw M ∈ xTG ∧ Cond.initialized M.1.cls ∈ xTG
def xOkV (M : xMd) (n : Nat) : Prop := xOkB M n ∧ M.2.2.2.2 = [] ∧ Cond.instanceMethod M.1 ∈ xTG ∧ Cond.selects M.1.cls M.1 M.1 ∈ xTG
def xOkI (M : xMd) (n : Nat) : Prop := xOkB M n ∧ M.2.2.2.2 = [] ∧ M.2.2.2.1 = none ∧ M.1.name = "<init>" ∧ Cond.instanceMethod M.1 ∈ xTG
def xOkS (M : xMd) (n : Nat) : Prop := xOkB M n ∧ Cond.static M.1 ∈ xTG
theorem xdesc {n : Nat} {y : MethodName} (h : (parseMethodDescriptor y.desc).map (fun d => d.parameters.length) = some n) : ∀ sig, parseMethodDescriptor y.desc = some sig → n = sig.parameters.length := fun sig h2 => by
  rw [h2] at h
  exact (Option.some.inj h).symm
theorem xstk (As : List Value) (i : Nat) (hi : i < xBig) : (As.reverse ++ Value.ref i :: st).map (xtr O) = (As.map (xtr O)).reverse ++ .ref (O.2.2.1 + i) :: st.map (xtr O) := by
  rw [List.map_append, List.map_cons, xtr_id hi, List.map_reverse]
theorem xrm (h : (st.map (fun v => v.category)).sum ≤ 8) {m : MethodId} {pc : Nat} {lsM : Array Slot} {s0 : List Value} : 2 * (F0 m pc lsM s0).monitorRoom + ((st.map (xtr O)).map fun v => v.category).sum ≤ 8 := by
  refine lv_room ?_
  rw [List.map_map]
  have e : ((fun v => Value.category v) ∘ xtr O) = (fun v => Value.category v) := funext fun v => xtr_cat O v
  rw [e]
  exact h
/-- CALLS -/
theorem xw_callV {idx i ci N n : Nat} {As fs : List Value} {T : u_T} (hd : decode M.2.1 pc = .ok (.invokevirtual idx, 3)) (hok : xOkV M' n) (hw : Cond.methodLink M.1.cls idx M'.1 ∈ xTG ∨ ∃ host, Cond.methodLinkNest M.1.cls idx M'.1 host ∈ xTN)
    (hi : i < xBig) (hg : G[i]? = some (ci, fs)) (hci : ci < 64) (hc : xcl[ci]? = some (M'.1.cls, T, N)) (hn : As.length = n) (hsum : (st.map (fun v => v.category)).sum ≤ 8)
    (hfr : rm.frames + 1 ≤ R.frames) (hlo : 8 + (M'.2.2.1 + 11) + rm.locals ≤ R.locals) (hcs : cs + rm.cells ≤ R.cells) (hns : ns + rm.slots ≤ R.slots)
    (hM : xMet L O M' rm (.ref i :: As) G K')
    (hk : ∀ (v : Option Value) (G' : List xOb), K' (.inl v) G' → xWP L O M R K (pc + 3) ls (v.toList ++ st) G' (cs + rm.cells) (ns + rm.slots)) (hx : ∀ (E : String) (G' : List xOb), K' (.inr E) G' → xTh L O M R K pc ls st G' (cs + rm.cells) (ns + rm.slots) E) :
    xWP L O M R K pc ls (As.reverse ++ .ref i :: st) G cs ns := by
  intro p e s m args below meth c H locs lsM hC hR hS hl
  obtain ⟨hx9, hb, hml, -, hown, hts, -, -, -, -, hK, hE, hbs⟩ := id hC
  obtain ⟨⟨-, hy, hdsc, hcw, hini⟩, hhn, hins, hsel⟩ := hok
  obtain ⟨r, h1, -, cell, g1, g2, g3, -⟩ := xobj hR hg hci
  cases h1.symm.trans hc
  have hcls := (xcl_find hK hc).2.1
  have hrecv : ∃ cellB : Cell, H[O.2.2.1 + i]? = some cellB ∧ cellB.vm.isStatics = false ∧ s.vm.findClass M'.1.cls = some cellB.cls := ⟨cell, g1, by rw [g3]; rfl, by rw [g2]; exact hcls⟩
  have hcode : xcw M' = Cond.code M'.1 M'.2.1 M'.2.2.1 M'.2.2.2.1 := by unfold xcw; rw [hhn]
  have hPc : ∀ U : State, U.heap = H → s.WarmedH U.vm → va_Pc ((Value.ref i :: As).map (xtr O)) (xPre O G) (Value.ref (O.2.2.1 + i) :: As.map (xtr O)).toArray U := fun U hU hW => ⟨by rw [List.map_cons, xtr_id hi], xpre hR hS hK hE hbs hU hW⟩
  rw [xstk As i hi]
  rcases hw with hw | ⟨host, hw⟩
  · exact xw_run hC hS hl (vx_runV ⟨hx9, hb, hml, hown, hts⟩ hM ⟨⟨rfl, rfl, hfr, hlo, xwords hts hcw, by rw [hcode]; exact List.mem_cons_self, by rw [← hcode]; exact hts _ hcw, hts _ hini, hy, xdesc hdsc, hts _ hw⟩, hts _ hins, hts _ hsel⟩ ⟨xblind, hrecv, hPc⟩ rfl (by rw [List.length_map]; exact hn) hl.1 rfl (xrm hsum) hd ⟨hcs, hns⟩) hk hx
  · exact xw_run hC hS hl (vx_runVN ⟨hx9, hb, hml, hown, hts⟩ hM ⟨⟨⟨rfl, rfl, hfr, hlo, xwords hts hcw, by rw [hcode]; exact List.mem_cons_self⟩, by rw [← hcode]; exact hts _ hcw, hts _ hini, hy, xdesc hdsc, va_Nw.use rfl (hE.2.2.2.2.1 _ hw)⟩, hts _ hins, hts _ hsel⟩ ⟨xblind, hrecv, hPc⟩ rfl (by rw [List.length_map]; exact hn) hl.1 rfl (xrm hsum) hd ⟨hcs, hns⟩) hk hx
theorem xw_callI {idx i n : Nat} {As : List Value} (hd : decode M.2.1 pc = .ok (.invokespecial idx, 3)) (hok : xOkI M' n) (hw : Cond.methodLink M.1.cls idx M'.1 ∈ xTG ∨ ∃ host, Cond.methodLinkNest M.1.cls idx M'.1 host ∈ xTN)
    (hi : i < xBig) (hn : As.length = n) (hsum : (st.map (fun v => v.category)).sum ≤ 8)
    (hfr : rm.frames + 1 ≤ R.frames) (hlo : 8 + (M'.2.2.1 + 11) + rm.locals ≤ R.locals) (hcs : cs + rm.cells ≤ R.cells) (hns : ns + rm.slots ≤ R.slots)
    (hM : xMet L O M' rm (.ref i :: As) G K')
    (hk : ∀ (v : Option Value) (G' : List xOb), K' (.inl v) G' → xWP L O M R K (pc + 3) ls (v.toList ++ st) G' (cs + rm.cells) (ns + rm.slots)) (hx : ∀ (E : String) (G' : List xOb), K' (.inr E) G' → xTh L O M R K pc ls st G' (cs + rm.cells) (ns + rm.slots) E) :
    xWP L O M R K pc ls (As.reverse ++ .ref i :: st) G cs ns := by
  intro p e s m args below meth c H locs lsM hC hR hS hl
  obtain ⟨hx9, hb, hml, -, hown, hts, -, -, -, -, hK, hE, hbs⟩ := id hC
  obtain ⟨⟨-, hy, hdsc, hcw, hini⟩, hhn, hrt, hnm, hins⟩ := hok
  have hcode : xcw M' = Cond.code M'.1 M'.2.1 M'.2.2.1 none := by unfold xcw; rw [hhn, hrt]
  have hPc : ∀ U : State, U.heap = H → s.WarmedH U.vm → va_Pc ((Value.ref i :: As).map (xtr O)) (xPre O G) (Value.ref (O.2.2.1 + i) :: As.map (xtr O)).toArray U := fun U hU hW => ⟨by rw [List.map_cons, xtr_id hi], xpre hR hS hK hE hbs hU hW⟩
  rw [xstk As i hi]
  rcases hw with hw | ⟨host, hw⟩
  · exact xw_run hC hS hl (vx_runI ⟨hx9, hb, hml, hown, hts⟩ hM ⟨⟨rfl, rfl, hfr, hlo, xwords hts hcw, by rw [hcode]; exact List.mem_cons_self, by rw [← hcode]; exact hts _ hcw, hts _ hini, hy, xdesc hdsc, hts _ hw⟩, hnm, hts _ hins⟩ ⟨xblind, hPc⟩ rfl (by rw [List.length_map]; exact hn) hl.1 rfl (xrm hsum) hd ⟨hcs, hns⟩) hk hx
  · exact xw_run hC hS hl (vx_runIN ⟨hx9, hb, hml, hown, hts⟩ hM ⟨⟨⟨rfl, rfl, hfr, hlo, xwords hts hcw, by rw [hcode]; exact List.mem_cons_self⟩, by rw [← hcode]; exact hts _ hcw, hts _ hini, hy, xdesc hdsc, va_Nw.use rfl (hE.2.2.2.2.1 _ hw)⟩, hnm, hts _ hins⟩ ⟨xblind, hPc⟩ rfl (by rw [List.length_map]; exact hn) hl.1 rfl (xrm hsum) hd ⟨hcs, hns⟩) hk hx
theorem xw_callS {idx n : Nat} {As : List Value} (hd : decode M.2.1 pc = .ok (.invokestatic idx, 3)) (hok : xOkS M' n) (hw : Cond.methodLink M.1.cls idx M'.1 ∈ xTG ∨ (M'.2.2.2.2 = [] ∧ ∃ host, Cond.methodLinkNest M.1.cls idx M'.1 host ∈ xTN))
    (hn : As.length = n) (hsum : (st.map (fun v => v.category)).sum ≤ 8)
    (hfr : rm.frames + 1 ≤ R.frames) (hlo : 8 + (M'.2.2.1 + 11) + rm.locals ≤ R.locals) (hcs : cs + rm.cells ≤ R.cells) (hns : ns + rm.slots ≤ R.slots)
    (hM : xMet L O M' rm As G K')
    (hk : ∀ (v : Option Value) (G' : List xOb), K' (.inl v) G' → xWP L O M R K (pc + 3) ls (v.toList ++ st) G' (cs + rm.cells) (ns + rm.slots)) (hx : ∀ (E : String) (G' : List xOb), K' (.inr E) G' → xTh L O M R K pc ls st G' (cs + rm.cells) (ns + rm.slots) E) :
    xWP L O M R K pc ls (As.reverse ++ st) G cs ns := by
  intro p e s m args below meth c H locs lsM hC hR hS hl
  obtain ⟨hx9, hb, hml, -, hown, hts, -, -, -, -, hK, hE, hbs⟩ := id hC
  obtain ⟨⟨-, hy, hdsc, hcw, hini⟩, hst9⟩ := hok
  have hPc : ∀ U : State, U.heap = H → s.WarmedH U.vm → va_Pc (As.map (xtr O)) (xPre O G) (As.map (xtr O)).toArray U := fun U hU hW => ⟨rfl, xpre hR hS hK hE hbs hU hW⟩
  rw [List.map_append, List.map_reverse]
  obtain ⟨y', cc', maxL', ret', hh'⟩ := M'
  cases hh' with
  | nil =>
    rcases hw with hw | ⟨-, host, hw⟩
    · exact xw_run hC hS hl (vx_runS ⟨hx9, hb, hml, hown, hts⟩ hM ⟨⟨rfl, rfl, hfr, hlo, xwords hts hcw, List.mem_cons_self, hts _ hcw, hts _ hini, hy, xdesc hdsc, hts _ hw⟩, hts _ hst9⟩ ⟨xblind, hPc⟩ rfl (by rw [List.length_map]; exact hn) hl.1 rfl (xrm hsum) hd ⟨hcs, hns⟩) hk hx
    · exact xw_run hC hS hl (vx_runSN ⟨hx9, hb, hml, hown, hts⟩ hM ⟨⟨⟨rfl, rfl, hfr, hlo, xwords hts hcw, List.mem_cons_self⟩, hts _ hcw, hts _ hini, hy, xdesc hdsc, va_Nw.use rfl (hE.2.2.2.2.1 _ hw)⟩, hts _ hst9, trivial⟩ ⟨xblind, hPc⟩ rfl (by rw [List.length_map]; exact hn) hl.1 rfl (xrm hsum) hd ⟨hcs, hns⟩) hk hx
  | cons h9 t9 =>
    rcases hw with hw | ⟨h0, -⟩
    · exact xw_run hC hS hl (vx_runSX (hh := h9 :: t9) ⟨hx9, hb, hml, hown, hts⟩ hM ⟨⟨rfl, rfl, hfr, hlo, xwords hts hcw, List.mem_cons_self⟩, hts _ hcw, hts _ hini, hy, xdesc hdsc, hts _ hw, hts _ hst9⟩ ⟨xblind, hPc⟩ rfl (by rw [List.length_map]; exact hn) hl.1 rfl (xrm hsum) hd ⟨hcs, hns⟩) hk hx
    · cases h0
/-- Object() -/
theorem xw_objInit {idx i : Nat} (hd : decode M.2.1 pc = .ok (.invokespecial idx, 3)) (hi : i < xBig) (w1 : Cond.methodLink M.1.cls idx objectInit ∈ xTG) (w2 : Cond.instanceMethod objectInit ∈ xTG) (w3 : Cond.code objectInit ⟨#[0xb1]⟩ 1 none ∈ xTG) (hsum : (st.map (fun v => v.category)).sum ≤ 8) (hfr : 1 ≤ R.frames) (hlo : 20 ≤ R.locals)
    (kk : xWP L O M R K (pc + 3) ls st G cs ns) : xWP L O M R K pc ls (.ref i :: st) G cs ns := by
  intro p e s m args below meth c H locs lsM hC hR hS hl
  have h9 := kk p e s m args below meth c H locs lsM hC hR hS hl
  obtain ⟨hx9, hb, hml, -, hown, hts, -, -, -, -, -, -, -⟩ := id hC
  have hs9 := xrm (O := O) hsum (m := m) (pc := pc) (lsM := lsM) (s0 := (Value.ref i :: st).map (xtr O))
  show W p L e R s m args below meth c H locs cs ns _ (F0 m pc lsM (xtr O (.ref i) :: st.map (xtr O)))
  rw [xtr_id hi]
  exact W.objInit hx9 hb hown (hts _ w1) (hts _ w2) (hts _ w3) rfl (by rw [hml]; exact hl.1) rfl hd hfr (by
    have h0 : (F0 m pc lsM ((Value.ref i :: st).map (xtr O))).monitorRoom = (F0 m pc lsM (Value.ref (O.2.2.1 + i) :: st.map (xtr O))).monitorRoom := rfl
    rw [h0] at hs9
    omega) h9
/-- throw new E("text") -/
theorem xw_throw {ik is ic : Nat} {cls text : String} {names : List String} (hd0 : decode M.2.1 pc = .ok (.new ik, 3)) (hd3 : decode M.2.1 (pc + 3) = .ok (.dup, 1)) (hd4 : decode M.2.1 (pc + 4) = .ok (.ldc is, 2)) (hd6 : decode M.2.1 (pc + 6) = .ok (.invokespecial ic, 3)) (hd9 : decode M.2.1 (pc + 9) = .ok (.athrow, 1))
    (hh : M.2.2.2.2 = []) (hcls : Bundle.fit cls = true) (hnames : ∀ n ∈ names, Bundle.fit n = true) (hk : Cond.classLink M.1.cls ik cls ∈ xTG) (hini : Cond.initialized cls ∈ xTG) (hstr : (M.1.cls, is, text) ∈ xST) (hat : ∀ w ∈ vx_atS M.1.cls ic cls names, w ∈ xTG ∨ w ∈ xTN) (hgood : ∀ w ∈ Cond.classLink M.1.cls ik cls :: Cond.initialized cls :: vx_atS M.1.cls ic cls names, vx_ot w = true)
    (hfr : names.length + 3 < R.frames) (hlo : (st.map (fun v => v.category)).sum + (13 * (names.length + 1) + 43) ≤ R.locals) (hcs : cs + 1 ≤ R.cells) (hns : ns + 6 ≤ R.slots) (hG : G.length + 1 < xBig) (hK : K (.inr cls) (G ++ [(127, [])])) : xWP L O M R K pc ls st G cs ns := by
  intro p e s m args below meth c H locs lsM hC hR hS hl
  obtain ⟨hx9, hb, hml, -, hown, hts, hlk, -, htb, hlf, hK9, hE, hbs⟩ := id hC
  obtain ⟨sa, hsa⟩ := hE.2.2.2.2.2.2.1 _ hstr
  have hsum : ((st.map (xtr O)).map fun v => v.category).sum = (st.map (fun v => v.category)).sum := by
    rw [List.map_map]
    have e : ((fun v => Value.category v) ∘ xtr O) = (fun v => Value.category v) := funext fun v => xtr_cat O v
    rw [e]
  exact vx_throwS hx9 hb hlf hown hcls hnames (hts _ hk) (hts _ hini) hsa (fun w hw => (hat w hw).elim (fun h => hts _ h) (fun h => va_Nw.use (by
      have h2 := (List.mem_filter.mp h).2
      unfold xNw at h2
      split at h2 <;> first | rfl | cases h2) (hE.2.2.2.2.1 _ h))) hgood hE.1 hE.2.1 hS (by rw [hml]; exact hl.1) hd0 hd3 hd4 hd6 hd9 (fun x hx => by rw [htb, hh] at hx; cases hx) hfr (by rw [hsum]; exact hlo) hcs hns hlk
    (fun t ha hz hq => ⟨G ++ [(127, [])], hK, hR.push hz hG (by unfold xobAt; rw [if_neg (by show ¬ 127 < 64; omega), if_neg (by show ¬ 127 < 127; omega)]; trivial) hq, ⟨by rw [hz]; exact Nat.le_trans hS.1 (Nat.le_succ _), fun q h1 h2 => (hq q (Nat.lt_of_lt_of_le h1 hS.1)).trans (hS.2.1 q h1 h2)⟩⟩) hS.2.2 hcs hns
end XCALL

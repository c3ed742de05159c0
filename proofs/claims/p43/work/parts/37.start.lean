def R_law : String := "SubtitleHarbourLaw"
def lw_P (b : Addr) (xs : List Int32) (args : Array Value) (s : State) : Prop := args = #[.ref b] ∧ s.IntsAt b xs ∧ xs.length ≤ 260 ∧ (Jvm.Cond.and given_1 narrow_1).before args s = true
/-- what a walk over the start with the record d0 says of its end, said of the start itself -/
theorem lw_closed {s t : State} {o : Outcome} {d0 : Drawn} {L : List Loc} {k n : Nat} (hd0 : s.drawn.sameBut d0 lw_cs) (hv : ∃ v, o = .returned v) (hW : (s.setDrawn d0).WarmedH t.vm) (hs : (s.setDrawn d0).sameButNew ({ t with vm := s.vm } : State) L k n) : State.butDraws s t lw_cs (fun t1 => Framed s o t1 L k n) := by
  have h2 : t.drawn = d0 := congrArg State.drawn hs.1
  refine ⟨⟨hv, hW, State.sameButNew.setDrawn hs s.drawn⟩, ?_, by decide⟩
  rw [h2]
  exact hd0
def lw_Q (_ : Array Value) (s : State) (o : Outcome) (t : State) : Prop := o = .returned (some (.int 1)) ∧ State.butDraws s t lw_cs (fun t1 => Framed s o t1 [] 828823 6605674)
def lw_Z (below : List Frame) (a : Array Value) (s : State) : State → Prop := fun t => ∃ o, t.status = .running ∧ Ended t below o ∧ lw_Q a s o t
/-- the law's own end, with 1 on the stack, nothing written that was there before, its room as the claim has it; d0: the record of draws at this point (at the entry s.drawn: begin with 'refine W.base ?_' and 'have hd0 := Drawn.sameBut.refl s.drawn lw_cs') -/
theorem lw_ret {p : Program} {l : Launch} {e : Env} {s : State} {m : MethodId} {below : List Frame} {meth : Method} {c : Code} {b : Nat} {d0 : Drawn} (hd0 : s.drawn.sameBut d0 lw_cs) (hx : p.tables.exec = Jvm.exec) (hb : c.code = code) (hr : meth.sig.returnType = ret) (hlocks : meth.locks = false) {pc : Nat} {H : Heap} {ls : Array Slot} (hdg : decode code pc = .ok (.ireturn, 1)) : W p l e room_1 (s.setDrawn d0) m #[Value.ref b] below meth c H [] 828823 6605674 (lw_Z below #[Value.ref b] s) (F0 m pc ls [.int 1]) := by
  intro T hT X
  obtain ⟨fs, hret, hrun, hended, hW, hframe⟩ := X.leave (v := some (.int 1)) (hlocks := hlocks) (fun h => by rw [hr] at h; cases h)
  have hmeth' : T.vm.method? m = some meth := X.method'
  refine ⟨T.setFrames fs, ?_, .returned (some (.int 1)), hrun, hended, rfl, lw_closed hd0 ⟨_, rfl⟩ hW hframe⟩
  jvm_step X.here [X.here.top, hx, hb, hdg, hmeth', hr, ret, narrow_b1]
  (try refine ⟨rfl, ?_⟩); (try refine ⟨rfl, ?_⟩)
  first | (intro acts; rw [hret _ acts rfl rfl rfl]) | rw [hret _ _ rfl rfl rfl]
  exact Steps.refl _
/-- what holds at the law's entry: the machine, the code, the tables' words (any of lw_tbl by 'hts w (by decide +kernel)'), the script of L ints xs at the cell b, what the Statement gives of the start (any of its parts by flat_of_before) -/
def lw_At (p : Program) (s : State) (m : MethodId) (meth : Method) (c : Code) (b L : Nat) (xs : Nat → Int32) : Prop :=
  p.tables.exec = Jvm.exec ∧ c.code = code ∧ meth.sig.returnType = ret ∧ c.maxLocals = 25 ∧ s.vm.findClass R_law = some m.cls ∧ (∀ w ∈ lw_tbl, w.before #[Value.ref b] s = true) ∧ va_X b L xs s s.heap ∧ b < s.heap.size ∧ meth.locks = false ∧ (Jvm.Cond.and given_1 narrow_1).before #[Value.ref b] s = true ∧ meth.name = "law" ∧ c.exceptionTable.toList = []

section Y37
theorem xhas {s : State} {b : Nat} (hts : ∀ w ∈ lw_tbl, w.before #[Value.ref b] s = true) : ∀ w ∈ xTG, w.before #[Value.ref b] s = true := fun w hw => hts w (List.mem_filter.mp hw).1
theorem xsome {s : State} {b : Nat} (hts : ∀ w ∈ lw_tbl, w.before #[Value.ref b] s = true) {C : String} {T : u_T} {N n : Nat} (hin : ∀ w ∈ u_ws C T N, w ∈ xTG) (hi : Cond.instantiable C n ∈ xTG) : ∃ (cC : ClassId) (iS : Nat → Nat), u_Kn s C T N cC iS := u_known (xhas hts) hin (xhas hts _ hi)
theorem xarrP {s : State} {A : Array Value} {ty : FieldType} (h : (Cond.arrayClass ty).before A s = true) : ∃ cA : ClassId, ArrOfT s cA ty ∧ s.vm.findClass ("[" ++ ty.toString) = some cA := by
  obtain ⟨cA, kA, comp, h1, h2, h3⟩ := Cond.arrayClass_spec h
  exact ⟨cA, fun n z => ⟨fun k h => (by cases h), kA, h2, comp, h3⟩, h1⟩
theorem xarrO {s : State} {A : Array Value} {C : String} (h : (Cond.arrayOver (.object C)).before A s = true) : ∃ cA : ClassId, ArrOfT s cA (.object C) ∧ va_RA s cA (.object C) := by
  obtain ⟨comp, cA, kA, h1, -, h2, h3, h4⟩ := Cond.arrayOver_spec h
  exact ⟨cA, fun n z => ⟨fun k h => (by cases h), kA, h2, comp, h3⟩, kA, comp, h2, h3, h1, h4⟩
theorem xarrA {s : State} {A : Array Value} {t : FieldType} (h : (Cond.arrayOver (.array t)).before A s = true) : ∃ cA : ClassId, ArrOfT s cA (.array t) ∧ s.vm.findClass ("[" ++ (FieldType.array t).toString) = some cA := by
  obtain ⟨comp, cA, kA, h1, -, h2, h3, h4⟩ := arrayOverA_spec h
  exact ⟨cA, fun n z => ⟨fun k h => (by cases h), kA, h2, comp, h3⟩, h4⟩
theorem xNw_on {w : Cond} (h : xNw w = true) : w.onTables = true := by
  unfold xNw at h
  split at h
  · rfl
  · rfl
  · rfl
  · rfl
  · cases h
theorem xST_in : (xST.map (fun q => Cond.stringRef q.1 q.2.1 q.2.2)).map some = [551, 739, 752, 767, 812, 870, 918, 937, 946, 966, 1007, 1016, 1051, 1063, 1074, 1106, 1115, 1133, 1134, 1139].map (fun i => lw_tbl[i]?) := by decide +kernel
theorem xST_own : ∀ q ∈ xST, q.1 = "SubtitleHarbour" := by decide +kernel
theorem xNC_in : ∀ q ∈ xNC, Cond.not (.castable q.1 q.2) ∈ flatC (Jvm.Cond.and given_1 narrow_1) := by decide +kernel
theorem xgo {p : Program} {e : Env} {s : State} {m : MethodId} {below : List Frame} {meth : Method} {c : Code} (l : Launch) (hL : l.stackTraces = false) {b Ln : Nat} {xs : Nat → Int32} (C0 : lw_At p s m meth c b Ln xs)
    (hW : ∀ O : xWd, O.2.2.2.2.1 = Ln → xWP l O mL_law (xR 13 828823 6605674) (fun o _ => o = .inl (some (.int (iI 1)))) 0 [(0, .ref xBig)] [] [] 0 0) : W p l e room_1 s m #[Value.ref b] below meth c s.heap [] 0 0 (lw_Z below #[Value.ref b] s) (entryFrame m ([Value.ref b] : List Value).toArray 25) := by
  obtain ⟨hx, hb, hr, hml, hown, hts, hX, hbl, hlk, hgv, hnm, htb⟩ := C0
  have hfl := flat_of_before _ hgv
  obtain ⟨c0, i0, k0⟩ := xsome hts inX0 w_301
  obtain ⟨c1, i1, k1⟩ := xsome hts inX1 w_284
  obtain ⟨c2, i2, k2⟩ := xsome hts inX2 w_68
  obtain ⟨c3, i3, k3⟩ := xsome hts inX3 w_172
  obtain ⟨c4, i4, k4⟩ := xsome hts inX4 w_269
  obtain ⟨c5, i5, k5⟩ := xsome hts inX5 w_319
  obtain ⟨c6, i6, k6⟩ := xsome hts inX6 w_157
  obtain ⟨c7, i7, k7⟩ := xsome hts inX7 w_104
  obtain ⟨c8, i8, k8⟩ := xsome hts inX8 w_343
  obtain ⟨c9, i9, k9⟩ := xsome hts inX9 w_98
  obtain ⟨c10, i10, k10⟩ := xsome hts inX10 w_149
  obtain ⟨c11, i11, k11⟩ := xsome hts inX11 w_60
  obtain ⟨a0, b0, d0⟩ := xarrP (ty := .int) (xhas hts _ w_94)
  obtain ⟨a1, b1, d1⟩ := xarrP (ty := .boolean) (xhas hts _ w_96)
  obtain ⟨a2, b2, d2⟩ := xarrP (ty := .char) (xhas hts _ w_95)
  have ho3 : (Cond.arrayOver (.object "SubtitleHarbour$Cue")).before #[Value.ref b] s = true := hts _ (List.mem_of_getElem? (i := 155) (by decide +kernel))
  have ho4 : (Cond.arrayOver (.array .int)).before #[Value.ref b] s = true := hts _ (List.mem_of_getElem? (i := 307) (by decide +kernel))
  obtain ⟨a3, b3, d3⟩ := xarrO ho3
  obtain ⟨a4, b4, d4⟩ := xarrA ho4
  have hO : ∃ O : xWd, O = ((fun k => [c0, c1, c2, c3, c4, c5, c6, c7, c8, c9, c10, c11].getD k 0, fun k => [i0, i1, i2, i3, i4, i5, i6, i7, i8, i9, i10, i11].getD k (fun _ => 0)), (fun k => [a0, a1, a2, a3, a4].getD k 0), s.heap.size, (fun _ => b), Ln, xs) := ⟨_, rfl⟩
  obtain ⟨O, eO⟩ := hO
  have hK : xKn O s := by
    rw [eO]
    refine ⟨⟨fun q1 q hq => ?_, fun k q hk => by simp at hk⟩, fun j ty hj => ?_⟩
    · have hlt : q1 < 12 := (List.getElem?_eq_some_iff.mp hq).1
      rcases (show q1 = 0 ∨ q1 = 1 ∨ q1 = 2 ∨ q1 = 3 ∨ q1 = 4 ∨ q1 = 5 ∨ q1 = 6 ∨ q1 = 7 ∨ q1 = 8 ∨ q1 = 9 ∨ q1 = 10 ∨ q1 = 11 by omega) with rfl | rfl | rfl | rfl | rfl | rfl | rfl | rfl | rfl | rfl | rfl | rfl <;> cases hq
      · exact k0
      · exact k1
      · exact k2
      · exact k3
      · exact k4
      · exact k5
      · exact k6
      · exact k7
      · exact k8
      · exact k9
      · exact k10
      · exact k11
    · have hlt : j < 5 := (List.getElem?_eq_some_iff.mp hj).1
      rcases (show j = 0 ∨ j = 1 ∨ j = 2 ∨ j = 3 ∨ j = 4 by omega) with rfl | rfl | rfl | rfl | rfl <;> cases hj
      · exact ⟨b0, d0⟩
      · exact ⟨b1, d1⟩
      · exact ⟨b2, d2⟩
      · exact ⟨b3, d3⟩
      · exact ⟨b4, d4⟩
  have hnA : ∀ a : Nat, a < s.heap.size → ¬ xA O a := fun a h q => by
    have q2 : O.2.2.1 ≤ a := q
    rw [eO] at q2
    exact absurd h (Nat.not_lt.mpr q2)
  obtain ⟨cur, -, hcur, -⟩ := Cond.instantiable_spec (xhas hts _ w_60)
  have hini : (Cond.initialized Bundle.tN).before #[Value.ref b] s = true := hts _ (by decide +kernel)
  have hE : xEx O s s.heap := by
    refine ⟨vx_Zqof (hts _ (List.mem_of_getElem? (i := 534) (by decide +kernel))) hini (hfl _ (by decide +kernel)) hnA, vx_Zqof (hts _ (List.mem_of_getElem? (i := 536) (by decide +kernel))) hini (hfl _ (by decide +kernel)) hnA, by rw [eO]; exact hX, by rw [eO]; exact hbl, fun w hw => ?_, fun q hq => va_Nc.of (hfl _ (xNC_in q hq)), fun q hq => ?_, va_AO.of ho3, ho4⟩
    · obtain ⟨h1, h2⟩ := List.mem_filter.mp hw
      exact va_Nw.of (xNw_on h2) (hts w h1)
    · have h1 : some (Cond.stringRef q.1 q.2.1 q.2.2) ∈ (xST.map (fun q => Cond.stringRef q.1 q.2.1 q.2.2)).map some := List.mem_map.mpr ⟨_, List.mem_map.mpr ⟨q, hq, rfl⟩, rfl⟩
      rw [xST_in] at h1
      obtain ⟨i, -, hi⟩ := List.mem_map.mp h1
      have h2 := hts _ (List.mem_of_getElem? hi)
      have h4 : s.vm.findClass q.1 = some cur := by rw [xST_own q hq]; exact hcur
      obtain ⟨k, cf, j, a, -, -, -, -, -, hev⟩ := Cond.stringRef_spec h4 h2
      exact ⟨a, vk_R.of h2 hev⟩
  have e0 : [Value.ref b] = ([.ref xBig] : List Value).map (xtr O) := by
    rw [eO]
    simp [xtr]
  have hl9 := lv_entry (([.ref xBig] : List Value).map (xtr O)) (n := 25) (by rw [xsl_len]; decide)
  have hR : xRep O [] s.heap := by
    refine ⟨by rw [eO]; rfl, by decide, fun i o h => by simp at h⟩
  have hC : xCt l O mL_law (xR 13 828823 6605674) p s m #[Value.ref b] meth c := ⟨hx, hb, hml, hr, hown, xhas hts, hlk, hnm, htb, hL, hK, hE, by rw [eO]; exact Nat.le_refl _⟩
  have h9 := hW O (by rw [eO]) p e s m #[Value.ref b] below meth c s.heap [] _ hC hR va_S.rf (by rw [xargs_map] at hl9; exact hl9)
  have e1 : entryFrame m ([Value.ref b] : List Value).toArray 25 = F0 m 0 ((lg_sl (([.ref xBig] : List Value).map (xtr O)) ++ List.replicate (25 - (lg_sl (([.ref xBig] : List Value).map (xtr O))).length) Slot.unset).toArray) [] := by
    rw [e0, lg_entry_eq]
  rw [e1]
  intro T hT X
  obtain ⟨t, g1, o, g2, g3, g4⟩ := h9 T hT X
  refine ⟨t, g1, o, g2, g3, ?_⟩
  rcases g4 with ⟨⟨v, G', eo, hKv, -, -⟩, Ls, ⟨-, hWm, hsb⟩, hf⟩ | ⟨q, -, E, ce, Ls, ⟨G', hKe, -⟩, -⟩
  · cases hKv
    subst eo
    have hsb2 : s.sameButNew ({ t with vm := s.vm } : State) [] 828823 6605674 := State.sameButNew.drop_fresh (L := []) (J := Ls) hsb (fun x hx => by
      have h5 := hf x hx
      have h6 : O.2.2.1 ≤ x.base := h5
      rw [eO] at h6
      exact h6)
    exact ⟨rfl, lw_closed (d0 := s.drawn) (Drawn.sameBut.refl s.drawn lw_cs) ⟨_, rfl⟩ hWm hsb2⟩
  · cases hKe
end Y37

section X38
variable {p : Program} {l : Launch} {e : Env} {R : Room} {s : State} {m : MethodId} {args : Array Value} {below : List Frame} {meth : Method} {c : Code} {H : Heap} {locs : List Loc} {cells slots : Nat} {Q : State → Prop} {cc : ByteArray} {pc : Nat} {lsA : Array Slot} {rest : List Value}
/-- an array of ints is cloned -/
theorem xclone (hexec : p.tables.exec = Jvm.exec) (hb : c.code = cc) (hml : c.maxLocals = lsA.size) {own : String} {index : Nat} (hown : s.vm.findClass own = some m.cls)
    (hlink : (Cond.methodLink own index ⟨"[I", "clone", "()Ljava/lang/Object;"⟩).before args s = true) (hsame : (Cond.sameMethod "[I" "java/lang/Object" "clone" "()Ljava/lang/Object;").before args s = true)
    (hnat : (Cond.native ⟨"java/lang/Object", "clone", "()Ljava/lang/Object;"⟩).before args s = true) (hinst : (Cond.instanceMethod ⟨"java/lang/Object", "clone", "()Ljava/lang/Object;"⟩).before args s = true)
    (hsel : (Cond.selects "[I" ⟨"[I", "clone", "()Ljava/lang/Object;"⟩ ⟨"java/lang/Object", "clone", "()Ljava/lang/Object;"⟩).before args s = true) (hcl : va_Nw (.castable "[I" "java/lang/Cloneable") s)
    {a N : Nat} {f : Nat → Value} {cA : ClassId} (hcell : H[a]? = some (arrV cA N f)) (hof : ArrOfT s cA .int) (hnm : s.vm.findClass "[I" = some cA) (hfit : ∀ j, j < N → fits .int (f j) = true)
    (hframes : 1 ≤ R.frames) (hlocals : (rest.map fun v => v.category).sum + 14 ≤ R.locals) (hcells : cells + 1 ≤ R.cells) (hslots : slots + N ≤ R.slots) (hdg : decode cc pc = .ok (.invokevirtual index, 3))
    (kk : ∀ H1 : Heap, H1.size = H.size + 1 → H1[H.size]? = some (arrV cA N f) → (∀ q : Nat, q < H.size → H1[q]? = H[q]?) → W p l e R s m args below meth c H1 locs (cells + 1) (slots + N) Q (F0 m (pc + 3) lsA (.ref H.size :: rest))) : W p l e R s m args below meth c H locs cells slots Q (F0 m pc lsA (.ref a :: rest)) := by
  obtain ⟨c0, t0, f1, f2, f3⟩ := Cond.castable_spec (va_Nw.use (A := args) rfl hcl)
  cases hnm.symm.trans f1
  intro T hT X
  have hcellT : T.heap[a]? = some (arrV cA N f) := by rw [hT]; exact hcell
  obtain ⟨-, kA, hkA, comp, hkind⟩ := State.isArrayOf_alike X.warmed.alike (hof 0 (fun _ => .null))
  obtain ⟨-, kS, hkS, compS, hkindS⟩ := hof 0 (fun _ => .null)
  obtain ⟨vm', X', st⟩ := X.cloneArray hexec hown hlink hsame hnat hinst hsel (a := a) (cell := arrV cA N f) hcellT (fun k h => by cases h) (fun h => by cases h) hnm f2 f3
    (fun i v hv => by
      have hk' : T.vm.classes[cA]? = some kA := hkA
      have hlt : i < N := by
        have := (Array.getElem?_eq_some_iff.mp hv).1
        rw [arrV_size] at this
        exact this
      rw [arrV_read _ _ hlt] at hv
      cases hv
      simpa [State.fitsSlot, State.slotType?, hk', hkind, arrV] using hfit i hlt)
    (g := F0 m pc lsA (.ref a :: rest)) rfl (by rw [hml]) rfl (by rw [hb]; exact hdg) hframes (by show 2 * 0 + _ + 14 ≤ _; omega) hcells (by rw [arrV_size]; exact hslots) (hloader := Vm.clonesLoader_of_array hkS hkindS)
  rw [arrV_size] at X'
  generalize hH1 : H.push (arrV cA N f) = H1
  have z1 : H1.size = H.size + 1 := by rw [← hH1, Array.size_push]
  have e1 : H1[H.size]? = some (arrV cA N f) := by rw [← hH1, Array.getElem?_push_size]
  have o1 : ∀ q : Nat, q < H.size → H1[q]? = H[q]? := fun q hq => by rw [← hH1, Array.getElem?_push, if_neg (Nat.ne_of_lt hq)]
  obtain ⟨t, b1, b2⟩ := kk H1 z1 e1 o1 ((T.setVm vm').pushCell (arrV cA N f)) (by rw [← hH1, ← hT]; rfl) X'
  refine ⟨t, st t ?_, b2⟩
  rw [hT]
  exact b1
theorem xcastA (hexec : p.tables.exec = Jvm.exec) (hb : c.code = cc) {own nm : String} {index : Nat} (hown : s.vm.findClass own = some m.cls) (hlink : (Cond.classLink own index nm).before args s = true) {a N : Nat} {f : Nat → Value} {cA : ClassId} (hcell : H[a]? = some (arrV cA N f)) (hnm : s.vm.findClass nm = some cA) (hdg : decode cc pc = .ok (.checkcast index, 3))
    (k : W p l e R s m args below meth c H locs cells slots Q (F0 m (pc + 3) lsA (.ref a :: rest))) : W p l e R s m args below meth c H locs cells slots Q (F0 m pc lsA (.ref a :: rest)) := by
  intro T hT X
  obtain ⟨vm', X', st⟩ := X.checkcastYes hexec hown hlink (by rw [hT]; exact hcell) rfl hnm (va_asg _ _) (g := F0 m pc lsA (.ref a :: rest)) rfl rfl (by rw [hb]; exact hdg)
  obtain ⟨t, a1, b1⟩ := k (T.setVm vm') hT X'
  exact ⟨t, st t a1, b1⟩
end X38
section Y38
variable {L : Launch} {O : xWd} {M : xMd} {R : Room} {K : xOc → List xOb → Prop} {pc : Nat} {ls : List (Nat × Value)} {st : List Value} {G : List xOb} {cs ns : Nat}
theorem xw_clone {idx i N : Nat} {vs : List Value} (hi : i < xBig) (hcls : M.1.cls = "SubtitleHarbourLaw") (hidx : idx = 166) (hd : decode M.2.1 pc = .ok (.invokevirtual idx, 3)) (hg : G[i]? = some (64, vs)) (hN : vs.length = N) (hv : ∀ (j : Nat) (v : Value), vs[j]? = some v → ∃ z : Int32, v = .int z) (hsum : (st.map (fun v => v.category)).sum ≤ 8) (hfr : 1 ≤ R.frames) (hlo : 22 ≤ R.locals) (hG : G.length + 1 < xBig) (hcs : cs + 1 ≤ R.cells) (hns : ns + N ≤ R.slots)
    (kk : xWP L O M R K (pc + 3) ls (.ref G.length :: st) (G ++ [(64, vs)]) (cs + 1) (ns + N)) : xWP L O M R K pc ls (.ref i :: st) G cs ns := by
  subst hN; subst hidx
  intro p e s m args below meth c H locs lsM hC hR hS hl
  obtain ⟨hx, hb, hml, -, hown, hts, -, -, -, -, hK, hE, -⟩ := id hC
  rw [hcls] at hown
  show W p L e R s m args below meth c H locs cs ns _ (F0 m pc lsM (xtr O (.ref i) :: st.map (xtr O)))
  rw [xtr_id hi]
  have hsum2 : ((st.map (xtr O)).map fun v => v.category).sum ≤ 8 := by
    rw [List.map_map]
    rw [show ((fun v => v.category) ∘ xtr O) = (fun v : Value => v.category) from funext fun v => xtr_cat O v]
    exact hsum
  refine xclone hx hb (by rw [hml]; exact hl.1.symm) hown (hts _ w_1162) (hts _ w_1163) (hts _ w_1164) (hts _ w_1165) (hts _ w_1166) (hE.2.2.2.2.1 _ w_1167) (xarr (t := 0) hR hg (by omega)) (hK.2 0 .int rfl).1 (hK.2 0 .int rfl).2 (fun j hj => ?_) hfr (by omega) hcs hns hd fun H1 z1 e1 o1 => ?_
  · obtain ⟨v, hv9⟩ : ∃ v, vs[j]? = some v := ⟨_, List.getElem?_eq_getElem hj⟩
    obtain ⟨z, rfl⟩ := hv j v hv9
    show fits .int (xtr O (vs.getD j .null)) = true
    rw [xgetD hv9]
    rfl
  · have h9 := kk p e s m args below meth c H1 locs lsM hC (hR.push z1 hG (xob_arr (t := 0) (by omega) (by rw [← hR.1]; exact e1)) o1) ⟨Nat.le_trans hS.1 (by omega), fun x h1 h2 => (o1 x (Nat.lt_of_lt_of_le h1 hS.1)).trans (hS.2.1 x h1 h2), hS.2.2⟩ hl
    have e3 : xtr O (.ref G.length) = .ref H.size := by rw [xtr_id (by omega), hR.1]
    rw [List.map_cons, e3] at h9
    exact h9
theorem xw_castI {idx i : Nat} {vs : List Value} (hi : i < xBig) (hd : decode M.2.1 pc = .ok (.checkcast idx, 3)) (w1 : Cond.classLink M.1.cls idx "[I" ∈ xTG) (hg : G[i]? = some (64, vs)) (kk : xWP L O M R K (pc + 3) ls (.ref i :: st) G cs ns) : xWP L O M R K pc ls (.ref i :: st) G cs ns := by
  intro p e s m args below meth c H locs lsM hC hR hS hl
  have h9 := kk p e s m args below meth c H locs lsM hC hR hS hl
  obtain ⟨hx, hb, -, -, hown, hts, -, -, -, -, hK, hE, -⟩ := id hC
  rw [List.map_cons, xtr_id hi] at h9
  show W p L e R s m args below meth c H locs cs ns _ (F0 m pc lsM (xtr O (.ref i) :: st.map (xtr O)))
  rw [xtr_id hi]
  exact xcastA hx hb hown (hts _ w1) (xarr (t := 0) hR hg (by omega)) (hK.2 0 .int rfl).2 hd h9
theorem yh_clone (k : Nat) {v n m m2 : Nat} {f : Int → Int} {σ : ySg} {X : List xOb} {A : List (Nat × List Value)} {idx h c0 s0 : Nat} (hcls : M.1.cls = "SubtitleHarbourLaw") (hidx : idx = 166) (hA : yHs A X) (hk : A[k]? = some (v, iaL n f)) (hm : X.length ≤ m) (hm2 : m + 1 ≤ m2) (hm3 : m2 ≤ 900000) (hd : decode M.2.1 pc = .ok (.invokevirtual idx, 3)) (hsum : (st.map (fun v => v.category)).sum ≤ 8) (hcs : cs + 1 ≤ c0) (hns : ns + n ≤ s0)
    (kk : ∀ (X : List xOb) (u : Nat), yHs ((u, iaL n f) :: A) X → X.length ≤ m2 → xWP L O M (xR h c0 s0) K (pc + 3) ls (.ref u :: st) (Wd σ X) (cs + 1) (ns + n)) : xWP L O M (xR h c0 s0) K pc ls (.ref v :: st) (Wd σ X) cs ns := by
  refine xw_big fun hb => ?_
  obtain ⟨h1, h2⟩ := yh_lt hA hk hb
  refine xw_clone (N := n) h1 hcls hidx hd h2 (iaL_len n f) (fun j w hw => ?_) hsum (by simp only [xR]; omega) (by simp only [xR]; omega) (by rw [Wd_len]; exact Nat.lt_trans (show 193 + X.length + 1 < 1000000 by omega) (by decide)) hcs hns ?_
  · unfold iaL at hw
    rw [List.getElem?_map] at hw
    cases hj : (List.range n)[j]? with
    | none => rw [hj] at hw; cases hw
    | some q => rw [hj] at hw; cases hw; exact ⟨_, rfl⟩
  · rw [Wd_len, Wd_app]
    exact yl_k (ls' := fun _ => ls) (st' := fun v => .ref v :: st) hA hm hm2 kk
theorem yh_cast (k : Nat) {v : Nat} {L9 : List Value} {σ : ySg} {X : List xOb} {A : List (Nat × List Value)} {idx : Nat} (hA : yHs A X) (hk : A[k]? = some (v, L9)) (hd : decode M.2.1 pc = .ok (.checkcast idx, 3)) (w1 : Cond.classLink M.1.cls idx "[I" ∈ xTG) (kk : xWP L O M R K (pc + 3) ls (.ref v :: st) (Wd σ X) cs ns) : xWP L O M R K pc ls (.ref v :: st) (Wd σ X) cs ns := by
  refine xw_big fun hb => ?_
  obtain ⟨h1, h2⟩ := yh_lt hA hk hb
  exact xw_castI h1 hd w1 h2 kk
end Y38

/-! a table of rows is made at once: the outer array, then its rows -/
section XMA
variable {p : Program} {l : Launch} {e : Env} {R : Room} {s : State} {m : MethodId} {args : Array Value} {below : List Frame} {meth : Method} {c : Code} {H : Heap} {locs : List Loc} {cells slots : Nat}
theorem xm_step {cc : ByteArray} (hexec : p.tables.exec = Jvm.exec) (hb : c.code = cc) {own : String} {index : Nat} {ty : FieldType} {Q : State → Prop}
    (hown : s.vm.findClass own = some m.cls) (hclink : (Cond.classLink own index ("[" ++ (FieldType.array ty).toString)).before args s = true) (hover : (Cond.arrayOver (.array ty)).before args s = true) (harr : (Cond.arrayClass ty).before args s = true)
    {g : JFrame} (hg : g.method = m) (hdg : decode cc g.pc = .ok (.multianewarray index 2, 4)) {N M : Nat} {rest : List Value} (hstack : g.stack = .int (nI M) :: .int (nI N) :: rest) (hN : N ≤ 10000) (hM : M ≤ 10000)
    (hdf : fits ty (defaultValue ty) = true) (hdd : (defaultValue ty).isDefault = true) (hcb : componentBytes ty ≤ 8) (hcells : cells + (1 + N) ≤ R.cells) (hslots : slots + (N + N * M) ≤ R.slots)
    (kk : ∀ (H1 : Heap) (cA comp : ClassId), s.vm.findClass ("[" ++ (FieldType.array ty).toString) = some cA → s.vm.findClass (FieldType.array ty).toString = some comp → H1.size = H.size + 1 + N → H1[H.size]? = some (arrV cA N (fun j => va_rf (if j < N then some (H.size + 1 + j) else none))) → (∀ j, j < N → H1[H.size + 1 + j]? = some (arrV comp M (fun _ => defaultValue ty))) → (∀ q : Nat, q < H.size → H1[q]? = H[q]?) →
      W p l e R s m args below meth c H1 locs (cells + 1 + N) (slots + N + N * M) Q { g with pc := g.pc + 4, stack := .ref H.size :: rest }) : W p l e R s m args below meth c H locs cells slots Q g := by
  intro T hT X
  subst hT; subst hb
  have eN : (nI N).toNatClampNeg = N := nI_clamp (by omega)
  have eM : (nI M).toNatClampNeg = M := nI_clamp (by omega)
  have hB : M * componentBytes ty ≤ 536870912 := Nat.le_trans (Nat.mul_le_mul hM hcb) (by decide)
  obtain ⟨vm₁, cA, comp, -, fA, fC, -, -, X', step⟩ := X.multianewarray2F hexec hown hclink hover harr hg hdg hstack (nI_pos (by omega)) (nI_pos (by omega)) (by rw [eN]; omega) (by rw [eM]; exact hB) (by rw [eM]; omega) hdf hdd (by rw [eN]; exact hcells) (by rw [eN, eM]; exact hslots)
  rw [eN, eM] at X' step
  obtain ⟨f1, f2, -, -⟩ := Jvm.Free.Multi.fill_facts (T.setVm vm₁) cA comp N M (defaultValue ty) N
  rw [vr_outer] at f2
  obtain ⟨t, a1, b1⟩ := kk (Jvm.Free.Multi.fill (T.setVm vm₁) cA comp N M (defaultValue ty) N).heap cA comp fA fC f1 f2
    (fun j hj => by
      have := Jvm.Free.Multi.fill_inner (T.setVm vm₁) cA comp N M (defaultValue ty) N j hj
      refine this.trans (congrArg some ?_)
      exact arrV_new comp M (defaultValue ty))
    (fun q hq => Jvm.Free.Multi.fill_old (T.setVm vm₁) cA comp N M (defaultValue ty) hq N) _ rfl X'
  exact ⟨t, step t a1, b1⟩
end XMA
section XMB
variable {L : Launch} {O : xWd} {M : xMd} {R : Room} {K : xOc → List xOb → Prop} {pc : Nat} {ls : List (Nat × Value)} {st : List Value} {G : List xOb} {cs ns : Nat}
theorem xRep_app {O : xWd} {G G2 : List xOb} {H H1 : Heap} (h : xRep O G H) (hz : H1.size = H.size + G2.length) (hG : G.length + G2.length < xBig) (oq : ∀ q : Nat, q < H.size → H1[q]? = H[q]?) (hn : ∀ (i : Nat) (o : xOb), G2[i]? = some o → xobAt O (H.size + i) o H1) : xRep O (G ++ G2) H1 := by
  refine ⟨by rw [hz, List.length_append, h.1]; omega, by rw [List.length_append]; exact hG, fun j o2 hj => ?_⟩
  by_cases q : j < G.length
  · rw [List.getElem?_append_left q] at hj
    have h2 := h.2.2 j o2 hj
    have hq : H1[O.2.2.1 + j]? = H[O.2.2.1 + j]? := oq _ (by rw [h.1]; omega)
    unfold xobAt at h2 ⊢
    split at h2
    · next c =>
      rw [if_pos c]
      obtain ⟨r, a1, a2, a3⟩ := h2
      exact ⟨r, a1, a2, a3.kept hq⟩
    · next c =>
      rw [if_neg c]
      split at h2
      · next c2 => rw [if_pos c2, hq]; exact h2
      · next c2 => rw [if_neg c2]; trivial
  · rw [List.getElem?_append_right (by omega)] at hj
    have := hn _ _ hj
    rw [h.1, show O.2.2.1 + G.length + (j - G.length) = O.2.2.1 + j by omega] at this
    exact this
theorem xob_arr {O : xWd} {a t : Nat} {vs : List Value} {H : Heap} (ht : t < 63) (h : H[a]? = some (arrV (O.2.1 t) vs.length (fun k => xtr O (vs.getD k .null)))) : xobAt O a (64 + t, vs) H := by
  unfold xobAt
  rw [if_neg (by show ¬ 64 + t < 64; omega), if_pos (by show 64 + t < 127; omega)]
  show H[a]? = some (arrV (O.2.1 (64 + t - 64)) _ _)
  rw [show 64 + t - 64 = t by omega]
  exact h
/-- a table of numbers: N rows of M, all 0 -/
theorem xw_mna {idx N M9 : Nat} (hd : decode M.2.1 pc = .ok (.multianewarray idx 2, 4)) (w1 : Cond.classLink M.1.cls idx "[[I" ∈ xTG) (w2 : Cond.arrayClass .int ∈ xTG) (hN : N ≤ 10000) (hM : M9 ≤ 10000) (hG : G.length + (1 + N) < xBig) (hcs : cs + (1 + N) ≤ R.cells) (hns : ns + (N + N * M9) ≤ R.slots)
    (kk : xWP L O M R K (pc + 4) ls (.ref G.length :: st) (G ++ ((68, (List.range N).map (fun j => Value.ref (G.length + 1 + j))) :: List.replicate N (64, List.replicate M9 (Value.int (iI 0))))) (cs + 1 + N) (ns + N + N * M9)) : xWP L O M R K pc ls (.int (nI M9) :: .int (nI N) :: st) G cs ns := by
  intro p e s m args below meth c H locs lsM hC hR hS hl
  obtain ⟨hx, hb, -, -, hown, hts, -, -, -, -, hK, hE, -⟩ := id hC
  refine xm_step (ty := .int) hx hb hown (hts _ w1) (va_AOA.use hE.2.2.2.2.2.2.2.2) (hts _ w2) rfl hd rfl hN hM rfl rfl (by decide) hcs hns fun H1 cA comp n1 n2 z1 e1 e2 o1 => ?_
  have hcA : cA = O.2.1 4 := by
    have h2 : s.vm.findClass ("[" ++ (FieldType.array .int).toString) = some (O.2.1 4) := (hK.2 4 (.array .int) rfl).2
    exact Option.some.inj (n1.symm.trans h2)
  have hcI : comp = O.2.1 0 := by
    have h2 : s.vm.findClass ("[" ++ FieldType.int.toString) = some (O.2.1 0) := (hK.2 0 .int rfl).2
    exact Option.some.inj (n2.symm.trans h2)
  subst hcA
  subst hcI
  have h9 := kk p e s m args below meth c H1 locs lsM hC (xRep_app hR (by rw [z1, List.length_cons, List.length_replicate]; omega) (by rw [List.length_cons, List.length_replicate]; omega) o1 (fun i o hi => by
    cases i with
    | zero =>
      cases hi
      refine xob_arr (t := 4) (by omega) ?_
      rw [List.length_map, List.length_range]
      refine e1.trans (congrArg some ?_)
      unfold arrV
      congr 1
      refine congrArg _ (funext fun j => ?_)
      show va_rf (if j.val < N then some (H.size + 1 + j.val) else none) = xtr O (((List.range N).map (fun j => Value.ref (G.length + 1 + j))).getD j.val .null)
      rw [if_pos j.isLt, List.getD_eq_getElem?_getD, List.getElem?_map, List.getElem?_range j.isLt]
      show Value.ref (H.size + 1 + j.val) = xtr O (.ref (G.length + 1 + j.val))
      have := j.isLt
      rw [xtr_id (by omega)]
      have e5 : H.size + 1 + j.val = O.2.2.1 + (G.length + 1 + j.val) := by rw [hR.1]; omega
      exact congrArg Value.ref e5
    | succ i =>
      rw [List.getElem?_cons_succ, List.getElem?_replicate] at hi
      split at hi
      · next q =>
        cases hi
        refine xob_arr (t := 0) (by omega) ?_
        rw [List.length_replicate, show H.size + (i + 1) = H.size + 1 + i by omega]
        refine (e2 i q).trans (congrArg some ?_)
        unfold arrV
        congr 1
        refine congrArg _ (funext fun j => ?_)
        show Value.int 0 = xtr O ((List.replicate M9 (Value.int (iI 0))).getD j.val .null)
        rw [List.getD_eq_getElem?_getD, List.getElem?_replicate, if_pos j.isLt]
        rfl
      · cases hi)) ⟨Nat.le_trans hS.1 (by omega), fun x h1 h2 => (o1 x (Nat.lt_of_lt_of_le h1 hS.1)).trans (hS.2.1 x h1 h2), hS.2.2⟩ hl
  have e3 : xtr O (.ref G.length) = .ref H.size := by rw [xtr_id (by omega), hR.1]
  rw [List.map_cons, e3] at h9
  exact h9
end XMB

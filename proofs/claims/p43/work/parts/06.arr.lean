section XARR
variable {L : Launch} {O : xWd} {M : xMd} {R : Room} {K : xOc → List xOb → Prop} {pc : Nat} {ls : List (Nat × Value)} {st : List Value} {G : List xOb} {cs ns : Nat}
theorem xarrOf {U : State} {t : Nat} {ty : FieldType} (hK : xKn O U) (ht : xaT[t]? = some ty) (n : Nat) (f : Nat → Value) : U.isArrayOf (arrV (O.2.1 t) n f) ty := (hK.2 t ty ht).1 n f
theorem xin {x : Int32} {j n : Nat} {f : Nat → Value} {cA : ClassId} (hx : x = nI j) (hj : j < n) (hb : n < 2147483648) : ¬ (x < 0 ∨ (arrV cA n f).slots.size ≤ x.toNatClampNeg) := by
  rw [arrV_size, hx]
  exact nI_in hj (by omega)
theorem xrd {x : Int32} {j n : Nat} {vs : List Value} {v : Value} {cA : ClassId} (hx : x = nI j) (hn : n = vs.length) (hb : n < 2147483648) (hv : vs[j]? = some v) : (arrV cA n (fun k => xtr O (vs.getD k .null))).slots[x.toNatClampNeg]? = some (xtr O v) := by
  have hj := xlen hv
  rw [hx, nI_clamp (by omega), arrV_read _ _ (by omega), xgetD hv]
theorem xarr_set {i t j : Nat} {vs : List Value} {v : Value} {H H1 : Heap} {locs : List Loc} {s : State} (hR : xRep O G H) (hS : va_S (xA O) s.heap H locs) (hg : G[i]? = some (64 + t, vs)) (ht : t < 63) (hj : j < vs.length)
    (e : H1[O.2.2.1 + i]? = some ((arrV (O.2.1 t) vs.length (fun k => xtr O (vs.getD k .null))).setSlot j (xtr O v))) (z : H1.size = H.size) (oq : ∀ q, q ≠ O.2.2.1 + i → H1[q]? = H[q]?) :
    xRep O (G.set i (64 + t, vs.set j v)) H1 ∧ va_S (xA O) s.heap H1 (locs ++ [⟨O.2.2.1 + i, j⟩]) := by
  refine ⟨hR.set hg z ?_ oq, hS.put z oq (by show O.2.2.1 ≤ _; omega)⟩
  unfold xobAt
  rw [if_neg (by show ¬ 64 + t < 64; omega), if_pos (by show 64 + t < 127; omega)]
  show H1[O.2.2.1 + i]? = some (arrV (O.2.1 (64 + t - 64)) (vs.set j v).length (fun k => xtr O ((vs.set j v).getD k .null)))
  rw [e, show 64 + t - 64 = t by omega, List.length_set, arrV_store]
  refine congrArg some (congrArg (arrV _ _) (funext fun q => ?_))
  show (if q = j then xtr O v else xtr O (vs.getD q .null)) = xtr O ((vs.set j v).getD q .null)
  rw [xset_getD hj]
  split <;> rfl
theorem xw_iald {i j : Nat} {x : Int32} {vs : List Value} {v : Value} (hi : i < xBig) (hd : decode M.2.1 pc = .ok (.iaload, 1)) (hat : xaT[0]? = some .int) (hg : G[i]? = some (64, vs)) (hx : x = nI j) (hb : vs.length < 2147483648) (hv : vs[j]? = some v) (kk : xWP L O M R K (pc + 1) ls (v :: st) G cs ns) : xWP L O M R K pc ls (.int x :: .ref i :: st) G cs ns := by
  intro p e s m args below meth c H locs lsM hC hR hS hl
  have h9 := kk p e s m args below meth c H locs lsM hC hR hS hl
  show W p L e R s m args below meth c H locs cs ns _ (F0 m pc lsM (.int x :: xtr O (.ref i) :: st.map (xtr O)))
  rw [xtr_id hi]
  exact W.iald hC.1 hC.2.1 (xarr (t := 0) hR hg (by omega)) (xarrOf hC.2.2.2.2.2.2.2.2.2.2.1 hat _ _) (fun q => by cases q) (xin hx (xlen hv) hb) (xrd hx rfl hb hv) rfl rfl hd h9
theorem xw_zald {i j : Nat} {x : Int32} {vs : List Value} {v : Value} (hi : i < xBig) (hd : decode M.2.1 pc = .ok (.baload, 1)) (hat : xaT[1]? = some .boolean) (hg : G[i]? = some (65, vs)) (hx : x = nI j) (hb : vs.length < 2147483648) (hv : vs[j]? = some v) (kk : xWP L O M R K (pc + 1) ls (v :: st) G cs ns) : xWP L O M R K pc ls (.int x :: .ref i :: st) G cs ns := by
  intro p e s m args below meth c H locs lsM hC hR hS hl
  have h9 := kk p e s m args below meth c H locs lsM hC hR hS hl
  show W p L e R s m args below meth c H locs cs ns _ (F0 m pc lsM (.int x :: xtr O (.ref i) :: st.map (xtr O)))
  rw [xtr_id hi]
  exact W.zald hC.1 hC.2.1 (xarr (t := 1) hR hg (by omega)) (xarrOf hC.2.2.2.2.2.2.2.2.2.2.1 hat _ _) (fun q => by cases q) (xin hx (xlen hv) hb) (xrd hx rfl hb hv) rfl rfl hd h9
theorem xw_cald {i j : Nat} {x : Int32} {vs : List Value} {v : Value} (hi : i < xBig) (hd : decode M.2.1 pc = .ok (.caload, 1)) (hat : xaT[2]? = some .char) (hg : G[i]? = some (66, vs)) (hx : x = nI j) (hb : vs.length < 2147483648) (hv : vs[j]? = some v) (kk : xWP L O M R K (pc + 1) ls (v :: st) G cs ns) : xWP L O M R K pc ls (.int x :: .ref i :: st) G cs ns := by
  intro p e s m args below meth c H locs lsM hC hR hS hl
  have h9 := kk p e s m args below meth c H locs lsM hC hR hS hl
  show W p L e R s m args below meth c H locs cs ns _ (F0 m pc lsM (.int x :: xtr O (.ref i) :: st.map (xtr O)))
  rw [xtr_id hi]
  exact W.cald hC.1 hC.2.1 (xarr (t := 2) hR hg (by omega)) (xarrOf hC.2.2.2.2.2.2.2.2.2.2.1 hat _ _) (fun q => by cases q) (xin hx (xlen hv) hb) (xrd hx rfl hb hv) rfl rfl hd h9
theorem xw_aald (t : Nat) {ty : FieldType} {i j : Nat} {x : Int32} {vs : List Value} {v : Value} (hi : i < xBig) (hd : decode M.2.1 pc = .ok (.aaload, 1)) (ht : t < 63) (hat : xaT[t]? = some ty) (href : ty.isReference = true) (hg : G[i]? = some (64 + t, vs)) (hx : x = nI j) (hb : vs.length < 2147483648) (hv : vs[j]? = some v) (kk : xWP L O M R K (pc + 1) ls (v :: st) G cs ns) : xWP L O M R K pc ls (.int x :: .ref i :: st) G cs ns := by
  intro p e s m args below meth c H locs lsM hC hR hS hl
  have h9 := kk p e s m args below meth c H locs lsM hC hR hS hl
  show W p L e R s m args below meth c H locs cs ns _ (F0 m pc lsM (.int x :: xtr O (.ref i) :: st.map (xtr O)))
  rw [xtr_id hi]
  exact W.aald hC.1 hC.2.1 (xarr hR hg ht) (xarrOf hC.2.2.2.2.2.2.2.2.2.2.1 hat _ _) href (fun q => by cases q) (xin hx (xlen hv) hb) (xrd hx rfl hb hv) rfl rfl hd h9
theorem xw_alen (t : Nat) {ty : FieldType} {i : Nat} {vs : List Value} {n : Int32} (hi : i < xBig) (hd : decode M.2.1 pc = .ok (.arraylength, 1)) (ht : t < 63) (hat : xaT[t]? = some ty) (hg : G[i]? = some (64 + t, vs)) (hn : n = nI vs.length) (kk : xWP L O M R K (pc + 1) ls (.int n :: st) G cs ns) : xWP L O M R K pc ls (.ref i :: st) G cs ns := by
  intro p e s m args below meth c H locs lsM hC hR hS hl
  have h9 := kk p e s m args below meth c H locs lsM hC hR hS hl
  show W p L e R s m args below meth c H locs cs ns _ (F0 m pc lsM (xtr O (.ref i) :: st.map (xtr O)))
  rw [xtr_id hi]
  exact W.alen hC.1 hC.2.1 (xarr hR hg ht) (xarrOf hC.2.2.2.2.2.2.2.2.2.2.1 hat _ _) (by rw [arrV_size, hn]; rfl) rfl rfl hd h9
theorem xw_iast {i j : Nat} {x y : Int32} {vs : List Value} (hi : i < xBig) (hd : decode M.2.1 pc = .ok (.iastore, 1)) (hat : xaT[0]? = some .int) (hg : G[i]? = some (64, vs)) (hx : x = nI j) (hj : j < vs.length) (hb : vs.length < 2147483648) (kk : xWP L O M R K (pc + 1) ls st (G.set i (64, vs.set j (.int y))) cs ns) : xWP L O M R K pc ls (.int y :: .int x :: .ref i :: st) G cs ns := by
  intro p e s m args below meth c H locs lsM hC hR hS hl
  show W p L e R s m args below meth c H locs cs ns _ (F0 m pc lsM (.int y :: .int x :: xtr O (.ref i) :: st.map (xtr O)))
  rw [xtr_id hi]
  refine W.iast hC.1 hC.2.1 (xarr (t := 0) hR hg (by omega)) (xarrOf hC.2.2.2.2.2.2.2.2.2.2.1 hat _ _) (fun q => by cases q) (xin hx hj hb) rfl rfl hd fun H1 e1 z1 o1 => ?_
  rw [hx, nI_clamp (by omega)] at e1 ⊢
  obtain ⟨h1, h2⟩ := xarr_set (t := 0) (v := .int y) hR hS hg (by omega) hj e1 z1 o1
  exact kk p e s m args below meth c H1 _ lsM hC h1 h2 hl
theorem xw_zast {i j : Nat} {x y : Int32} {vs : List Value} (hi : i < xBig) (hd : decode M.2.1 pc = .ok (.bastore, 1)) (hat : xaT[1]? = some .boolean) (hg : G[i]? = some (65, vs)) (hx : x = nI j) (hj : j < vs.length) (hb : vs.length < 2147483648) (hn : narrow .boolean (.int y) = .int y) (kk : xWP L O M R K (pc + 1) ls st (G.set i (65, vs.set j (.int y))) cs ns) : xWP L O M R K pc ls (.int y :: .int x :: .ref i :: st) G cs ns := by
  intro p e s m args below meth c H locs lsM hC hR hS hl
  show W p L e R s m args below meth c H locs cs ns _ (F0 m pc lsM (.int y :: .int x :: xtr O (.ref i) :: st.map (xtr O)))
  rw [xtr_id hi]
  refine W.zast hC.1 hC.2.1 (xarr (t := 1) hR hg (by omega)) (xarrOf hC.2.2.2.2.2.2.2.2.2.2.1 hat _ _) (fun q => by cases q) (xin hx hj hb) rfl rfl hd fun H1 e1 z1 o1 => ?_
  rw [hx, nI_clamp (by omega), hn] at e1
  rw [hx, nI_clamp (by omega)]
  obtain ⟨h1, h2⟩ := xarr_set (t := 1) (v := .int y) hR hS hg (by omega) hj e1 z1 o1
  exact kk p e s m args below meth c H1 _ lsM hC h1 h2 hl
/-- an object is put into an array of its class -/
theorem xw_aast (t : Nat) {i j v ci N : Nat} {x : Int32} {vs fs : List Value} {C : String} {T : u_T} (hi : i < xBig) (hv : v < xBig) (hd : decode M.2.1 pc = .ok (.aastore, 1)) (ht : t < 63) (hat : xaT[t]? = some (.object C)) (hg : G[i]? = some (64 + t, vs)) (ho : G[v]? = some (ci, fs)) (hci : ci < 64) (hc : xcl[ci]? = some (C, T, N)) (hx : x = nI j) (hj : j < vs.length) (hb : vs.length < 2147483648)
    (kk : xWP L O M R K (pc + 1) ls st (G.set i (64 + t, vs.set j (.ref v))) cs ns) : xWP L O M R K pc ls (.ref v :: .int x :: .ref i :: st) G cs ns := by
  intro p e s m args below meth c H locs lsM hC hR hS hl
  have hK := hC.2.2.2.2.2.2.2.2.2.2.1
  obtain ⟨r, h1, -, cellV, g1, g2, g3, -⟩ := xobj hR ho hci
  have hcls := (xcl_find hK hc).2
  obtain ⟨kA, comp, k1, k2, k3, -⟩ := (hK.2 t _ hat).2
  have hcomp : comp = O.1.1 ci := Option.some.inj (k3.symm.trans hcls.1)
  subst hcomp
  obtain ⟨kC, hkC, -⟩ := hcls.2
  show W p L e R s m args below meth c H locs cs ns _ (F0 m pc lsM (xtr O (.ref v) :: .int x :: xtr O (.ref i) :: st.map (xtr O)))
  rw [xtr_id hi, xtr_id hv]
  refine W.aast hC.1 hC.2.1 (xarr hR hg ht) (fun q h => by cases h) (fun h => by cases h) k1 k2 rfl hkC ⟨fun q => (xin (cA := O.2.1 t) (f := fun _ => .null) hx hj hb) (Or.inl q), by rw [arrV_size, hx, nI_clamp (by omega)]; exact hj⟩ g1 (fun q h => by rw [g3] at h; cases h) (by rw [g2]; exact hkC) (by rw [g2]; exact va_assign hcls) rfl rfl hd fun H1 e1 z1 o1 => ?_
  rw [hx, nI_clamp (by omega)] at e1 ⊢
  obtain ⟨h1, h2⟩ := xarr_set (v := .ref v) hR hS hg ht hj (by rw [e1, xtr_id hv]) z1 o1
  exact kk p e s m args below meth c H1 _ lsM hC h1 h2 hl
/-- a new array of objects -/
theorem xw_anew {t idx : Nat} {C : String} {n : Int32} {N : Nat} (hd : decode M.2.1 pc = .ok (.anewarray idx, 3)) (ht : t < 63) (hat : xaT[t]? = some (.object C)) (w1 : Cond.classLink M.1.cls idx C ∈ xTG) (hAO : ∀ (U : State) (H : Heap), xEy O.2.2.1 O.2.2.2.1 U H → va_AO C U) (hn : n = nI N) (hN : N ≤ 65536) (hG : G.length + 1 < xBig) (hcs : cs + 1 ≤ R.cells) (hns : ns + N ≤ R.slots)
    (kk : xWP L O M R K (pc + 3) ls (.ref G.length :: st) (G ++ [(64 + t, List.replicate N .null)]) (cs + 1) (ns + N)) : xWP L O M R K pc ls (.int n :: st) G cs ns := by
  intro p e s m args below meth c H locs lsM hC hR hS hl
  obtain ⟨hx, hb, -, -, hown, hts, -, -, -, -, hK, hE, -⟩ := id hC
  subst hn
  have hcl : (nI N).toNatClampNeg = N := nI_clamp (by omega)
  refine W.anew hx hb hown (hts _ w1) (va_AO.use (hAO _ _ hE.2.2.2.2.2.2.2)) rfl hd rfl (nI_pos (by omega)) (by rw [hcl]; omega) hcs (by rw [hcl]; exact hns) fun cA kA comp f1 f2 f3 f4 => ?_
  rw [hcl]
  have hcA : cA = O.2.1 t := by
    obtain ⟨_, _, -, -, -, h2⟩ := (hK.2 t _ hat).2
    exact Option.some.inj (f1.symm.trans h2)
  subst hcA
  generalize hH1 : H.push ({ cls := O.2.1 t, slots := Array.replicate N .null, vm := .none } : Cell) = H1
  have z1 : H1.size = H.size + 1 := by rw [← hH1, Array.size_push]
  have e1 : H1[H.size]? = some (arrV (O.2.1 t) N (fun _ => .null)) := by rw [← hH1, Array.getElem?_push_size, ← arrV_new]
  have o1 : ∀ q : Nat, q < H.size → H1[q]? = H[q]? := fun q hq => by rw [← hH1, Array.getElem?_push, if_neg (Nat.ne_of_lt hq)]
  have h9 := kk p e s m args below meth c H1 locs lsM hC (hR.push z1 hG (by
    unfold xobAt
    rw [if_neg (by show ¬ 64 + t < 64; omega), if_pos (by show 64 + t < 127; omega)]
    show H1[O.2.2.1 + G.length]? = some (arrV (O.2.1 (64 + t - 64)) (List.replicate N Value.null).length _)
    rw [← hR.1, e1, show 64 + t - 64 = t by omega, List.length_replicate]
    refine congrArg some ?_
    unfold arrV
    congr 1
    refine congrArg _ (funext fun j => ?_)
    show Value.null = xtr O ((List.replicate N Value.null).getD j.val .null)
    rw [List.getD_eq_getElem?_getD, List.getElem?_replicate, if_pos j.isLt]; rfl) o1) ⟨Nat.le_trans hS.1 (by omega), fun x h1 h2 => (o1 x (Nat.lt_of_lt_of_le h1 hS.1)).trans (hS.2.1 x h1 h2), hS.2.2⟩ hl
  have e2 : xtr O (.ref G.length) = .ref H.size := by rw [xtr_id (by omega), hR.1]
  rw [List.map_cons, e2] at h9
  exact h9
/-- the script is read -/
theorem xw_sld {x : Int32} {j : Nat} (hd : decode M.2.1 pc = .ok (.iaload, 1)) (hx : x = nI j) (hj : j < O.2.2.2.2.1) (hb : O.2.2.2.2.1 < 2147483648) (kk : xWP L O M R K (pc + 1) ls (.int (O.2.2.2.2.2 j) :: st) G cs ns) : xWP L O M R K pc ls (.int x :: .ref xBig :: st) G cs ns := by
  intro p e s m args below meth c H locs lsM hC hR hS hl
  have h9 := kk p e s m args below meth c H locs lsM hC hR hS hl
  obtain ⟨hx9, hb9, -, -, -, -, -, -, -, -, -, hE, hbs⟩ := id hC
  have e0 : xtr O (.ref xBig) = .ref (O.2.2.2.1 0) := by simp [xtr]
  show W p L e R s m args below meth c H locs cs ns _ (F0 m pc lsM (.int x :: xtr O (.ref xBig) :: st.map (xtr O)))
  rw [e0]
  have hcl : x.toNatClampNeg = j := by rw [hx, nI_clamp (by omega)]
  refine va_sld hx9 hb9 hE.2.2.1 (Nat.lt_of_lt_of_le hE.2.2.2.1 hbs) (Nat.not_le.mpr hE.2.2.2.1) hS (by rw [hx]; exact vp_in_nI hj (by omega)) hd ?_
  rw [hcl]
  exact h9
theorem xw_slen {n : Int32} (hd : decode M.2.1 pc = .ok (.arraylength, 1)) (hn : n = nI O.2.2.2.2.1) (kk : xWP L O M R K (pc + 1) ls (.int n :: st) G cs ns) : xWP L O M R K pc ls (.ref xBig :: st) G cs ns := by
  intro p e s m args below meth c H locs lsM hC hR hS hl
  have h9 := kk p e s m args below meth c H locs lsM hC hR hS hl
  obtain ⟨hx9, hb9, -, -, -, -, -, -, -, -, -, hE, hbs⟩ := id hC
  have e0 : xtr O (.ref xBig) = .ref (O.2.2.2.1 0) := by simp [xtr]
  show W p L e R s m args below meth c H locs cs ns _ (F0 m pc lsM (xtr O (.ref xBig) :: st.map (xtr O)))
  rw [e0]
  refine va_slen hx9 hb9 hE.2.2.1 (Nat.lt_of_lt_of_le hE.2.2.2.1 hbs) (Nat.not_le.mpr hE.2.2.2.1) hS hd ?_
  rw [hn] at h9
  exact h9
end XARR

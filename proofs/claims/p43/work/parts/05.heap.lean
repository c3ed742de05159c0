section XH
variable {L : Launch} {O : xWd} {M : xMd} {R : Room} {K : xOc → List xOb → Prop} {pc : Nat} {ls : List (Nat × Value)} {st : List Value} {G : List xOb} {cs ns : Nat}
theorem xcl_find {c : Nat} {q : vw_C} {U : State} (h : xKn O U) (hc : xcl[c]? = some q) : u_Kn U q.1 q.2.1 q.2.2 (O.1.1 c) (O.1.2 c) := h.1.1 c q hc
theorem xgetD {vs : List Value} {k : Nat} {v : Value} (h : vs[k]? = some v) : vs.getD k .null = v := by
  rw [List.getD_eq_getElem?_getD, h]; rfl
theorem xlen {vs : List Value} {k : Nat} {v : Value} (h : vs[k]? = some v) : k < vs.length := (List.getElem?_eq_some_iff.mp h).1
/-- a field is read -/
theorem xw_getf {i ci k idx N : Nat} {fs : List Value} {C : String} {T : u_T} {v : Value} (hi : i < xBig) (hd : decode M.2.1 pc = .ok (.getfield idx, 3)) (hg : G[i]? = some (ci, fs)) (hci : ci < 64) (hc : xcl[ci]? = some (C, T, N)) (hin : ∀ w ∈ u_ws C T N, w ∈ xTG) (hk : k < N)
    (hw : Cond.fieldLink M.1.cls idx (T k).1 (T k).2.1 (T k).2.2.1 ∈ xTG ∨ ∃ host, Cond.fieldLinkNest M.1.cls idx (T k).1 (T k).2.1 (T k).2.2.1 host ∈ xTN) (hv : fs[k]? = some v) (kk : xWP L O M R K (pc + 3) ls (v :: st) G cs ns) : xWP L O M R K pc ls (.ref i :: st) G cs ns := by
  intro p e s m args below meth c H locs lsM hC hR hS hl
  obtain ⟨hx, hb, -, -, hown, hts, -, -, -, -, hK, hE, -⟩ := id hC
  obtain ⟨r, h1, -, cell, q1, q2, q3, q4⟩ := xobj hR hg hci
  cases h1.symm.trans hc
  obtain ⟨hSl, hfc, kC, hkC, hkind⟩ := xcl_find hK hc
  obtain ⟨cf, kf, fi, f, hif, hsl⟩ := hSl k hk
  have h9 := kk p e s m args below meth c H locs lsM hC hR hS hl
  have e1 : cell.slots[f.slot]? = some (xtr O v) := by
    rw [hsl, q4 k hk]
    show some (xtr O (fs.getD k .null)) = _
    rw [xgetD hv]
  show W p L e R s m args below meth c H locs cs ns _ (F0 m pc lsM (xtr O (.ref i) :: st.map (xtr O)))
  rw [xtr_id hi]
  rcases hw with hw | ⟨host, hw⟩
  · exact W.getf hx hb hown (hts _ hw) hif (u_facts hfc hkC (u_lays hts hin hk) hif).1 q1 (by rw [q3]; exact fun h => by cases h) e1 rfl rfl hd h9
  · exact va_Wgetf hx hb hown (va_Nw.use rfl (hE.2.2.2.2.1 _ hw)) hif (u_facts hfc hkC (u_lays hts hin hk) hif).1 q1 (by rw [q3]; exact fun h => by cases h) e1 rfl rfl hd h9
theorem xset_getD {vs : List Value} {k : Nat} {v : Value} (hk : k < vs.length) (j : Nat) : (vs.set k v).getD j .null = if j = k then v else vs.getD j .null := by
  by_cases h : j = k
  · subst h
    rw [if_pos rfl, List.getD_eq_getElem?_getD, List.getElem?_set_self hk]; rfl
  · rw [if_neg h, List.getD_eq_getElem?_getD, List.getElem?_set_ne (Ne.symm h), ← List.getD_eq_getElem?_getD]
/-- a field is written: a final one in its class's constructor -/
theorem xw_putf {i ci k idx N : Nat} {fs : List Value} {C : String} {T : u_T} {v : Value} (ty0 : Nat → FieldType) {ty : FieldType} (hi : i < xBig) (hd : decode M.2.1 pc = .ok (.putfield idx, 3)) (hg : G[i]? = some (ci, fs)) (hci : ci < 64) (hc : xcl[ci]? = some (C, T, N)) (hin : ∀ w ∈ u_ws C T N, w ∈ xTG) (hk : k < N)
    (hty : ∀ k, k < N → parseFieldDescriptor (T k).2.2.1 = some (ty0 k)) (hnm : ∀ a, a < N → ∀ b, b < N → a ≠ b → (T a).2.1 ≠ (T b).2.1) (hf : (T k).2.2.2 = false ∨ ((T k).2.2.2 = true ∧ M.1.name = "<init>" ∧ (T k).1 = M.1.cls))
    (hw : Cond.fieldLink M.1.cls idx (T k).1 (T k).2.1 (T k).2.2.1 ∈ xTG ∨ ((T k).2.2.2 = false ∧ ∃ host, Cond.fieldLinkNest M.1.cls idx (T k).1 (T k).2.1 (T k).2.2.1 host ∈ xTN)) (he : ty0 k = ty) (hn : narrow ty (xtr O v) = xtr O v) (hfit : fits ty (xtr O v) = true)
    (kk : xWP L O M R K (pc + 3) ls st (G.set i (ci, fs.set k v)) cs ns) : xWP L O M R K pc ls (v :: .ref i :: st) G cs ns := by
  intro p e s m args below meth c H locs lsM hC hR hS hl
  obtain ⟨hx, hb, -, -, hown, hts, -, hmn, -, -, hK, hE, -⟩ := id hC
  obtain ⟨r, h1, hlen, cell, q1, q2, q3, q4⟩ := xobj hR hg hci
  cases h1.symm.trans hc
  have hlen : fs.length = N := hlen
  have hap : ∀ x y, x < N → y < N → x ≠ y → (O.1.2 ci) x ≠ (O.1.2 ci) y := va_apart (own := C) (C := C) (T := T) hts hin ty0 hty hnm hK.1 hc
  obtain ⟨hSl, hfc, kC, hkC, hkind⟩ := xcl_find hK hc
  obtain ⟨cf, kf, fi, f, hif, hsl⟩ := hSl k hk
  have hst := (u_facts hfc hkC (u_lays hts hin hk) hif).1
  have hd9 : parseFieldDescriptor (T k).2.2.1 = some ty := by rw [hty k hk, he]
  have fin : ∀ H' : Heap, H'[O.2.2.1 + i]? = some (cell.setSlot f.slot (xtr O v)) → H'.size = H.size → (∀ q, q ≠ O.2.2.1 + i → H'[q]? = H[q]?) → W p L e R s m args below meth c H' (locs ++ [⟨O.2.2.1 + i, f.slot⟩]) cs ns (vx_MQ below (xQc O K) (xXC O K) args s R.cells R.slots (xA O)) (F0 m (pc + 3) lsM (st.map (xtr O))) := by
    intro H' e1 e2 e3
    refine kk p e s m args below meth c H' _ lsM hC (hR.set hg e2 ?_ e3) (hS.put e2 e3 (by show O.2.2.1 ≤ _; omega)) hl
    unfold xobAt
    rw [if_pos hci]
    refine ⟨_, hc, by rw [List.length_set]; exact hlen, ?_⟩
    rw [hsl] at e1
    refine t_OB.to (V := updV (fun k => xtr O (fs.getD k .null)) k (xtr O v)) ⟨_, e1, q2, q3, t_set q4 hap hk (xtr O v)⟩ (fun j _ => ?_)
    show (if j = k then xtr O v else xtr O (fs.getD j .null)) = xtr O ((fs.set k v).getD j .null)
    rw [xset_getD (by omega)]
    split <;> rfl
  show W p L e R s m args below meth c H locs cs ns _ (F0 m pc lsM (xtr O v :: xtr O (.ref i) :: st.map (xtr O)))
  rw [xtr_id hi]
  have hlt : f.slot < cell.slots.size := by rw [hsl]; exact k2_hasslot (q4 k hk)
  have hlay := hts _ (hin _ (u_in_lay hk))
  unfold u_lay at hlay
  rcases hf with hf | ⟨hf, hin2, hdecl⟩
  · rw [if_neg (by rw [hf]; decide)] at hlay
    have h6 := u_store hfc hkC hkind hlay hif hd9 hn hfit
    rcases hw with hw | ⟨-, host, hw⟩
    · exact W.putK hx hb (f := f) ⟨hown, hts _ hw, ⟨_, _, _, hif⟩, hst⟩ (by rw [q2]; exact h6) q1 q3 hlt rfl rfl hd fin
    · exact va_WputK hx hb (f := f) hown (va_Nw.use rfl (hE.2.2.2.2.1 _ hw)) hif hst (by rw [q2]; exact h6) q1 q3 hlt rfl rfl hd fin
  · rw [if_pos hf] at hlay
    have hcf : m.cls = cf := by
      obtain ⟨_, _, c', _, _, _, -, -, hf', -, -, -, hown2, -⟩ := Cond.laysFinal_spec hlay
      have e1 : c' = cf := by have := hif.symm.trans hf'; simp at this; exact this.1.symm
      rw [hdecl] at hown2
      rw [← e1]; exact Option.some.inj (hown.symm.trans hown2)
    have h6 := u_fits hfc hkC hkind (Or.inr hlay) hif hd9 hn hfit
    rcases hw with hw | ⟨hf2, -⟩
    · exact W.putFinK hx hb hown (hts _ hw) hif hst hcf (by rw [hmn]; exact hin2) (by rw [q2]; exact h6) q1 q3 hlt rfl rfl hd fin
    · rw [hf] at hf2; cases hf2
/-- a new object -/
theorem xw_new {ci idx N : Nat} {fs : List Value} {C : String} {T : u_T} (ty0 : Nat → FieldType) (hd : decode M.2.1 pc = .ok (.new idx, 3)) (hci : ci < 64) (hc : xcl[ci]? = some (C, T, N)) (hin : ∀ w ∈ u_ws C T N, w ∈ xTG) (hty : ∀ k, k < N → parseFieldDescriptor (T k).2.2.1 = some (ty0 k))
    (w1 : Cond.classLink M.1.cls idx C ∈ xTG) (w2 : Cond.instantiable C N ∈ xTG) (w3 : Cond.initialized C ∈ xTG) (hlen : fs.length = N) (hfs : ∀ j, j < N → defaultValue (ty0 j) = xtr O (fs.getD j .null)) (hG : G.length + 1 < xBig) (hcs : cs + 1 ≤ R.cells) (hns : ns + N ≤ R.slots)
    (kk : xWP L O M R K (pc + 3) ls (.ref G.length :: st) (G ++ [(ci, fs)]) (cs + 1) (ns + N)) : xWP L O M R K pc ls st G cs ns := by
  intro p e s m args below meth c H locs lsM hC hR hS hl
  obtain ⟨hx, hb, -, -, hown, hts, -, -, -, -, hK, hE, -⟩ := id hC
  have hKn := xcl_find hK hc
  refine W.newcK hx hb hown (hts _ w1) (hts _ w2) (hts _ w3) rfl hd hcs hns hKn.2.1 rfl fun H1 kC hkC e1 z1 o1 => ?_
  have h9 := kk p e s m args below meth c H1 locs lsM hC (hR.push z1 hG (by
    unfold xobAt
    rw [if_pos hci]
    refine ⟨_, hc, hlen, ?_⟩
    rw [← hR.1]
    exact (u_born ty0 hts hin hKn hkC e1 hty).to hfs) o1) ⟨Nat.le_trans hS.1 (by omega), fun x h1 h2 => (o1 x (Nat.lt_of_lt_of_le h1 hS.1)).trans (hS.2.1 x h1 h2), hS.2.2⟩ hl
  have e2 : xtr O (.ref G.length) = .ref H.size := by rw [xtr_id (by omega), hR.1]
  rw [List.map_cons, e2] at h9
  exact h9
/-- a new array of numbers -/
theorem xw_newa {t : Nat} {atype : ArrayType} {n : Int32} {N : Nat} {d : Value} (hd : decode M.2.1 pc = .ok (.newarray atype, 2)) (ht : t < 63) (hat : xaT[t]? = some (newarray.typeOf atype)) (w1 : Cond.arrayClass (newarray.typeOf atype) ∈ xTG) (hn : n = nI N) (hN : N ≤ 65536) (hv : defaultValue (newarray.typeOf atype) = xtr O d) (hcb : componentBytes (newarray.typeOf atype) ≤ 8) (hG : G.length + 1 < xBig) (hcs : cs + 1 ≤ R.cells) (hns : ns + N ≤ R.slots)
    (kk : xWP L O M R K (pc + 2) ls (.ref G.length :: st) (G ++ [(64 + t, List.replicate N d)]) (cs + 1) (ns + N)) : xWP L O M R K pc ls (.int n :: st) G cs ns := by
  intro p e s m args below meth c H locs lsM hC hR hS hl
  obtain ⟨hx, hb, -, -, hown, hts, -, -, -, -, hK, hE, -⟩ := id hC
  subst hn
  have hcl : (nI N).toNatClampNeg = N := nI_clamp (by omega)
  refine va_newaK hx hb (hts _ w1) rfl hd rfl (nI_pos (by omega)) hcl (by
    have h1 := Nat.mul_le_mul hN hcb
    omega) hcs hns rfl fun H1 cA e1 z1 o1 hAr hNm => ?_
  have hcA : cA = O.2.1 t := by
    have h2 := (hK.2 t _ hat).2
    have h3 : s.vm.findClass ("[" ++ (newarray.typeOf atype).toString) = some (O.2.1 t) := by
      cases atype <;> exact h2
    exact Option.some.inj (hNm.symm.trans h3)
  subst hcA
  have h9 := kk p e s m args below meth c H1 locs lsM hC (hR.push z1 hG (by
    unfold xobAt
    rw [if_neg (by show ¬ 64 + t < 64; omega), if_pos (by show 64 + t < 127; omega)]
    show H1[O.2.2.1 + G.length]? = some (arrV (O.2.1 (64 + t - 64)) (List.replicate N d).length _)
    rw [← hR.1, e1, show 64 + t - 64 = t by omega, List.length_replicate]
    refine congrArg some ?_
    unfold arrV
    congr 1
    refine congrArg _ (funext fun j => ?_)
    rw [hv]
    show xtr O d = xtr O ((List.replicate N d).getD j.val .null)
    rw [List.getD_eq_getElem?_getD, List.getElem?_replicate, if_pos j.isLt]; rfl) o1) ⟨Nat.le_trans hS.1 (by omega), fun x h1 h2 => (o1 x (Nat.lt_of_lt_of_le h1 hS.1)).trans (hS.2.1 x h1 h2), hS.2.2⟩ hl
  have e2 : xtr O (.ref G.length) = .ref H.size := by rw [xtr_id (by omega), hR.1]
  rw [List.map_cons, e2] at h9
  exact h9
end XH

section XN
variable {Lh : Launch} {O : xWd} {M M' : xMd} {R : Room} {K : xOc → List xOb → Prop} {pc : Nat} {ls : List (Nat × Value)} {st : List Value} {G : List xOb} {cs ns : Nat}
theorem xn_at {g k : Nat} {o : xOb} {L : List xOb} (hg : G.length = g) (hl : L[k]? = some o) : (G ++ L)[g + k]? = some o := by
  subst hg
  rw [List.getElem?_append_right (by omega), show G.length + k - G.length = k by omega]
  exact hl
theorem xn_set {g k : Nat} {o : xOb} {L : List xOb} (hg : G.length = g) : (G ++ L).set (g + k) o = G ++ L.set k o := by
  subst hg
  rw [List.set_append_right _ _ (by omega), show G.length + k - G.length = k by omega]
theorem xn_newa {t g r : Nat} {atype : ArrayType} {z : Int} {N : Nat} {L L2 : List xOb} (hg : G.length = g) (hd : decode M.2.1 pc = .ok (.newarray atype, 2)) (ht : t < 63) (hat : xaT[t]? = some (newarray.typeOf atype)) (w1 : Cond.arrayClass (newarray.typeOf atype) ∈ xTG) (hz : z = (N : Int)) (hN : N ≤ 65536) (hv : defaultValue (newarray.typeOf atype) = .int 0) (hcb : componentBytes (newarray.typeOf atype) ≤ 8)
    (hr : g + L.length = r) (h2 : L ++ [(64 + t, List.replicate N (Value.int (iI 0)))] = L2) (hB : r + 1 < xBig) (hcs : cs + 1 ≤ R.cells) (hns : ns + N ≤ R.slots)
    (kk : xWP Lh O M R K (pc + 2) ls (.ref r :: st) (G ++ L2) (cs + 1) (ns + N)) : xWP Lh O M R K pc ls (.int (iI z) :: st) (G ++ L) cs ns := by
  subst hz; subst hg; subst hr; subst h2
  refine xw_newa (d := .int (iI 0)) (N := N) hd ht hat w1 (iI_n N) hN (by rw [hv]; rfl) hcb (by rw [List.length_append]; exact hB) hcs hns ?_
  rw [List.length_append, List.append_assoc]
  exact kk
theorem xn_new {ci idx N g r : Nat} {fs : List Value} {C : String} {T : u_T} {L L2 : List xOb} (hg : G.length = g) (ty0 : Nat → FieldType) (hd : decode M.2.1 pc = .ok (.new idx, 3)) (hci : ci < 64) (hc : xcl[ci]? = some (C, T, N)) (hin : ∀ w ∈ u_ws C T N, w ∈ xTG) (hty : ∀ k, k < N → parseFieldDescriptor (T k).2.2.1 = some (ty0 k))
    (w1 : Cond.classLink M.1.cls idx C ∈ xTG) (w2 : Cond.instantiable C N ∈ xTG) (w3 : Cond.initialized C ∈ xTG) (hlen : fs.length = N) (hfs : ∀ j, j < N → defaultValue (ty0 j) = xtr O (fs.getD j .null)) (hr : g + L.length = r) (h2 : L ++ [(ci, fs)] = L2) (hB : r + 1 < xBig) (hcs : cs + 1 ≤ R.cells) (hns : ns + N ≤ R.slots)
    (kk : xWP Lh O M R K (pc + 3) ls (.ref r :: st) (G ++ L2) (cs + 1) (ns + N)) : xWP Lh O M R K pc ls st (G ++ L) cs ns := by
  subst hg; subst hr; subst h2
  refine xw_new ty0 hd hci hc hin hty w1 w2 w3 hlen hfs (by rw [List.length_append]; exact hB) hcs hns ?_
  rw [List.length_append, List.append_assoc]
  exact kk
theorem xn_put {g i ci kf idx : Nat} (k : Nat) {fs : List Value} {v : Value} {ty : FieldType} {L L2 : List xOb} (hg : G.length = g) (hF : xFp M idx ci kf ty) (hd : decode M.2.1 pc = .ok (.putfield idx, 3)) (hi : g + k = i) (hB : i < xBig) (hl : L[k]? = some (ci, fs)) (hn : narrow ty (xtr O v) = xtr O v) (hfit : fits ty (xtr O v) = true) (h2 : L.set k (ci, fs.set kf v) = L2)
    (kk : xWP Lh O M R K (pc + 3) ls st (G ++ L2) cs ns) : xWP Lh O M R K pc ls (v :: .ref i :: st) (G ++ L) cs ns := by
  subst hi; subst h2
  obtain ⟨h1, C, T, N, ty0, a2, a3, a4, a5, a6, a7, a8, a9⟩ := hF
  refine xw_putf ty0 hB hd (xn_at hg hl) h1 a2 a3 a4 a5 a6 a7 a8 a9 hn hfit ?_
  rw [xn_set hg]
  exact kk
theorem xn_get {g i ci kf idx : Nat} (k : Nat) {fs : List Value} {v : Value} {L : List xOb} (hg : G.length = g) (hF : xFo M idx ci kf) (hd : decode M.2.1 pc = .ok (.getfield idx, 3)) (hi : g + k = i) (hB : i < xBig) (hl : L[k]? = some (ci, fs)) (hv : fs[kf]? = some v)
    (kk : xWP Lh O M R K (pc + 3) ls (v :: st) (G ++ L) cs ns) : xWP Lh O M R K pc ls (.ref i :: st) (G ++ L) cs ns := by
  subst hi
  obtain ⟨h1, C, T, N, ty0, a2, a3, a4, a5, a6, a7⟩ := hF
  exact xw_getf hB hd (xn_at hg hl) h1 a2 a3 a4 a7 hv kk
theorem xn_call {g r d c s h c0 s0 idx : Nat} {L : List xOb} (L' : List xOb) {L2 Z : List xOb} {o1 : xOb} (hg : G.length = g) (hd : decode M.2.1 pc = .ok (.invokespecial idx, 3)) (hok : xOkI M' 0) (hw : Cond.methodLink M.1.cls idx M'.1 ∈ xTG ∨ ∃ host, Cond.methodLinkNest M.1.cls idx M'.1 host ∈ xTN) (hL : L' ++ [o1] = L) (hr : g + L'.length = r) (hB : r < xBig) (hsum : (st.map (fun v => v.category)).sum ≤ 8) (hh : d < h) (hm : M'.2.2.1 ≤ 41) (hcs : cs + c ≤ c0) (hns : ns + s ≤ s0)
    (hM : ∀ G' : List xOb, G'.length = r → xMet Lh O M' (xR d c s) [.ref r] (G' ++ [o1]) (fun o G1 => o = .inl none ∧ G1 = G' ++ Z)) (h2 : L' ++ Z = L2) (hk : xWP Lh O M (xR h c0 s0) K (pc + 3) ls st (G ++ L2) (cs + c) (ns + s)) : xWP Lh O M (xR h c0 s0) K pc ls (.ref r :: st) (G ++ L) cs ns := by
  subst hL; subst h2; subst hg
  rw [← List.append_assoc]
  refine yc_I (As := []) (G2 := (G ++ L') ++ Z) hd hok hw hB rfl hsum hh hm hcs hns rfl (hM (G ++ L') (by rw [List.length_append]; exact hr)) ?_
  rw [List.append_assoc]
  exact hk
theorem xn_fill {g i v9 n h c0 s0 idx : Nat} (k : Nat) {z : Int} {L L2 : List xOb} (hL9 : Lh.stackTraces = false) (hg : G.length = g) (hd : decode M.2.1 pc = .ok (.invokestatic idx, 3)) (hw : Cond.methodLink M.1.cls idx mJ7_fill_53178.1 ∈ xTG) (hi : g + k = i) (hl : L[k]? = some (64, List.replicate n (Value.int (iI v9)))) (hn : n < 100000) (h2 : L.set k (64, List.replicate n (Value.int (iI z))) = L2) (hsum : (st.map (fun v => v.category)).sum ≤ 8) (hh : 0 < h) (hcs : cs ≤ c0) (hns : ns ≤ s0)
    (hk : xWP Lh O M (xR h c0 s0) K (pc + 3) ls st (G ++ L2) cs ns) : xWP Lh O M (xR h c0 s0) K pc ls (.int (iI z) :: .ref i :: st) (G ++ L) cs ns := by
  subst hi; subst h2
  have h1 := s_J7_fill (O := O) hL9 (G := G ++ L) (v := z) (xn_at hg hl) (by rw [List.length_replicate]; exact hn)
  rw [List.length_replicate, xn_set hg] at h1
  exact yc_S (M' := mJ7_fill_53178) (d := 0) (c := 0) (s := 0) (As := [.ref (g + k), .int (iI z)]) (v0 := none) hd okJ7_fill_53178 (Or.inl hw) rfl hsum hh (by decide) hcs hns rfl rfl h1 hk
theorem xn_anew {g r idx : Nat} {z : Int} {N : Nat} {L L2 : List xOb} (hg : G.length = g) (hd : decode M.2.1 pc = .ok (.anewarray idx, 3)) (w1 : Cond.classLink M.1.cls idx "SubtitleHarbour$Cue" ∈ xTG) (hz : z = (N : Int)) (hN : N ≤ 65536) (hr : g + L.length = r) (h2 : L ++ [(67, List.replicate N .null)] = L2) (hB : r + 1 < xBig) (hcs : cs + 1 ≤ R.cells) (hns : ns + N ≤ R.slots)
    (kk : xWP Lh O M R K (pc + 3) ls (.ref r :: st) (G ++ L2) (cs + 1) (ns + N)) : xWP Lh O M R K pc ls (.int (iI z) :: st) (G ++ L) cs ns := by
  subst hz; subst hg; subst hr; subst h2
  refine xw_anew (t := 3) (C := "SubtitleHarbour$Cue") hd (by decide) rfl w1 (fun U H h => h.1) (iI_n N) hN (by rw [List.length_append]; exact hB) hcs hns ?_
  rw [List.length_append, List.append_assoc]
  exact kk
theorem xn_aast {g i v k kv j : Nat} {z : Int} {vs fs : List Value} {L L2 : List xOb} (hg : G.length = g) (hd : decode M.2.1 pc = .ok (.aastore, 1)) (hi : g + k = i) (hBi : i < xBig) (hl : L[k]? = some (67, vs)) (hv : g + kv = v) (hBv : v < xBig) (ho : L[kv]? = some (3, fs)) (hz : z = (j : Int)) (hj : j < vs.length) (hb : vs.length < 2147483648) (h2 : L.set k (67, vs.set j (.ref v)) = L2)
    (kk : xWP Lh O M R K (pc + 1) ls st (G ++ L2) cs ns) : xWP Lh O M R K pc ls (.ref v :: .int (iI z) :: .ref i :: st) (G ++ L) cs ns := by
  subst hz; subst hi; subst hv; subst h2
  refine xw_aast 3 (C := RX3) (T := TX3) (N := 10) (ci := 3) hBi hBv hd (by decide) rfl (xn_at hg hl) (xn_at hg ho) (by decide) rfl (iI_n j) hj hb ?_
  rw [xn_set hg]
  exact kk
def zTab (r n m : Nat) : List xOb := (68, (List.range n).map (fun j => Value.ref (r + 1 + j))) :: List.replicate n (64, List.replicate m (Value.int (iI 0)))
theorem xn_mna {g r idx : Nat} {zn zm : Int} {N M9 : Nat} {L L2 : List xOb} (hg : G.length = g) (hd : decode M.2.1 pc = .ok (.multianewarray idx 2, 4)) (w1 : Cond.classLink M.1.cls idx "[[I" ∈ xTG) (w2 : Cond.arrayClass .int ∈ xTG) (hN : N ≤ 10000) (hM : M9 ≤ 10000) (hzn : zn = (N : Int)) (hzm : zm = (M9 : Int)) (hr : g + L.length = r) (h2 : L ++ zTab r N M9 = L2) (hB : r + (1 + N) < xBig) (hcs : cs + (1 + N) ≤ R.cells) (hns : ns + (N + N * M9) ≤ R.slots)
    (kk : xWP Lh O M R K (pc + 4) ls (.ref r :: st) (G ++ L2) (cs + 1 + N) (ns + N + N * M9)) : xWP Lh O M R K pc ls (.int (iI zm) :: .int (iI zn) :: st) (G ++ L) cs ns := by
  subst hzn; subst hzm; subst hg; subst hr; subst h2
  refine xw_mna hd w1 w2 hN hM (by rw [List.length_append]; exact hB) hcs hns ?_
  rw [List.length_append, List.append_assoc]
  exact kk
theorem xn_b {r : Nat} (h : r < 2000000) : r < xBig := Nat.lt_trans h (by decide)
end XN
def zA (n : Nat) : xOb := (64, List.replicate n (Value.int (iI 0)))
def zF (n : Nat) (v : Int) : xOb := (64, List.replicate n (Value.int (iI v)))
section Y34
variable {Lh : Launch} {O : xWd} {G : List xOb} {K : xOc → List xOb → Prop}
def zMem (g : Nat) : List xOb := [(7, [.ref (g + 1), .ref (g + 2)]), zF 160 (-1), zF 160 (-1)]
theorem c_X7 (hL : Lh.stackTraces = false) {g : Nat} (hg : G.length = g) (hB : g < 1900000) : xMet Lh O mX7_init (xR 1 2 320) [.ref g] (G ++ [(7, [.null, .null])]) (fun o G1 => o = .inl none ∧ G1 = G ++ zMem g) := xMet_of (by decide) hL (Nat.le_of_ble_eq_true rfl) (by
  refine xw_eq rfl (l2 := [(0, .ref g)]) rfl rfl rfl ?_
  refine xw_aload_n 0 dX7_init_0 rfl ?_
  refine xw_objInit dX7_init_1 (xn_b (by omega)) w_108 w_65 w_66 (by decide) (Nat.le_of_ble_eq_true rfl) (Nat.le_of_ble_eq_true rfl) ?_
  refine xw_aload_n 0 dX7_init_4 rfl ?_
  refine xz_sipush dX7_init_5 (by decide) ?_
  refine xn_newa (t := 0) (r := (g + 1)) (N := 160) (L2 := [(7, [.null, .null]), zA 160]) hg dX7_init_8 (by decide) rfl w_94 rfl (by decide) rfl (by decide) rfl rfl (xn_b (by omega)) (Nat.le_of_ble_eq_true rfl) (Nat.le_of_ble_eq_true rfl) ?_
  refine xn_put 0 (L2 := [(7, [.ref (g + 1), .null]), zA 160]) hg (fp_X7_9 rfl rfl) dX7_init_10 rfl (xn_b (by omega)) rfl rfl rfl rfl ?_
  refine xw_aload_n 0 dX7_init_13 rfl ?_
  refine xz_sipush dX7_init_14 (by decide) ?_
  refine xn_newa (t := 0) (r := (g + 2)) (N := 160) (L2 := [(7, [.ref (g + 1), .null]), zA 160, zA 160]) hg dX7_init_17 (by decide) rfl w_94 rfl (by decide) rfl (by decide) rfl rfl (xn_b (by omega)) (Nat.le_of_ble_eq_true rfl) (Nat.le_of_ble_eq_true rfl) ?_
  refine xn_put 0 (L2 := [(7, [.ref (g + 1), .ref (g + 2)]), zA 160, zA 160]) hg (fp_X7_15 rfl rfl) dX7_init_19 rfl (xn_b (by omega)) rfl rfl rfl rfl ?_
  refine xw_aload_n 0 dX7_init_22 rfl ?_
  refine xn_get 0 (v := .ref (g + 1)) hg (fo_X7_9 rfl) dX7_init_23 rfl (xn_b (by omega)) rfl rfl ?_
  refine xz_iconst dX7_init_26 ?_
  refine xn_fill 1 (n := 160) (v9 := 0) (L2 := [(7, [.ref (g + 1), .ref (g + 2)]), zF 160 (-1), zA 160]) hL hg dX7_init_27 w_109 rfl rfl (by decide) rfl (by decide) (by decide) (Nat.le_of_ble_eq_true rfl) (Nat.le_of_ble_eq_true rfl) ?_
  refine xw_aload_n 0 dX7_init_30 rfl ?_
  refine xn_get 0 (v := .ref (g + 2)) hg (fo_X7_15 rfl) dX7_init_31 rfl (xn_b (by omega)) rfl rfl ?_
  refine xz_iconst dX7_init_34 ?_
  refine xn_fill 2 (n := 160) (v9 := 0) (L2 := [(7, [.ref (g + 1), .ref (g + 2)]), zF 160 (-1), zF 160 (-1)]) hL hg dX7_init_35 w_109 rfl rfl (by decide) rfl (by decide) (by decide) (Nat.le_of_ble_eq_true rfl) (Nat.le_of_ble_eq_true rfl) ?_
  exact xw_vret dX7_init_38 rfl (Nat.le_of_ble_eq_true rfl) (Nat.le_of_ble_eq_true rfl) ⟨rfl, rfl⟩)
def zCod (g : Nat) : List xOb := [(2, [.ref (g + 1), .ref (g + 2), .ref (g + 3), .ref (g + 4), .int (iI 0)]), zA 200, (66, List.replicate 200 (Value.int (iI 0))), zA 200, (65, List.replicate 200 (Value.int (iI 0)))]
theorem c_X2 (hL : Lh.stackTraces = false) {g : Nat} (hg : G.length = g) (hB : g < 1900000) : xMet Lh O mX2_init (xR 0 4 800) [.ref g] (G ++ [(2, [.null, .null, .null, .null, .int (iI 0)])]) (fun o G1 => o = .inl none ∧ G1 = G ++ zCod g) := xMet_of (by decide) hL (Nat.le_of_ble_eq_true rfl) (by
  refine xw_eq rfl (l2 := [(0, .ref g)]) rfl rfl rfl ?_
  refine xw_aload_n 0 dX2_init_0 rfl ?_
  refine xw_objInit dX2_init_1 (xn_b (by omega)) w_72 w_65 w_66 (by decide) (Nat.le_of_ble_eq_true rfl) (Nat.le_of_ble_eq_true rfl) ?_
  refine xw_aload_n 0 dX2_init_4 rfl ?_
  refine xz_sipush dX2_init_5 (by decide) ?_
  refine xn_newa (t := 0) (r := (g + 1)) (N := 200) (L2 := [(2, [.null, .null, .null, .null, .int (iI 0)]), zA 200]) hg dX2_init_8 (by decide) rfl w_94 rfl (by decide) rfl (by decide) rfl rfl (xn_b (by omega)) (Nat.le_of_ble_eq_true rfl) (Nat.le_of_ble_eq_true rfl) ?_
  refine xn_put 0 (L2 := [(2, [.ref (g + 1), .null, .null, .null, .int (iI 0)]), zA 200]) hg (fp_X2_9 rfl rfl) dX2_init_10 rfl (xn_b (by omega)) rfl rfl rfl rfl ?_
  refine xw_aload_n 0 dX2_init_13 rfl ?_
  refine xz_sipush dX2_init_14 (by decide) ?_
  refine xn_newa (t := 2) (r := (g + 2)) (N := 200) (L2 := [(2, [.ref (g + 1), .null, .null, .null, .int (iI 0)]), zA 200, (66, List.replicate 200 (Value.int (iI 0)))]) hg dX2_init_17 (by decide) rfl w_95 rfl (by decide) rfl (by decide) rfl rfl (xn_b (by omega)) (Nat.le_of_ble_eq_true rfl) (Nat.le_of_ble_eq_true rfl) ?_
  refine xn_put 0 (L2 := [(2, [.ref (g + 1), .ref (g + 2), .null, .null, .int (iI 0)]), zA 200, (66, List.replicate 200 (Value.int (iI 0)))]) hg (fp_X2_15 rfl rfl) dX2_init_19 rfl (xn_b (by omega)) rfl rfl rfl rfl ?_
  refine xw_aload_n 0 dX2_init_22 rfl ?_
  refine xz_sipush dX2_init_23 (by decide) ?_
  refine xn_newa (t := 0) (r := (g + 3)) (N := 200) (L2 := [(2, [.ref (g + 1), .ref (g + 2), .null, .null, .int (iI 0)]), zA 200, (66, List.replicate 200 (Value.int (iI 0))), zA 200]) hg dX2_init_26 (by decide) rfl w_94 rfl (by decide) rfl (by decide) rfl rfl (xn_b (by omega)) (Nat.le_of_ble_eq_true rfl) (Nat.le_of_ble_eq_true rfl) ?_
  refine xn_put 0 (L2 := [(2, [.ref (g + 1), .ref (g + 2), .ref (g + 3), .null, .int (iI 0)]), zA 200, (66, List.replicate 200 (Value.int (iI 0))), zA 200]) hg (fp_X2_19 rfl rfl) dX2_init_28 rfl (xn_b (by omega)) rfl rfl rfl rfl ?_
  refine xw_aload_n 0 dX2_init_31 rfl ?_
  refine xz_sipush dX2_init_32 (by decide) ?_
  refine xn_newa (t := 1) (r := (g + 4)) (N := 200) (L2 := [(2, [.ref (g + 1), .ref (g + 2), .ref (g + 3), .null, .int (iI 0)]), zA 200, (66, List.replicate 200 (Value.int (iI 0))), zA 200, (65, List.replicate 200 (Value.int (iI 0)))]) hg dX2_init_35 (by decide) rfl w_96 rfl (by decide) rfl (by decide) rfl rfl (xn_b (by omega)) (Nat.le_of_ble_eq_true rfl) (Nat.le_of_ble_eq_true rfl) ?_
  refine xn_put 0 (L2 := [(2, [.ref (g + 1), .ref (g + 2), .ref (g + 3), .ref (g + 4), .int (iI 0)]), zA 200, (66, List.replicate 200 (Value.int (iI 0))), zA 200, (65, List.replicate 200 (Value.int (iI 0)))]) hg (fp_X2_22 rfl rfl) dX2_init_37 rfl (xn_b (by omega)) rfl rfl rfl rfl ?_
  exact xw_vret dX2_init_40 rfl (Nat.le_of_ble_eq_true rfl) (Nat.le_of_ble_eq_true rfl) ⟨rfl, rfl⟩)
def zScr (g : Nat) : List xOb := ([(9, [.ref (g + 1), .ref (g + 4), .int (iI 111), .int (iI 7), .int (iI 0), .int (iI 2), .int (iI 0), .int (iI 0)])] ++ (zMem (g + 1) ++ (zMem (g + 4))))
theorem c_X9 (hL : Lh.stackTraces = false) {g : Nat} (hg : G.length = g) (hB : g < 1000000) : xMet Lh O mX9_init (xR 2 6 644) [.ref g] (G ++ [(9, [.null, .null, .int (iI 0), .int (iI 0), .int (iI 0), .int (iI 0), .int (iI 0), .int (iI 0)])]) (fun o G1 => o = .inl none ∧ G1 = G ++ zScr g) := xMet_of (by decide) hL (Nat.le_of_ble_eq_true rfl) (by
  refine xw_eq rfl (l2 := [(0, .ref g)]) rfl rfl rfl ?_
  refine xw_aload_n 0 dX9_init_0 rfl ?_
  refine xw_objInit dX9_init_1 (xn_b (by omega)) w_102 w_65 w_66 (by decide) (Nat.le_of_ble_eq_true rfl) (Nat.le_of_ble_eq_true rfl) ?_
  refine xw_aload_n 0 dX9_init_4 rfl ?_
  refine xn_new (ci := 7) (fs := [.null, .null]) (r := (g + 1)) (L2 := [(9, [.null, .null, .int (iI 0), .int (iI 0), .int (iI 0), .int (iI 0), .int (iI 0), .int (iI 0)]), (7, [.null, .null])]) hg tyX7 dX9_init_5 (by decide) rfl inX7 tyX7_ok w_103 w_104 w_37 rfl (fun j hj => by rcases (show j = 0 ∨ j = 1 by omega) with rfl | rfl <;> rfl) rfl rfl (xn_b (by omega)) (Nat.le_of_ble_eq_true rfl) (Nat.le_of_ble_eq_true rfl) ?_
  refine xw_dup dX9_init_8 rfl ?_
  refine xn_call (M' := mX7_init) (d := 1) (c := 2) (s := 320) [(9, [.null, .null, .int (iI 0), .int (iI 0), .int (iI 0), .int (iI 0), .int (iI 0), .int (iI 0)])] (L2 := ([(9, [.null, .null, .int (iI 0), .int (iI 0), .int (iI 0), .int (iI 0), .int (iI 0), .int (iI 0)])] ++ (zMem (g + 1)))) (Z := zMem (g + 1)) (o1 := (7, [.null, .null])) hg dX9_init_9 okX7_init (Or.inl w_105) rfl rfl (xn_b (by omega)) (Nat.le_of_ble_eq_true rfl) (by decide) (by decide) (Nat.le_of_ble_eq_true rfl) (Nat.le_of_ble_eq_true rfl) (fun G' h' => c_X7 hL h' (by omega)) rfl ?_
  refine xn_put 0 (L2 := ([(9, [.ref (g + 1), .null, .int (iI 0), .int (iI 0), .int (iI 0), .int (iI 0), .int (iI 0), .int (iI 0)])] ++ (zMem (g + 1)))) hg (fp_X9_12 rfl) dX9_init_12 rfl (xn_b (by omega)) rfl rfl rfl rfl ?_
  refine xw_aload_n 0 dX9_init_15 rfl ?_
  refine xn_new (ci := 7) (fs := [.null, .null]) (r := (g + 4)) (L2 := ([(9, [.ref (g + 1), .null, .int (iI 0), .int (iI 0), .int (iI 0), .int (iI 0), .int (iI 0), .int (iI 0)])] ++ (zMem (g + 1) ++ ([(7, [.null, .null])])))) hg tyX7 dX9_init_16 (by decide) rfl inX7 tyX7_ok w_103 w_104 w_37 rfl (fun j hj => by rcases (show j = 0 ∨ j = 1 by omega) with rfl | rfl <;> rfl) rfl rfl (xn_b (by omega)) (Nat.le_of_ble_eq_true rfl) (Nat.le_of_ble_eq_true rfl) ?_
  refine xw_dup dX9_init_19 rfl ?_
  refine xn_call (M' := mX7_init) (d := 1) (c := 2) (s := 320) ([(9, [.ref (g + 1), .null, .int (iI 0), .int (iI 0), .int (iI 0), .int (iI 0), .int (iI 0), .int (iI 0)])] ++ (zMem (g + 1))) (L2 := ([(9, [.ref (g + 1), .null, .int (iI 0), .int (iI 0), .int (iI 0), .int (iI 0), .int (iI 0), .int (iI 0)])] ++ (zMem (g + 1) ++ (zMem (g + 4))))) (Z := zMem (g + 4)) (o1 := (7, [.null, .null])) hg dX9_init_20 okX7_init (Or.inl w_105) rfl rfl (xn_b (by omega)) (Nat.le_of_ble_eq_true rfl) (by decide) (by decide) (Nat.le_of_ble_eq_true rfl) (Nat.le_of_ble_eq_true rfl) (fun G' h' => c_X7 hL h' (by omega)) rfl ?_
  refine xn_put 0 (L2 := ([(9, [.ref (g + 1), .ref (g + 4), .int (iI 0), .int (iI 0), .int (iI 0), .int (iI 0), .int (iI 0), .int (iI 0)])] ++ (zMem (g + 1) ++ (zMem (g + 4))))) hg (fp_X9_18 rfl) dX9_init_23 rfl (xn_b (by omega)) rfl rfl rfl rfl ?_
  refine xw_aload_n 0 dX9_init_26 rfl ?_
  refine xz_bipush dX9_init_27 (by decide) ?_
  refine xn_put 0 (L2 := ([(9, [.ref (g + 1), .ref (g + 4), .int (iI 111), .int (iI 0), .int (iI 0), .int (iI 0), .int (iI 0), .int (iI 0)])] ++ (zMem (g + 1) ++ (zMem (g + 4))))) hg (fp_X9_21 rfl) dX9_init_29 rfl (xn_b (by omega)) rfl rfl rfl rfl ?_
  refine xw_aload_n 0 dX9_init_32 rfl ?_
  refine xz_bipush dX9_init_33 (by decide) ?_
  refine xn_put 0 (L2 := ([(9, [.ref (g + 1), .ref (g + 4), .int (iI 111), .int (iI 7), .int (iI 0), .int (iI 0), .int (iI 0), .int (iI 0)])] ++ (zMem (g + 1) ++ (zMem (g + 4))))) hg (fp_X9_25 rfl) dX9_init_35 rfl (xn_b (by omega)) rfl rfl rfl rfl ?_
  refine xw_aload_n 0 dX9_init_38 rfl ?_
  refine xz_iconst dX9_init_39 ?_
  refine xn_put 0 (L2 := ([(9, [.ref (g + 1), .ref (g + 4), .int (iI 111), .int (iI 7), .int (iI 0), .int (iI 2), .int (iI 0), .int (iI 0)])] ++ (zMem (g + 1) ++ (zMem (g + 4))))) hg (fp_X9_29 rfl) dX9_init_40 rfl (xn_b (by omega)) rfl rfl rfl rfl ?_
  exact xw_vret dX9_init_43 rfl (Nat.le_of_ble_eq_true rfl) (Nat.le_of_ble_eq_true rfl) ⟨rfl, rfl⟩)
def zCue (g : Nat) : List xOb := [(3, [.int (iI 0), .int (iI 0), .int (iI 0), .int (iI 0), .ref (g + 1), .ref (g + 2), .int (iI 0), .ref (g + 3), .int (iI 0), .int (iI (-1))]), zA 12, zA 12, zA 12]
theorem c_X3 (hL : Lh.stackTraces = false) {g : Nat} (hg : G.length = g) (hB : g < 1900000) : xMet Lh O mX3_init (xR 0 3 36) [.ref g] (G ++ [(3, [.int (iI 0), .int (iI 0), .int (iI 0), .int (iI 0), .null, .null, .int (iI 0), .null, .int (iI 0), .int (iI 0)])]) (fun o G1 => o = .inl none ∧ G1 = G ++ zCue g) := xMet_of (by decide) hL (Nat.le_of_ble_eq_true rfl) (by
  refine xw_eq rfl (l2 := [(0, .ref g)]) rfl rfl rfl ?_
  refine xw_aload_n 0 dX3_init_0 rfl ?_
  refine xw_objInit dX3_init_1 (xn_b (by omega)) w_176 w_65 w_66 (by decide) (Nat.le_of_ble_eq_true rfl) (Nat.le_of_ble_eq_true rfl) ?_
  refine xw_aload_n 0 dX3_init_4 rfl ?_
  refine xz_bipush dX3_init_5 (by decide) ?_
  refine xn_newa (t := 0) (r := (g + 1)) (N := 12) (L2 := [(3, [.int (iI 0), .int (iI 0), .int (iI 0), .int (iI 0), .null, .null, .int (iI 0), .null, .int (iI 0), .int (iI 0)]), zA 12]) hg dX3_init_7 (by decide) rfl w_94 rfl (by decide) rfl (by decide) rfl rfl (xn_b (by omega)) (Nat.le_of_ble_eq_true rfl) (Nat.le_of_ble_eq_true rfl) ?_
  refine xn_put 0 (L2 := [(3, [.int (iI 0), .int (iI 0), .int (iI 0), .int (iI 0), .ref (g + 1), .null, .int (iI 0), .null, .int (iI 0), .int (iI 0)]), zA 12]) hg (fp_X3_9 rfl rfl) dX3_init_9 rfl (xn_b (by omega)) rfl rfl rfl rfl ?_
  refine xw_aload_n 0 dX3_init_12 rfl ?_
  refine xz_bipush dX3_init_13 (by decide) ?_
  refine xn_newa (t := 0) (r := (g + 2)) (N := 12) (L2 := [(3, [.int (iI 0), .int (iI 0), .int (iI 0), .int (iI 0), .ref (g + 1), .null, .int (iI 0), .null, .int (iI 0), .int (iI 0)]), zA 12, zA 12]) hg dX3_init_15 (by decide) rfl w_94 rfl (by decide) rfl (by decide) rfl rfl (xn_b (by omega)) (Nat.le_of_ble_eq_true rfl) (Nat.le_of_ble_eq_true rfl) ?_
  refine xn_put 0 (L2 := [(3, [.int (iI 0), .int (iI 0), .int (iI 0), .int (iI 0), .ref (g + 1), .ref (g + 2), .int (iI 0), .null, .int (iI 0), .int (iI 0)]), zA 12, zA 12]) hg (fp_X3_15 rfl rfl) dX3_init_17 rfl (xn_b (by omega)) rfl rfl rfl rfl ?_
  refine xw_aload_n 0 dX3_init_20 rfl ?_
  refine xz_bipush dX3_init_21 (by decide) ?_
  refine xn_newa (t := 0) (r := (g + 3)) (N := 12) (L2 := [(3, [.int (iI 0), .int (iI 0), .int (iI 0), .int (iI 0), .ref (g + 1), .ref (g + 2), .int (iI 0), .null, .int (iI 0), .int (iI 0)]), zA 12, zA 12, zA 12]) hg dX3_init_23 (by decide) rfl w_94 rfl (by decide) rfl (by decide) rfl rfl (xn_b (by omega)) (Nat.le_of_ble_eq_true rfl) (Nat.le_of_ble_eq_true rfl) ?_
  refine xn_put 0 (L2 := [(3, [.int (iI 0), .int (iI 0), .int (iI 0), .int (iI 0), .ref (g + 1), .ref (g + 2), .int (iI 0), .ref (g + 3), .int (iI 0), .int (iI 0)]), zA 12, zA 12, zA 12]) hg (fp_X3_18 rfl rfl) dX3_init_25 rfl (xn_b (by omega)) rfl rfl rfl rfl ?_
  refine xw_aload_n 0 dX3_init_28 rfl ?_
  refine xz_iconst dX3_init_29 ?_
  refine xn_put 0 (L2 := [(3, [.int (iI 0), .int (iI 0), .int (iI 0), .int (iI 0), .ref (g + 1), .ref (g + 2), .int (iI 0), .ref (g + 3), .int (iI 0), .int (iI (-1))]), zA 12, zA 12, zA 12]) hg (fp_X3_21 rfl) dX3_init_30 rfl (xn_b (by omega)) rfl rfl rfl rfl ?_
  exact xw_vret dX3_init_33 rfl (Nat.le_of_ble_eq_true rfl) (Nat.le_of_ble_eq_true rfl) ⟨rfl, rfl⟩)
def zBrk (g : Nat) : List xOb := [(6, [.ref (g + 1), .ref (g + 2), .ref (g + 3)]), zA 13, zA 13, zA 13]
theorem c_X6 (hL : Lh.stackTraces = false) {g : Nat} (hg : G.length = g) (hB : g < 1900000) : xMet Lh O mX6_init (xR 0 3 39) [.ref g] (G ++ [(6, [.null, .null, .null])]) (fun o G1 => o = .inl none ∧ G1 = G ++ zBrk g) := xMet_of (by decide) hL (Nat.le_of_ble_eq_true rfl) (by
  refine xw_eq rfl (l2 := [(0, .ref g)]) rfl rfl rfl ?_
  refine xw_aload_n 0 dX6_init_0 rfl ?_
  refine xw_objInit dX6_init_1 (xn_b (by omega)) w_161 w_65 w_66 (by decide) (Nat.le_of_ble_eq_true rfl) (Nat.le_of_ble_eq_true rfl) ?_
  refine xw_aload_n 0 dX6_init_4 rfl ?_
  refine xz_bipush dX6_init_5 (by decide) ?_
  refine xn_newa (t := 0) (r := (g + 1)) (N := 13) (L2 := [(6, [.null, .null, .null]), zA 13]) hg dX6_init_7 (by decide) rfl w_94 rfl (by decide) rfl (by decide) rfl rfl (xn_b (by omega)) (Nat.le_of_ble_eq_true rfl) (Nat.le_of_ble_eq_true rfl) ?_
  refine xn_put 0 (L2 := [(6, [.ref (g + 1), .null, .null]), zA 13]) hg (fp_X6_9 rfl rfl) dX6_init_9 rfl (xn_b (by omega)) rfl rfl rfl rfl ?_
  refine xw_aload_n 0 dX6_init_12 rfl ?_
  refine xz_bipush dX6_init_13 (by decide) ?_
  refine xn_newa (t := 0) (r := (g + 2)) (N := 13) (L2 := [(6, [.ref (g + 1), .null, .null]), zA 13, zA 13]) hg dX6_init_15 (by decide) rfl w_94 rfl (by decide) rfl (by decide) rfl rfl (xn_b (by omega)) (Nat.le_of_ble_eq_true rfl) (Nat.le_of_ble_eq_true rfl) ?_
  refine xn_put 0 (L2 := [(6, [.ref (g + 1), .ref (g + 2), .null]), zA 13, zA 13]) hg (fp_X6_15 rfl rfl) dX6_init_17 rfl (xn_b (by omega)) rfl rfl rfl rfl ?_
  refine xw_aload_n 0 dX6_init_20 rfl ?_
  refine xz_bipush dX6_init_21 (by decide) ?_
  refine xn_newa (t := 0) (r := (g + 3)) (N := 13) (L2 := [(6, [.ref (g + 1), .ref (g + 2), .null]), zA 13, zA 13, zA 13]) hg dX6_init_23 (by decide) rfl w_94 rfl (by decide) rfl (by decide) rfl rfl (xn_b (by omega)) (Nat.le_of_ble_eq_true rfl) (Nat.le_of_ble_eq_true rfl) ?_
  refine xn_put 0 (L2 := [(6, [.ref (g + 1), .ref (g + 2), .ref (g + 3)]), zA 13, zA 13, zA 13]) hg (fp_X6_18 rfl rfl) dX6_init_25 rfl (xn_b (by omega)) rfl rfl rfl rfl ?_
  exact xw_vret dX6_init_28 rfl (Nat.le_of_ble_eq_true rfl) (Nat.le_of_ble_eq_true rfl) ⟨rfl, rfl⟩)
def zCut (g : Nat) : List xOb := [(4, [.ref (g + 1), .int (iI 0)]), zA 20]
theorem c_X4 (hL : Lh.stackTraces = false) {g : Nat} (hg : G.length = g) (hB : g < 1900000) : xMet Lh O mX4_init (xR 0 1 20) [.ref g] (G ++ [(4, [.null, .int (iI 0)])]) (fun o G1 => o = .inl none ∧ G1 = G ++ zCut g) := xMet_of (by decide) hL (Nat.le_of_ble_eq_true rfl) (by
  refine xw_eq rfl (l2 := [(0, .ref g)]) rfl rfl rfl ?_
  refine xw_aload_n 0 dX4_init_0 rfl ?_
  refine xw_objInit dX4_init_1 (xn_b (by omega)) w_273 w_65 w_66 (by decide) (Nat.le_of_ble_eq_true rfl) (Nat.le_of_ble_eq_true rfl) ?_
  refine xw_aload_n 0 dX4_init_4 rfl ?_
  refine xz_bipush dX4_init_5 (by decide) ?_
  refine xn_newa (t := 0) (r := (g + 1)) (N := 20) (L2 := [(4, [.null, .int (iI 0)]), zA 20]) hg dX4_init_7 (by decide) rfl w_94 rfl (by decide) rfl (by decide) rfl rfl (xn_b (by omega)) (Nat.le_of_ble_eq_true rfl) (Nat.le_of_ble_eq_true rfl) ?_
  refine xn_put 0 (L2 := [(4, [.ref (g + 1), .int (iI 0)]), zA 20]) hg (fp_X4_9 rfl rfl) dX4_init_9 rfl (xn_b (by omega)) rfl rfl rfl rfl ?_
  exact xw_vret dX4_init_12 rfl (Nat.le_of_ble_eq_true rfl) (Nat.le_of_ble_eq_true rfl) ⟨rfl, rfl⟩)
def zAnc (g : Nat) : List xOb := [(1, [.ref (g + 1), .ref (g + 2), .int (iI 0)]), zA 8, zA 8]
theorem c_X1 (hL : Lh.stackTraces = false) {g : Nat} (hg : G.length = g) (hB : g < 1900000) : xMet Lh O mX1_init (xR 0 2 16) [.ref g] (G ++ [(1, [.null, .null, .int (iI 0)])]) (fun o G1 => o = .inl none ∧ G1 = G ++ zAnc g) := xMet_of (by decide) hL (Nat.le_of_ble_eq_true rfl) (by
  refine xw_eq rfl (l2 := [(0, .ref g)]) rfl rfl rfl ?_
  refine xw_aload_n 0 dX1_init_0 rfl ?_
  refine xw_objInit dX1_init_1 (xn_b (by omega)) w_288 w_65 w_66 (by decide) (Nat.le_of_ble_eq_true rfl) (Nat.le_of_ble_eq_true rfl) ?_
  refine xw_aload_n 0 dX1_init_4 rfl ?_
  refine xz_bipush dX1_init_5 (by decide) ?_
  refine xn_newa (t := 0) (r := (g + 1)) (N := 8) (L2 := [(1, [.null, .null, .int (iI 0)]), zA 8]) hg dX1_init_7 (by decide) rfl w_94 rfl (by decide) rfl (by decide) rfl rfl (xn_b (by omega)) (Nat.le_of_ble_eq_true rfl) (Nat.le_of_ble_eq_true rfl) ?_
  refine xn_put 0 (L2 := [(1, [.ref (g + 1), .null, .int (iI 0)]), zA 8]) hg (fp_X1_9 rfl rfl) dX1_init_9 rfl (xn_b (by omega)) rfl rfl rfl rfl ?_
  refine xw_aload_n 0 dX1_init_12 rfl ?_
  refine xz_bipush dX1_init_13 (by decide) ?_
  refine xn_newa (t := 0) (r := (g + 2)) (N := 8) (L2 := [(1, [.ref (g + 1), .null, .int (iI 0)]), zA 8, zA 8]) hg dX1_init_15 (by decide) rfl w_94 rfl (by decide) rfl (by decide) rfl rfl (xn_b (by omega)) (Nat.le_of_ble_eq_true rfl) (Nat.le_of_ble_eq_true rfl) ?_
  refine xn_put 0 (L2 := [(1, [.ref (g + 1), .ref (g + 2), .int (iI 0)]), zA 8, zA 8]) hg (fp_X1_15 rfl rfl) dX1_init_17 rfl (xn_b (by omega)) rfl rfl rfl rfl ?_
  exact xw_vret dX1_init_20 rfl (Nat.le_of_ble_eq_true rfl) (Nat.le_of_ble_eq_true rfl) ⟨rfl, rfl⟩)
def zAlg (g : Nat) : List xOb := ([(0, [.ref (g + 1), .ref (g + 26), .ref (g + 52)])] ++ (zTab (g + 1) 24 30 ++ (zTab (g + 26) 25 31 ++ ([zA 24]))))
theorem c_X0 (hL : Lh.stackTraces = false) {g : Nat} (hg : G.length = g) (hB : g < 1900000) : xMet Lh O mX0_init (xR 0 52 1568) [.ref g] (G ++ [(0, [.null, .null, .null])]) (fun o G1 => o = .inl none ∧ G1 = G ++ zAlg g) := xMet_of (by decide) hL (Nat.le_of_ble_eq_true rfl) (by
  refine xw_eq rfl (l2 := [(0, .ref g)]) rfl rfl rfl ?_
  refine xw_aload_n 0 dX0_init_0 rfl ?_
  refine xw_objInit dX0_init_1 (xn_b (by omega)) w_305 w_65 w_66 (by decide) (Nat.le_of_ble_eq_true rfl) (Nat.le_of_ble_eq_true rfl) ?_
  refine xw_aload_n 0 dX0_init_4 rfl ?_
  refine xz_bipush dX0_init_5 (by decide) ?_
  refine xz_bipush dX0_init_7 (by decide) ?_
  refine xn_mna (r := (g + 1)) (N := 24) (M9 := 30) (L2 := ([(0, [.null, .null, .null])] ++ (zTab (g + 1) 24 30))) hg dX0_init_9 w_306 w_94 (by decide) (by decide) rfl rfl rfl (by simp only [List.append_assoc, List.cons_append, List.nil_append] <;> rfl) (xn_b (by omega)) (Nat.le_of_ble_eq_true rfl) (Nat.le_of_ble_eq_true rfl) ?_
  refine xn_put 0 (L2 := ([(0, [.ref (g + 1), .null, .null])] ++ (zTab (g + 1) 24 30))) hg (fp_X0_11 rfl rfl) dX0_init_13 rfl (xn_b (by omega)) rfl rfl rfl rfl ?_
  refine xw_aload_n 0 dX0_init_16 rfl ?_
  refine xz_bipush dX0_init_17 (by decide) ?_
  refine xz_bipush dX0_init_19 (by decide) ?_
  refine xn_mna (r := (g + 26)) (N := 25) (M9 := 31) (L2 := ([(0, [.ref (g + 1), .null, .null])] ++ (zTab (g + 1) 24 30 ++ (zTab (g + 26) 25 31)))) hg dX0_init_21 w_306 w_94 (by decide) (by decide) rfl rfl rfl (by simp only [List.append_assoc, List.cons_append, List.nil_append] <;> rfl) (xn_b (by omega)) (Nat.le_of_ble_eq_true rfl) (Nat.le_of_ble_eq_true rfl) ?_
  refine xn_put 0 (L2 := ([(0, [.ref (g + 1), .ref (g + 26), .null])] ++ (zTab (g + 1) 24 30 ++ (zTab (g + 26) 25 31)))) hg (fp_X0_16 rfl rfl) dX0_init_25 rfl (xn_b (by omega)) rfl rfl rfl rfl ?_
  refine xw_aload_n 0 dX0_init_28 rfl ?_
  refine xz_bipush dX0_init_29 (by decide) ?_
  refine xn_newa (t := 0) (r := (g + 52)) (N := 24) (L2 := ([(0, [.ref (g + 1), .ref (g + 26), .null])] ++ (zTab (g + 1) 24 30 ++ (zTab (g + 26) 25 31 ++ ([zA 24]))))) hg dX0_init_31 (by decide) rfl w_94 rfl (by decide) rfl (by decide) rfl (by simp only [List.append_assoc, List.cons_append, List.nil_append] <;> rfl) (xn_b (by omega)) (Nat.le_of_ble_eq_true rfl) (Nat.le_of_ble_eq_true rfl) ?_
  refine xn_put 0 (L2 := ([(0, [.ref (g + 1), .ref (g + 26), .ref (g + 52)])] ++ (zTab (g + 1) 24 30 ++ (zTab (g + 26) 25 31 ++ ([zA 24]))))) hg (fp_X0_19 rfl rfl) dX0_init_33 rfl (xn_b (by omega)) rfl rfl rfl rfl ?_
  exact xw_vret dX0_init_36 rfl (Nat.le_of_ble_eq_true rfl) (Nat.le_of_ble_eq_true rfl) ⟨rfl, rfl⟩)
def zHea (g : Nat) : List xOb := [(5, [.ref (g + 1), .ref (g + 2), .int (iI 0), .ref (g + 3), .int (iI 0)]), zA 30, zA 30, zA 30]
theorem c_X5 (hL : Lh.stackTraces = false) {g : Nat} (hg : G.length = g) (hB : g < 1900000) : xMet Lh O mX5_init (xR 0 3 90) [.ref g] (G ++ [(5, [.null, .null, .int (iI 0), .null, .int (iI 0)])]) (fun o G1 => o = .inl none ∧ G1 = G ++ zHea g) := xMet_of (by decide) hL (Nat.le_of_ble_eq_true rfl) (by
  refine xw_eq rfl (l2 := [(0, .ref g)]) rfl rfl rfl ?_
  refine xw_aload_n 0 dX5_init_0 rfl ?_
  refine xw_objInit dX5_init_1 (xn_b (by omega)) w_323 w_65 w_66 (by decide) (Nat.le_of_ble_eq_true rfl) (Nat.le_of_ble_eq_true rfl) ?_
  refine xw_aload_n 0 dX5_init_4 rfl ?_
  refine xz_bipush dX5_init_5 (by decide) ?_
  refine xn_newa (t := 0) (r := (g + 1)) (N := 30) (L2 := [(5, [.null, .null, .int (iI 0), .null, .int (iI 0)]), zA 30]) hg dX5_init_7 (by decide) rfl w_94 rfl (by decide) rfl (by decide) rfl rfl (xn_b (by omega)) (Nat.le_of_ble_eq_true rfl) (Nat.le_of_ble_eq_true rfl) ?_
  refine xn_put 0 (L2 := [(5, [.ref (g + 1), .null, .int (iI 0), .null, .int (iI 0)]), zA 30]) hg (fp_X5_9 rfl rfl) dX5_init_9 rfl (xn_b (by omega)) rfl rfl rfl rfl ?_
  refine xw_aload_n 0 dX5_init_12 rfl ?_
  refine xz_bipush dX5_init_13 (by decide) ?_
  refine xn_newa (t := 0) (r := (g + 2)) (N := 30) (L2 := [(5, [.ref (g + 1), .null, .int (iI 0), .null, .int (iI 0)]), zA 30, zA 30]) hg dX5_init_15 (by decide) rfl w_94 rfl (by decide) rfl (by decide) rfl rfl (xn_b (by omega)) (Nat.le_of_ble_eq_true rfl) (Nat.le_of_ble_eq_true rfl) ?_
  refine xn_put 0 (L2 := [(5, [.ref (g + 1), .ref (g + 2), .int (iI 0), .null, .int (iI 0)]), zA 30, zA 30]) hg (fp_X5_15 rfl rfl) dX5_init_17 rfl (xn_b (by omega)) rfl rfl rfl rfl ?_
  refine xw_aload_n 0 dX5_init_20 rfl ?_
  refine xz_bipush dX5_init_21 (by decide) ?_
  refine xn_newa (t := 0) (r := (g + 3)) (N := 30) (L2 := [(5, [.ref (g + 1), .ref (g + 2), .int (iI 0), .null, .int (iI 0)]), zA 30, zA 30, zA 30]) hg dX5_init_23 (by decide) rfl w_94 rfl (by decide) rfl (by decide) rfl rfl (xn_b (by omega)) (Nat.le_of_ble_eq_true rfl) (Nat.le_of_ble_eq_true rfl) ?_
  refine xn_put 0 (L2 := [(5, [.ref (g + 1), .ref (g + 2), .int (iI 0), .ref (g + 3), .int (iI 0)]), zA 30, zA 30, zA 30]) hg (fp_X5_18 rfl rfl) dX5_init_25 rfl (xn_b (by omega)) rfl rfl rfl rfl ?_
  exact xw_vret dX5_init_28 rfl (Nat.le_of_ble_eq_true rfl) (Nat.le_of_ble_eq_true rfl) ⟨rfl, rfl⟩)
def zPai (g : Nat) : List xOb := [(8, [.ref (g + 1), .ref (g + 2), .int (iI 0), .int (iI 0)]), zA 24, zA 24]
theorem c_X8 (hL : Lh.stackTraces = false) {g : Nat} (hg : G.length = g) (hB : g < 1900000) : xMet Lh O mX8_init (xR 0 2 48) [.ref g] (G ++ [(8, [.null, .null, .int (iI 0), .int (iI 0)])]) (fun o G1 => o = .inl none ∧ G1 = G ++ zPai g) := xMet_of (by decide) hL (Nat.le_of_ble_eq_true rfl) (by
  refine xw_eq rfl (l2 := [(0, .ref g)]) rfl rfl rfl ?_
  refine xw_aload_n 0 dX8_init_0 rfl ?_
  refine xw_objInit dX8_init_1 (xn_b (by omega)) w_347 w_65 w_66 (by decide) (Nat.le_of_ble_eq_true rfl) (Nat.le_of_ble_eq_true rfl) ?_
  refine xw_aload_n 0 dX8_init_4 rfl ?_
  refine xz_bipush dX8_init_5 (by decide) ?_
  refine xn_newa (t := 0) (r := (g + 1)) (N := 24) (L2 := [(8, [.null, .null, .int (iI 0), .int (iI 0)]), zA 24]) hg dX8_init_7 (by decide) rfl w_94 rfl (by decide) rfl (by decide) rfl rfl (xn_b (by omega)) (Nat.le_of_ble_eq_true rfl) (Nat.le_of_ble_eq_true rfl) ?_
  refine xn_put 0 (L2 := [(8, [.ref (g + 1), .null, .int (iI 0), .int (iI 0)]), zA 24]) hg (fp_X8_9 rfl rfl) dX8_init_9 rfl (xn_b (by omega)) rfl rfl rfl rfl ?_
  refine xw_aload_n 0 dX8_init_12 rfl ?_
  refine xz_bipush dX8_init_13 (by decide) ?_
  refine xn_newa (t := 0) (r := (g + 2)) (N := 24) (L2 := [(8, [.ref (g + 1), .null, .int (iI 0), .int (iI 0)]), zA 24, zA 24]) hg dX8_init_15 (by decide) rfl w_94 rfl (by decide) rfl (by decide) rfl rfl (xn_b (by omega)) (Nat.le_of_ble_eq_true rfl) (Nat.le_of_ble_eq_true rfl) ?_
  refine xn_put 0 (L2 := [(8, [.ref (g + 1), .ref (g + 2), .int (iI 0), .int (iI 0)]), zA 24, zA 24]) hg (fp_X8_15 rfl rfl) dX8_init_17 rfl (xn_b (by omega)) rfl rfl rfl rfl ?_
  exact xw_vret dX8_init_20 rfl (Nat.le_of_ble_eq_true rfl) (Nat.le_of_ble_eq_true rfl) ⟨rfl, rfl⟩)
def zRf (g j : Nat) : List Value := (List.range 24).map (fun k => if k < j then Value.ref (g + 12 + 4 * k) else .null)
def zCs (g j : Nat) : List xOb := (List.range j).flatMap (fun k => zCue (g + 12 + 4 * k))
theorem zRf_0 (g : Nat) : zRf g 0 = List.replicate 24 .null := by
  unfold zRf
  rw [show (fun k => if k < 0 then Value.ref (g + 12 + 4 * k) else Value.null) = fun _ => Value.null from funext fun k => if_neg (Nat.not_lt_zero k)]
  rfl
theorem zRf_len (g j : Nat) : (zRf g j).length = 24 := by unfold zRf; rw [List.length_map, List.length_range]
theorem zRf_s {g j : Nat} (h : j < 24) : (zRf g j).set j (.ref (g + 12 + 4 * j)) = zRf g (j + 1) := by
  refine List.ext_getElem? fun q => ?_
  by_cases e : q = j
  · subst e
    rw [List.getElem?_set_self (by rw [zRf_len]; exact h)]
    unfold zRf
    rw [List.getElem?_map, List.getElem?_range h]
    show _ = some (if q < q + 1 then _ else _)
    rw [if_pos (Nat.lt_succ_self q)]
  · rw [List.getElem?_set_ne (Ne.symm e)]
    unfold zRf
    rw [List.getElem?_map, List.getElem?_map]
    by_cases c : q < 24
    · rw [List.getElem?_range c]
      show some (if q < j then _ else _) = some (if q < j + 1 then _ else _)
      by_cases c2 : q < j
      · rw [if_pos c2, if_pos (by omega)]
      · rw [if_neg c2, if_neg (by omega)]
    · rw [List.getElem?_eq_none (by rw [List.length_range]; omega)]
      rfl
theorem zCs_s (g j : Nat) : zCs g (j + 1) = zCs g j ++ zCue (g + 12 + 4 * j) := by
  unfold zCs
  rw [List.range_succ, List.flatMap_append]
  simp only [List.flatMap_cons, List.flatMap_nil, List.append_nil]
theorem zCs_len (g : Nat) : ∀ j : Nat, (zCs g j).length = 4 * j
  | 0 => rfl
  | j + 1 => by
    rw [zCs_s, List.length_append, zCs_len g j]
    show 4 * j + 4 = _
    omega
def zSt (g j : Nat) : List xOb := ([(10, [.ref (g + 1), .ref (g + 2), .ref (g + 3), .ref (g + 4), .ref (g + 5), .ref (g + 9), .int (iI 0), .ref (g + 10), .ref (g + 11)]), (67, zRf g j), zA 3, zA 3, zA 3] ++ (zBrk (g + 5) ++ [zA 24, (65, List.replicate 8 (Value.int (iI 0))), zA 8]))
def zSta (g : Nat) : List xOb := ([(10, [.ref (g + 1), .ref (g + 2), .ref (g + 3), .ref (g + 4), .ref (g + 5), .ref (g + 9), .int (iI 0), .ref (g + 10), .ref (g + 11)]), (67, zRf g 24), zA 3, zF 3 8, zF 3 20] ++ (zBrk (g + 5) ++ [zA 24, (65, List.replicate 8 (Value.int (iI 0))), zA 8])) ++ zCs g 24
theorem zSt_s {g j : Nat} (h : j < 24) : ((zSt g j ++ zCs g j) ++ zCue (g + (12 + 4 * j))).set 1 (67, (zRf g j).set j (.ref (g + (12 + 4 * j)))) = zSt g (j + 1) ++ zCs g (j + 1) := by
  rw [show g + (12 + 4 * j) = g + 12 + 4 * j by omega, zRf_s h, zCs_s, List.append_assoc]
  rfl
theorem zSt_len (g j : Nat) : (zSt g j ++ zCs g j).length = 12 + 4 * j := by
  rw [List.length_append, zCs_len]
  rfl
theorem l_zcu (hL : Lh.stackTraces = false) {g : Nat} (hg : G.length = g) (hB : g < 1000000) (kx : xWP Lh O mX10_init (xR 1 107 1219) K 96 [(0, .ref g), (1, .int (iI ((24 : Nat) : Int)))] [] (G ++ (zSt g 24 ++ zCs g 24)) 107 1219) (j : Nat) (hj : j ≤ 24) : xWP Lh O mX10_init (xR 1 107 1219) K 71 [(0, .ref g), (1, .int (iI (j : Int)))] [] (G ++ (zSt g j ++ zCs g j)) (11 + 4 * j) (115 + 46 * j) := by
  refine xw_iload_n 1 dX10_init_71 rfl ?_
  refine xz_bipush dX10_init_72 (by decide) ?_
  refine xz_icmp_ge (tgt := 96) dX10_init_74 (by decide) (by omega) (by omega) (fun c9 => ?_) (fun c9 => ?_)
  · have e : j = 24 := by omega
    subst e
    exact xw_wid (by omega) (by omega) kx
  · have h24 : j < 24 := by omega
    refine xw_aload_n 0 dX10_init_77 rfl ?_
    refine xn_get 0 (v := .ref (g + 1)) hg (fo_X10_11 rfl) dX10_init_78 rfl (xn_b (by omega)) rfl rfl ?_
    refine xw_iload_n 1 dX10_init_81 rfl ?_
    refine xn_new (ci := 3) (fs := [.int (iI 0), .int (iI 0), .int (iI 0), .int (iI 0), .null, .null, .int (iI 0), .null, .int (iI 0), .int (iI 0)]) (r := g + (12 + 4 * j)) hg tyX3 dX10_init_82 (by decide) rfl inX3 tyX3_ok w_154 w_172 w_41 rfl (fun j9 hj9 => by rcases (show j9 = 0 ∨ j9 = 1 ∨ j9 = 2 ∨ j9 = 3 ∨ j9 = 4 ∨ j9 = 5 ∨ j9 = 6 ∨ j9 = 7 ∨ j9 = 8 ∨ j9 = 9 by omega) with rfl | rfl | rfl | rfl | rfl | rfl | rfl | rfl | rfl | rfl <;> rfl) (by rw [zSt_len]) rfl (xn_b (by omega)) (by simp only [xR]; omega) (by simp only [xR]; omega) ?_
    refine xw_dup dX10_init_85 rfl ?_
    refine xn_call (M' := mX3_init) (d := 0) (c := 3) (s := 36) (zSt g j ++ zCs g j) (o1 := (3, [.int (iI 0), .int (iI 0), .int (iI 0), .int (iI 0), .null, .null, .int (iI 0), .null, .int (iI 0), .int (iI 0)])) (Z := zCue (g + (12 + 4 * j))) hg dX10_init_86 okX3_init (Or.inr ⟨_, w_173⟩) rfl (by rw [zSt_len]) (xn_b (by omega)) (Nat.le_of_ble_eq_true rfl) (by decide) (by decide) (by omega) (by omega) (fun G' h' => c_X3 hL h' (by omega)) rfl ?_
    refine xn_aast (k := 1) (kv := 12 + 4 * j) (j := j) hg dX10_init_89 rfl (xn_b (by omega)) rfl rfl (xn_b (by omega)) (by rw [List.getElem?_append_right (by rw [zSt_len]; omega), zSt_len, Nat.sub_self]; rfl) rfl (by rw [zRf_len]; exact h24) (by rw [zRf_len]; decide) (zSt_s h24) ?_
    refine xz_iinc (l2 := [(0, .ref g), (1, .int (iI ((j + 1 : Nat) : Int)))]) 1 dX10_init_90 rfl (by decide) rfl (by rw [Int.natCast_succ]; rfl) ?_
    refine xw_goto (tgt := 71) dX10_init_93 (by decide) ?_
    exact xw_wid (by omega) (by omega) (l_zcu hL hg hB kx (j + 1) (by omega))
termination_by 24 - j
theorem c_X10 (hL : Lh.stackTraces = false) {g : Nat} (hg : G.length = g) (hB : g < 1000000) : xMet Lh O mX10_init (xR 1 107 1219) [.ref g] (G ++ [(10, [.null, .null, .null, .null, .null, .null, .int (iI 0), .null, .null])]) (fun o G1 => o = .inl none ∧ G1 = G ++ zSta g) := xMet_of (by decide) hL (Nat.le_of_ble_eq_true rfl) (by
  refine xw_eq rfl (l2 := [(0, .ref g)]) rfl rfl rfl ?_
  refine xw_aload_n 0 dX10_init_0 rfl ?_
  refine xw_objInit dX10_init_1 (xn_b (by omega)) w_153 w_65 w_66 (by decide) (Nat.le_of_ble_eq_true rfl) (Nat.le_of_ble_eq_true rfl) ?_
  refine xw_aload_n 0 dX10_init_4 rfl ?_
  refine xz_bipush dX10_init_5 (by decide) ?_
  refine xn_anew (r := (g + 1)) (N := 24) (L2 := [(10, [.null, .null, .null, .null, .null, .null, .int (iI 0), .null, .null]), (67, List.replicate 24 .null)]) hg dX10_init_7 w_154 rfl (by decide) rfl rfl (xn_b (by omega)) (Nat.le_of_ble_eq_true rfl) (Nat.le_of_ble_eq_true rfl) ?_
  refine xn_put 0 (L2 := [(10, [.ref (g + 1), .null, .null, .null, .null, .null, .int (iI 0), .null, .null]), (67, List.replicate 24 .null)]) hg (fp_X10_11 rfl rfl) dX10_init_10 rfl (xn_b (by omega)) rfl rfl rfl rfl ?_
  refine xw_aload_n 0 dX10_init_13 rfl ?_
  refine xz_iconst dX10_init_14 ?_
  refine xn_newa (t := 0) (r := (g + 2)) (N := 3) (L2 := [(10, [.ref (g + 1), .null, .null, .null, .null, .null, .int (iI 0), .null, .null]), (67, List.replicate 24 .null), zA 3]) hg dX10_init_15 (by decide) rfl w_94 rfl (by decide) rfl (by decide) rfl rfl (xn_b (by omega)) (Nat.le_of_ble_eq_true rfl) (Nat.le_of_ble_eq_true rfl) ?_
  refine xn_put 0 (L2 := [(10, [.ref (g + 1), .ref (g + 2), .null, .null, .null, .null, .int (iI 0), .null, .null]), (67, List.replicate 24 .null), zA 3]) hg (fp_X10_17 rfl rfl) dX10_init_17 rfl (xn_b (by omega)) rfl rfl rfl rfl ?_
  refine xw_aload_n 0 dX10_init_20 rfl ?_
  refine xz_iconst dX10_init_21 ?_
  refine xn_newa (t := 0) (r := (g + 3)) (N := 3) (L2 := [(10, [.ref (g + 1), .ref (g + 2), .null, .null, .null, .null, .int (iI 0), .null, .null]), (67, List.replicate 24 .null), zA 3, zA 3]) hg dX10_init_22 (by decide) rfl w_94 rfl (by decide) rfl (by decide) rfl rfl (xn_b (by omega)) (Nat.le_of_ble_eq_true rfl) (Nat.le_of_ble_eq_true rfl) ?_
  refine xn_put 0 (L2 := [(10, [.ref (g + 1), .ref (g + 2), .ref (g + 3), .null, .null, .null, .int (iI 0), .null, .null]), (67, List.replicate 24 .null), zA 3, zA 3]) hg (fp_X10_21 rfl rfl) dX10_init_24 rfl (xn_b (by omega)) rfl rfl rfl rfl ?_
  refine xw_aload_n 0 dX10_init_27 rfl ?_
  refine xz_iconst dX10_init_28 ?_
  refine xn_newa (t := 0) (r := (g + 4)) (N := 3) (L2 := [(10, [.ref (g + 1), .ref (g + 2), .ref (g + 3), .null, .null, .null, .int (iI 0), .null, .null]), (67, List.replicate 24 .null), zA 3, zA 3, zA 3]) hg dX10_init_29 (by decide) rfl w_94 rfl (by decide) rfl (by decide) rfl rfl (xn_b (by omega)) (Nat.le_of_ble_eq_true rfl) (Nat.le_of_ble_eq_true rfl) ?_
  refine xn_put 0 (L2 := [(10, [.ref (g + 1), .ref (g + 2), .ref (g + 3), .ref (g + 4), .null, .null, .int (iI 0), .null, .null]), (67, List.replicate 24 .null), zA 3, zA 3, zA 3]) hg (fp_X10_24 rfl rfl) dX10_init_31 rfl (xn_b (by omega)) rfl rfl rfl rfl ?_
  refine xw_aload_n 0 dX10_init_34 rfl ?_
  refine xn_new (ci := 6) (fs := [.null, .null, .null]) (r := (g + 5)) (L2 := [(10, [.ref (g + 1), .ref (g + 2), .ref (g + 3), .ref (g + 4), .null, .null, .int (iI 0), .null, .null]), (67, List.replicate 24 .null), zA 3, zA 3, zA 3, (6, [.null, .null, .null])]) hg tyX6 dX10_init_35 (by decide) rfl inX6 tyX6_ok w_156 w_157 w_40 rfl (fun j hj => by rcases (show j = 0 ∨ j = 1 ∨ j = 2 by omega) with rfl | rfl | rfl <;> rfl) rfl rfl (xn_b (by omega)) (Nat.le_of_ble_eq_true rfl) (Nat.le_of_ble_eq_true rfl) ?_
  refine xw_dup dX10_init_38 rfl ?_
  refine xn_call (M' := mX6_init) (d := 0) (c := 3) (s := 39) [(10, [.ref (g + 1), .ref (g + 2), .ref (g + 3), .ref (g + 4), .null, .null, .int (iI 0), .null, .null]), (67, List.replicate 24 .null), zA 3, zA 3, zA 3] (L2 := ([(10, [.ref (g + 1), .ref (g + 2), .ref (g + 3), .ref (g + 4), .null, .null, .int (iI 0), .null, .null]), (67, List.replicate 24 .null), zA 3, zA 3, zA 3] ++ (zBrk (g + 5)))) (Z := zBrk (g + 5)) (o1 := (6, [.null, .null, .null])) hg dX10_init_39 okX6_init (Or.inr ⟨_, w_158⟩) rfl rfl (xn_b (by omega)) (Nat.le_of_ble_eq_true rfl) (by decide) (by decide) (Nat.le_of_ble_eq_true rfl) (Nat.le_of_ble_eq_true rfl) (fun G' h' => c_X6 hL h' (by omega)) rfl ?_
  refine xn_put 0 (L2 := ([(10, [.ref (g + 1), .ref (g + 2), .ref (g + 3), .ref (g + 4), .ref (g + 5), .null, .int (iI 0), .null, .null]), (67, List.replicate 24 .null), zA 3, zA 3, zA 3] ++ (zBrk (g + 5)))) hg (fp_X10_30 rfl rfl) dX10_init_42 rfl (xn_b (by omega)) rfl rfl rfl rfl ?_
  refine xw_aload_n 0 dX10_init_45 rfl ?_
  refine xz_bipush dX10_init_46 (by decide) ?_
  refine xn_newa (t := 0) (r := (g + 9)) (N := 24) (L2 := ([(10, [.ref (g + 1), .ref (g + 2), .ref (g + 3), .ref (g + 4), .ref (g + 5), .null, .int (iI 0), .null, .null]), (67, List.replicate 24 .null), zA 3, zA 3, zA 3] ++ (zBrk (g + 5) ++ ([zA 24])))) hg dX10_init_48 (by decide) rfl w_94 rfl (by decide) rfl (by decide) rfl rfl (xn_b (by omega)) (Nat.le_of_ble_eq_true rfl) (Nat.le_of_ble_eq_true rfl) ?_
  refine xn_put 0 (L2 := ([(10, [.ref (g + 1), .ref (g + 2), .ref (g + 3), .ref (g + 4), .ref (g + 5), .ref (g + 9), .int (iI 0), .null, .null]), (67, List.replicate 24 .null), zA 3, zA 3, zA 3] ++ (zBrk (g + 5) ++ ([zA 24])))) hg (fp_X10_34 rfl rfl) dX10_init_50 rfl (xn_b (by omega)) rfl rfl rfl rfl ?_
  refine xw_aload_n 0 dX10_init_53 rfl ?_
  refine xz_bipush dX10_init_54 (by decide) ?_
  refine xn_newa (t := 1) (r := (g + 10)) (N := 8) (L2 := ([(10, [.ref (g + 1), .ref (g + 2), .ref (g + 3), .ref (g + 4), .ref (g + 5), .ref (g + 9), .int (iI 0), .null, .null]), (67, List.replicate 24 .null), zA 3, zA 3, zA 3] ++ (zBrk (g + 5) ++ ([zA 24, (65, List.replicate 8 (Value.int (iI 0)))])))) hg dX10_init_56 (by decide) rfl w_96 rfl (by decide) rfl (by decide) rfl rfl (xn_b (by omega)) (Nat.le_of_ble_eq_true rfl) (Nat.le_of_ble_eq_true rfl) ?_
  refine xn_put 0 (L2 := ([(10, [.ref (g + 1), .ref (g + 2), .ref (g + 3), .ref (g + 4), .ref (g + 5), .ref (g + 9), .int (iI 0), .ref (g + 10), .null]), (67, List.replicate 24 .null), zA 3, zA 3, zA 3] ++ (zBrk (g + 5) ++ ([zA 24, (65, List.replicate 8 (Value.int (iI 0)))])))) hg (fp_X10_37 rfl rfl) dX10_init_58 rfl (xn_b (by omega)) rfl rfl rfl rfl ?_
  refine xw_aload_n 0 dX10_init_61 rfl ?_
  refine xz_bipush dX10_init_62 (by decide) ?_
  refine xn_newa (t := 0) (r := (g + 11)) (N := 8) (L2 := ([(10, [.ref (g + 1), .ref (g + 2), .ref (g + 3), .ref (g + 4), .ref (g + 5), .ref (g + 9), .int (iI 0), .ref (g + 10), .null]), (67, List.replicate 24 .null), zA 3, zA 3, zA 3] ++ (zBrk (g + 5) ++ ([zA 24, (65, List.replicate 8 (Value.int (iI 0))), zA 8])))) hg dX10_init_64 (by decide) rfl w_94 rfl (by decide) rfl (by decide) rfl rfl (xn_b (by omega)) (Nat.le_of_ble_eq_true rfl) (Nat.le_of_ble_eq_true rfl) ?_
  refine xn_put 0 (L2 := ([(10, [.ref (g + 1), .ref (g + 2), .ref (g + 3), .ref (g + 4), .ref (g + 5), .ref (g + 9), .int (iI 0), .ref (g + 10), .ref (g + 11)]), (67, List.replicate 24 .null), zA 3, zA 3, zA 3] ++ (zBrk (g + 5) ++ ([zA 24, (65, List.replicate 8 (Value.int (iI 0))), zA 8])))) hg (fp_X10_41 rfl rfl) dX10_init_66 rfl (xn_b (by omega)) rfl rfl rfl rfl ?_
  refine xz_iconst dX10_init_69 ?_
  refine xw_istore_n (l2 := [(0, .ref g), (1, .int (iI 0))]) dX10_init_70 (by decide) rfl rfl ?_
  refine xw_eq rfl (l2 := [(0, .ref g), (1, .int (iI ((0 : Nat) : Int)))]) rfl rfl (G2 := G ++ (zSt g 0 ++ zCs g 0)) (by unfold zSt; rw [zRf_0]; simp only [zCs, List.range_zero, List.flatMap_nil, List.append_nil]) ?_
  refine xw_wid (c2 := 11 + 4 * 0) (n2 := 115 + 46 * 0) (by omega) (by omega) ?_
  refine l_zcu hL hg hB ?_ 0 (by omega)
  refine xw_eq rfl rfl rfl (G2 := G ++ ([(10, [.ref (g + 1), .ref (g + 2), .ref (g + 3), .ref (g + 4), .ref (g + 5), .ref (g + 9), .int (iI 0), .ref (g + 10), .ref (g + 11)]), (67, zRf g 24), zA 3, zA 3, zA 3] ++ (zBrk (g + 5) ++ ([zA 24, (65, List.replicate 8 (Value.int (iI 0))), zA 8] ++ (zCs g 24))))) (by unfold zSt; simp only [List.append_assoc, List.cons_append, List.nil_append]) ?_
  refine xw_aload_n 0 dX10_init_96 rfl ?_
  refine xn_get 0 (v := .ref (g + 3)) hg (fo_X10_21 rfl) dX10_init_97 rfl (xn_b (by omega)) rfl rfl ?_
  refine xz_bipush dX10_init_100 (by decide) ?_
  refine xn_fill 3 (n := 3) (v9 := 0) (L2 := ([(10, [.ref (g + 1), .ref (g + 2), .ref (g + 3), .ref (g + 4), .ref (g + 5), .ref (g + 9), .int (iI 0), .ref (g + 10), .ref (g + 11)]), (67, zRf g 24), zA 3, zF 3 8, zA 3] ++ (zBrk (g + 5) ++ ([zA 24, (65, List.replicate 8 (Value.int (iI 0))), zA 8] ++ (zCs g 24))))) hL hg dX10_init_102 w_232 rfl rfl (by decide) rfl (by decide) (by decide) (Nat.le_of_ble_eq_true rfl) (Nat.le_of_ble_eq_true rfl) ?_
  refine xw_aload_n 0 dX10_init_105 rfl ?_
  refine xn_get 0 (v := .ref (g + 4)) hg (fo_X10_24 rfl) dX10_init_106 rfl (xn_b (by omega)) rfl rfl ?_
  refine xz_bipush dX10_init_109 (by decide) ?_
  refine xn_fill 4 (n := 3) (v9 := 0) (L2 := ([(10, [.ref (g + 1), .ref (g + 2), .ref (g + 3), .ref (g + 4), .ref (g + 5), .ref (g + 9), .int (iI 0), .ref (g + 10), .ref (g + 11)]), (67, zRf g 24), zA 3, zF 3 8, zF 3 20] ++ (zBrk (g + 5) ++ ([zA 24, (65, List.replicate 8 (Value.int (iI 0))), zA 8] ++ (zCs g 24))))) hL hg dX10_init_111 w_232 rfl rfl (by decide) rfl (by decide) (by decide) (Nat.le_of_ble_eq_true rfl) (Nat.le_of_ble_eq_true rfl) ?_
  exact xw_vret dX10_init_114 rfl (Nat.le_of_ble_eq_true rfl) (Nat.le_of_ble_eq_true rfl) ⟨rfl, by unfold zSta; simp only [List.append_assoc, List.cons_append, List.nil_append]⟩)
def zAll : List xOb := ([(11, [.ref 1, .ref 6, .ref 13, .ref 20, .ref 21, .int (iI 0), .int (iI 0), .ref 128, .ref 130, .ref 133, .ref 186, .ref 190])] ++ (zCod 1 ++ (zScr 6 ++ (zScr 13 ++ (zSta 20 ++ (zCut 128 ++ (zAnc 130 ++ (zAlg 133 ++ (zHea 186 ++ (zPai 190))))))))))
def yS0 : ySg := fun i k => if i = 8 ∨ i = 9 ∨ i = 11 ∨ i = 12 ∨ i = 15 ∨ i = 16 ∨ i = 18 ∨ i = 19 then -1 else if i = 23 then 8 else if i = 24 then 20 else if i = 6 ∨ i = 13 then (if k = 2 then 111 else if k = 3 then 7 else if k = 5 then 2 else 0) else if 32 ≤ i ∧ i < 128 ∧ i % 4 = 0 ∧ k = 9 then -1 else 0
set_option maxRecDepth 100000 in
theorem zAll_eq : zAll = Wd yS0 [] := by decide +kernel
theorem c_X11 (hL : Lh.stackTraces = false) : xMet Lh O mX11_init (xR 3 192 5096) [.ref 0] [(11, [.null, .null, .null, .null, .null, .int (iI 0), .int (iI 0), .null, .null, .null, .null, .null])] (fun o G1 => o = .inl none ∧ G1 = Wd yS0 []) := xMet_of (by decide) hL (Nat.le_of_ble_eq_true rfl) (by
  have hg : ([] : List xOb).length = 0 := rfl
  refine xw_eq rfl (l2 := [(0, .ref 0)]) rfl rfl (G2 := ([] : List xOb) ++ [(11, [.null, .null, .null, .null, .null, .int (iI 0), .int (iI 0), .null, .null, .null, .null, .null])]) rfl ?_
  refine xw_aload_n 0 dX11_init_0 rfl ?_
  refine xw_objInit dX11_init_1 (xn_b (by omega)) w_64 w_65 w_66 (by decide) (Nat.le_of_ble_eq_true rfl) (Nat.le_of_ble_eq_true rfl) ?_
  refine xw_aload_n 0 dX11_init_4 rfl ?_
  refine xn_new (ci := 2) (fs := [.null, .null, .null, .null, .int (iI 0)]) (r := 1) (L2 := [(11, [.null, .null, .null, .null, .null, .int (iI 0), .int (iI 0), .null, .null, .null, .null, .null]), (2, [.null, .null, .null, .null, .int (iI 0)])]) hg tyX2 dX11_init_5 (by decide) rfl inX2 tyX2_ok w_67 w_68 w_35 rfl (fun j hj => by rcases (show j = 0 ∨ j = 1 ∨ j = 2 ∨ j = 3 ∨ j = 4 by omega) with rfl | rfl | rfl | rfl | rfl <;> rfl) rfl rfl (xn_b (by omega)) (Nat.le_of_ble_eq_true rfl) (Nat.le_of_ble_eq_true rfl) ?_
  refine xw_dup dX11_init_8 rfl ?_
  refine xn_call (M' := mX2_init) (d := 0) (c := 4) (s := 800) [(11, [.null, .null, .null, .null, .null, .int (iI 0), .int (iI 0), .null, .null, .null, .null, .null])] (L2 := ([(11, [.null, .null, .null, .null, .null, .int (iI 0), .int (iI 0), .null, .null, .null, .null, .null])] ++ (zCod 1))) (Z := zCod 1) (o1 := (2, [.null, .null, .null, .null, .int (iI 0)])) hg dX11_init_9 okX2_init (Or.inr ⟨_, w_69⟩) rfl rfl (xn_b (by omega)) (Nat.le_of_ble_eq_true rfl) (by decide) (by decide) (Nat.le_of_ble_eq_true rfl) (Nat.le_of_ble_eq_true rfl) (fun G' h' => c_X2 hL h' (by omega)) rfl ?_
  refine xn_put 0 (L2 := ([(11, [.ref 1, .null, .null, .null, .null, .int (iI 0), .int (iI 0), .null, .null, .null, .null, .null])] ++ (zCod 1))) hg (fp_X11_10 rfl rfl) dX11_init_12 rfl (xn_b (by omega)) rfl rfl rfl rfl ?_
  refine xw_aload_n 0 dX11_init_15 rfl ?_
  refine xn_new (ci := 9) (fs := [.null, .null, .int (iI 0), .int (iI 0), .int (iI 0), .int (iI 0), .int (iI 0), .int (iI 0)]) (r := 6) (L2 := ([(11, [.ref 1, .null, .null, .null, .null, .int (iI 0), .int (iI 0), .null, .null, .null, .null, .null])] ++ (zCod 1 ++ ([(9, [.null, .null, .int (iI 0), .int (iI 0), .int (iI 0), .int (iI 0), .int (iI 0), .int (iI 0)])])))) hg tyX9 dX11_init_16 (by decide) rfl inX9 tyX9_ok w_97 w_98 w_36 rfl (fun j hj => by rcases (show j = 0 ∨ j = 1 ∨ j = 2 ∨ j = 3 ∨ j = 4 ∨ j = 5 ∨ j = 6 ∨ j = 7 by omega) with rfl | rfl | rfl | rfl | rfl | rfl | rfl | rfl <;> rfl) rfl rfl (xn_b (by omega)) (Nat.le_of_ble_eq_true rfl) (Nat.le_of_ble_eq_true rfl) ?_
  refine xw_dup dX11_init_19 rfl ?_
  refine xn_call (M' := mX9_init) (d := 2) (c := 6) (s := 644) ([(11, [.ref 1, .null, .null, .null, .null, .int (iI 0), .int (iI 0), .null, .null, .null, .null, .null])] ++ (zCod 1)) (L2 := ([(11, [.ref 1, .null, .null, .null, .null, .int (iI 0), .int (iI 0), .null, .null, .null, .null, .null])] ++ (zCod 1 ++ (zScr 6)))) (Z := zScr 6) (o1 := (9, [.null, .null, .int (iI 0), .int (iI 0), .int (iI 0), .int (iI 0), .int (iI 0), .int (iI 0)])) hg dX11_init_20 okX9_init (Or.inr ⟨_, w_99⟩) rfl rfl (xn_b (by omega)) (Nat.le_of_ble_eq_true rfl) (by decide) (by decide) (Nat.le_of_ble_eq_true rfl) (Nat.le_of_ble_eq_true rfl) (fun G' h' => c_X9 hL h' (by omega)) rfl ?_
  refine xn_put 0 (L2 := ([(11, [.ref 1, .ref 6, .null, .null, .null, .int (iI 0), .int (iI 0), .null, .null, .null, .null, .null])] ++ (zCod 1 ++ (zScr 6)))) hg (fp_X11_19 rfl rfl) dX11_init_23 rfl (xn_b (by omega)) rfl rfl rfl rfl ?_
  refine xw_aload_n 0 dX11_init_26 rfl ?_
  refine xn_new (ci := 9) (fs := [.null, .null, .int (iI 0), .int (iI 0), .int (iI 0), .int (iI 0), .int (iI 0), .int (iI 0)]) (r := 13) (L2 := ([(11, [.ref 1, .ref 6, .null, .null, .null, .int (iI 0), .int (iI 0), .null, .null, .null, .null, .null])] ++ (zCod 1 ++ (zScr 6 ++ ([(9, [.null, .null, .int (iI 0), .int (iI 0), .int (iI 0), .int (iI 0), .int (iI 0), .int (iI 0)])]))))) hg tyX9 dX11_init_27 (by decide) rfl inX9 tyX9_ok w_97 w_98 w_36 rfl (fun j hj => by rcases (show j = 0 ∨ j = 1 ∨ j = 2 ∨ j = 3 ∨ j = 4 ∨ j = 5 ∨ j = 6 ∨ j = 7 by omega) with rfl | rfl | rfl | rfl | rfl | rfl | rfl | rfl <;> rfl) rfl rfl (xn_b (by omega)) (Nat.le_of_ble_eq_true rfl) (Nat.le_of_ble_eq_true rfl) ?_
  refine xw_dup dX11_init_30 rfl ?_
  refine xn_call (M' := mX9_init) (d := 2) (c := 6) (s := 644) ([(11, [.ref 1, .ref 6, .null, .null, .null, .int (iI 0), .int (iI 0), .null, .null, .null, .null, .null])] ++ (zCod 1 ++ (zScr 6))) (L2 := ([(11, [.ref 1, .ref 6, .null, .null, .null, .int (iI 0), .int (iI 0), .null, .null, .null, .null, .null])] ++ (zCod 1 ++ (zScr 6 ++ (zScr 13))))) (Z := zScr 13) (o1 := (9, [.null, .null, .int (iI 0), .int (iI 0), .int (iI 0), .int (iI 0), .int (iI 0), .int (iI 0)])) hg dX11_init_31 okX9_init (Or.inr ⟨_, w_99⟩) (by simp only [List.append_assoc, List.cons_append, List.nil_append] <;> rfl) rfl (xn_b (by omega)) (Nat.le_of_ble_eq_true rfl) (by decide) (by decide) (Nat.le_of_ble_eq_true rfl) (Nat.le_of_ble_eq_true rfl) (fun G' h' => c_X9 hL h' (by omega)) (by simp only [List.append_assoc, List.cons_append, List.nil_append] <;> rfl) ?_
  refine xn_put 0 (L2 := ([(11, [.ref 1, .ref 6, .ref 13, .null, .null, .int (iI 0), .int (iI 0), .null, .null, .null, .null, .null])] ++ (zCod 1 ++ (zScr 6 ++ (zScr 13))))) hg (fp_X11_23 rfl rfl) dX11_init_34 rfl (xn_b (by omega)) rfl rfl rfl rfl ?_
  refine xw_aload_n 0 dX11_init_37 rfl ?_
  refine xn_new (ci := 10) (fs := [.null, .null, .null, .null, .null, .null, .int (iI 0), .null, .null]) (r := 20) (L2 := ([(11, [.ref 1, .ref 6, .ref 13, .null, .null, .int (iI 0), .int (iI 0), .null, .null, .null, .null, .null])] ++ (zCod 1 ++ (zScr 6 ++ (zScr 13 ++ ([(10, [.null, .null, .null, .null, .null, .null, .int (iI 0), .null, .null])])))))) hg tyX10 dX11_init_38 (by decide) rfl inX10 tyX10_ok w_148 w_149 w_39 rfl (fun j hj => by rcases (show j = 0 ∨ j = 1 ∨ j = 2 ∨ j = 3 ∨ j = 4 ∨ j = 5 ∨ j = 6 ∨ j = 7 ∨ j = 8 by omega) with rfl | rfl | rfl | rfl | rfl | rfl | rfl | rfl | rfl <;> rfl) rfl (by simp only [List.append_assoc, List.cons_append, List.nil_append] <;> rfl) (xn_b (by omega)) (Nat.le_of_ble_eq_true rfl) (Nat.le_of_ble_eq_true rfl) ?_
  refine xw_dup dX11_init_41 rfl ?_
  refine xn_call (M' := mX10_init) (d := 1) (c := 107) (s := 1219) ([(11, [.ref 1, .ref 6, .ref 13, .null, .null, .int (iI 0), .int (iI 0), .null, .null, .null, .null, .null])] ++ (zCod 1 ++ (zScr 6 ++ (zScr 13)))) (L2 := ([(11, [.ref 1, .ref 6, .ref 13, .null, .null, .int (iI 0), .int (iI 0), .null, .null, .null, .null, .null])] ++ (zCod 1 ++ (zScr 6 ++ (zScr 13 ++ (zSta 20)))))) (Z := zSta 20) (o1 := (10, [.null, .null, .null, .null, .null, .null, .int (iI 0), .null, .null])) hg dX11_init_42 okX10_init (Or.inl w_150) (by simp only [List.append_assoc, List.cons_append, List.nil_append] <;> rfl) (by decide +kernel) (xn_b (by omega)) (Nat.le_of_ble_eq_true rfl) (by decide) (by decide) (Nat.le_of_ble_eq_true rfl) (Nat.le_of_ble_eq_true rfl) (fun G' h' => c_X10 hL h' (by omega)) (by simp only [List.append_assoc, List.cons_append, List.nil_append] <;> rfl) ?_
  refine xn_put 0 (L2 := ([(11, [.ref 1, .ref 6, .ref 13, .ref 20, .null, .int (iI 0), .int (iI 0), .null, .null, .null, .null, .null])] ++ (zCod 1 ++ (zScr 6 ++ (zScr 13 ++ (zSta 20)))))) hg (fp_X11_29 rfl rfl) dX11_init_45 rfl (xn_b (by omega)) rfl rfl rfl rfl ?_
  refine xw_aload_n 0 dX11_init_48 rfl ?_
  refine xw_aload_n 0 dX11_init_49 rfl ?_
  refine xn_get 0 (v := .ref 20) hg (fo_X11_29 rfl) dX11_init_50 rfl (xn_b (by omega)) rfl rfl ?_
  refine xn_get 20 (v := .ref 21) hg (fo_X11_33 rfl) dX11_init_53 rfl (xn_b (by omega)) rfl rfl ?_
  refine xn_put 0 (L2 := ([(11, [.ref 1, .ref 6, .ref 13, .ref 20, .ref 21, .int (iI 0), .int (iI 0), .null, .null, .null, .null, .null])] ++ (zCod 1 ++ (zScr 6 ++ (zScr 13 ++ (zSta 20)))))) hg (fp_X11_37 rfl rfl) dX11_init_56 rfl (xn_b (by omega)) rfl rfl rfl rfl ?_
  refine xw_aload_n 0 dX11_init_59 rfl ?_
  refine xn_new (ci := 4) (fs := [.null, .int (iI 0)]) (r := 128) (L2 := ([(11, [.ref 1, .ref 6, .ref 13, .ref 20, .ref 21, .int (iI 0), .int (iI 0), .null, .null, .null, .null, .null])] ++ (zCod 1 ++ (zScr 6 ++ (zScr 13 ++ (zSta 20 ++ ([(4, [.null, .int (iI 0)])]))))))) hg tyX4 dX11_init_60 (by decide) rfl inX4 tyX4_ok w_268 w_269 w_42 rfl (fun j hj => by rcases (show j = 0 ∨ j = 1 by omega) with rfl | rfl <;> rfl) (by decide +kernel) (by simp only [List.append_assoc, List.cons_append, List.nil_append] <;> rfl) (xn_b (by omega)) (Nat.le_of_ble_eq_true rfl) (Nat.le_of_ble_eq_true rfl) ?_
  refine xw_dup dX11_init_63 rfl ?_
  refine xn_call (M' := mX4_init) (d := 0) (c := 1) (s := 20) ([(11, [.ref 1, .ref 6, .ref 13, .ref 20, .ref 21, .int (iI 0), .int (iI 0), .null, .null, .null, .null, .null])] ++ (zCod 1 ++ (zScr 6 ++ (zScr 13 ++ (zSta 20))))) (L2 := ([(11, [.ref 1, .ref 6, .ref 13, .ref 20, .ref 21, .int (iI 0), .int (iI 0), .null, .null, .null, .null, .null])] ++ (zCod 1 ++ (zScr 6 ++ (zScr 13 ++ (zSta 20 ++ (zCut 128))))))) (Z := zCut 128) (o1 := (4, [.null, .int (iI 0)])) hg dX11_init_64 okX4_init (Or.inr ⟨_, w_270⟩) (by simp only [List.append_assoc, List.cons_append, List.nil_append] <;> rfl) (by decide +kernel) (xn_b (by omega)) (Nat.le_of_ble_eq_true rfl) (by decide) (by decide) (Nat.le_of_ble_eq_true rfl) (Nat.le_of_ble_eq_true rfl) (fun G' h' => c_X4 hL h' (by omega)) (by simp only [List.append_assoc, List.cons_append, List.nil_append] <;> rfl) ?_
  refine xn_put 0 (L2 := ([(11, [.ref 1, .ref 6, .ref 13, .ref 20, .ref 21, .int (iI 0), .int (iI 0), .ref 128, .null, .null, .null, .null])] ++ (zCod 1 ++ (zScr 6 ++ (zScr 13 ++ (zSta 20 ++ (zCut 128))))))) hg (fp_X11_43 rfl rfl) dX11_init_67 rfl (xn_b (by omega)) rfl rfl rfl rfl ?_
  refine xw_aload_n 0 dX11_init_70 rfl ?_
  refine xn_new (ci := 1) (fs := [.null, .null, .int (iI 0)]) (r := 130) (L2 := ([(11, [.ref 1, .ref 6, .ref 13, .ref 20, .ref 21, .int (iI 0), .int (iI 0), .ref 128, .null, .null, .null, .null])] ++ (zCod 1 ++ (zScr 6 ++ (zScr 13 ++ (zSta 20 ++ (zCut 128 ++ ([(1, [.null, .null, .int (iI 0)])])))))))) hg tyX1 dX11_init_71 (by decide) rfl inX1 tyX1_ok w_283 w_284 w_43 rfl (fun j hj => by rcases (show j = 0 ∨ j = 1 ∨ j = 2 by omega) with rfl | rfl | rfl <;> rfl) (by decide +kernel) (by simp only [List.append_assoc, List.cons_append, List.nil_append] <;> rfl) (xn_b (by omega)) (Nat.le_of_ble_eq_true rfl) (Nat.le_of_ble_eq_true rfl) ?_
  refine xw_dup dX11_init_74 rfl ?_
  refine xn_call (M' := mX1_init) (d := 0) (c := 2) (s := 16) ([(11, [.ref 1, .ref 6, .ref 13, .ref 20, .ref 21, .int (iI 0), .int (iI 0), .ref 128, .null, .null, .null, .null])] ++ (zCod 1 ++ (zScr 6 ++ (zScr 13 ++ (zSta 20 ++ (zCut 128)))))) (L2 := ([(11, [.ref 1, .ref 6, .ref 13, .ref 20, .ref 21, .int (iI 0), .int (iI 0), .ref 128, .null, .null, .null, .null])] ++ (zCod 1 ++ (zScr 6 ++ (zScr 13 ++ (zSta 20 ++ (zCut 128 ++ (zAnc 130)))))))) (Z := zAnc 130) (o1 := (1, [.null, .null, .int (iI 0)])) hg dX11_init_75 okX1_init (Or.inr ⟨_, w_285⟩) (by simp only [List.append_assoc, List.cons_append, List.nil_append] <;> rfl) (by decide +kernel) (xn_b (by omega)) (Nat.le_of_ble_eq_true rfl) (by decide) (by decide) (Nat.le_of_ble_eq_true rfl) (Nat.le_of_ble_eq_true rfl) (fun G' h' => c_X1 hL h' (by omega)) (by simp only [List.append_assoc, List.cons_append, List.nil_append] <;> rfl) ?_
  refine xn_put 0 (L2 := ([(11, [.ref 1, .ref 6, .ref 13, .ref 20, .ref 21, .int (iI 0), .int (iI 0), .ref 128, .ref 130, .null, .null, .null])] ++ (zCod 1 ++ (zScr 6 ++ (zScr 13 ++ (zSta 20 ++ (zCut 128 ++ (zAnc 130)))))))) hg (fp_X11_50 rfl rfl) dX11_init_78 rfl (xn_b (by omega)) rfl rfl rfl rfl ?_
  refine xw_aload_n 0 dX11_init_81 rfl ?_
  refine xn_new (ci := 0) (fs := [.null, .null, .null]) (r := 133) (L2 := ([(11, [.ref 1, .ref 6, .ref 13, .ref 20, .ref 21, .int (iI 0), .int (iI 0), .ref 128, .ref 130, .null, .null, .null])] ++ (zCod 1 ++ (zScr 6 ++ (zScr 13 ++ (zSta 20 ++ (zCut 128 ++ (zAnc 130 ++ ([(0, [.null, .null, .null])]))))))))) hg tyX0 dX11_init_82 (by decide) rfl inX0 tyX0_ok w_300 w_301 w_44 rfl (fun j hj => by rcases (show j = 0 ∨ j = 1 ∨ j = 2 by omega) with rfl | rfl | rfl <;> rfl) (by decide +kernel) (by simp only [List.append_assoc, List.cons_append, List.nil_append] <;> rfl) (xn_b (by omega)) (Nat.le_of_ble_eq_true rfl) (Nat.le_of_ble_eq_true rfl) ?_
  refine xw_dup dX11_init_85 rfl ?_
  refine xn_call (M' := mX0_init) (d := 0) (c := 52) (s := 1568) ([(11, [.ref 1, .ref 6, .ref 13, .ref 20, .ref 21, .int (iI 0), .int (iI 0), .ref 128, .ref 130, .null, .null, .null])] ++ (zCod 1 ++ (zScr 6 ++ (zScr 13 ++ (zSta 20 ++ (zCut 128 ++ (zAnc 130))))))) (L2 := ([(11, [.ref 1, .ref 6, .ref 13, .ref 20, .ref 21, .int (iI 0), .int (iI 0), .ref 128, .ref 130, .null, .null, .null])] ++ (zCod 1 ++ (zScr 6 ++ (zScr 13 ++ (zSta 20 ++ (zCut 128 ++ (zAnc 130 ++ (zAlg 133))))))))) (Z := zAlg 133) (o1 := (0, [.null, .null, .null])) hg dX11_init_86 okX0_init (Or.inr ⟨_, w_302⟩) (by simp only [List.append_assoc, List.cons_append, List.nil_append] <;> rfl) (by decide +kernel) (xn_b (by omega)) (Nat.le_of_ble_eq_true rfl) (by decide) (by decide) (Nat.le_of_ble_eq_true rfl) (Nat.le_of_ble_eq_true rfl) (fun G' h' => c_X0 hL h' (by omega)) (by simp only [List.append_assoc, List.cons_append, List.nil_append] <;> rfl) ?_
  refine xn_put 0 (L2 := ([(11, [.ref 1, .ref 6, .ref 13, .ref 20, .ref 21, .int (iI 0), .int (iI 0), .ref 128, .ref 130, .ref 133, .null, .null])] ++ (zCod 1 ++ (zScr 6 ++ (zScr 13 ++ (zSta 20 ++ (zCut 128 ++ (zAnc 130 ++ (zAlg 133))))))))) hg (fp_X11_57 rfl rfl) dX11_init_89 rfl (xn_b (by omega)) rfl rfl rfl rfl ?_
  refine xw_aload_n 0 dX11_init_92 rfl ?_
  refine xn_new (ci := 5) (fs := [.null, .null, .int (iI 0), .null, .int (iI 0)]) (r := 186) (L2 := ([(11, [.ref 1, .ref 6, .ref 13, .ref 20, .ref 21, .int (iI 0), .int (iI 0), .ref 128, .ref 130, .ref 133, .null, .null])] ++ (zCod 1 ++ (zScr 6 ++ (zScr 13 ++ (zSta 20 ++ (zCut 128 ++ (zAnc 130 ++ (zAlg 133 ++ ([(5, [.null, .null, .int (iI 0), .null, .int (iI 0)])])))))))))) hg tyX5 dX11_init_93 (by decide) rfl inX5 tyX5_ok w_318 w_319 w_45 rfl (fun j hj => by rcases (show j = 0 ∨ j = 1 ∨ j = 2 ∨ j = 3 ∨ j = 4 by omega) with rfl | rfl | rfl | rfl | rfl <;> rfl) (by decide +kernel) (by simp only [List.append_assoc, List.cons_append, List.nil_append] <;> rfl) (xn_b (by omega)) (Nat.le_of_ble_eq_true rfl) (Nat.le_of_ble_eq_true rfl) ?_
  refine xw_dup dX11_init_96 rfl ?_
  refine xn_call (M' := mX5_init) (d := 0) (c := 3) (s := 90) ([(11, [.ref 1, .ref 6, .ref 13, .ref 20, .ref 21, .int (iI 0), .int (iI 0), .ref 128, .ref 130, .ref 133, .null, .null])] ++ (zCod 1 ++ (zScr 6 ++ (zScr 13 ++ (zSta 20 ++ (zCut 128 ++ (zAnc 130 ++ (zAlg 133)))))))) (L2 := ([(11, [.ref 1, .ref 6, .ref 13, .ref 20, .ref 21, .int (iI 0), .int (iI 0), .ref 128, .ref 130, .ref 133, .null, .null])] ++ (zCod 1 ++ (zScr 6 ++ (zScr 13 ++ (zSta 20 ++ (zCut 128 ++ (zAnc 130 ++ (zAlg 133 ++ (zHea 186)))))))))) (Z := zHea 186) (o1 := (5, [.null, .null, .int (iI 0), .null, .int (iI 0)])) hg dX11_init_97 okX5_init (Or.inr ⟨_, w_320⟩) (by simp only [List.append_assoc, List.cons_append, List.nil_append] <;> rfl) (by decide +kernel) (xn_b (by omega)) (Nat.le_of_ble_eq_true rfl) (by decide) (by decide) (Nat.le_of_ble_eq_true rfl) (Nat.le_of_ble_eq_true rfl) (fun G' h' => c_X5 hL h' (by omega)) (by simp only [List.append_assoc, List.cons_append, List.nil_append] <;> rfl) ?_
  refine xn_put 0 (L2 := ([(11, [.ref 1, .ref 6, .ref 13, .ref 20, .ref 21, .int (iI 0), .int (iI 0), .ref 128, .ref 130, .ref 133, .ref 186, .null])] ++ (zCod 1 ++ (zScr 6 ++ (zScr 13 ++ (zSta 20 ++ (zCut 128 ++ (zAnc 130 ++ (zAlg 133 ++ (zHea 186)))))))))) hg (fp_X11_64 rfl rfl) dX11_init_100 rfl (xn_b (by omega)) rfl rfl rfl rfl ?_
  refine xw_aload_n 0 dX11_init_103 rfl ?_
  refine xn_new (ci := 8) (fs := [.null, .null, .int (iI 0), .int (iI 0)]) (r := 190) (L2 := ([(11, [.ref 1, .ref 6, .ref 13, .ref 20, .ref 21, .int (iI 0), .int (iI 0), .ref 128, .ref 130, .ref 133, .ref 186, .null])] ++ (zCod 1 ++ (zScr 6 ++ (zScr 13 ++ (zSta 20 ++ (zCut 128 ++ (zAnc 130 ++ (zAlg 133 ++ (zHea 186 ++ ([(8, [.null, .null, .int (iI 0), .int (iI 0)])]))))))))))) hg tyX8 dX11_init_104 (by decide) rfl inX8 tyX8_ok w_342 w_343 w_46 rfl (fun j hj => by rcases (show j = 0 ∨ j = 1 ∨ j = 2 ∨ j = 3 by omega) with rfl | rfl | rfl | rfl <;> rfl) (by decide +kernel) (by simp only [List.append_assoc, List.cons_append, List.nil_append] <;> rfl) (xn_b (by omega)) (Nat.le_of_ble_eq_true rfl) (Nat.le_of_ble_eq_true rfl) ?_
  refine xw_dup dX11_init_107 rfl ?_
  refine xn_call (M' := mX8_init) (d := 0) (c := 2) (s := 48) ([(11, [.ref 1, .ref 6, .ref 13, .ref 20, .ref 21, .int (iI 0), .int (iI 0), .ref 128, .ref 130, .ref 133, .ref 186, .null])] ++ (zCod 1 ++ (zScr 6 ++ (zScr 13 ++ (zSta 20 ++ (zCut 128 ++ (zAnc 130 ++ (zAlg 133 ++ (zHea 186))))))))) (L2 := ([(11, [.ref 1, .ref 6, .ref 13, .ref 20, .ref 21, .int (iI 0), .int (iI 0), .ref 128, .ref 130, .ref 133, .ref 186, .null])] ++ (zCod 1 ++ (zScr 6 ++ (zScr 13 ++ (zSta 20 ++ (zCut 128 ++ (zAnc 130 ++ (zAlg 133 ++ (zHea 186 ++ (zPai 190))))))))))) (Z := zPai 190) (o1 := (8, [.null, .null, .int (iI 0), .int (iI 0)])) hg dX11_init_108 okX8_init (Or.inr ⟨_, w_344⟩) (by simp only [List.append_assoc, List.cons_append, List.nil_append] <;> rfl) (by decide +kernel) (xn_b (by omega)) (Nat.le_of_ble_eq_true rfl) (by decide) (by decide) (Nat.le_of_ble_eq_true rfl) (Nat.le_of_ble_eq_true rfl) (fun G' h' => c_X8 hL h' (by omega)) (by simp only [List.append_assoc, List.cons_append, List.nil_append] <;> rfl) ?_
  refine xn_put 0 (L2 := ([(11, [.ref 1, .ref 6, .ref 13, .ref 20, .ref 21, .int (iI 0), .int (iI 0), .ref 128, .ref 130, .ref 133, .ref 186, .ref 190])] ++ (zCod 1 ++ (zScr 6 ++ (zScr 13 ++ (zSta 20 ++ (zCut 128 ++ (zAnc 130 ++ (zAlg 133 ++ (zHea 186 ++ (zPai 190))))))))))) hg (fp_X11_71 rfl rfl) dX11_init_111 rfl (xn_b (by omega)) rfl rfl rfl rfl ?_
  exact xw_vret dX11_init_114 rfl (Nat.le_of_ble_eq_true rfl) (Nat.le_of_ble_eq_true rfl) ⟨rfl, zAll_eq⟩)
end Y34

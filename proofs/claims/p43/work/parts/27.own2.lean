section Y27
variable {L : Launch} {O : xWd} {K : xOc → List xOb → Prop} {σ : ySg} {X : List xOb} {G : List xOb}
theorem n_addWord (hL : L.stackTraces = false) (hX : X.length ≤ 1000000) (hr : yRg σ) {n : Int} (hn : -2147483648 ≤ n ∧ n < 2147483648) (h1 : n < 0 ∨ 24 ≤ n ∨ σ 0 5 ≤ n ∨ σ (cu n) 0 = 0) {a : Int} : xMet L O mX11_addWord (xR 7 1 6) [.ref 0, .int (iI n), .int (iI a)] (Wd σ X) (fun o G1 => o = .inr "java/util/NoSuchElementException" ∧ G1 = Wd σ (X ++ [(127, [])])) := xMet_of (by decide) hL (Nat.le_of_ble_eq_true rfl) (by
  refine xw_eq rfl (l2 := [(0, .ref 0), (1, .int (iI n)), (2, .int (iI a))]) rfl rfl rfl ?_
  refine xw_aload_n 0 dX11_addWord_0 rfl ?_
  refine xw_iload_n 1 dX11_addWord_1 rfl ?_
  refine yc_VT (M' := mX11_cueOf) (d := 0) (c := 1) (s := 6) (As := [.int (iI n)]) (st := []) (E := "java/util/NoSuchElementException") (G2 := Wd σ (X ++ [(127, [])])) dX11_addWord_2 okX11_cueOf (Or.inl w_503) (xBig_i is_0.1) (Wd_get is_0) ⟨by decide, rfl⟩ rfl (Nat.le_of_ble_eq_true rfl) (by decide) (by decide) (Nat.le_of_ble_eq_true rfl) (Nat.le_of_ble_eq_true rfl) rfl (s_cueOf0 hL hr hX (by omega) (by omega)) ?_
  exact xth_out rfl (Nat.le_of_ble_eq_true rfl) (Nat.le_of_ble_eq_true rfl) ⟨rfl, rfl⟩)
theorem n_dropCue (hL : L.stackTraces = false) (hX : X.length ≤ 1000000) (hr : yRg σ) {n : Int} (hn : -2147483648 ≤ n ∧ n < 2147483648) (h1 : n < 0 ∨ 24 ≤ n ∨ σ 0 5 ≤ n ∨ σ (cu n) 0 = 0) {a : Int} : xMet L O mX11_dropCue (xR 7 1 6) [.ref 0, .int (iI n)] (Wd σ X) (fun o G1 => o = .inr "java/util/NoSuchElementException" ∧ G1 = Wd σ (X ++ [(127, [])])) := xMet_of (by decide) hL (Nat.le_of_ble_eq_true rfl) (by
  refine xw_eq rfl (l2 := [(0, .ref 0), (1, .int (iI n))]) rfl rfl rfl ?_
  refine xw_aload_n 0 dX11_dropCue_0 rfl ?_
  refine xw_iload_n 1 dX11_dropCue_1 rfl ?_
  refine yc_VT (M' := mX11_cueOf) (d := 0) (c := 1) (s := 6) (As := [.int (iI n)]) (st := []) (E := "java/util/NoSuchElementException") (G2 := Wd σ (X ++ [(127, [])])) dX11_dropCue_2 okX11_cueOf (Or.inl w_503) (xBig_i is_0.1) (Wd_get is_0) ⟨by decide, rfl⟩ rfl (Nat.le_of_ble_eq_true rfl) (by decide) (by decide) (Nat.le_of_ble_eq_true rfl) (Nat.le_of_ble_eq_true rfl) rfl (s_cueOf0 hL hr hX (by omega) (by omega)) ?_
  exact xth_out rfl (Nat.le_of_ble_eq_true rfl) (Nat.le_of_ble_eq_true rfl) ⟨rfl, rfl⟩)
theorem n_startOf (hL : L.stackTraces = false) (hX : X.length ≤ 1000000) (hr : yRg σ) {n : Int} (hn : -2147483648 ≤ n ∧ n < 2147483648) (h1 : n < 0 ∨ 24 ≤ n ∨ σ 0 5 ≤ n ∨ σ (cu n) 0 = 0) {a : Int} : xMet L O mX11_startOf (xR 7 1 6) [.ref 0, .int (iI n)] (Wd σ X) (fun o G1 => o = .inr "java/util/NoSuchElementException" ∧ G1 = Wd σ (X ++ [(127, [])])) := xMet_of (by decide) hL (Nat.le_of_ble_eq_true rfl) (by
  refine xw_eq rfl (l2 := [(0, .ref 0), (1, .int (iI n))]) rfl rfl rfl ?_
  refine xw_aload_n 0 dX11_startOf_0 rfl ?_
  refine xw_iload_n 1 dX11_startOf_1 rfl ?_
  refine yc_VT (M' := mX11_cueOf) (d := 0) (c := 1) (s := 6) (As := [.int (iI n)]) (st := []) (E := "java/util/NoSuchElementException") (G2 := Wd σ (X ++ [(127, [])])) dX11_startOf_2 okX11_cueOf (Or.inl w_503) (xBig_i is_0.1) (Wd_get is_0) ⟨by decide, rfl⟩ rfl (Nat.le_of_ble_eq_true rfl) (by decide) (by decide) (Nat.le_of_ble_eq_true rfl) (Nat.le_of_ble_eq_true rfl) rfl (s_cueOf0 hL hr hX (by omega) (by omega)) ?_
  exact xth_out rfl (Nat.le_of_ble_eq_true rfl) (Nat.le_of_ble_eq_true rfl) ⟨rfl, rfl⟩)
theorem n_endOf (hL : L.stackTraces = false) (hX : X.length ≤ 1000000) (hr : yRg σ) {n : Int} (hn : -2147483648 ≤ n ∧ n < 2147483648) (h1 : n < 0 ∨ 24 ≤ n ∨ σ 0 5 ≤ n ∨ σ (cu n) 0 = 0) {a : Int} : xMet L O mX11_endOf (xR 7 1 6) [.ref 0, .int (iI n)] (Wd σ X) (fun o G1 => o = .inr "java/util/NoSuchElementException" ∧ G1 = Wd σ (X ++ [(127, [])])) := xMet_of (by decide) hL (Nat.le_of_ble_eq_true rfl) (by
  refine xw_eq rfl (l2 := [(0, .ref 0), (1, .int (iI n))]) rfl rfl rfl ?_
  refine xw_aload_n 0 dX11_endOf_0 rfl ?_
  refine xw_iload_n 1 dX11_endOf_1 rfl ?_
  refine yc_VT (M' := mX11_cueOf) (d := 0) (c := 1) (s := 6) (As := [.int (iI n)]) (st := []) (E := "java/util/NoSuchElementException") (G2 := Wd σ (X ++ [(127, [])])) dX11_endOf_2 okX11_cueOf (Or.inl w_503) (xBig_i is_0.1) (Wd_get is_0) ⟨by decide, rfl⟩ rfl (Nat.le_of_ble_eq_true rfl) (by decide) (by decide) (Nat.le_of_ble_eq_true rfl) (Nat.le_of_ble_eq_true rfl) rfl (s_cueOf0 hL hr hX (by omega) (by omega)) ?_
  exact xth_out rfl (Nat.le_of_ble_eq_true rfl) (Nat.le_of_ble_eq_true rfl) ⟨rfl, rfl⟩)
theorem n_lines (hL : L.stackTraces = false) (hX : X.length ≤ 1000000) (hr : yRg σ) {n : Int} (hn : -2147483648 ≤ n ∧ n < 2147483648) (h1 : n < 0 ∨ 24 ≤ n ∨ σ 0 5 ≤ n ∨ σ (cu n) 0 = 0) {a : Int} : xMet L O mX11_lines (xR 7 1 6) [.ref 0, .int (iI n)] (Wd σ X) (fun o G1 => o = .inr "java/util/NoSuchElementException" ∧ G1 = Wd σ (X ++ [(127, [])])) := xMet_of (by decide) hL (Nat.le_of_ble_eq_true rfl) (by
  refine xw_eq rfl (l2 := [(0, .ref 0), (1, .int (iI n))]) rfl rfl rfl ?_
  refine xw_aload_n 0 dX11_lines_0 rfl ?_
  refine xw_iload_n 1 dX11_lines_1 rfl ?_
  refine yc_VT (M' := mX11_cueOf) (d := 0) (c := 1) (s := 6) (As := [.int (iI n)]) (st := []) (E := "java/util/NoSuchElementException") (G2 := Wd σ (X ++ [(127, [])])) dX11_lines_2 okX11_cueOf (Or.inl w_503) (xBig_i is_0.1) (Wd_get is_0) ⟨by decide, rfl⟩ rfl (Nat.le_of_ble_eq_true rfl) (by decide) (by decide) (Nat.le_of_ble_eq_true rfl) (Nat.le_of_ble_eq_true rfl) rfl (s_cueOf0 hL hr hX (by omega) (by omega)) ?_
  exact xth_out rfl (Nat.le_of_ble_eq_true rfl) (Nat.le_of_ble_eq_true rfl) ⟨rfl, rfl⟩)
theorem n_wordsIn (hL : L.stackTraces = false) (hX : X.length ≤ 1000000) (hr : yRg σ) {n : Int} (hn : -2147483648 ≤ n ∧ n < 2147483648) (h1 : n < 0 ∨ 24 ≤ n ∨ σ 0 5 ≤ n ∨ σ (cu n) 0 = 0) {a : Int} : xMet L O mX11_wordsIn (xR 7 1 6) [.ref 0, .int (iI n), .int (iI a)] (Wd σ X) (fun o G1 => o = .inr "java/util/NoSuchElementException" ∧ G1 = Wd σ (X ++ [(127, [])])) := xMet_of (by decide) hL (Nat.le_of_ble_eq_true rfl) (by
  refine xw_eq rfl (l2 := [(0, .ref 0), (1, .int (iI n)), (2, .int (iI a))]) rfl rfl rfl ?_
  refine xw_aload_n 0 dX11_wordsIn_0 rfl ?_
  refine xw_iload_n 1 dX11_wordsIn_1 rfl ?_
  refine yc_VT (M' := mX11_cueOf) (d := 0) (c := 1) (s := 6) (As := [.int (iI n)]) (st := []) (E := "java/util/NoSuchElementException") (G2 := Wd σ (X ++ [(127, [])])) dX11_wordsIn_2 okX11_cueOf (Or.inl w_503) (xBig_i is_0.1) (Wd_get is_0) ⟨by decide, rfl⟩ rfl (Nat.le_of_ble_eq_true rfl) (by decide) (by decide) (Nat.le_of_ble_eq_true rfl) (Nat.le_of_ble_eq_true rfl) rfl (s_cueOf0 hL hr hX (by omega) (by omega)) ?_
  exact xth_out rfl (Nat.le_of_ble_eq_true rfl) (Nat.le_of_ble_eq_true rfl) ⟨rfl, rfl⟩)
theorem n_rowOf (hL : L.stackTraces = false) (hX : X.length ≤ 1000000) (hr : yRg σ) {n : Int} (hn : -2147483648 ≤ n ∧ n < 2147483648) (h1 : n < 0 ∨ 24 ≤ n ∨ σ 0 5 ≤ n ∨ σ (cu n) 0 = 0) {a : Int} : xMet L O mX11_rowOf (xR 7 1 6) [.ref 0, .int (iI n)] (Wd σ X) (fun o G1 => o = .inr "java/util/NoSuchElementException" ∧ G1 = Wd σ (X ++ [(127, [])])) := xMet_of (by decide) hL (Nat.le_of_ble_eq_true rfl) (by
  refine xw_eq rfl (l2 := [(0, .ref 0), (1, .int (iI n))]) rfl rfl rfl ?_
  refine xw_aload_n 0 dX11_rowOf_0 rfl ?_
  refine xw_iload_n 1 dX11_rowOf_1 rfl ?_
  refine yc_VT (M' := mX11_cueOf) (d := 0) (c := 1) (s := 6) (As := [.int (iI n)]) (st := []) (E := "java/util/NoSuchElementException") (G2 := Wd σ (X ++ [(127, [])])) dX11_rowOf_2 okX11_cueOf (Or.inl w_503) (xBig_i is_0.1) (Wd_get is_0) ⟨by decide, rfl⟩ rfl (Nat.le_of_ble_eq_true rfl) (by decide) (by decide) (Nat.le_of_ble_eq_true rfl) (Nat.le_of_ble_eq_true rfl) rfl (s_cueOf0 hL hr hX (by omega) (by omega)) ?_
  exact xth_out rfl (Nat.le_of_ble_eq_true rfl) (Nat.le_of_ble_eq_true rfl) ⟨rfl, rfl⟩)
theorem n_split (hL : L.stackTraces = false) (hX : X.length ≤ 1000000) (hr : yRg σ) {n : Int} (hn : -2147483648 ≤ n ∧ n < 2147483648) (h1 : n < 0 ∨ 24 ≤ n ∨ σ 0 5 ≤ n ∨ σ (cu n) 0 = 0) {a : Int} : xMet L O mX11_split (xR 7 1 6) [.ref 0, .int (iI n), .int (iI a)] (Wd σ X) (fun o G1 => o = .inr "java/util/NoSuchElementException" ∧ G1 = Wd σ (X ++ [(127, [])])) := xMet_of (by decide) hL (Nat.le_of_ble_eq_true rfl) (by
  refine xw_eq rfl (l2 := [(0, .ref 0), (1, .int (iI n)), (2, .int (iI a))]) rfl rfl rfl ?_
  refine xw_aload_n 0 dX11_split_0 rfl ?_
  refine xw_iload_n 1 dX11_split_1 rfl ?_
  refine yc_VT (M' := mX11_cueOf) (d := 0) (c := 1) (s := 6) (As := [.int (iI n)]) (st := []) (E := "java/util/NoSuchElementException") (G2 := Wd σ (X ++ [(127, [])])) dX11_split_2 okX11_cueOf (Or.inl w_503) (xBig_i is_0.1) (Wd_get is_0) ⟨by decide, rfl⟩ rfl (Nat.le_of_ble_eq_true rfl) (by decide) (by decide) (Nat.le_of_ble_eq_true rfl) (Nat.le_of_ble_eq_true rfl) rfl (s_cueOf0 hL hr hX (by omega) (by omega)) ?_
  exact xth_out rfl (Nat.le_of_ble_eq_true rfl) (Nat.le_of_ble_eq_true rfl) ⟨rfl, rfl⟩)
theorem n_hear (hL : L.stackTraces = false) (hX : X.length ≤ 1000000) (hr : yRg σ) {n : Int} (hn : -2147483648 ≤ n ∧ n < 2147483648) (h1 : n < 0 ∨ 24 ≤ n ∨ σ 0 5 ≤ n ∨ σ (cu n) 0 = 0) {a : Int} : xMet L O mX11_hear (xR 7 1 6) [.ref 0, .int (iI n)] (Wd σ X) (fun o G1 => o = .inr "java/util/NoSuchElementException" ∧ G1 = Wd σ (X ++ [(127, [])])) := xMet_of (by decide) hL (Nat.le_of_ble_eq_true rfl) (by
  refine xw_eq rfl (l2 := [(0, .ref 0), (1, .int (iI n))]) rfl rfl rfl ?_
  refine xw_aload_n 0 dX11_hear_0 rfl ?_
  refine yz_getr (fo_X11_64 rfl) dX11_hear_1 is_0 rfl ?_
  refine xw_aload_n 0 dX11_hear_4 rfl ?_
  refine xw_iload_n 1 dX11_hear_5 rfl ?_
  refine yc_VT (M' := mX11_cueOf) (d := 0) (c := 1) (s := 6) (As := [.int (iI n)]) (st := [.ref 186]) (E := "java/util/NoSuchElementException") (G2 := Wd σ (X ++ [(127, [])])) dX11_hear_6 okX11_cueOf (Or.inl w_503) (xBig_i is_0.1) (Wd_get is_0) ⟨by decide, rfl⟩ rfl (Nat.le_of_ble_eq_true rfl) (by decide) (by decide) (Nat.le_of_ble_eq_true rfl) (Nat.le_of_ble_eq_true rfl) rfl (s_cueOf0 hL hr hX (by omega) (by omega)) ?_
  exact xth_out rfl (Nat.le_of_ble_eq_true rfl) (Nat.le_of_ble_eq_true rfl) ⟨rfl, rfl⟩)
theorem n_timeOf (hL : L.stackTraces = false) (hX : X.length ≤ 1000000) (hr : yRg σ) {n : Int} (hn : -2147483648 ≤ n ∧ n < 2147483648) (h1 : n < 0 ∨ 24 ≤ n ∨ σ 0 5 ≤ n ∨ σ (cu n) 0 = 0) {a : Int} : xMet L O mX11_timeOf (xR 7 1 6) [.ref 0, .int (iI n), .int (iI a)] (Wd σ X) (fun o G1 => o = .inr "java/util/NoSuchElementException" ∧ G1 = Wd σ (X ++ [(127, [])])) := xMet_of (by decide) hL (Nat.le_of_ble_eq_true rfl) (by
  refine xw_eq rfl (l2 := [(0, .ref 0), (1, .int (iI n)), (2, .int (iI a))]) rfl rfl rfl ?_
  refine xw_aload_n 0 dX11_timeOf_0 rfl ?_
  refine xw_iload_n 1 dX11_timeOf_1 rfl ?_
  refine yc_VT (M' := mX11_cueOf) (d := 0) (c := 1) (s := 6) (As := [.int (iI n)]) (st := []) (E := "java/util/NoSuchElementException") (G2 := Wd σ (X ++ [(127, [])])) dX11_timeOf_2 okX11_cueOf (Or.inl w_503) (xBig_i is_0.1) (Wd_get is_0) ⟨by decide, rfl⟩ rfl (Nat.le_of_ble_eq_true rfl) (by decide) (by decide) (Nat.le_of_ble_eq_true rfl) (Nat.le_of_ble_eq_true rfl) rfl (s_cueOf0 hL hr hX (by omega) (by omega)) ?_
  exact xth_out rfl (Nat.le_of_ble_eq_true rfl) (Nat.le_of_ble_eq_true rfl) ⟨rfl, rfl⟩)
theorem n_pairOf (hL : L.stackTraces = false) (hX : X.length ≤ 1000000) (hr : yRg σ) {n : Int} (hn : -2147483648 ≤ n ∧ n < 2147483648) (h1 : n < 0 ∨ 24 ≤ n ∨ σ 0 5 ≤ n ∨ σ (cu n) 0 = 0) {a : Int} : xMet L O mX11_pairOf (xR 7 1 6) [.ref 0, .int (iI n)] (Wd σ X) (fun o G1 => o = .inr "java/util/NoSuchElementException" ∧ G1 = Wd σ (X ++ [(127, [])])) := xMet_of (by decide) hL (Nat.le_of_ble_eq_true rfl) (by
  refine xw_eq rfl (l2 := [(0, .ref 0), (1, .int (iI n))]) rfl rfl rfl ?_
  refine xw_aload_n 0 dX11_pairOf_0 rfl ?_
  refine xw_iload_n 1 dX11_pairOf_1 rfl ?_
  refine yc_VT (M' := mX11_cueOf) (d := 0) (c := 1) (s := 6) (As := [.int (iI n)]) (st := []) (E := "java/util/NoSuchElementException") (G2 := Wd σ (X ++ [(127, [])])) dX11_pairOf_2 okX11_cueOf (Or.inl w_503) (xBig_i is_0.1) (Wd_get is_0) ⟨by decide, rfl⟩ rfl (Nat.le_of_ble_eq_true rfl) (by decide) (by decide) (Nat.le_of_ble_eq_true rfl) (Nat.le_of_ble_eq_true rfl) rfl (s_cueOf0 hL hr hX (by omega) (by omega)) ?_
  exact xth_out rfl (Nat.le_of_ble_eq_true rfl) (Nat.le_of_ble_eq_true rfl) ⟨rfl, rfl⟩)
theorem n_merge (hL : L.stackTraces = false) (hX : X.length ≤ 1000000) (hr : yRg σ) {n : Int} (hn : -2147483648 ≤ n ∧ n < 2147483648) (h1 : n < 0 ∨ 24 ≤ n ∨ σ 0 5 ≤ n ∨ σ (cu n) 0 = 0) {m : Int} (hm : 0 ≤ m ∧ m < 24) (m1 : m < σ 0 5) (m2 : σ (cu m) 0 = 1) : xMet L O mX11_merge (xR 7 1 6) [.ref 0, .int (iI m), .int (iI n)] (Wd σ X) (fun o G1 => o = .inr "java/util/NoSuchElementException" ∧ G1 = Wd σ (X ++ [(127, [])])) := xMet_of (by decide) hL (Nat.le_of_ble_eq_true rfl) (by
  refine xw_eq rfl (l2 := [(0, .ref 0), (1, .int (iI m)), (2, .int (iI n))]) rfl rfl rfl ?_
  refine xw_aload_n 0 dX11_merge_0 rfl ?_
  refine xw_iload_n 1 dX11_merge_1 rfl ?_
  refine yc_V (M' := mX11_cueOf) (d := 0) (c := 0) (s := 0) (As := [.int (iI m)]) (st := []) (v0 := some (.ref (cu m))) (G2 := Wd σ X) dX11_merge_2 okX11_cueOf (Or.inl w_503) (xBig_i is_0.1) (Wd_get is_0) ⟨by decide, rfl⟩ rfl (Nat.le_of_ble_eq_true rfl) (by decide) (by decide) (Nat.zero_le _) (Nat.zero_le _) rfl rfl (s_cueOf1 hL hr hm m1 m2) ?_
  refine xw_astore_n (l2 := [(0, .ref 0), (1, .int (iI m)), (2, .int (iI n)), (3, .ref (cu m))]) dX11_merge_5 (by decide) rfl rfl ?_
  refine xw_aload_n 0 dX11_merge_6 rfl ?_
  refine xw_iload_n 2 dX11_merge_7 rfl ?_
  refine yc_VT (M' := mX11_cueOf) (d := 0) (c := 1) (s := 6) (As := [.int (iI n)]) (st := []) (E := "java/util/NoSuchElementException") (G2 := Wd σ (X ++ [(127, [])])) dX11_merge_8 okX11_cueOf (Or.inl w_503) (xBig_i is_0.1) (Wd_get is_0) ⟨by decide, rfl⟩ rfl (Nat.le_of_ble_eq_true rfl) (by decide) (by decide) (Nat.le_of_ble_eq_true rfl) (Nat.le_of_ble_eq_true rfl) rfl (s_cueOf0 hL hr hX hn h1) ?_
  exact xth_out rfl (Nat.le_of_ble_eq_true rfl) (Nat.le_of_ble_eq_true rfl) ⟨rfl, rfl⟩)
theorem s_addCue (hL : L.stackTraces = false) {a b c : Int} (hr : yRg σ) (ha : 0 ≤ a ∧ a < b ∧ b ≤ 99999) (hc : 0 ≤ c ∧ c ≤ 2) (h : 0 ≤ σ 0 5 ∧ σ 0 5 < 24) : xMet L O mX11_addCue (xR 2 0 0) [.ref 0, .int (iI a), .int (iI b), .int (iI c)] (Wd σ X) (fun o G1 => o = .inl (some (.int (iI (σ 0 5)))) ∧ G1 = Wd (yup (yup (yup (yup (yup (yup σ (cu (σ 0 5)) 0 1) (cu (σ 0 5)) 1 a) (cu (σ 0 5)) 2 b) (cu (σ 0 5)) 3 c) 0 5 (σ 0 5 + 1)) 0 6 0) X) := xMet_of (by decide) hL (Nat.le_of_ble_eq_true rfl) (by
  refine xw_eq rfl (l2 := [(0, .ref 0), (1, .int (iI a)), (2, .int (iI b)), (3, .int (iI c))]) rfl rfl rfl ?_
  refine xw_iload_n 1 dX11_addCue_0 rfl ?_
  refine yc_S (M' := mX11_needFrame) (d := 1) (c := 0) (s := 0) (As := [.int (iI a)]) (st := []) (v0 := none) (G2 := Wd σ X) dX11_addCue_1 okX11_needFrame (Or.inl w_725) rfl (Nat.le_of_ble_eq_true rfl) (by decide) (by decide) (Nat.zero_le _) (Nat.zero_le _) rfl rfl (s_needFrame1 hL (by omega)) ?_
  refine xw_iload_n 2 dX11_addCue_4 rfl ?_
  refine yc_S (M' := mX11_needFrame) (d := 1) (c := 0) (s := 0) (As := [.int (iI b)]) (st := []) (v0 := none) (G2 := Wd σ X) dX11_addCue_5 okX11_needFrame (Or.inl w_725) rfl (Nat.le_of_ble_eq_true rfl) (by decide) (by decide) (Nat.zero_le _) (Nat.zero_le _) rfl rfl (s_needFrame1 hL (by omega)) ?_
  refine xw_iload_n 2 dX11_addCue_8 rfl ?_
  refine xw_iload_n 1 dX11_addCue_9 rfl ?_
  refine xz_icmp_le (tgt := 26) dX11_addCue_10 (by decide) (by omega) (by omega) (fun c1 => ?_) (fun c1 => ?_)
  · exact absurd c1 (by omega)
  · refine xw_iload_n 3 dX11_addCue_13 rfl ?_
    refine xz_iconst dX11_addCue_14 ?_
    refine xz_iconst dX11_addCue_15 ?_
    refine yc_S (M' := mX11_isIn) (d := 0) (c := 0) (s := 0) (As := [.int (iI c), .int (iI 0), .int (iI 2)]) (st := []) (v0 := some (.int (iI 1))) (G2 := Wd σ X) dX11_addCue_16 okX11_isIn (Or.inl w_729) rfl (Nat.le_of_ble_eq_true rfl) (by decide) (by decide) (Nat.zero_le _) (Nat.zero_le _) rfl rfl (s_isIn1 hL (by omega) (by decide) (by decide) (by omega)) ?_
    refine xz_if_eq (tgt := 26) dX11_addCue_19 (by decide) (by omega) (fun c2 => ?_) (fun c2 => ?_)
    · exact absurd c2 (by omega)
    · refine xz_iconst dX11_addCue_22 ?_
      refine xw_goto (tgt := 27) dX11_addCue_23 (by decide) ?_
      refine yc_S (M' := mX11_needArgument) (d := 0) (c := 0) (s := 0) (As := [.int (iI 1)]) (st := []) (v0 := none) (G2 := Wd σ X) dX11_addCue_27 okX11_needArgument (Or.inl w_749) rfl (Nat.le_of_ble_eq_true rfl) (by decide) (by decide) (Nat.zero_le _) (Nat.zero_le _) rfl rfl (s_needArg1 hL) ?_
      refine xw_aload_n 0 dX11_addCue_30 rfl ?_
      refine yc_V (M' := mX11_needRoomForCue) (d := 0) (c := 0) (s := 0) (As := []) (st := []) (v0 := none) (G2 := Wd σ X) dX11_addCue_31 okX11_needRoomForCue (Or.inl w_1003) (xBig_i is_0.1) (Wd_get is_0) ⟨by decide, rfl⟩ rfl (Nat.le_of_ble_eq_true rfl) (by decide) (by decide) (Nat.zero_le _) (Nat.zero_le _) rfl rfl (s_needRoom1 hL hr (by omega)) ?_
      refine xw_aload_n 0 dX11_addCue_34 rfl ?_
      refine xw_iload_n 1 dX11_addCue_35 rfl ?_
      refine xw_iload_n 2 dX11_addCue_36 rfl ?_
      refine xw_iload_n 3 dX11_addCue_37 rfl ?_
      have r3 := hr 0 5
      refine yc_V (M' := mX11_makeCue) (d := 0) (c := 0) (s := 0) (As := [.int (iI a), .int (iI b), .int (iI c)]) (st := []) (v0 := some (.int (iI (σ 0 5)))) (G2 := Wd (yup (yup (yup (yup (yup (yup σ (cu (σ 0 5)) 0 1) (cu (σ 0 5)) 1 a) (cu (σ 0 5)) 2 b) (cu (σ 0 5)) 3 c) 0 5 ((σ 0 5) + 1)) 0 6 0) X) dX11_addCue_38 okX11_makeCue (Or.inl w_1008) (xBig_i is_0.1) (Wd_get is_0) ⟨by decide, rfl⟩ rfl (Nat.le_of_ble_eq_true rfl) (by decide) (by decide) (Nat.zero_le _) (Nat.zero_le _) rfl rfl (s_makeCue hL hr (by omega)) ?_
      exact xz_iret dX11_addCue_41 rfl (Nat.zero_le _) (Nat.zero_le _) ⟨rfl, rfl⟩)
theorem s_addWord (hL : L.stackTraces = false) {n a : Int} (hr : yRg σ) (hn : 0 ≤ n ∧ n < 24) (h1 : n < σ 0 5) (h2 : σ (cu n) 0 = 1) (ha : 1 ≤ a ∧ a ≤ 99) (hc : 0 ≤ σ (cu n) 6 ∧ σ (cu n) 6 < 12) : xMet L O mX11_addWord (xR 2 0 0) [.ref 0, .int (iI n), .int (iI a)] (Wd σ X) (fun o G1 => o = .inl (some (.int (iI (σ (cu n) 6 + 1)))) ∧ G1 = Wd (yup (yfl (yup (yup σ (cw n) (σ (cu n) 6) a) (cu n) 6 (σ (cu n) 6 + 1)) (ct n) 12 (-1)) 0 6 0) X) := xMet_of (by decide) hL (Nat.le_of_ble_eq_true rfl) (by
  refine xw_eq rfl (l2 := [(0, .ref 0), (1, .int (iI n)), (2, .int (iI a))]) rfl rfl rfl ?_
  refine xw_aload_n 0 dX11_addWord_0 rfl ?_
  refine xw_iload_n 1 dX11_addWord_1 rfl ?_
  refine yc_V (M' := mX11_cueOf) (d := 0) (c := 0) (s := 0) (As := [.int (iI n)]) (st := []) (v0 := some (.ref (cu n))) (G2 := Wd σ X) dX11_addWord_2 okX11_cueOf (Or.inl w_503) (xBig_i is_0.1) (Wd_get is_0) ⟨by decide, rfl⟩ rfl (Nat.le_of_ble_eq_true rfl) (by decide) (by decide) (Nat.zero_le _) (Nat.zero_le _) rfl rfl (s_cueOf1 hL hr (by omega) (by omega) (by omega)) ?_
  refine xw_astore_n (l2 := [(0, .ref 0), (1, .int (iI n)), (2, .int (iI a)), (3, .ref (cu n))]) dX11_addWord_5 (by decide) rfl rfl ?_
  refine xw_iload_n 2 dX11_addWord_6 rfl ?_
  refine xz_iconst dX11_addWord_7 ?_
  refine xz_bipush dX11_addWord_8 (by decide) ?_
  refine yc_S (M' := mX11_isIn) (d := 0) (c := 0) (s := 0) (As := [.int (iI a), .int (iI 1), .int (iI 99)]) (st := []) (v0 := some (.int (iI 1))) (G2 := Wd σ X) dX11_addWord_10 okX11_isIn (Or.inl w_729) rfl (Nat.le_of_ble_eq_true rfl) (by decide) (by decide) (Nat.zero_le _) (Nat.zero_le _) rfl rfl (s_isIn1 hL (by omega) (by decide) (by decide) (by omega)) ?_
  refine yc_S (M' := mX11_needArgument) (d := 0) (c := 0) (s := 0) (As := [.int (iI 1)]) (st := []) (v0 := none) (G2 := Wd σ X) dX11_addWord_13 okX11_needArgument (Or.inl w_749) rfl (Nat.le_of_ble_eq_true rfl) (by decide) (by decide) (Nat.zero_le _) (Nat.zero_le _) rfl rfl (s_needArg1 hL) ?_
  refine xw_aload_n 3 dX11_addWord_16 rfl ?_
  have r1 := hr (cu n) 6
  refine yz_geti (z := 6) (v := σ (cu n) 6) (fo_X11_208 rfl) dX11_addWord_17 (is_cu hn) rfl rfl rfl ?_
  refine xz_bipush dX11_addWord_20 (by decide) ?_
  refine xz_icmp_lt (tgt := 35) dX11_addWord_22 (by decide) (by omega) (by omega) (fun c2 => ?_) (fun c2 => ?_)
  · refine xw_aload_n 3 dX11_addWord_35 rfl ?_
    refine xw_iload_n 2 dX11_addWord_36 rfl ?_
    refine yc_V (M' := mX3_append) (d := 1) (c := 0) (s := 0) (As := [.int (iI a)]) (st := []) (v0 := none) (G2 := Wd (yfl (yup (yup σ (cw n) (σ (cu n) 6) a) (cu n) 6 ((σ (cu n) 6) + 1)) (ct n) 12 (-1)) X) dX11_addWord_37 okX3_append (Or.inl w_1017) (xBig_i (is_cu hn).1) (Wd_get (is_cu hn)) ⟨by decide, rfl⟩ rfl (Nat.le_of_ble_eq_true rfl) (by decide) (by decide) (Nat.zero_le _) (Nat.zero_le _) rfl rfl (s_X3_append hL hr hn (by omega)) ?_
    refine xw_aload_n 0 dX11_addWord_40 rfl ?_
    refine xz_iconst dX11_addWord_41 ?_
    refine yz_putz (z := 6) (fp_X11_193 rfl) dX11_addWord_42 is_0 rfl rfl (Or.inl rfl) ?_
    refine xw_aload_n 3 dX11_addWord_45 rfl ?_
    refine yz_geti (z := 6) (v := (σ (cu n) 6) + 1) (fo_X11_208 rfl) dX11_addWord_46 (is_cu hn) rfl rfl ((yup_i (by simp only [cu, cw, ct, cl, pr, co]; omega)).trans ((yfl_i (by simp only [cu, cw, ct, cl, pr, co]; omega)).trans yup_s)) ?_
    exact xz_iret dX11_addWord_49 rfl (Nat.zero_le _) (Nat.zero_le _) ⟨rfl, rfl⟩
  · exact absurd c2 (by omega))
theorem s_dropCue (hL : L.stackTraces = false) {n : Int} (hr : yRg σ) (hn : 0 ≤ n ∧ n < 24) (h1 : n < σ 0 5) (h2 : σ (cu n) 0 = 1) : xMet L O mX11_dropCue (xR 1 0 0) [.ref 0, .int (iI n)] (Wd σ X) (fun o G1 => o = .inl (some (.int (iI (σ (cu n) 6)))) ∧ G1 = Wd (yup (yup σ (cu n) 0 0) 0 6 0) X) := xMet_of (by decide) hL (Nat.le_of_ble_eq_true rfl) (by
  refine xw_eq rfl (l2 := [(0, .ref 0), (1, .int (iI n))]) rfl rfl rfl ?_
  refine xw_aload_n 0 dX11_dropCue_0 rfl ?_
  refine xw_iload_n 1 dX11_dropCue_1 rfl ?_
  refine yc_V (M' := mX11_cueOf) (d := 0) (c := 0) (s := 0) (As := [.int (iI n)]) (st := []) (v0 := some (.ref (cu n))) (G2 := Wd σ X) dX11_dropCue_2 okX11_cueOf (Or.inl w_503) (xBig_i is_0.1) (Wd_get is_0) ⟨by decide, rfl⟩ rfl (Nat.le_of_ble_eq_true rfl) (by decide) (by decide) (Nat.zero_le _) (Nat.zero_le _) rfl rfl (s_cueOf1 hL hr (by omega) (by omega) (by omega)) ?_
  refine xw_astore_n (l2 := [(0, .ref 0), (1, .int (iI n)), (2, .ref (cu n))]) dX11_dropCue_5 (by decide) rfl rfl ?_
  refine xw_aload_n 2 dX11_dropCue_6 rfl ?_
  refine xz_iconst dX11_dropCue_7 ?_
  refine yz_putz (z := 0) (fp_X11_218 rfl) dX11_dropCue_8 (is_cu hn) rfl rfl (Or.inl rfl) ?_
  refine xw_aload_n 0 dX11_dropCue_11 rfl ?_
  refine xz_iconst dX11_dropCue_12 ?_
  refine yz_putz (z := 6) (fp_X11_193 rfl) dX11_dropCue_13 is_0 rfl rfl (Or.inl rfl) ?_
  refine xw_aload_n 2 dX11_dropCue_16 rfl ?_
  have r1 := hr (cu n) 6
  refine yz_geti (z := 6) (v := σ (cu n) 6) (fo_X11_208 rfl) dX11_dropCue_17 (is_cu hn) rfl rfl ((yup_i (by simp only [cu, cw, ct, cl, pr, co]; omega)).trans (yup_k (by decide))) ?_
  exact xz_iret dX11_dropCue_20 rfl (Nat.zero_le _) (Nat.zero_le _) ⟨rfl, rfl⟩)
theorem s_startOf (hL : L.stackTraces = false) {n : Int} (hr : yRg σ) (hn : 0 ≤ n ∧ n < 24) (h1 : n < σ 0 5) (h2 : σ (cu n) 0 = 1) : xMet L O mX11_startOf (xR 1 0 0) [.ref 0, .int (iI n)] (Wd σ X) (fun o G1 => o = .inl (some (.int (iI (σ (cu n) 1)))) ∧ G1 = Wd (σ) X) := xMet_of (by decide) hL (Nat.le_of_ble_eq_true rfl) (by
  refine xw_eq rfl (l2 := [(0, .ref 0), (1, .int (iI n))]) rfl rfl rfl ?_
  refine xw_aload_n 0 dX11_startOf_0 rfl ?_
  refine xw_iload_n 1 dX11_startOf_1 rfl ?_
  refine yc_V (M' := mX11_cueOf) (d := 0) (c := 0) (s := 0) (As := [.int (iI n)]) (st := []) (v0 := some (.ref (cu n))) (G2 := Wd σ X) dX11_startOf_2 okX11_cueOf (Or.inl w_503) (xBig_i is_0.1) (Wd_get is_0) ⟨by decide, rfl⟩ rfl (Nat.le_of_ble_eq_true rfl) (by decide) (by decide) (Nat.zero_le _) (Nat.zero_le _) rfl rfl (s_cueOf1 hL hr (by omega) (by omega) (by omega)) ?_
  have r1 := hr (cu n) 1
  refine yz_geti (z := 1) (v := σ (cu n) 1) (fo_X11_221 rfl) dX11_startOf_5 (is_cu hn) rfl rfl rfl ?_
  exact xz_iret dX11_startOf_8 rfl (Nat.zero_le _) (Nat.zero_le _) ⟨rfl, rfl⟩)
theorem s_endOf (hL : L.stackTraces = false) {n : Int} (hr : yRg σ) (hn : 0 ≤ n ∧ n < 24) (h1 : n < σ 0 5) (h2 : σ (cu n) 0 = 1) : xMet L O mX11_endOf (xR 1 0 0) [.ref 0, .int (iI n)] (Wd σ X) (fun o G1 => o = .inl (some (.int (iI (σ (cu n) 2)))) ∧ G1 = Wd (σ) X) := xMet_of (by decide) hL (Nat.le_of_ble_eq_true rfl) (by
  refine xw_eq rfl (l2 := [(0, .ref 0), (1, .int (iI n))]) rfl rfl rfl ?_
  refine xw_aload_n 0 dX11_endOf_0 rfl ?_
  refine xw_iload_n 1 dX11_endOf_1 rfl ?_
  refine yc_V (M' := mX11_cueOf) (d := 0) (c := 0) (s := 0) (As := [.int (iI n)]) (st := []) (v0 := some (.ref (cu n))) (G2 := Wd σ X) dX11_endOf_2 okX11_cueOf (Or.inl w_503) (xBig_i is_0.1) (Wd_get is_0) ⟨by decide, rfl⟩ rfl (Nat.le_of_ble_eq_true rfl) (by decide) (by decide) (Nat.zero_le _) (Nat.zero_le _) rfl rfl (s_cueOf1 hL hr (by omega) (by omega) (by omega)) ?_
  have r1 := hr (cu n) 2
  refine yz_geti (z := 2) (v := σ (cu n) 2) (fo_X11_224 rfl) dX11_endOf_5 (is_cu hn) rfl rfl rfl ?_
  exact xz_iret dX11_endOf_8 rfl (Nat.zero_le _) (Nat.zero_le _) ⟨rfl, rfl⟩)
theorem s_addCut (hL : L.stackTraces = false) {f : Int} (hr : yRg σ) (hc : 0 ≤ σ 128 1 ∧ σ 128 1 ≤ 20) (hC : ∀ i, 0 ≤ i → i < σ 128 1 → 0 ≤ σ 129 i ∧ σ 129 i ≤ 99999) (hf : 0 ≤ f ∧ f ≤ 99999) (hc2 : σ 128 1 < 20) (hno : ∀ i, 0 ≤ i → i < σ 128 1 → ¬ σ 129 i = f) : xMet L O mX11_addCut (xR 2 0 0) [.ref 0, .int (iI f)] (Wd σ X) (fun o G1 => o = .inl (some (.int (iI (σ 128 1 + 1)))) ∧ G1 = Wd (yup (yup σ 129 (σ 128 1) f) 128 1 (σ 128 1 + 1)) X) := xMet_of (by decide) hL (Nat.le_of_ble_eq_true rfl) (by
  refine xw_eq rfl (l2 := [(0, .ref 0), (1, .int (iI f))]) rfl rfl rfl ?_
  refine xw_iload_n 1 dX11_addCut_0 rfl ?_
  refine yc_S (M' := mX11_needFrame) (d := 1) (c := 0) (s := 0) (As := [.int (iI f)]) (st := []) (v0 := none) (G2 := Wd σ X) dX11_addCut_1 okX11_needFrame (Or.inl w_725) rfl (Nat.le_of_ble_eq_true rfl) (by decide) (by decide) (Nat.zero_le _) (Nat.zero_le _) rfl rfl (s_needFrame1 hL (by omega)) ?_
  refine xw_aload_n 0 dX11_addCut_4 rfl ?_
  refine yz_getr (fo_X11_43 rfl) dX11_addCut_5 is_0 rfl ?_
  have r1 := hr 128 1
  refine yz_geti (z := 1) (v := σ 128 1) (fo_X11_251 rfl) dX11_addCut_8 is_128 rfl rfl rfl ?_
  refine xz_bipush dX11_addCut_11 (by decide) ?_
  refine xz_icmp_ge (tgt := 28) dX11_addCut_13 (by decide) (by omega) (by omega) (fun c2 => ?_) (fun c2 => ?_)
  · exact absurd c2 (by omega)
  · refine xw_aload_n 0 dX11_addCut_16 rfl ?_
    refine yz_getr (fo_X11_43 rfl) dX11_addCut_17 is_0 rfl ?_
    refine xw_iload_n 1 dX11_addCut_20 rfl ?_
    refine yc_VE (M' := mX4_nearest) (d := 0) (c := 0) (s := 0) (As := [.int (iI f)]) (st := []) dX11_addCut_21 okX4_nearest (Or.inl w_865) (xBig_i is_128.1) (Wd_get is_128) ⟨by decide, rfl⟩ rfl (Nat.le_of_ble_eq_true rfl) (by decide) (by decide) (Nat.zero_le _) (Nat.zero_le _) (s_X4_nearest hL hr hc hC hf) (fun v9 G9 h9 => ?_) (fun E9 G9 h9 => ?_)
    · obtain ⟨b3, e9, g4, e8⟩ := h9
      cases e9
      subst e8
      have hbd := yNr_bd g4 hC
      have hbf : ¬ b3 = f := by
        rcases g4 with q | ⟨⟨i, i1, i2, i3⟩, q⟩
        · omega
        · rw [i3]; exact hno i i1 i2
      refine xw_iload_n 1 dX11_addCut_24 rfl ?_
      refine xz_icmp_ne (tgt := 38) dX11_addCut_25 (by decide) (by omega) (by omega) (fun c5 => ?_) (fun c5 => ?_)
      · refine xw_aload_n 0 dX11_addCut_38 rfl ?_
        refine yz_getr (fo_X11_43 rfl) dX11_addCut_39 is_0 rfl ?_
        refine xw_iload_n 1 dX11_addCut_42 rfl ?_
        refine yc_V (M' := mX4_add) (d := 0) (c := 0) (s := 0) (As := [.int (iI f)]) (st := []) (v0 := none) (G2 := Wd (yup (yup σ 129 (σ 128 1) f) 128 1 (σ 128 1 + 1)) X) dX11_addCut_43 okX4_add (Or.inl w_871) (xBig_i is_128.1) (Wd_get is_128) ⟨by decide, rfl⟩ rfl (Nat.le_of_ble_eq_true rfl) (by decide) (by decide) (Nat.zero_le _) (Nat.zero_le _) rfl rfl (s_X4_add hL hr (by omega)) ?_
        refine xw_aload_n 0 dX11_addCut_46 rfl ?_
        refine yz_getr (fo_X11_43 rfl) dX11_addCut_47 is_0 rfl ?_
        refine yz_geti (z := 1) (v := σ 128 1 + 1) (fo_X11_251 rfl) dX11_addCut_50 is_128 rfl rfl yup_s ?_
        exact xz_iret dX11_addCut_53 rfl (Nat.zero_le _) (Nat.zero_le _) ⟨rfl, rfl⟩
      · exact absurd c5 (by omega)
    · obtain ⟨_, e9, _⟩ := h9
      cases e9)
theorem t_addCut (hL : L.stackTraces = false) (hX : X.length ≤ 1000000) {f : Int} (hr : yRg σ) (hc : 0 ≤ σ 128 1 ∧ σ 128 1 ≤ 20) (hC : ∀ i, 0 ≤ i → i < σ 128 1 → 0 ≤ σ 129 i ∧ σ 129 i ≤ 99999) (hf : 0 ≤ f ∧ f ≤ 99999) (hyes : ∃ i, 0 ≤ i ∧ i < σ 128 1 ∧ σ 129 i = f) : xMet L O mX11_addCut (xR 2 1 6) [.ref 0, .int (iI f)] (Wd σ X) (fun o G1 => o = .inr "java/lang/IllegalStateException" ∧ G1 = Wd σ (X ++ [(127, [])])) := xMet_of (by decide) hL (Nat.le_of_ble_eq_true rfl) (by
  refine xw_eq rfl (l2 := [(0, .ref 0), (1, .int (iI f))]) rfl rfl rfl ?_
  refine xw_iload_n 1 dX11_addCut_0 rfl ?_
  refine yc_S (M' := mX11_needFrame) (d := 1) (c := 0) (s := 0) (As := [.int (iI f)]) (st := []) (v0 := none) (G2 := Wd σ X) dX11_addCut_1 okX11_needFrame (Or.inl w_725) rfl (Nat.le_of_ble_eq_true rfl) (by decide) (by decide) (Nat.zero_le _) (Nat.zero_le _) rfl rfl (s_needFrame1 hL (by omega)) ?_
  refine xw_aload_n 0 dX11_addCut_4 rfl ?_
  refine yz_getr (fo_X11_43 rfl) dX11_addCut_5 is_0 rfl ?_
  have r1 := hr 128 1
  refine yz_geti (z := 1) (v := σ 128 1) (fo_X11_251 rfl) dX11_addCut_8 is_128 rfl rfl rfl ?_
  refine xz_bipush dX11_addCut_11 (by decide) ?_
  refine xz_icmp_ge (tgt := 28) dX11_addCut_13 (by decide) (by omega) (by omega) (fun c2 => ?_) (fun c2 => ?_)
  · exact yt_X11_125_255_129 rfl dX11_addCut_28 dX11_addCut_31 dX11_addCut_32 dX11_addCut_34 dX11_addCut_37 rfl (Nat.le_of_ble_eq_true rfl) (Nat.le_of_ble_eq_true rfl) (Nat.le_of_ble_eq_true rfl) hX ⟨rfl, rfl⟩
  · refine xw_aload_n 0 dX11_addCut_16 rfl ?_
    refine yz_getr (fo_X11_43 rfl) dX11_addCut_17 is_0 rfl ?_
    refine xw_iload_n 1 dX11_addCut_20 rfl ?_
    refine yc_VE (M' := mX4_nearest) (d := 0) (c := 0) (s := 0) (As := [.int (iI f)]) (st := []) dX11_addCut_21 okX4_nearest (Or.inl w_865) (xBig_i is_128.1) (Wd_get is_128) ⟨by decide, rfl⟩ rfl (Nat.le_of_ble_eq_true rfl) (by decide) (by decide) (Nat.zero_le _) (Nat.zero_le _) (s_X4_nearest hL hr hc hC hf) (fun v9 G9 h9 => ?_) (fun E9 G9 h9 => ?_)
    · obtain ⟨b3, e9, g4, e8⟩ := h9
      cases e9
      subst e8
      have hbd := yNr_bd g4 hC
      have hbf : b3 = f := by
        obtain ⟨i, i1, i2, i3⟩ := hyes
        rcases g4 with q | ⟨_, q⟩
        · omega
        · have := q i i1 i2; omega
      refine xw_iload_n 1 dX11_addCut_24 rfl ?_
      refine xz_icmp_ne (tgt := 38) dX11_addCut_25 (by decide) (by omega) (by omega) (fun c5 => ?_) (fun c5 => ?_)
      · exact absurd c5 (by omega)
      · exact yt_X11_125_255_129 rfl dX11_addCut_28 dX11_addCut_31 dX11_addCut_32 dX11_addCut_34 dX11_addCut_37 rfl (Nat.le_of_ble_eq_true rfl) (Nat.le_of_ble_eq_true rfl) (Nat.le_of_ble_eq_true rfl) hX ⟨rfl, rfl⟩
    · obtain ⟨_, e9, _⟩ := h9
      cases e9)
theorem t_timeOf (hL : L.stackTraces = false) (hX : X.length ≤ 1000000) {n a : Int} (hr : yRg σ) (hn : 0 ≤ n ∧ n < 24) (h1 : n < σ 0 5) (h2 : σ (cu n) 0 = 1) (ha : σ (cu n) 6 ≤ a ∧ a < 2147483648) (hc : 0 ≤ σ (cu n) 6) : xMet L O mX11_timeOf (xR 2 1 6) [.ref 0, .int (iI n), .int (iI a)] (Wd σ X) (fun o G1 => o = .inr "java/lang/IndexOutOfBoundsException" ∧ G1 = Wd σ (X ++ [(127, [])])) := xMet_of (by decide) hL (Nat.le_of_ble_eq_true rfl) (by
  refine xw_eq rfl (l2 := [(0, .ref 0), (1, .int (iI n)), (2, .int (iI a))]) rfl rfl rfl ?_
  refine xw_aload_n 0 dX11_timeOf_0 rfl ?_
  refine xw_iload_n 1 dX11_timeOf_1 rfl ?_
  refine yc_V (M' := mX11_cueOf) (d := 0) (c := 0) (s := 0) (As := [.int (iI n)]) (st := []) (v0 := some (.ref (cu n))) (G2 := Wd σ X) dX11_timeOf_2 okX11_cueOf (Or.inl w_503) (xBig_i is_0.1) (Wd_get is_0) ⟨by decide, rfl⟩ rfl (Nat.le_of_ble_eq_true rfl) (by decide) (by decide) (Nat.zero_le _) (Nat.zero_le _) rfl rfl (s_cueOf1 hL hr (by omega) (by omega) (by omega)) ?_
  refine xw_astore_n (l2 := [(0, .ref 0), (1, .int (iI n)), (2, .int (iI a)), (3, .ref (cu n))]) dX11_timeOf_5 (by decide) rfl rfl ?_
  refine xw_iload_n 2 dX11_timeOf_6 rfl ?_
  refine xz_if_lt (tgt := 24) dX11_timeOf_7 (by decide) (by omega) (fun c1 => ?_) (fun c1 => ?_)
  · exact yt_X11_233_358_237 rfl dX11_timeOf_24 dX11_timeOf_27 dX11_timeOf_28 dX11_timeOf_31 dX11_timeOf_34 rfl (Nat.le_of_ble_eq_true rfl) (Nat.le_of_ble_eq_true rfl) (Nat.le_of_ble_eq_true rfl) hX ⟨rfl, rfl⟩
  · refine xw_iload_n 2 dX11_timeOf_10 rfl ?_
    refine xw_aload_n 3 dX11_timeOf_11 rfl ?_
    have r2 := hr (cu n) 6
    refine yz_geti (z := 6) (v := σ (cu n) 6) (fo_X11_208 rfl) dX11_timeOf_12 (is_cu hn) rfl rfl rfl ?_
    refine xz_icmp_ge (tgt := 24) dX11_timeOf_15 (by decide) (by omega) (by omega) (fun c3 => ?_) (fun c3 => ?_)
    · exact yt_X11_233_358_237 rfl dX11_timeOf_24 dX11_timeOf_27 dX11_timeOf_28 dX11_timeOf_31 dX11_timeOf_34 rfl (Nat.le_of_ble_eq_true rfl) (Nat.le_of_ble_eq_true rfl) (Nat.le_of_ble_eq_true rfl) hX ⟨rfl, rfl⟩
    · exact absurd c3 (by omega))
theorem s_addAnchor (hL : L.stackTraces = false) {f t : Int} (hr : yRg σ) (hc : 0 ≤ σ 130 2 ∧ σ 130 2 < 8) (hf : 0 ≤ f ∧ f ≤ 99999) (ht : 0 ≤ t ∧ t ≤ 99999) (hb : σ 130 2 = 0 ∨ (σ 131 (σ 130 2 - 1) < f ∧ σ 132 (σ 130 2 - 1) < t)) : xMet L O mX11_addAnchor (xR 2 0 0) [.ref 0, .int (iI f), .int (iI t)] (Wd σ X) (fun o G1 => o = .inl (some (.int (iI (σ 130 2 + 1)))) ∧ G1 = Wd (yup (yup (yup σ 131 (σ 130 2) f) 132 (σ 130 2) t) 130 2 (σ 130 2 + 1)) X) := xMet_of (by decide) hL (Nat.le_of_ble_eq_true rfl) (by
  refine xw_eq rfl (l2 := [(0, .ref 0), (1, .int (iI f)), (2, .int (iI t))]) rfl rfl rfl ?_
  refine xw_iload_n 1 dX11_addAnchor_0 rfl ?_
  refine yc_S (M' := mX11_needFrame) (d := 1) (c := 0) (s := 0) (As := [.int (iI f)]) (st := []) (v0 := none) (G2 := Wd σ X) dX11_addAnchor_1 okX11_needFrame (Or.inl w_725) rfl (Nat.le_of_ble_eq_true rfl) (by decide) (by decide) (Nat.zero_le _) (Nat.zero_le _) rfl rfl (s_needFrame1 hL (by omega)) ?_
  refine xw_iload_n 2 dX11_addAnchor_4 rfl ?_
  refine yc_S (M' := mX11_needFrame) (d := 1) (c := 0) (s := 0) (As := [.int (iI t)]) (st := []) (v0 := none) (G2 := Wd σ X) dX11_addAnchor_5 okX11_needFrame (Or.inl w_725) rfl (Nat.le_of_ble_eq_true rfl) (by decide) (by decide) (Nat.zero_le _) (Nat.zero_le _) rfl rfl (s_needFrame1 hL (by omega)) ?_
  refine xw_aload_n 0 dX11_addAnchor_8 rfl ?_
  refine yz_getr (fo_X11_50 rfl) dX11_addAnchor_9 is_0 rfl ?_
  refine xw_iload_n 1 dX11_addAnchor_12 rfl ?_
  refine xw_iload_n 2 dX11_addAnchor_13 rfl ?_
  refine yc_VE (M' := mX1_areBelow) (d := 0) (c := 0) (s := 0) (As := [.int (iI f), .int (iI t)]) (st := []) dX11_addAnchor_14 okX1_areBelow (Or.inl w_933) (xBig_i is_130.1) (Wd_get is_130) ⟨by decide, rfl⟩ rfl (Nat.le_of_ble_eq_true rfl) (by decide) (by decide) (Nat.zero_le _) (Nat.zero_le _) (s_X1_areBelow hL hr (by omega) (by omega) (by omega)) (fun v9 G9 h9 => ?_) (fun E9 G9 h9 => ?_)
  · obtain ⟨z1, e9, z1a, e8⟩ := h9
    cases e9
    subst e8
    have z1e : z1 = 1 := by omega
    subst z1e
    refine yc_S (M' := mX11_needArgument) (d := 0) (c := 0) (s := 0) (As := [.int (iI 1)]) (st := []) (v0 := none) (G2 := Wd σ X) dX11_addAnchor_17 okX11_needArgument (Or.inl w_749) rfl (Nat.le_of_ble_eq_true rfl) (by decide) (by decide) (Nat.zero_le _) (Nat.zero_le _) rfl rfl (s_needArg1 hL) ?_
    refine xw_aload_n 0 dX11_addAnchor_20 rfl ?_
    refine yz_getr (fo_X11_50 rfl) dX11_addAnchor_21 is_0 rfl ?_
    have r2 := hr 130 2
    refine yz_geti (z := 2) (v := σ 130 2) (fo_X11_334 rfl) dX11_addAnchor_24 is_130 rfl rfl rfl ?_
    refine xz_bipush dX11_addAnchor_27 (by decide) ?_
    refine xz_icmp_lt (tgt := 43) dX11_addAnchor_29 (by decide) (by omega) (by omega) (fun c3 => ?_) (fun c3 => ?_)
    · refine xw_aload_n 0 dX11_addAnchor_43 rfl ?_
      refine yz_getr (fo_X11_50 rfl) dX11_addAnchor_44 is_0 rfl ?_
      refine xw_iload_n 1 dX11_addAnchor_47 rfl ?_
      refine xw_iload_n 2 dX11_addAnchor_48 rfl ?_
      refine yc_V (M' := mX1_add) (d := 0) (c := 0) (s := 0) (As := [.int (iI f), .int (iI t)]) (st := []) (v0 := none) (G2 := Wd (yup (yup (yup σ 131 (σ 130 2) f) 132 (σ 130 2) t) 130 2 (σ 130 2 + 1)) X) dX11_addAnchor_49 okX1_add (Or.inl w_938) (xBig_i is_130.1) (Wd_get is_130) ⟨by decide, rfl⟩ rfl (Nat.le_of_ble_eq_true rfl) (by decide) (by decide) (Nat.zero_le _) (Nat.zero_le _) rfl rfl (s_X1_add hL hr (by omega)) ?_
      refine xw_aload_n 0 dX11_addAnchor_52 rfl ?_
      refine yz_getr (fo_X11_50 rfl) dX11_addAnchor_53 is_0 rfl ?_
      refine yz_geti (z := 2) (v := σ 130 2 + 1) (fo_X11_334 rfl) dX11_addAnchor_56 is_130 rfl rfl yup_s ?_
      exact xz_iret dX11_addAnchor_59 rfl (Nat.zero_le _) (Nat.zero_le _) ⟨rfl, rfl⟩
    · exact absurd c3 (by omega)
  · obtain ⟨_, e9, _⟩ := h9
    cases e9)
theorem t_addAnchor (hL : L.stackTraces = false) (hX : X.length ≤ 1000000) {f t : Int} (hr : yRg σ) (hc : 0 ≤ σ 130 2 ∧ σ 130 2 < 8) (hf : 0 ≤ f ∧ f ≤ 99999) (ht : 0 ≤ t ∧ t ≤ 99999) (hb : 0 < σ 130 2 ∧ (f ≤ σ 131 (σ 130 2 - 1) ∨ t ≤ σ 132 (σ 130 2 - 1))) : xMet L O mX11_addAnchor (xR 2 1 6) [.ref 0, .int (iI f), .int (iI t)] (Wd σ X) (fun o G1 => o = .inr "java/lang/IllegalArgumentException" ∧ G1 = Wd σ (X ++ [(127, [])])) := xMet_of (by decide) hL (Nat.le_of_ble_eq_true rfl) (by
  refine xw_eq rfl (l2 := [(0, .ref 0), (1, .int (iI f)), (2, .int (iI t))]) rfl rfl rfl ?_
  refine xw_iload_n 1 dX11_addAnchor_0 rfl ?_
  refine yc_S (M' := mX11_needFrame) (d := 1) (c := 0) (s := 0) (As := [.int (iI f)]) (st := []) (v0 := none) (G2 := Wd σ X) dX11_addAnchor_1 okX11_needFrame (Or.inl w_725) rfl (Nat.le_of_ble_eq_true rfl) (by decide) (by decide) (Nat.zero_le _) (Nat.zero_le _) rfl rfl (s_needFrame1 hL (by omega)) ?_
  refine xw_iload_n 2 dX11_addAnchor_4 rfl ?_
  refine yc_S (M' := mX11_needFrame) (d := 1) (c := 0) (s := 0) (As := [.int (iI t)]) (st := []) (v0 := none) (G2 := Wd σ X) dX11_addAnchor_5 okX11_needFrame (Or.inl w_725) rfl (Nat.le_of_ble_eq_true rfl) (by decide) (by decide) (Nat.zero_le _) (Nat.zero_le _) rfl rfl (s_needFrame1 hL (by omega)) ?_
  refine xw_aload_n 0 dX11_addAnchor_8 rfl ?_
  refine yz_getr (fo_X11_50 rfl) dX11_addAnchor_9 is_0 rfl ?_
  refine xw_iload_n 1 dX11_addAnchor_12 rfl ?_
  refine xw_iload_n 2 dX11_addAnchor_13 rfl ?_
  refine yc_VE (M' := mX1_areBelow) (d := 0) (c := 0) (s := 0) (As := [.int (iI f), .int (iI t)]) (st := []) dX11_addAnchor_14 okX1_areBelow (Or.inl w_933) (xBig_i is_130.1) (Wd_get is_130) ⟨by decide, rfl⟩ rfl (Nat.le_of_ble_eq_true rfl) (by decide) (by decide) (Nat.zero_le _) (Nat.zero_le _) (s_X1_areBelow hL hr (by omega) (by omega) (by omega)) (fun v9 G9 h9 => ?_) (fun E9 G9 h9 => ?_)
  · obtain ⟨z1, e9, z1a, e8⟩ := h9
    cases e9
    subst e8
    have z1e : z1 = 0 := by omega
    subst z1e
    refine yc_ST (M' := mX11_needArgument) (d := 0) (c := 1) (s := 6) (As := [.int (iI 0)]) (st := []) (E := "java/lang/IllegalArgumentException") (G2 := Wd σ (X ++ [(127, [])])) dX11_addAnchor_17 okX11_needArgument (Or.inl w_749) rfl (Nat.le_of_ble_eq_true rfl) (by decide) (by decide) (Nat.le_of_ble_eq_true rfl) (Nat.le_of_ble_eq_true rfl) rfl (s_needArg0 hL hX) ?_
    exact xth_out rfl (Nat.le_of_ble_eq_true rfl) (Nat.le_of_ble_eq_true rfl) ⟨rfl, rfl⟩
  · obtain ⟨_, e9, _⟩ := h9
    cases e9)
theorem s_readingTime (hL : L.stackTraces = false) {n : Int} (hr : yRg σ) (hn : 0 ≤ n ∧ n < 24) (h1 : n < σ 0 5) (h2 : σ (cu n) 0 = 1) (hc : 0 ≤ σ (cu n) 6 ∧ σ (cu n) 6 ≤ 12) (hw : ∀ j, 0 ≤ j → j < 12 → 0 ≤ σ (cw n) j) : xMet L O mX11_readingTime (xR 2 0 0) [.ref 0, .int (iI n)] (Wd σ X) (fun o G1 => o = .inl (some (.long (lI ((yLt (σ (cw n)) (σ (cu n) 6) + max 0 (σ (cu n) 6 - 1)) * 2000 + 300 * σ (cu n) 6)))) ∧ G1 = Wd σ X) := xMet_of (by decide) hL (Nat.le_of_ble_eq_true rfl) (by
  refine xw_eq rfl (l2 := [(0, .ref 0), (1, .int (iI n))]) rfl rfl rfl ?_
  refine xw_aload_n 0 dX11_readingTime_0 rfl ?_
  refine xw_iload_n 1 dX11_readingTime_1 rfl ?_
  refine yc_V (M' := mX11_cueOf) (d := 0) (c := 0) (s := 0) (As := [.int (iI n)]) (st := []) (v0 := some (.ref (cu n))) (G2 := Wd σ X) dX11_readingTime_2 okX11_cueOf (Or.inl w_503) (xBig_i is_0.1) (Wd_get is_0) ⟨by decide, rfl⟩ rfl (Nat.le_of_ble_eq_true rfl) (by decide) (by decide) (Nat.zero_le _) (Nat.zero_le _) rfl rfl (s_cueOf1 hL hr (by omega) (by omega) (by omega)) ?_
  refine xw_astore_n (l2 := [(0, .ref 0), (1, .int (iI n)), (2, .ref (cu n))]) dX11_readingTime_5 (by decide) rfl rfl ?_
  refine xz_iconst dX11_readingTime_6 ?_
  refine xw_aload_n 2 dX11_readingTime_7 rfl ?_
  have r1 := hr (cu n) 6
  refine yz_geti (z := 6) (v := σ (cu n) 6) (fo_X11_208 rfl) dX11_readingTime_8 (is_cu hn) rfl rfl rfl ?_
  refine xz_iconst dX11_readingTime_11 ?_
  refine xz_isub dX11_readingTime_12 ?_
  refine xz_mmax dX11_readingTime_13 w_578 (Nat.le_of_ble_eq_true rfl) (Nat.zero_le _) (Nat.zero_le _) (by omega) (by omega) ?_
  refine xz_i2l dX11_readingTime_16 (by omega) ?_
  refine xw_lstore_n (l2 := [(0, .ref 0), (1, .int (iI n)), (2, .ref (cu n)), (3, .long (lI (max 0 ((σ (cu n) 6) - 1))))]) dX11_readingTime_17 (by decide) rfl rfl ?_
  refine xw_aload_n 2 dX11_readingTime_18 rfl ?_
  refine xw_aload_n 2 dX11_readingTime_19 rfl ?_
  refine yz_geti (z := 6) (v := σ (cu n) 6) (fo_X11_208 rfl) dX11_readingTime_20 (is_cu hn) rfl rfl rfl ?_
  have b2 := yLt_bd (σ (cw n)) (j := σ (cu n) 6) (by omega)
  refine yc_V (M' := mX3_letters) (d := 1) (c := 0) (s := 0) (As := [.int (iI (σ (cu n) 6))]) (st := []) (v0 := some (.int (iI (yLt (σ (cw n)) (σ (cu n) 6))))) (G2 := Wd σ X) dX11_readingTime_23 okX3_letters (Or.inl w_579) (xBig_i (is_cu hn).1) (Wd_get (is_cu hn)) ⟨by decide, rfl⟩ rfl (Nat.le_of_ble_eq_true rfl) (by decide) (by decide) (Nat.zero_le _) (Nat.zero_le _) rfl rfl (s_X3_letters hL hr hn (by omega) hw) ?_
  refine xz_i2l dX11_readingTime_26 (by omega) ?_
  refine xw_lload_n 3 dX11_readingTime_27 rfl ?_
  refine xz_ladd dX11_readingTime_28 ?_
  refine xz_ldc2 (z := 2000) dX11_readingTime_29 w_584 (by decide) ?_
  refine xz_lmul dX11_readingTime_32 ?_
  refine xz_ldc2 (z := 300) dX11_readingTime_33 w_585 (by decide) ?_
  refine xw_aload_n 2 dX11_readingTime_36 rfl ?_
  refine yz_geti (z := 6) (v := σ (cu n) 6) (fo_X11_208 rfl) dX11_readingTime_37 (is_cu hn) rfl rfl rfl ?_
  refine xz_i2l dX11_readingTime_40 (by omega) ?_
  refine xz_lmul dX11_readingTime_41 ?_
  refine xz_ladd dX11_readingTime_42 ?_
  exact xw_lret dX11_readingTime_43 rfl (Nat.zero_le _) (Nat.zero_le _) ⟨rfl, rfl⟩)
theorem t_split (hL : L.stackTraces = false) (hX : X.length ≤ 1000000) {n a : Int} (hr : yRg σ) (hn : 0 ≤ n ∧ n < 24) (h1 : n < σ 0 5) (h2 : σ (cu n) 0 = 1) (ha : -2147483648 ≤ a ∧ a < 2147483648) (hb : a < 1 ∨ σ (cu n) 6 ≤ a) : xMet L O mX11_split (xR 2 1 6) [.ref 0, .int (iI n), .int (iI a)] (Wd σ X) (fun o G1 => o = .inr "java/lang/IllegalArgumentException" ∧ G1 = Wd σ (X ++ [(127, [])])) := xMet_of (by decide) hL (Nat.le_of_ble_eq_true rfl) (by
  refine xw_eq rfl (l2 := [(0, .ref 0), (1, .int (iI n)), (2, .int (iI a))]) rfl rfl rfl ?_
  refine xw_aload_n 0 dX11_split_0 rfl ?_
  refine xw_iload_n 1 dX11_split_1 rfl ?_
  refine yc_V (M' := mX11_cueOf) (d := 0) (c := 0) (s := 0) (As := [.int (iI n)]) (st := []) (v0 := some (.ref (cu n))) (G2 := Wd σ X) dX11_split_2 okX11_cueOf (Or.inl w_503) (xBig_i is_0.1) (Wd_get is_0) ⟨by decide, rfl⟩ rfl (Nat.le_of_ble_eq_true rfl) (by decide) (by decide) (Nat.zero_le _) (Nat.zero_le _) rfl rfl (s_cueOf1 hL hr (by omega) (by omega) (by omega)) ?_
  refine xw_astore_n (l2 := [(0, .ref 0), (1, .int (iI n)), (2, .int (iI a)), (3, .ref (cu n))]) dX11_split_5 (by decide) rfl rfl ?_
  refine xw_iload_n 2 dX11_split_6 rfl ?_
  refine xz_iconst dX11_split_7 ?_
  refine xz_icmp_lt (tgt := 23) dX11_split_8 (by decide) (by omega) (by omega) (fun c1 => ?_) (fun c1 => ?_)
  · refine xz_iconst dX11_split_23 ?_
    refine yc_ST (M' := mX11_needArgument) (d := 0) (c := 1) (s := 6) (As := [.int (iI 0)]) (st := []) (E := "java/lang/IllegalArgumentException") (G2 := Wd σ (X ++ [(127, [])])) dX11_split_24 okX11_needArgument (Or.inl w_749) rfl (Nat.le_of_ble_eq_true rfl) (by decide) (by decide) (Nat.le_of_ble_eq_true rfl) (Nat.le_of_ble_eq_true rfl) rfl (s_needArg0 hL hX) ?_
    exact xth_out rfl (Nat.le_of_ble_eq_true rfl) (Nat.le_of_ble_eq_true rfl) ⟨rfl, rfl⟩
  · refine xw_iload_n 2 dX11_split_11 rfl ?_
    refine xw_aload_n 3 dX11_split_12 rfl ?_
    have r2 := hr (cu n) 6
    refine yz_geti (z := 6) (v := σ (cu n) 6) (fo_X11_208 rfl) dX11_split_13 (is_cu hn) rfl rfl rfl ?_
    refine xz_icmp_ge (tgt := 23) dX11_split_16 (by decide) (by omega) (by omega) (fun c3 => ?_) (fun c3 => ?_)
    · refine xz_iconst dX11_split_23 ?_
      refine yc_ST (M' := mX11_needArgument) (d := 0) (c := 1) (s := 6) (As := [.int (iI 0)]) (st := []) (E := "java/lang/IllegalArgumentException") (G2 := Wd σ (X ++ [(127, [])])) dX11_split_24 okX11_needArgument (Or.inl w_749) rfl (Nat.le_of_ble_eq_true rfl) (by decide) (by decide) (Nat.le_of_ble_eq_true rfl) (Nat.le_of_ble_eq_true rfl) rfl (s_needArg0 hL hX) ?_
      exact xth_out rfl (Nat.le_of_ble_eq_true rfl) (Nat.le_of_ble_eq_true rfl) ⟨rfl, rfl⟩
    · exact absurd c3 (by omega))
theorem u_split (hL : L.stackTraces = false) (hX : X.length ≤ 1000000) {n a : Int} (hr : yRg σ) (hn : 0 ≤ n ∧ n < 24) (h1 : n < σ 0 5) (h2 : σ (cu n) 0 = 1) (ha : 1 ≤ a ∧ a < σ (cu n) 6) (hc : σ (cu n) 6 ≤ 12) (hl : σ (cu n) 2 - σ (cu n) 1 < 2) (hl0 : 0 ≤ σ (cu n) 2 - σ (cu n) 1) : xMet L O mX11_split (xR 2 1 6) [.ref 0, .int (iI n), .int (iI a)] (Wd σ X) (fun o G1 => o = .inr "java/lang/UnsupportedOperationException" ∧ G1 = Wd σ (X ++ [(127, [])])) := xMet_of (by decide) hL (Nat.le_of_ble_eq_true rfl) (by
  refine xw_eq rfl (l2 := [(0, .ref 0), (1, .int (iI n)), (2, .int (iI a))]) rfl rfl rfl ?_
  refine xw_aload_n 0 dX11_split_0 rfl ?_
  refine xw_iload_n 1 dX11_split_1 rfl ?_
  refine yc_V (M' := mX11_cueOf) (d := 0) (c := 0) (s := 0) (As := [.int (iI n)]) (st := []) (v0 := some (.ref (cu n))) (G2 := Wd σ X) dX11_split_2 okX11_cueOf (Or.inl w_503) (xBig_i is_0.1) (Wd_get is_0) ⟨by decide, rfl⟩ rfl (Nat.le_of_ble_eq_true rfl) (by decide) (by decide) (Nat.zero_le _) (Nat.zero_le _) rfl rfl (s_cueOf1 hL hr (by omega) (by omega) (by omega)) ?_
  refine xw_astore_n (l2 := [(0, .ref 0), (1, .int (iI n)), (2, .int (iI a)), (3, .ref (cu n))]) dX11_split_5 (by decide) rfl rfl ?_
  refine xw_iload_n 2 dX11_split_6 rfl ?_
  refine xz_iconst dX11_split_7 ?_
  refine xz_icmp_lt (tgt := 23) dX11_split_8 (by decide) (by omega) (by omega) (fun c1 => ?_) (fun c1 => ?_)
  · exact absurd c1 (by omega)
  · refine xw_iload_n 2 dX11_split_11 rfl ?_
    refine xw_aload_n 3 dX11_split_12 rfl ?_
    have r2 := hr (cu n) 6
    refine yz_geti (z := 6) (v := σ (cu n) 6) (fo_X11_208 rfl) dX11_split_13 (is_cu hn) rfl rfl rfl ?_
    refine xz_icmp_ge (tgt := 23) dX11_split_16 (by decide) (by omega) (by omega) (fun c3 => ?_) (fun c3 => ?_)
    · exact absurd c3 (by omega)
    · refine xz_iconst dX11_split_19 ?_
      refine xw_goto (tgt := 24) dX11_split_20 (by decide) ?_
      refine yc_S (M' := mX11_needArgument) (d := 0) (c := 0) (s := 0) (As := [.int (iI 1)]) (st := []) (v0 := none) (G2 := Wd σ X) dX11_split_24 okX11_needArgument (Or.inl w_749) rfl (Nat.le_of_ble_eq_true rfl) (by decide) (by decide) (Nat.zero_le _) (Nat.zero_le _) rfl rfl (s_needArg1 hL) ?_
      refine xw_aload_n 3 dX11_split_27 rfl ?_
      refine yc_V (M' := mX3_length) (d := 0) (c := 0) (s := 0) (As := []) (st := []) (v0 := some (.int (iI (σ (cu n) 2 - σ (cu n) 1)))) (G2 := Wd σ X) dX11_split_28 okX3_length (Or.inl w_590) (xBig_i (is_cu hn).1) (Wd_get (is_cu hn)) ⟨by decide, rfl⟩ rfl (Nat.le_of_ble_eq_true rfl) (by decide) (by decide) (Nat.zero_le _) (Nat.zero_le _) rfl rfl (s_X3_length hL hr hn) ?_
      refine xz_iconst dX11_split_31 ?_
      refine xz_icmp_ge (tgt := 46) dX11_split_32 (by decide) (by omega) (by omega) (fun c4 => ?_) (fun c4 => ?_)
      · exact absurd c4 (by omega)
      · exact yt_X11_294_296_298 rfl dX11_split_35 dX11_split_38 dX11_split_39 dX11_split_42 dX11_split_45 rfl (Nat.le_of_ble_eq_true rfl) (Nat.le_of_ble_eq_true rfl) (Nat.le_of_ble_eq_true rfl) hX ⟨rfl, rfl⟩)
theorem t_merge (hL : L.stackTraces = false) (hX : X.length ≤ 1000000) {n : Int} (hr : yRg σ) (hn : 0 ≤ n ∧ n < 24) (h1 : n < σ 0 5) (h2 : σ (cu n) 0 = 1) : xMet L O mX11_merge (xR 3 1 6) [.ref 0, .int (iI n), .int (iI n)] (Wd σ X) (fun o G1 => o = .inr "java/lang/IllegalArgumentException" ∧ G1 = Wd σ (X ++ [(127, [])])) := xMet_of (by decide) hL (Nat.le_of_ble_eq_true rfl) (by
  refine xw_eq rfl (l2 := [(0, .ref 0), (1, .int (iI n)), (2, .int (iI n))]) rfl rfl rfl ?_
  refine xw_aload_n 0 dX11_merge_0 rfl ?_
  refine xw_iload_n 1 dX11_merge_1 rfl ?_
  refine yc_V (M' := mX11_cueOf) (d := 0) (c := 0) (s := 0) (As := [.int (iI n)]) (st := []) (v0 := some (.ref (cu n))) (G2 := Wd σ X) dX11_merge_2 okX11_cueOf (Or.inl w_503) (xBig_i is_0.1) (Wd_get is_0) ⟨by decide, rfl⟩ rfl (Nat.le_of_ble_eq_true rfl) (by decide) (by decide) (Nat.zero_le _) (Nat.zero_le _) rfl rfl (s_cueOf1 hL hr (by omega) (by omega) (by omega)) ?_
  refine xw_astore_n (l2 := [(0, .ref 0), (1, .int (iI n)), (2, .int (iI n)), (3, .ref (cu n))]) dX11_merge_5 (by decide) rfl rfl ?_
  refine xw_aload_n 0 dX11_merge_6 rfl ?_
  refine xw_iload_n 2 dX11_merge_7 rfl ?_
  refine yc_V (M' := mX11_cueOf) (d := 0) (c := 0) (s := 0) (As := [.int (iI n)]) (st := []) (v0 := some (.ref (cu n))) (G2 := Wd σ X) dX11_merge_8 okX11_cueOf (Or.inl w_503) (xBig_i is_0.1) (Wd_get is_0) ⟨by decide, rfl⟩ rfl (Nat.le_of_ble_eq_true rfl) (by decide) (by decide) (Nat.zero_le _) (Nat.zero_le _) rfl rfl (s_cueOf1 hL hr (by omega) (by omega) (by omega)) ?_
  refine xw_astore (l2 := [(0, .ref 0), (1, .int (iI n)), (2, .int (iI n)), (3, .ref (cu n)), (4, .ref (cu n))]) dX11_merge_11 (by decide) rfl rfl ?_
  refine xw_iload_n 1 dX11_merge_13 rfl ?_
  refine xw_iload_n 2 dX11_merge_14 rfl ?_
  refine xz_icmp_eq (tgt := 34) dX11_merge_15 (by decide) (by omega) (by omega) (fun c1 => ?_) (fun c1 => ?_)
  · refine xz_iconst dX11_merge_34 ?_
    refine yc_ST (M' := mX11_needArgument) (d := 0) (c := 1) (s := 6) (As := [.int (iI 0)]) (st := []) (E := "java/lang/IllegalArgumentException") (G2 := Wd σ (X ++ [(127, [])])) dX11_merge_35 okX11_needArgument (Or.inl w_749) rfl (Nat.le_of_ble_eq_true rfl) (by decide) (by decide) (Nat.le_of_ble_eq_true rfl) (Nat.le_of_ble_eq_true rfl) rfl (s_needArg0 hL hX) ?_
    exact xth_out rfl (Nat.le_of_ble_eq_true rfl) (Nat.le_of_ble_eq_true rfl) ⟨rfl, rfl⟩
  · exact absurd rfl c1)
end Y27

theorem xw_join {L : Launch} {O : xWd} {M : xMd} {R : Room} {K : xOc → List xOb → Prop} {pc J cs ns c1 n1 : Nat} {ls : List (Nat × Value)} {st : List Value} {G : List xOb} {α : Type} {P : α → Prop} {ls' : α → List (Nat × Value)} {st' : α → List Value} {G' : α → List xOb}
    (h : ∀ z, P z → xWP L O M R K J (ls' z) (st' z) (G' z) c1 n1) (k : (∀ z, P z → xWP L O M R K J (ls' z) (st' z) (G' z) c1 n1) → xWP L O M R K pc ls st G cs ns) : xWP L O M R K pc ls st G cs ns := k h
theorem yup_n {σ : ySg} {i a : Nat} {k v b : Int} (h : ¬ (a = i ∧ b = k)) : yup σ i k v a b = σ a b := if_neg h
def yRg (σ : ySg) : Prop := ∀ a b, -2147483648 ≤ σ a b ∧ σ a b < 2147483648
theorem yRg_up {σ : ySg} {i : Nat} {k v : Int} (h : yRg σ) (hv : -2147483648 ≤ v ∧ v < 2147483648) : yRg (yup σ i k v) := by
  intro a b
  unfold yup
  split
  · exact hv
  · exact h a b
/-- an array is filled -/
def yfl (σ : ySg) (i : Nat) (n v : Int) : ySg := fun a b => if a = i ∧ 0 ≤ b ∧ b < n then v else σ a b
theorem yfl_i {σ : ySg} {i a : Nat} {n v b : Int} (h : a ≠ i) : yfl σ i n v a b = σ a b := if_neg (fun q => h q.1)
theorem yfl_s {σ : ySg} {i : Nat} {n v b : Int} (h : 0 ≤ b ∧ b < n) : yfl σ i n v i b = v := if_pos ⟨rfl, h⟩
theorem yRg_fl {σ : ySg} {i : Nat} {n v : Int} (h : yRg σ) (hv : -2147483648 ≤ v ∧ v < 2147483648) : yRg (yfl σ i n v) := by
  intro a b
  unfold yfl
  split
  · exact hv
  · exact h a b
theorem Wd_fill {σ : ySg} {X : List xOb} {i n : Nat} {v : Int} (h : yIs i 64 (List.replicate n none)) : (Wd σ X).set i (64, List.replicate n (.int (iI v))) = Wd (yfl σ i n v) X := by
  have hi := h.1
  refine List.ext_getElem? fun j => ?_
  by_cases e : j = i
  · subst e
    rw [List.getElem?_set_self (by rw [Wd_len]; omega), Wd_get h]
    refine congrArg some (congrArg (Prod.mk 64) ?_)
    refine List.ext_getElem? fun k => ?_
    by_cases c : k < n
    · rw [List.getElem?_replicate, if_pos c, ySl_get (rep_get c)]
      show some (Value.int (iI v)) = some (Value.int (iI (yfl σ j n v j (k : Int))))
      rw [yfl_s ⟨by omega, by omega⟩]
    · rw [List.getElem?_eq_none (by rw [List.length_replicate]; omega), List.getElem?_eq_none (by rw [yrl]; omega)]
  · rw [List.getElem?_set_ne (Ne.symm e)]
    by_cases c : j < 193
    · have hj : yIs j (ySk j).1 (ySk j).2 := ⟨c, rfl⟩
      rw [Wd_get hj, Wd_get hj]
      refine congrArg some (congrArg (Prod.mk _) (congrArg (fun s => ySl s _) (funext fun b => ?_)))
      exact (yfl_i e).symm
    · rw [Wd_getX (by omega), Wd_getX (by omega)]
section Y15
variable {L : Launch} {O : xWd} {K : xOc → List xOb → Prop} {σ : ySg} {X : List xOb} {G : List xOb}

theorem fill_step {vs : List Value} {v : Value} {j : Nat} (h : j < vs.length) : (List.replicate j v ++ vs.drop j).set j v = List.replicate (j + 1) v ++ vs.drop (j + 1) := by
  rw [List.set_append_right _ _ (by rw [List.length_replicate]; exact Nat.le_refl _), List.length_replicate, Nat.sub_self, List.drop_eq_getElem_cons h, List.set_cons_zero, List.replicate_succ', List.append_assoc]
  rfl
theorem l_J7_fill {i : Nat} {vs : List Value} {v : Int} (hi : G[i]? = some (64, vs)) (hlen : vs.length < 100000) (j : Nat) (hj : j ≤ vs.length)
    (kx : xWP L O mJ7_fill_53178 (xR 0 0 0) K 20 [(0, .ref i), (1, .int (iI v)), (2, .int (iI vs.length)), (3, .int (iI vs.length))] [] (G.set i (64, List.replicate vs.length (.int (iI v)))) 0 0) :
    xWP L O mJ7_fill_53178 (xR 0 0 0) K 5 [(0, .ref i), (1, .int (iI v)), (2, .int (iI j)), (3, .int (iI vs.length))] [] (G.set i (64, List.replicate j (.int (iI v)) ++ vs.drop j)) 0 0 := by
  refine xw_iload_n 2 dJ7_fill_53178_5 rfl ?_
  refine xw_iload_n 3 dJ7_fill_53178_6 rfl ?_
  refine xz_icmp_ge (tgt := 20) dJ7_fill_53178_7 (by decide) (by omega) (by omega) (fun c1 => ?_) (fun c1 => ?_)
  · have e : j = vs.length := by omega
    subst e
    rw [List.drop_length, List.append_nil]
    exact kx
  · refine xw_big fun hb => ?_
    rw [List.length_set] at hb
    have hlt := (List.getElem?_eq_some_iff.mp hi).1
    refine xw_aload_n 0 dJ7_fill_53178_10 rfl ?_
    refine xw_iload_n 2 dJ7_fill_53178_11 rfl ?_
    refine xw_iload_n 1 dJ7_fill_53178_12 rfl ?_
    refine xw_iast (j := j) (by omega) dJ7_fill_53178_13 rfl (List.getElem?_set_self hlt) rfl (by rw [List.length_append, List.length_replicate, List.length_drop]; omega) (by rw [List.length_append, List.length_replicate, List.length_drop]; omega) ?_
    rw [List.set_set, fill_step (by omega)]
    refine xz_iinc (l2 := [(0, .ref i), (1, .int (iI v)), (2, .int (iI ((j + 1 : Nat) : Int))), (3, .int (iI vs.length))]) 2 dJ7_fill_53178_14 rfl (by decide) rfl (by rw [Int.natCast_succ]; rfl) ?_
    refine xw_goto (tgt := 5) dJ7_fill_53178_17 (by decide) ?_
    exact l_J7_fill hi hlen (j + 1) (by omega) kx
termination_by vs.length - j
theorem s_J7_fill (hL : L.stackTraces = false) {i : Nat} {vs : List Value} {v : Int} (hi : G[i]? = some (64, vs)) (hlen : vs.length < 100000) : xMet L O mJ7_fill_53178 (xR 0 0 0) [.ref i, .int (iI v)] G (fun o G1 => o = .inl none ∧ G1 = G.set i (64, List.replicate vs.length (.int (iI v)))) := xMet_of (by decide) hL (Nat.le_of_ble_eq_true rfl) (by
  refine xw_big fun hb => ?_
  have hlt := (List.getElem?_eq_some_iff.mp hi).1
  refine xw_eq rfl (l2 := [(0, .ref i), (1, .int (iI v))]) rfl rfl rfl ?_
  refine xz_iconst dJ7_fill_53178_0 ?_
  refine xw_istore_n (l2 := [(0, .ref i), (1, .int (iI v)), (2, .int (iI 0))]) dJ7_fill_53178_1 (by decide) rfl rfl ?_
  refine xw_aload_n 0 dJ7_fill_53178_2 rfl ?_
  refine xz_alen 0 (n := vs.length) (by omega) dJ7_fill_53178_3 (by decide) rfl hi rfl ?_
  refine xw_istore_n (l2 := [(0, .ref i), (1, .int (iI v)), (2, .int (iI 0)), (3, .int (iI vs.length))]) dJ7_fill_53178_4 (by decide) rfl rfl ?_
  have e : G = G.set i (64, List.replicate 0 (.int (iI v)) ++ vs.drop 0) := by
    refine List.ext_getElem? fun q => ?_
    by_cases c : q = i
    · subst c
      rw [List.getElem?_set_self hlt, hi]
      rfl
    · rw [List.getElem?_set_ne (Ne.symm c)]
  refine xw_eq rfl rfl rfl e ?_
  refine l_J7_fill hi hlen 0 (Nat.zero_le _) ?_
  exact xw_vret dJ7_fill_53178_20 rfl (Nat.zero_le _) (Nat.zero_le _) ⟨rfl, rfl⟩)
theorem s_fillW (hL : L.stackTraces = false) {i n : Nat} {v : Int} (h : yIs i 64 (List.replicate n none)) (hn : n < 100000) : xMet L O mJ7_fill_53178 (xR 0 0 0) [.ref i, .int (iI v)] (Wd σ X) (fun o G1 => o = .inl none ∧ G1 = Wd (yfl σ i n v) X) := by
  have h1 := s_J7_fill (O := O) hL (G := Wd σ X) (v := v) (Wd_get h) (by rw [yrl]; exact hn)
  rw [yrl, Wd_fill h] at h1
  exact h1
theorem s_isIn1 (hL : L.stackTraces = false) {a b c : Int} (ha : -2147483648 ≤ a ∧ a < 2147483648) (hb : -2147483648 ≤ b ∧ b < 2147483648) (hc : -2147483648 ≤ c ∧ c < 2147483648) (h1 : b ≤ a ∧ a ≤ c) : xMet L O mX11_isIn (xR 0 0 0) [.int (iI a), .int (iI b), .int (iI c)] (G) (fun o G1 => o = .inl (some (.int (iI 1))) ∧ G1 = G) := xMet_of (by decide) hL (Nat.le_of_ble_eq_true rfl) (by
  refine xw_eq rfl (l2 := [(0, .int (iI a)), (1, .int (iI b)), (2, .int (iI c))]) rfl rfl rfl ?_
  refine xw_iload_n 0 dX11_isIn_0 rfl ?_
  refine xw_iload_n 1 dX11_isIn_1 rfl ?_
  refine xz_icmp_lt (tgt := 14) dX11_isIn_2 (by decide) (by omega) (by omega) (fun c1 => ?_) (fun c1 => ?_)
  · exact absurd c1 (by omega)
  · refine xw_iload_n 0 dX11_isIn_5 rfl ?_
    refine xw_iload_n 2 dX11_isIn_6 rfl ?_
    refine xz_icmp_gt (tgt := 14) dX11_isIn_7 (by decide) (by omega) (by omega) (fun c2 => ?_) (fun c2 => ?_)
    · exact absurd c2 (by omega)
    · refine xz_iconst dX11_isIn_10 ?_
      refine xw_goto (tgt := 15) dX11_isIn_11 (by decide) ?_
      exact xz_zret dX11_isIn_15 rfl (Or.inr rfl) (Nat.zero_le _) (Nat.zero_le _) ⟨rfl, rfl⟩)
theorem s_isIn0 (hL : L.stackTraces = false) {a b c : Int} (ha : -2147483648 ≤ a ∧ a < 2147483648) (hb : -2147483648 ≤ b ∧ b < 2147483648) (hc : -2147483648 ≤ c ∧ c < 2147483648) (h1 : a < b ∨ c < a) : xMet L O mX11_isIn (xR 0 0 0) [.int (iI a), .int (iI b), .int (iI c)] (G) (fun o G1 => o = .inl (some (.int (iI 0))) ∧ G1 = G) := xMet_of (by decide) hL (Nat.le_of_ble_eq_true rfl) (by
  refine xw_eq rfl (l2 := [(0, .int (iI a)), (1, .int (iI b)), (2, .int (iI c))]) rfl rfl rfl ?_
  refine xw_iload_n 0 dX11_isIn_0 rfl ?_
  refine xw_iload_n 1 dX11_isIn_1 rfl ?_
  refine xz_icmp_lt (tgt := 14) dX11_isIn_2 (by decide) (by omega) (by omega) (fun c1 => ?_) (fun c1 => ?_)
  · refine xz_iconst dX11_isIn_14 ?_
    exact xz_zret dX11_isIn_15 rfl (Or.inl rfl) (Nat.zero_le _) (Nat.zero_le _) ⟨rfl, rfl⟩
  · refine xw_iload_n 0 dX11_isIn_5 rfl ?_
    refine xw_iload_n 2 dX11_isIn_6 rfl ?_
    refine xz_icmp_gt (tgt := 14) dX11_isIn_7 (by decide) (by omega) (by omega) (fun c2 => ?_) (fun c2 => ?_)
    · refine xz_iconst dX11_isIn_14 ?_
      exact xz_zret dX11_isIn_15 rfl (Or.inl rfl) (Nat.zero_le _) (Nat.zero_le _) ⟨rfl, rfl⟩
    · exact absurd c2 (by omega))
theorem s_needArg1 (hL : L.stackTraces = false) : xMet L O mX11_needArgument (xR 0 0 0) [.int (iI 1)] (Wd σ X) (fun o G1 => o = .inl none ∧ G1 = Wd σ X) := xMet_of (by decide) hL (Nat.le_of_ble_eq_true rfl) (by
  refine xw_eq rfl (l2 := [(0, .int (iI 1))]) rfl rfl rfl ?_
  refine xw_iload_n 0 dX11_needArgument_0 rfl ?_
  refine xz_if_ne (tgt := 15) dX11_needArgument_1 (by decide) (by omega) (fun c1 => ?_) (fun c1 => ?_)
  · exact xw_vret dX11_needArgument_15 rfl (Nat.zero_le _) (Nat.zero_le _) ⟨rfl, rfl⟩
  · exact absurd c1 (by omega))
theorem s_needArg0 (hL : L.stackTraces = false) (hX : X.length ≤ 1000000) : xMet L O mX11_needArgument (xR 0 1 6) [.int (iI 0)] (Wd σ X) (fun o G1 => o = .inr "java/lang/IllegalArgumentException" ∧ G1 = Wd σ (X ++ [(127, [])])) := xMet_of (by decide) hL (Nat.le_of_ble_eq_true rfl) (by
  refine xw_eq rfl (l2 := [(0, .int (iI 0))]) rfl rfl rfl ?_
  refine xw_iload_n 0 dX11_needArgument_0 rfl ?_
  refine xz_if_ne (tgt := 15) dX11_needArgument_1 (by decide) (by omega) (fun c1 => ?_) (fun c1 => ?_)
  · exact absurd c1 (by omega)
  · exact yt_X11_79_396_83 rfl dX11_needArgument_4 dX11_needArgument_7 dX11_needArgument_8 dX11_needArgument_11 dX11_needArgument_14 rfl (Nat.le_of_ble_eq_true rfl) (Nat.le_of_ble_eq_true rfl) (Nat.le_of_ble_eq_true rfl) hX ⟨rfl, rfl⟩)
theorem s_needFrame1 (hL : L.stackTraces = false) {a : Int} (ha : 0 ≤ a ∧ a ≤ 99999) : xMet L O mX11_needFrame (xR 1 0 0) [.int (iI a)] (Wd σ X) (fun o G1 => o = .inl none ∧ G1 = Wd σ X) := xMet_of (by decide) hL (Nat.le_of_ble_eq_true rfl) (by
  refine xw_eq rfl (l2 := [(0, .int (iI a))]) rfl rfl rfl ?_
  refine xw_iload_n 0 dX11_needFrame_0 rfl ?_
  refine xz_iconst dX11_needFrame_1 ?_
  refine xz_ldcw (z := 99999) dX11_needFrame_2 w_728 (by decide) ?_
  refine yc_S (M' := mX11_isIn) (d := 0) (c := 0) (s := 0) (As := [.int (iI a), .int (iI 0), .int (iI 99999)]) (st := []) (v0 := some (.int (iI 1))) (G2 := Wd σ X) dX11_needFrame_5 okX11_isIn (Or.inl w_729) rfl (Nat.le_of_ble_eq_true rfl) (by decide) (by decide) (Nat.zero_le _) (Nat.zero_le _) rfl rfl (s_isIn1 hL (by omega) (by decide) (by decide) (by omega)) ?_
  refine xz_if_ne (tgt := 22) dX11_needFrame_8 (by decide) (by omega) (fun c1 => ?_) (fun c1 => ?_)
  · exact xw_vret dX11_needFrame_22 rfl (Nat.zero_le _) (Nat.zero_le _) ⟨rfl, rfl⟩
  · exact absurd c1 (by omega))
theorem s_needFrame0 (hL : L.stackTraces = false) (hX : X.length ≤ 1000000) {a : Int} (hr : -2147483648 ≤ a ∧ a < 2147483648) (ha : a < 0 ∨ 99999 < a) : xMet L O mX11_needFrame (xR 1 1 6) [.int (iI a)] (Wd σ X) (fun o G1 => o = .inr "java/lang/IllegalArgumentException" ∧ G1 = Wd σ (X ++ [(127, [])])) := xMet_of (by decide) hL (Nat.le_of_ble_eq_true rfl) (by
  refine xw_eq rfl (l2 := [(0, .int (iI a))]) rfl rfl rfl ?_
  refine xw_iload_n 0 dX11_needFrame_0 rfl ?_
  refine xz_iconst dX11_needFrame_1 ?_
  refine xz_ldcw (z := 99999) dX11_needFrame_2 w_728 (by decide) ?_
  refine yc_S (M' := mX11_isIn) (d := 0) (c := 0) (s := 0) (As := [.int (iI a), .int (iI 0), .int (iI 99999)]) (st := []) (v0 := some (.int (iI 0))) (G2 := Wd σ X) dX11_needFrame_5 okX11_isIn (Or.inl w_729) rfl (Nat.le_of_ble_eq_true rfl) (by decide) (by decide) (Nat.zero_le _) (Nat.zero_le _) rfl rfl (s_isIn0 hL (by omega) (by decide) (by decide) (by omega)) ?_
  refine xz_if_ne (tgt := 22) dX11_needFrame_8 (by decide) (by omega) (fun c1 => ?_) (fun c1 => ?_)
  · exact absurd c1 (by omega)
  · exact yt_X11_79_398_83 rfl dX11_needFrame_11 dX11_needFrame_14 dX11_needFrame_15 dX11_needFrame_18 dX11_needFrame_21 rfl (Nat.le_of_ble_eq_true rfl) (Nat.le_of_ble_eq_true rfl) (Nat.le_of_ble_eq_true rfl) hX ⟨rfl, rfl⟩)
theorem s_needRoom1 (hL : L.stackTraces = false) (hr : yRg σ) (h : σ 0 5 < 24) : xMet L O mX11_needRoomForCue (xR 0 0 0) [.ref 0] (Wd σ X) (fun o G1 => o = .inl none ∧ G1 = Wd σ X) := xMet_of (by decide) hL (Nat.le_of_ble_eq_true rfl) (by
  refine xw_eq rfl (l2 := [(0, .ref 0)]) rfl rfl rfl ?_
  refine xw_aload_n 0 dX11_needRoomForCue_0 rfl ?_
  have r1 := hr 0 5
  refine yz_geti (z := 5) (v := σ 0 5) (fo_X11_402 rfl) dX11_needRoomForCue_1 is_0 rfl rfl rfl ?_
  refine xz_bipush dX11_needRoomForCue_4 (by decide) ?_
  refine xz_icmp_lt (tgt := 20) dX11_needRoomForCue_6 (by decide) (by omega) (by omega) (fun c2 => ?_) (fun c2 => ?_)
  · exact xw_vret dX11_needRoomForCue_20 rfl (Nat.zero_le _) (Nat.zero_le _) ⟨rfl, rfl⟩
  · exact absurd c2 (by omega))
theorem s_cueOf1 (hL : L.stackTraces = false) (hr : yRg σ) {n : Int} (hn : 0 ≤ n ∧ n < 24) (h1 : n < σ 0 5) (h2 : σ (cu n) 0 = 1) : xMet L O mX11_cueOf (xR 0 0 0) [.ref 0, .int (iI n)] (Wd σ X) (fun o G1 => o = .inl (some (.ref (cu n))) ∧ G1 = Wd σ X) := xMet_of (by decide) hL (Nat.le_of_ble_eq_true rfl) (by
  refine xw_eq rfl (l2 := [(0, .ref 0), (1, .int (iI n))]) rfl rfl rfl ?_
  refine xw_iload_n 1 dX11_cueOf_0 rfl ?_
  refine xz_if_lt (tgt := 30) dX11_cueOf_1 (by decide) (by omega) (fun c1 => ?_) (fun c1 => ?_)
  · exact absurd c1 (by omega)
  · refine xw_iload_n 1 dX11_cueOf_4 rfl ?_
    refine xw_aload_n 0 dX11_cueOf_5 rfl ?_
    have r2 := hr 0 5
    refine yz_geti (z := 5) (v := σ 0 5) (fo_X11_402 rfl) dX11_cueOf_6 is_0 rfl rfl rfl ?_
    refine xz_icmp_ge (tgt := 30) dX11_cueOf_9 (by decide) (by omega) (by omega) (fun c3 => ?_) (fun c3 => ?_)
    · exact absurd c3 (by omega)
    · refine xw_iload_n 1 dX11_cueOf_12 rfl ?_
      refine xz_bipush dX11_cueOf_13 (by decide) ?_
      refine xz_icmp_ge (tgt := 30) dX11_cueOf_15 (by decide) (by omega) (by omega) (fun c4 => ?_) (fun c4 => ?_)
      · exact absurd c4 (by omega)
      · refine xw_aload_n 0 dX11_cueOf_18 rfl ?_
        refine yz_getr (fo_X11_37 rfl) dX11_cueOf_19 is_0 rfl ?_
        refine xw_iload_n 1 dX11_cueOf_22 rfl ?_
        refine yz_aald 3 dX11_cueOf_23 (by decide) rfl rfl is_21 (by omega) (by decide) (ks21_get (by omega)) ?_
        have r5 := hr (cu n) 0
        refine yz_geti (z := 0) (v := σ (cu n) 0) (fo_X11_218 rfl) dX11_cueOf_24 (is_cu (by omega)) rfl rfl rfl ?_
        refine xz_if_ne (tgt := 41) dX11_cueOf_27 (by decide) (by omega) (fun c6 => ?_) (fun c6 => ?_)
        · refine xw_aload_n 0 dX11_cueOf_41 rfl ?_
          refine yz_getr (fo_X11_37 rfl) dX11_cueOf_42 is_0 rfl ?_
          refine xw_iload_n 1 dX11_cueOf_45 rfl ?_
          refine yz_aald 3 dX11_cueOf_46 (by decide) rfl rfl is_21 (by omega) (by decide) (ks21_get (by omega)) ?_
          exact xz_aret dX11_cueOf_47 rfl (Or.inl ⟨_, rfl⟩) (Nat.zero_le _) (Nat.zero_le _) ⟨rfl, rfl⟩
        · exact absurd c6 (by omega))
theorem s_counted (hL : L.stackTraces = false) {a : Int} (ha : 0 ≤ a ∧ a ≤ 99999) : xMet L O mX11_countedWithDropped (xR 0 0 0) [.int (iI a)] (Wd σ X) (fun o G1 => ∃ z : Int, o = .inl (some (.int (iI z))) ∧ ((a % 17982 < 1800 ∧ z = a + 2 * (9 * (a / 17982))) ∨ (1800 ≤ a % 17982 ∧ z = a + 2 * (9 * (a / 17982) + (1 + (a % 17982 - 1800) / 1798)))) ∧ G1 = Wd σ X) := xMet_of (by decide) hL (Nat.le_of_ble_eq_true rfl) (by
  refine xw_eq rfl (l2 := [(0, .int (iI a))]) rfl rfl rfl ?_
  refine xw_iload_n 0 dX11_countedWithDropped_0 rfl ?_
  refine xz_sipush dX11_countedWithDropped_1 (by decide) ?_
  refine xz_idiv dX11_countedWithDropped_4 (by omega) (by decide) ?_
  refine xw_istore_n (l2 := [(0, .int (iI a)), (1, .int (iI (a / 17982)))]) dX11_countedWithDropped_5 (by decide) rfl rfl ?_
  refine xw_iload_n 0 dX11_countedWithDropped_6 rfl ?_
  refine xz_sipush dX11_countedWithDropped_7 (by decide) ?_
  refine xz_irem dX11_countedWithDropped_10 (by omega) (by decide) ?_
  refine xw_istore_n (l2 := [(0, .int (iI a)), (1, .int (iI (a / 17982))), (2, .int (iI (a % 17982)))]) dX11_countedWithDropped_11 (by decide) rfl rfl ?_
  refine xw_iload_n 2 dX11_countedWithDropped_12 rfl ?_
  refine xz_sipush dX11_countedWithDropped_13 (by decide) ?_
  refine xz_icmp_ge (tgt := 23) dX11_countedWithDropped_16 (by decide) (by omega) (by omega) (fun c1 => ?_) (fun c1 => ?_)
  · refine xz_iconst dX11_countedWithDropped_23 ?_
    refine xw_iload_n 2 dX11_countedWithDropped_24 rfl ?_
    refine xz_sipush dX11_countedWithDropped_25 (by decide) ?_
    refine xz_isub dX11_countedWithDropped_28 ?_
    refine xz_sipush dX11_countedWithDropped_29 (by decide) ?_
    refine xz_idiv dX11_countedWithDropped_32 (by omega) (by decide) ?_
    refine xz_iadd dX11_countedWithDropped_33 ?_
    refine xw_istore_n (l2 := [(0, .int (iI a)), (1, .int (iI (a / 17982))), (2, .int (iI (a % 17982))), (3, .int (iI (1 + (((a % 17982) - 1800) / 1798))))]) dX11_countedWithDropped_34 (by decide) rfl rfl ?_
    refine xw_iload_n 0 dX11_countedWithDropped_35 rfl ?_
    refine xz_iconst dX11_countedWithDropped_36 ?_
    refine xz_bipush dX11_countedWithDropped_37 (by decide) ?_
    refine xw_iload_n 1 dX11_countedWithDropped_39 rfl ?_
    refine xz_imul dX11_countedWithDropped_40 ?_
    refine xw_iload_n 3 dX11_countedWithDropped_41 rfl ?_
    refine xz_iadd dX11_countedWithDropped_42 ?_
    refine xz_imul dX11_countedWithDropped_43 ?_
    refine xz_iadd dX11_countedWithDropped_44 ?_
    exact xz_iret dX11_countedWithDropped_45 rfl (Nat.zero_le _) (Nat.zero_le _) ⟨_, rfl, by omega, rfl⟩
  · refine xz_iconst dX11_countedWithDropped_19 ?_
    refine xw_goto (tgt := 34) dX11_countedWithDropped_20 (by decide) ?_
    refine xw_istore_n (l2 := [(0, .int (iI a)), (1, .int (iI (a / 17982))), (2, .int (iI (a % 17982))), (3, .int (iI 0))]) dX11_countedWithDropped_34 (by decide) rfl rfl ?_
    refine xw_iload_n 0 dX11_countedWithDropped_35 rfl ?_
    refine xz_iconst dX11_countedWithDropped_36 ?_
    refine xz_bipush dX11_countedWithDropped_37 (by decide) ?_
    refine xw_iload_n 1 dX11_countedWithDropped_39 rfl ?_
    refine xz_imul dX11_countedWithDropped_40 ?_
    refine xw_iload_n 3 dX11_countedWithDropped_41 rfl ?_
    refine xz_iadd dX11_countedWithDropped_42 ?_
    refine xz_imul dX11_countedWithDropped_43 ?_
    refine xz_iadd dX11_countedWithDropped_44 ?_
    exact xz_iret dX11_countedWithDropped_45 rfl (Nat.zero_le _) (Nat.zero_le _) ⟨_, rfl, by omega, rfl⟩)
theorem s_X3_length (hL : L.stackTraces = false) {n : Int} (hr : yRg σ) (hn : 0 ≤ n ∧ n < 24) : xMet L O mX3_length (xR 0 0 0) [.ref (cu n)] (Wd σ X) (fun o G1 => o = .inl (some (.int (iI (σ (cu n) 2 - σ (cu n) 1)))) ∧ G1 = Wd σ X) := xMet_of (by decide) hL (Nat.le_of_ble_eq_true rfl) (by
  refine xw_eq rfl (l2 := [(0, .ref (cu n))]) rfl rfl rfl ?_
  refine xw_aload_n 0 dX3_length_0 rfl ?_
  have r1 := hr (cu n) 2
  refine yz_geti (z := 2) (v := σ (cu n) 2) (fo_X3_25 rfl) dX3_length_1 (is_cu (by omega)) rfl rfl rfl ?_
  refine xw_aload_n 0 dX3_length_4 rfl ?_
  have r2 := hr (cu n) 1
  refine yz_geti (z := 1) (v := σ (cu n) 1) (fo_X3_28 rfl) dX3_length_5 (is_cu (by omega)) rfl rfl rfl ?_
  refine xz_isub dX3_length_8 ?_
  exact xz_iret dX3_length_9 rfl (Nat.zero_le _) (Nat.zero_le _) ⟨rfl, rfl⟩)
theorem s_X3_lettersOf (hL : L.stackTraces = false) {n z : Int} (hr : yRg σ) (hn : 0 ≤ n ∧ n < 24) (hz : 0 ≤ z ∧ z < 12) (h0 : 0 ≤ σ (cw n) z) : xMet L O mX3_lettersOf (xR 0 0 0) [.ref (cu n), .int (iI z)] (Wd σ X) (fun o G1 => o = .inl (some (.int (iI (1 + σ (cw n) z % 9)))) ∧ G1 = Wd σ X) := xMet_of (by decide) hL (Nat.le_of_ble_eq_true rfl) (by
  refine xw_eq rfl (l2 := [(0, .ref (cu n)), (1, .int (iI z))]) rfl rfl rfl ?_
  refine xw_iload_n 1 dX3_lettersOf_0 rfl ?_
  refine xz_if_lt (tgt := 24) dX3_lettersOf_1 (by decide) (by omega) (fun c1 => ?_) (fun c1 => ?_)
  · exact absurd c1 (by omega)
  · refine xw_iload_n 1 dX3_lettersOf_4 rfl ?_
    refine xz_bipush dX3_lettersOf_5 (by decide) ?_
    refine xz_icmp_ge (tgt := 24) dX3_lettersOf_7 (by decide) (by omega) (by omega) (fun c2 => ?_) (fun c2 => ?_)
    · exact absurd c2 (by omega)
    · refine xz_iconst dX3_lettersOf_10 ?_
      refine xw_aload_n 0 dX3_lettersOf_11 rfl ?_
      refine yz_getr (fo_X3_9 rfl) dX3_lettersOf_12 (is_cu (by omega)) rfl ?_
      refine xw_iload_n 1 dX3_lettersOf_15 rfl ?_
      have r3 := hr (cw n) z
      refine yz_iald (v := σ (cw n) z) dX3_lettersOf_16 (is_cw (by omega)) (by omega) (by decide) rfl ?_
      refine xz_bipush dX3_lettersOf_17 (by decide) ?_
      refine xz_irem dX3_lettersOf_19 (by omega) (by decide) ?_
      refine xz_iadd dX3_lettersOf_20 ?_
      refine xw_goto (tgt := 25) dX3_lettersOf_21 (by decide) ?_
      exact xz_iret dX3_lettersOf_25 rfl (Nat.zero_le _) (Nat.zero_le _) ⟨rfl, rfl⟩)
theorem s_X3_moveTo (hL : L.stackTraces = false) {n a b : Int} (hr : yRg σ) (hn : 0 ≤ n ∧ n < 24) (ha : -2147483648 ≤ a ∧ a < 2147483648) (hb : -2147483648 ≤ b ∧ b < 2147483648) : xMet L O mX3_moveTo (xR 0 0 0) [.ref (cu n), .int (iI a), .int (iI b)] (Wd σ X) (fun o G1 => ∃ z : Int, o = .inl (some (.int (iI z))) ∧ ((a = σ (cu n) 1 ∧ b = σ (cu n) 2 ∧ z = 0) ∨ (a ≠ σ (cu n) 1 ∧ b = σ (cu n) 2 ∧ z = 1) ∨ (a = σ (cu n) 1 ∧ b ≠ σ (cu n) 2 ∧ z = 1) ∨ (a ≠ σ (cu n) 1 ∧ b ≠ σ (cu n) 2 ∧ z = 2)) ∧ G1 = Wd (yup (yup σ (cu n) 1 a) (cu n) 2 b) X) := xMet_of (by decide) hL (Nat.le_of_ble_eq_true rfl) (by
  refine xw_eq rfl (l2 := [(0, .ref (cu n)), (1, .int (iI a)), (2, .int (iI b))]) rfl rfl rfl ?_
  refine xw_iload_n 1 dX3_moveTo_0 rfl ?_
  refine xw_aload_n 0 dX3_moveTo_1 rfl ?_
  have r1 := hr (cu n) 1
  refine yz_geti (z := 1) (v := σ (cu n) 1) (fo_X3_28 rfl) dX3_moveTo_2 (is_cu (by omega)) rfl rfl rfl ?_
  refine xw_join (J := 13) (c1 := 0) (n1 := 0) (P := fun z2 => (a = σ (cu n) 1 ∧ z2 = 0) ∨ (a ≠ σ (cu n) 1 ∧ z2 = 1)) (ls' := fun _ => [(0, .ref (cu n)), (1, .int (iI a)), (2, .int (iI b))]) (st' := fun z2 => [.int (iI z2)]) (G' := fun _ => Wd σ X) (fun z2 hz4 => ?_) (fun j3 => ?_)
  · refine xw_iload_n 2 dX3_moveTo_13 rfl ?_
    refine xw_aload_n 0 dX3_moveTo_14 rfl ?_
    have r5 := hr (cu n) 2
    refine yz_geti (z := 2) (v := σ (cu n) 2) (fo_X3_25 rfl) dX3_moveTo_15 (is_cu (by omega)) rfl rfl rfl ?_
    refine xw_join (J := 26) (c1 := 0) (n1 := 0) (P := fun z6 => (b = σ (cu n) 2 ∧ z6 = 0) ∨ (b ≠ σ (cu n) 2 ∧ z6 = 1)) (ls' := fun _ => [(0, .ref (cu n)), (1, .int (iI a)), (2, .int (iI b))]) (st' := fun z6 => [.int (iI z6), .int (iI z2)]) (G' := fun _ => Wd σ X) (fun z6 hz8 => ?_) (fun j7 => ?_)
    · refine xz_iadd dX3_moveTo_26 ?_
      refine xw_istore_n (l2 := [(0, .ref (cu n)), (1, .int (iI a)), (2, .int (iI b)), (3, .int (iI (z2 + z6)))]) dX3_moveTo_27 (by decide) rfl rfl ?_
      refine xw_aload_n 0 dX3_moveTo_28 rfl ?_
      refine xw_iload_n 1 dX3_moveTo_29 rfl ?_
      refine yz_puti (z := 1) (fp_X3_28 rfl) dX3_moveTo_30 (is_cu (by omega)) rfl rfl ?_
      refine xw_aload_n 0 dX3_moveTo_33 rfl ?_
      refine xw_iload_n 2 dX3_moveTo_34 rfl ?_
      refine yz_puti (z := 2) (fp_X3_25 rfl) dX3_moveTo_35 (is_cu (by omega)) rfl rfl ?_
      refine xw_iload_n 3 dX3_moveTo_38 rfl ?_
      exact xz_iret dX3_moveTo_39 rfl (Nat.zero_le _) (Nat.zero_le _) ⟨_, rfl, by omega, rfl⟩
    · refine xz_icmp_ne (tgt := 25) dX3_moveTo_18 (by decide) (by omega) (by omega) (fun c9 => ?_) (fun c9 => ?_)
      · refine xz_iconst dX3_moveTo_25 ?_
        exact j7 _ (by omega)
      · refine xz_iconst dX3_moveTo_21 ?_
        refine xw_goto (tgt := 26) dX3_moveTo_22 (by decide) ?_
        exact j7 _ (by omega)
  · refine xz_icmp_ne (tgt := 12) dX3_moveTo_5 (by decide) (by omega) (by omega) (fun c10 => ?_) (fun c10 => ?_)
    · refine xz_iconst dX3_moveTo_12 ?_
      exact j3 _ (by omega)
    · refine xz_iconst dX3_moveTo_8 ?_
      refine xw_goto (tgt := 13) dX3_moveTo_9 (by decide) ?_
      exact j3 _ (by omega))
theorem s_X3_isThereAt (hL : L.stackTraces = false) {n a : Int} (hr : yRg σ) (hn : 0 ≤ n ∧ n < 24) (ha : -2147483648 ≤ a ∧ a < 2147483648) : xMet L O mX3_isThereAt (xR 0 0 0) [.ref (cu n), .int (iI a)] (Wd σ X) (fun o G1 => ∃ z : Int, o = .inl (some (.int (iI z))) ∧ ((σ (cu n) 1 ≤ a ∧ a < σ (cu n) 2 ∧ z = 1) ∨ ((a < σ (cu n) 1 ∨ σ (cu n) 2 ≤ a) ∧ z = 0)) ∧ G1 = Wd σ X) := xMet_of (by decide) hL (Nat.le_of_ble_eq_true rfl) (by
  refine xw_eq rfl (l2 := [(0, .ref (cu n)), (1, .int (iI a))]) rfl rfl rfl ?_
  refine xw_aload_n 0 dX3_isThereAt_0 rfl ?_
  have r1 := hr (cu n) 1
  refine yz_geti (z := 1) (v := σ (cu n) 1) (fo_X3_28 rfl) dX3_isThereAt_1 (is_cu (by omega)) rfl rfl rfl ?_
  refine xw_iload_n 1 dX3_isThereAt_4 rfl ?_
  refine xz_icmp_gt (tgt := 20) dX3_isThereAt_5 (by decide) (by omega) (by omega) (fun c2 => ?_) (fun c2 => ?_)
  · refine xz_iconst dX3_isThereAt_20 ?_
    exact xz_zret dX3_isThereAt_21 rfl (Or.inl rfl) (Nat.zero_le _) (Nat.zero_le _) ⟨_, rfl, by omega, rfl⟩
  · refine xw_aload_n 0 dX3_isThereAt_8 rfl ?_
    have r3 := hr (cu n) 2
    refine yz_geti (z := 2) (v := σ (cu n) 2) (fo_X3_25 rfl) dX3_isThereAt_9 (is_cu (by omega)) rfl rfl rfl ?_
    refine xw_iload_n 1 dX3_isThereAt_12 rfl ?_
    refine xz_icmp_le (tgt := 20) dX3_isThereAt_13 (by decide) (by omega) (by omega) (fun c4 => ?_) (fun c4 => ?_)
    · refine xz_iconst dX3_isThereAt_20 ?_
      exact xz_zret dX3_isThereAt_21 rfl (Or.inl rfl) (Nat.zero_le _) (Nat.zero_le _) ⟨_, rfl, by omega, rfl⟩
    · refine xz_iconst dX3_isThereAt_16 ?_
      refine xw_goto (tgt := 21) dX3_isThereAt_17 (by decide) ?_
      exact xz_zret dX3_isThereAt_21 rfl (Or.inr rfl) (Nat.zero_le _) (Nat.zero_le _) ⟨_, rfl, by omega, rfl⟩)
theorem s_X3_isOnRow (hL : L.stackTraces = false) {n a : Int} (hr : yRg σ) (hn : 0 ≤ n ∧ n < 24) (ha : -2147483648 ≤ a ∧ a < 2147483648) (h8 : 0 ≤ σ (cu n) 8 ∧ σ (cu n) 8 ≤ 100) (h9 : -1 ≤ σ (cu n) 9 ∧ σ (cu n) 9 ≤ 100) : xMet L O mX3_isOnRow (xR 0 0 0) [.ref (cu n), .int (iI a)] (Wd σ X) (fun o G1 => ∃ z : Int, o = .inl (some (.int (iI z))) ∧ ((z = 0 ∨ z = 1) ∧ (σ (cu n) 9 = -1 → z = 0)) ∧ G1 = Wd σ X) := xMet_of (by decide) hL (Nat.le_of_ble_eq_true rfl) (by
  refine xw_eq rfl (l2 := [(0, .ref (cu n)), (1, .int (iI a))]) rfl rfl rfl ?_
  refine xw_aload_n 0 dX3_isOnRow_0 rfl ?_
  have r1 := hr (cu n) 9
  refine yz_geti (z := 9) (v := σ (cu n) 9) (fo_X3_21 rfl) dX3_isOnRow_1 (is_cu (by omega)) rfl rfl rfl ?_
  refine xz_iconst dX3_isOnRow_4 ?_
  refine xz_icmp_eq (tgt := 33) dX3_isOnRow_5 (by decide) (by omega) (by omega) (fun c2 => ?_) (fun c2 => ?_)
  · refine xz_iconst dX3_isOnRow_33 ?_
    exact xz_zret dX3_isOnRow_34 rfl (Or.inl rfl) (Nat.zero_le _) (Nat.zero_le _) ⟨_, rfl, by omega, rfl⟩
  · refine xw_aload_n 0 dX3_isOnRow_8 rfl ?_
    refine yz_geti (z := 9) (v := σ (cu n) 9) (fo_X3_21 rfl) dX3_isOnRow_9 (is_cu (by omega)) rfl rfl rfl ?_
    refine xw_iload_n 1 dX3_isOnRow_12 rfl ?_
    refine xz_icmp_gt (tgt := 33) dX3_isOnRow_13 (by decide) (by omega) (by omega) (fun c3 => ?_) (fun c3 => ?_)
    · refine xz_iconst dX3_isOnRow_33 ?_
      exact xz_zret dX3_isOnRow_34 rfl (Or.inl rfl) (Nat.zero_le _) (Nat.zero_le _) ⟨_, rfl, by omega, rfl⟩
    · refine xw_iload_n 1 dX3_isOnRow_16 rfl ?_
      refine xw_aload_n 0 dX3_isOnRow_17 rfl ?_
      refine yz_geti (z := 9) (v := σ (cu n) 9) (fo_X3_21 rfl) dX3_isOnRow_18 (is_cu (by omega)) rfl rfl rfl ?_
      refine xw_aload_n 0 dX3_isOnRow_21 rfl ?_
      have r4 := hr (cu n) 8
      refine yz_geti (z := 8) (v := σ (cu n) 8) (fo_X3_54 rfl) dX3_isOnRow_22 (is_cu (by omega)) rfl rfl rfl ?_
      refine xz_iadd dX3_isOnRow_25 ?_
      refine xz_icmp_ge (tgt := 33) dX3_isOnRow_26 (by decide) (by omega) (by omega) (fun c5 => ?_) (fun c5 => ?_)
      · refine xz_iconst dX3_isOnRow_33 ?_
        exact xz_zret dX3_isOnRow_34 rfl (Or.inl rfl) (Nat.zero_le _) (Nat.zero_le _) ⟨_, rfl, by omega, rfl⟩
      · refine xz_iconst dX3_isOnRow_29 ?_
        refine xw_goto (tgt := 34) dX3_isOnRow_30 (by decide) ?_
        exact xz_zret dX3_isOnRow_34 rfl (Or.inr rfl) (Nat.zero_le _) (Nat.zero_le _) ⟨_, rfl, by omega, rfl⟩)
end Y15

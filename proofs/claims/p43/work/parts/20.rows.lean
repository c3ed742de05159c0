section Y20
variable {L : Launch} {O : xWd} {K : xOc → List xOb → Prop} {σ : ySg} {X : List xOb} {G : List xOb}
/-- the regions as they are from the start -/
def yCst (σ : ySg) : Prop := ∀ r, 0 ≤ r → r < 3 → σ 22 r = 0 ∧ σ 23 r = 8 ∧ σ 24 r = 20
theorem l_lowestRows (hL : L.stackTraces = false) {n : Int} (hr : yRg σ) (hn : 0 ≤ n ∧ n < 24) (h8 : 0 ≤ σ (cu n) 8 ∧ σ (cu n) 8 ≤ 100) (hK : ∀ z : Int, (-1 ≤ z ∧ z ≤ 7) → (σ (cu n) 8 = 0 → z = -1) → K (.inl (some (.int (iI z)))) (Wd σ X)) (j : Int) (h0 : -1 ≤ j) (h1 : j ≤ 7) (f : Int) (hf : 0 ≤ f ∧ f ≤ 7 - j) : xWP L O mX10_lowestRows (xR 0 0 0) K 27 [(0, .ref 20), (1, .ref (cu n)), (2, .int (iI 0)), (3, .int (iI f)), (4, .int (iI j))] [] (Wd σ X) 0 0 := by
  refine xw_iload 4 dX10_lowestRows_27 rfl ?_
  refine xw_iload_n 2 dX10_lowestRows_29 rfl ?_
  refine xz_icmp_lt (tgt := 75) dX10_lowestRows_30 (by decide) (by omega) (by omega) (fun c1 => ?_) (fun c1 => ?_)
  · refine xz_iconst dX10_lowestRows_75 ?_
    exact xz_iret dX10_lowestRows_76 rfl (Nat.zero_le _) (Nat.zero_le _) (hK _ (by omega) (by omega))
  · refine xw_aload_n 1 dX10_lowestRows_33 rfl ?_
    have r2 := hr (cu n) 8
    refine yz_geti (z := 8) (v := σ (cu n) 8) (fo_X10_101 rfl) dX10_lowestRows_34 (is_cu hn) rfl rfl rfl ?_
    refine xz_if_le (tgt := 75) dX10_lowestRows_37 (by decide) (by omega) (fun c3 => ?_) (fun c3 => ?_)
    · refine xz_iconst dX10_lowestRows_75 ?_
      exact xz_iret dX10_lowestRows_76 rfl (Nat.zero_le _) (Nat.zero_le _) (hK _ (by omega) (by omega))
    · refine xw_aload_n 0 dX10_lowestRows_40 rfl ?_
      refine yz_getr (fo_X10_37 rfl) dX10_lowestRows_41 is_20 rfl ?_
      refine xw_iload 4 dX10_lowestRows_44 rfl ?_
      have r4 := hr 30 j
      refine yz_zald (v := σ 30 j) dX10_lowestRows_46 is_30 (by omega) (by decide) rfl ?_
      refine xw_join (J := 57) (c1 := 0) (n1 := 0) (P := fun z5 => 0 ≤ z5 ∧ z5 ≤ f + 1) (ls' := fun _ => [(0, .ref 20), (1, .ref (cu n)), (2, .int (iI 0)), (3, .int (iI f)), (4, .int (iI j))]) (st' := fun z5 => [.int (iI z5)]) (G' := fun _ => Wd σ X) (fun z5 hz7 => ?_) (fun j6 => ?_)
      · refine xw_istore_n (l2 := [(0, .ref 20), (1, .ref (cu n)), (2, .int (iI 0)), (3, .int (iI z5)), (4, .int (iI j))]) dX10_lowestRows_57 (by decide) rfl rfl ?_
        refine xw_iload_n 3 dX10_lowestRows_58 rfl ?_
        refine xw_aload_n 1 dX10_lowestRows_59 rfl ?_
        refine yz_geti (z := 8) (v := σ (cu n) 8) (fo_X10_101 rfl) dX10_lowestRows_60 (is_cu hn) rfl rfl rfl ?_
        refine xz_icmp_ne (tgt := 69) dX10_lowestRows_63 (by decide) (by omega) (by omega) (fun c8 => ?_) (fun c8 => ?_)
        · refine xz_iinc (l2 := [(0, .ref 20), (1, .ref (cu n)), (2, .int (iI 0)), (3, .int (iI z5)), (4, .int (iI (j + (-1))))]) 4 dX10_lowestRows_69 rfl (by decide) rfl rfl ?_
          refine xw_goto (tgt := 27) dX10_lowestRows_72 (by decide) ?_
          rw [show j + (-1) = j - 1 by omega]
          exact l_lowestRows hL hr hn h8 hK (j - 1) (by omega) (by omega) _ (by omega)
        · refine xw_iload 4 dX10_lowestRows_66 rfl ?_
          exact xz_iret dX10_lowestRows_68 rfl (Nat.zero_le _) (Nat.zero_le _) (hK _ (by omega) (by omega))
      · refine xz_if_eq (tgt := 54) dX10_lowestRows_47 (by decide) (by omega) (fun c9 => ?_) (fun c9 => ?_)
        · refine xw_iload_n 3 dX10_lowestRows_54 rfl ?_
          refine xz_iconst dX10_lowestRows_55 ?_
          refine xz_iadd dX10_lowestRows_56 ?_
          exact j6 _ (by omega)
        · refine xz_iconst dX10_lowestRows_50 ?_
          refine xw_goto (tgt := 57) dX10_lowestRows_51 (by decide) ?_
          exact j6 _ (by omega)
termination_by (j + 1).toNat
theorem s_lowestRows (hL : L.stackTraces = false) {n : Int} (hr : yRg σ) (hn : 0 ≤ n ∧ n < 24) (h8 : 0 ≤ σ (cu n) 8 ∧ σ (cu n) 8 ≤ 100) (hct : σ 22 (σ (cu n) 3) = 0 ∧ σ 23 (σ (cu n) 3) = 8 ∧ σ 24 (σ (cu n) 3) = 20) (h3 : 0 ≤ σ (cu n) 3 ∧ σ (cu n) 3 < 3) : xMet L O mX10_lowestRows (xR 0 0 0) [.ref 20, .ref (cu n)] (Wd σ X) (fun o G1 => ∃ z : Int, o = .inl (some (.int (iI z))) ∧ (-1 ≤ z ∧ z ≤ 7) ∧ (σ (cu n) 8 = 0 → z = -1) ∧ G1 = Wd σ X) := xMet_of (by decide) hL (Nat.le_of_ble_eq_true rfl) (by
  refine xw_eq rfl (l2 := [(0, .ref 20), (1, .ref (cu n))]) rfl rfl rfl ?_
  refine xw_aload_n 0 dX10_lowestRows_0 rfl ?_
  refine yz_getr (fo_X10_17 rfl) dX10_lowestRows_1 is_20 rfl ?_
  refine xw_aload_n 1 dX10_lowestRows_4 rfl ?_
  have r1 := hr (cu n) 3
  refine yz_geti (z := 3) (v := σ (cu n) 3) (fo_X10_66 rfl) dX10_lowestRows_5 (is_cu hn) rfl rfl rfl ?_
  refine yz_iald (v := 0) dX10_lowestRows_8 is_22 (by omega) (by decide) hct.1 ?_
  refine xw_istore_n (l2 := [(0, .ref 20), (1, .ref (cu n)), (2, .int (iI 0))]) dX10_lowestRows_9 (by decide) rfl rfl ?_
  refine xz_iconst dX10_lowestRows_10 ?_
  refine xw_istore_n (l2 := [(0, .ref 20), (1, .ref (cu n)), (2, .int (iI 0)), (3, .int (iI 0))]) dX10_lowestRows_11 (by decide) rfl rfl ?_
  refine xw_iload_n 2 dX10_lowestRows_12 rfl ?_
  refine xw_aload_n 0 dX10_lowestRows_13 rfl ?_
  refine yz_getr (fo_X10_21 rfl) dX10_lowestRows_14 is_20 rfl ?_
  refine xw_aload_n 1 dX10_lowestRows_17 rfl ?_
  refine yz_geti (z := 3) (v := σ (cu n) 3) (fo_X10_66 rfl) dX10_lowestRows_18 (is_cu hn) rfl rfl rfl ?_
  refine yz_iald (v := 8) dX10_lowestRows_21 is_23 (by omega) (by decide) hct.2.1 ?_
  refine xz_iadd dX10_lowestRows_22 ?_
  refine xw_eq rfl rfl (s2 := [.int (iI 8)]) rfl rfl ?_
  refine xz_iconst dX10_lowestRows_23 ?_
  refine xz_isub dX10_lowestRows_24 ?_
  refine xw_eq rfl rfl (s2 := [.int (iI 7)]) rfl rfl ?_
  refine xw_istore (l2 := [(0, .ref 20), (1, .ref (cu n)), (2, .int (iI 0)), (3, .int (iI 0)), (4, .int (iI 7))]) dX10_lowestRows_25 (by decide) rfl rfl ?_
  exact l_lowestRows hL hr hn h8 (fun z a b => ⟨z, rfl, a, b, rfl⟩) 7 (by omega) (by omega) 0 (by omega))
theorem l_take38 (hL : L.stackTraces = false) {σ : ySg} {n m pl ah : Int} (hr : yRg σ) (hn : 0 ≤ n ∧ n < 24) (hm : 0 ≤ m ∧ m < 24) (h8 : 0 ≤ σ (cu m) 8 ∧ σ (cu m) 8 ≤ 100) (h9 : -1 ≤ σ (cu m) 9 ∧ σ (cu m) 9 ≤ 100) (j : Int) (h0 : 0 ≤ j) (h1 : j ≤ 8) (hK : ∀ (σ' : ySg) (q : Int), yRg σ' → (∀ a b, a ≠ 30 → σ' a b = σ a b) → xWP L O mX10_takeRows (xR 2 0 0) K 95 [(0, .ref 20), (1, .ref (cu n)), (2, .int (iI pl)), (3, .int (iI ah)), (4, .ref (cu m)), (5, .int (iI q))] [] (Wd σ' X) 0 0) : xWP L O mX10_takeRows (xR 2 0 0) K 38 [(0, .ref 20), (1, .ref (cu n)), (2, .int (iI pl)), (3, .int (iI ah)), (4, .ref (cu m)), (5, .int (iI j))] [] (Wd σ X) 0 0 := by
  refine xw_iload 5 dX10_takeRows_38 rfl ?_
  refine xz_bipush dX10_takeRows_40 (by decide) ?_
  refine xz_icmp_ge (tgt := 95) dX10_takeRows_42 (by decide) (by omega) (by omega) (fun c1 => ?_) (fun c1 => ?_)
  · exact hK σ j hr (fun a b _ => rfl)
  · refine xw_aload 4 dX10_takeRows_45 rfl ?_
    have r2 := hr (cu m) 2
    refine yz_geti (z := 2) (v := σ (cu m) 2) (fo_X10_87 rfl) dX10_takeRows_47 (is_cu hm) rfl rfl rfl ?_
    refine xw_aload_n 1 dX10_takeRows_50 rfl ?_
    have r3 := hr (cu n) 1
    refine yz_geti (z := 1) (v := σ (cu n) 1) (fo_X10_84 rfl) dX10_takeRows_51 (is_cu hn) rfl rfl rfl ?_
    refine xz_icmp_le (tgt := 95) dX10_takeRows_54 (by decide) (by omega) (by omega) (fun c4 => ?_) (fun c4 => ?_)
    · exact hK σ j hr (fun a b _ => rfl)
    · refine xw_aload_n 0 dX10_takeRows_57 rfl ?_
      refine yz_getr (fo_X10_37 rfl) dX10_takeRows_58 is_20 rfl ?_
      refine xw_iload 5 dX10_takeRows_61 rfl ?_
      refine xw_aload_n 0 dX10_takeRows_63 rfl ?_
      refine yz_getr (fo_X10_37 rfl) dX10_takeRows_64 is_20 rfl ?_
      refine xw_iload 5 dX10_takeRows_67 rfl ?_
      have r5 := hr 30 j
      refine yz_zald (v := σ 30 j) dX10_takeRows_69 is_30 (by omega) (by decide) rfl ?_
      refine xw_join (J := 88) (c1 := 0) (n1 := 0) (P := fun z6 => z6 = 0 ∨ z6 = 1) (ls' := fun _ => [(0, .ref 20), (1, .ref (cu n)), (2, .int (iI pl)), (3, .int (iI ah)), (4, .ref (cu m)), (5, .int (iI j))]) (st' := fun z6 => [.int (iI z6), .int (iI j), .ref 30]) (G' := fun _ => Wd σ X) (fun z6 hz8 => ?_) (fun j7 => ?_)
      · refine yz_zast dX10_takeRows_88 is_30 (by omega) (by decide) (by omega) ?_
        refine xz_iinc (l2 := [(0, .ref 20), (1, .ref (cu n)), (2, .int (iI pl)), (3, .int (iI ah)), (4, .ref (cu m)), (5, .int (iI (j + 1)))]) 5 dX10_takeRows_89 rfl (by decide) rfl rfl ?_
        refine xw_goto (tgt := 38) dX10_takeRows_92 (by decide) ?_
        have e1 : ∀ a b, a ≠ 30 → (yup σ 30 j z6) a b = σ a b := fun a b q => yup_i q
        exact l_take38 hL (yRg_up hr (by omega)) hn hm (by rw [e1 _ _ (by simp only [cu]; omega)]; exact h8) (by rw [e1 _ _ (by simp only [cu]; omega)]; exact h9) (j + 1) (by omega) (by omega) (fun σ' q b1 b2 => hK σ' q b1 (fun a b q => (b2 a b q).trans (e1 a b q)))
      · refine xz_if_ne (tgt := 83) dX10_takeRows_70 (by decide) (by omega) (fun c9 => ?_) (fun c9 => ?_)
        · refine xz_iconst dX10_takeRows_83 ?_
          refine xw_goto (tgt := 88) dX10_takeRows_84 (by decide) ?_
          exact j7 _ (by omega)
        · refine xw_aload 4 dX10_takeRows_73 rfl ?_
          refine xw_iload 5 dX10_takeRows_75 rfl ?_
          refine yc_VE (M' := mX3_isOnRow) (d := 0) (c := 0) (s := 0) (As := [.int (iI j)]) (st := [.int (iI j), .ref 30]) dX10_takeRows_77 okX3_isOnRow (Or.inl w_456) (xBig_i (is_cu hm).1) (Wd_get (is_cu hm)) ⟨by decide, rfl⟩ rfl (Nat.le_of_ble_eq_true rfl) (by decide) (by decide) (Nat.zero_le _) (Nat.zero_le _) (s_X3_isOnRow hL hr hm (by omega) h8 h9) (fun v9 G9 h9 => ?_) (fun E9 G9 h9 => ?_)
          · obtain ⟨z10, e9, ⟨z10a, z10b⟩, e8⟩ := h9
            cases e9
            subst e8
            refine xz_if_eq (tgt := 87) dX10_takeRows_80 (by decide) (by omega) (fun c11 => ?_) (fun c11 => ?_)
            · refine xz_iconst dX10_takeRows_87 ?_
              exact j7 _ (by omega)
            · refine xz_iconst dX10_takeRows_83 ?_
              refine xw_goto (tgt := 88) dX10_takeRows_84 (by decide) ?_
              exact j7 _ (by omega)
          · obtain ⟨_, e9, _⟩ := h9
            cases e9
termination_by (8 - j).toNat
theorem l_take23 (hL : L.stackTraces = false) {σ : ySg} {n pl : Int} (hr : yRg σ) (hn : 0 ≤ n ∧ n < 24) (hpl : 0 ≤ pl ∧ pl ≤ 24) (ho : ∀ p, 0 ≤ p → p < pl → 0 ≤ σ 29 p ∧ σ 29 p < 24) (h8 : ∀ p, 0 ≤ p → p < pl → (0 ≤ σ (cu (σ 29 p)) 8 ∧ σ (cu (σ 29 p)) 8 ≤ 100) ∧ (-1 ≤ σ (cu (σ 29 p)) 9 ∧ σ (cu (σ 29 p)) 9 ≤ 100)) (j : Int) (h0 : 0 ≤ j) (h1 : j ≤ pl) (hK : ∀ (σ' : ySg), yRg σ' → (∀ a b, a ≠ 30 → σ' a b = σ a b) → xWP L O mX10_takeRows (xR 2 0 0) K 101 [(0, .ref 20), (1, .ref (cu n)), (2, .int (iI pl)), (3, .int (iI pl))] [] (Wd σ' X) 0 0) : xWP L O mX10_takeRows (xR 2 0 0) K 23 [(0, .ref 20), (1, .ref (cu n)), (2, .int (iI pl)), (3, .int (iI j))] [] (Wd σ X) 0 0 := by
  refine xw_iload_n 3 dX10_takeRows_23 rfl ?_
  refine xw_iload_n 2 dX10_takeRows_24 rfl ?_
  refine xz_icmp_ge (tgt := 101) dX10_takeRows_25 (by decide) (by omega) (by omega) (fun c1 => ?_) (fun c1 => ?_)
  · rw [show j = pl by omega]; exact hK σ hr (fun a b _ => rfl)
  · refine xw_aload_n 0 dX10_takeRows_28 rfl ?_
    refine xw_iload_n 3 dX10_takeRows_29 rfl ?_
    have r2 := hr 29 j
    have ho3 : 0 ≤ σ 29 j ∧ σ 29 j < 24 := ho _ (by omega) (by omega)
    refine yc_V (M' := mX10_cueIn) (d := 1) (c := 0) (s := 0) (As := [.int (iI j)]) (st := []) (v0 := some (.ref (cu (σ 29 j)))) (G2 := Wd σ X) dX10_takeRows_30 okX10_cueIn (Or.inl w_422) (xBig_i is_20.1) (Wd_get is_20) ⟨by decide, rfl⟩ rfl (Nat.le_of_ble_eq_true rfl) (by decide) (by decide) (Nat.zero_le _) (Nat.zero_le _) rfl rfl (s_cueIn hL hr (by omega) ho3) ?_
    refine xw_astore (l2 := [(0, .ref 20), (1, .ref (cu n)), (2, .int (iI pl)), (3, .int (iI j)), (4, .ref (cu (σ 29 j)))]) dX10_takeRows_33 (by decide) rfl rfl ?_
    refine xz_iconst dX10_takeRows_35 ?_
    refine xw_istore (l2 := [(0, .ref 20), (1, .ref (cu n)), (2, .int (iI pl)), (3, .int (iI j)), (4, .ref (cu (σ 29 j))), (5, .int (iI 0))]) dX10_takeRows_36 (by decide) rfl rfl ?_
    have h89 := h8 _ h0 (by omega)
    refine l_take38 hL hr hn (ho _ h0 (by omega)) h89.1 h89.2 0 (by omega) (by omega) (fun σ' q b1 b2 => ?_)
    have e1 : ∀ p, σ' 29 p = σ 29 p := fun p => b2 _ _ (by decide)
    have e2 : ∀ (k b : Int), σ' (cu k) b = σ (cu k) b := fun k b => b2 _ _ (by simp only [cu]; omega)
    refine xz_iinc (l2 := [(0, .ref 20), (1, .ref (cu n)), (2, .int (iI pl)), (3, .int (iI (j + 1))), (4, .ref (cu (σ 29 j))), (5, .int (iI q))]) 3 dX10_takeRows_95 rfl (by decide) rfl rfl ?_
    refine xw_goto (tgt := 23) dX10_takeRows_98 (by decide) ?_
    refine xw_loc [(0, .ref 20), (1, .ref (cu n)), (2, .int (iI pl)), (3, .int (iI (j + 1)))] (fun q9 hq9 => List.mem_append_left ([(4, .ref (cu (σ 29 j))), (5, .int (iI q))] : List (Nat × Value)) hq9) ?_
    exact l_take23 hL b1 hn hpl (fun p a1 a2 => by rw [e1]; exact ho p a1 a2) (fun p a1 a2 => by rw [e1, e2, e2]; exact h8 p a1 a2) (j + 1) (by omega) (by omega) (fun σ'' c1 c2 => hK σ'' c1 (fun a b q => (c2 a b q).trans (b2 a b q)))
termination_by (pl - j).toNat
theorem l_take2 (hL : L.stackTraces = false) {σ : ySg} {n pl : Int} (hr : yRg σ) (j : Int) (h0 : 0 ≤ j) (h1 : j ≤ 8) (hK : ∀ (σ' : ySg), yRg σ' → (∀ a b, a ≠ 30 → σ' a b = σ a b) → xWP L O mX10_takeRows (xR 2 0 0) K 21 [(0, .ref 20), (1, .ref (cu n)), (2, .int (iI pl)), (3, .int (iI 8))] [] (Wd σ' X) 0 0) : xWP L O mX10_takeRows (xR 2 0 0) K 2 [(0, .ref 20), (1, .ref (cu n)), (2, .int (iI pl)), (3, .int (iI j))] [] (Wd σ X) 0 0 := by
  refine xw_iload_n 3 dX10_takeRows_2 rfl ?_
  refine xz_bipush dX10_takeRows_3 (by decide) ?_
  refine xz_icmp_ge (tgt := 21) dX10_takeRows_5 (by decide) (by omega) (by omega) (fun c1 => ?_) (fun c1 => ?_)
  · rw [show j = 8 by omega]; exact hK σ hr (fun a b _ => rfl)
  · refine xw_aload_n 0 dX10_takeRows_8 rfl ?_
    refine yz_getr (fo_X10_37 rfl) dX10_takeRows_9 is_20 rfl ?_
    refine xw_iload_n 3 dX10_takeRows_12 rfl ?_
    refine xz_iconst dX10_takeRows_13 ?_
    refine yz_zast dX10_takeRows_14 is_30 (by omega) (by decide) (Or.inl rfl) ?_
    refine xz_iinc (l2 := [(0, .ref 20), (1, .ref (cu n)), (2, .int (iI pl)), (3, .int (iI (j + 1)))]) 3 dX10_takeRows_15 rfl (by decide) rfl rfl ?_
    refine xw_goto (tgt := 2) dX10_takeRows_18 (by decide) ?_
    have e1 : ∀ a b, a ≠ 30 → (yup σ 30 j 0) a b = σ a b := fun a b q => yup_i q
    exact l_take2 hL (yRg_up hr (by omega)) (j + 1) (by omega) (by omega) (fun σ' b1 b2 => hK σ' b1 (fun a b q => (b2 a b q).trans (e1 a b q)))
termination_by (8 - j).toNat
theorem s_takeRows (hL : L.stackTraces = false) {n pl : Int} (hr : yRg σ) (hn : 0 ≤ n ∧ n < 24) (hpl : 0 ≤ pl ∧ pl ≤ 24) (ho : ∀ p, 0 ≤ p → p < pl → 0 ≤ σ 29 p ∧ σ 29 p < 24) (h8 : ∀ p, 0 ≤ p → p < pl → (0 ≤ σ (cu (σ 29 p)) 8 ∧ σ (cu (σ 29 p)) 8 ≤ 100) ∧ (-1 ≤ σ (cu (σ 29 p)) 9 ∧ σ (cu (σ 29 p)) 9 ≤ 100)) (hn8 : 0 ≤ σ (cu n) 8 ∧ σ (cu n) 8 ≤ 100) (hct : σ 22 (σ (cu n) 3) = 0 ∧ σ 23 (σ (cu n) 3) = 8 ∧ σ 24 (σ (cu n) 3) = 20) (h3 : 0 ≤ σ (cu n) 3 ∧ σ (cu n) 3 < 3) : xMet L O mX10_takeRows (xR 2 0 0) [.ref 20, .ref (cu n), .int (iI pl)] (Wd σ X) (fun o G1 => ∃ σ' : ySg, o = .inl none ∧ yRg σ' ∧ (∀ a b, a ≠ 30 → ¬ (a = cu n ∧ b = 9) → σ' a b = σ a b) ∧ (-1 ≤ σ' (cu n) 9 ∧ σ' (cu n) 9 ≤ 7) ∧ (σ (cu n) 8 = 0 → σ' (cu n) 9 = -1) ∧ G1 = Wd σ' X) := xMet_of (by decide) hL (Nat.le_of_ble_eq_true rfl) (by
  refine xw_eq rfl (l2 := [(0, .ref 20), (1, .ref (cu n)), (2, .int (iI pl))]) rfl rfl rfl ?_
  refine xz_iconst dX10_takeRows_0 ?_
  refine xw_istore_n (l2 := [(0, .ref 20), (1, .ref (cu n)), (2, .int (iI pl)), (3, .int (iI 0))]) dX10_takeRows_1 (by decide) rfl rfl ?_
  refine l_take2 hL hr 0 (by omega) (by omega) (fun σ1 b1 b2 => ?_)
  have e1 : ∀ p, σ1 29 p = σ 29 p := fun p => b2 _ _ (by decide)
  have e2 : ∀ (k b : Int), σ1 (cu k) b = σ (cu k) b := fun k b => b2 _ _ (by simp only [cu]; omega)
  refine xz_iconst dX10_takeRows_21 ?_
  refine xw_istore_n (l2 := [(0, .ref 20), (1, .ref (cu n)), (2, .int (iI pl)), (3, .int (iI 0))]) dX10_takeRows_22 (by decide) rfl rfl ?_
  refine l_take23 hL b1 hn hpl (fun p a1 a2 => by rw [e1]; exact ho p a1 a2) (fun p a1 a2 => by rw [e1, e2, e2]; exact h8 p a1 a2) 0 (by omega) (by omega) (fun σ2 c1 c2 => ?_)
  have e3 : ∀ (k b : Int), σ2 (cu k) b = σ (cu k) b := fun k b => (c2 _ _ (by simp only [cu]; omega)).trans (e2 k b)
  have e4 : ∀ a b, a ≠ 30 → σ2 a b = σ a b := fun a b q => (c2 a b q).trans (b2 a b q)
  refine xw_aload_n 1 dX10_takeRows_101 rfl ?_
  refine xw_aload_n 0 dX10_takeRows_102 rfl ?_
  refine xw_aload_n 1 dX10_takeRows_103 rfl ?_
  refine yc_VE (M' := mX10_lowestRows) (d := 0) (c := 0) (s := 0) (As := [.ref (cu n)]) (st := [.ref (cu n)]) dX10_takeRows_104 okX10_lowestRows (Or.inl w_460) (xBig_i is_20.1) (Wd_get is_20) ⟨by decide, rfl⟩ rfl (Nat.le_of_ble_eq_true rfl) (by decide) (by decide) (Nat.zero_le _) (Nat.zero_le _) (s_lowestRows hL c1 hn (by rw [e3]; exact hn8) (by rw [e3, e4 _ _ (by decide), e4 _ _ (by decide), e4 _ _ (by decide)]; exact hct) (by rw [e3]; exact h3)) (fun v9 G9 h9 => ?_) (fun E9 G9 h9 => ?_)
  · obtain ⟨z1, e9, z1a, z1b, e8⟩ := h9
    cases e9
    subst e8
    refine yz_puti (z := 9) (fp_X10_98 rfl) dX10_takeRows_107 (is_cu hn) rfl rfl ?_
    exact xw_vret dX10_takeRows_110 rfl (Nat.zero_le _) (Nat.zero_le _) ⟨_, rfl, (yRg_up c1 (by omega)), fun a b q1 q2 => (yup_n q2).trans (e4 a b q1), by rw [yup_s]; omega, fun q => by rw [yup_s]; rw [e3] at z1b; exact z1b q, rfl⟩
  · obtain ⟨_, e9, _⟩ := h9
    cases e9)
end Y20

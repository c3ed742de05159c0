section Y40
variable {L : Launch} {O : xWd} {K : xOc → List xOb → Prop} {σ : ySg} {X : List xOb} {G : List xOb}
theorem l2_X3_appendFrom (hL : L.stackTraces = false) {σ : ySg} (hr : yRg σ) {n m f : Int} (hn : 0 ≤ n ∧ n < 24) (hm : 0 ≤ m ∧ m < 24) (hnm : n ≠ m) (k : Int) (h0 : 0 ≤ k ∧ k ≤ 100) (hc : 0 ≤ σ (cu m) 6 ∧ σ (cu m) 6 ≤ 12) (hw : 0 ≤ σ (cu n) 6 ∧ σ (cu n) 6 + max 0 (σ (cu m) 6 - k) ≤ 12) (hK : ∀ σ' : ySg, yRg σ' → σ' (cu n) 6 = σ (cu n) 6 + max 0 (σ (cu m) 6 - k) → (∀ j, 0 ≤ j → j < σ (cu m) 6 - k → σ' (cw n) (σ (cu n) 6 + j) = σ (cw m) (k + j)) → (∀ a b, a ≠ ct n → ¬ (a = cu n ∧ b = 6) → ¬ (a = cw n ∧ σ (cu n) 6 ≤ b ∧ b < σ (cu n) 6 + max 0 (σ (cu m) 6 - k)) → σ' a b = σ a b) → K (.inl none) (Wd σ' X)) : xWP L O mX3_appendFrom (xR 2 0 0) K 6 [(0, .ref (cu n)), (1, .ref (cu m)), (2, .int (iI f)), (3, .int (iI k))] [] (Wd σ X) 0 0 := by
  refine xw_iload_n 3 dX3_appendFrom_6 rfl ?_
  refine xw_aload_n 1 dX3_appendFrom_7 rfl ?_
  have r1 := hr (cu m) 6
  refine yz_geti (z := 6) (v := σ (cu m) 6) (fo_X3_35 rfl) dX3_appendFrom_8 (is_cu (by omega)) rfl rfl rfl ?_
  refine xz_icmp_ge (tgt := 36) dX3_appendFrom_11 (by decide) (by omega) (by omega) (fun c2 => ?_) (fun c2 => ?_)
  · exact xw_vret dX3_appendFrom_36 rfl (Nat.zero_le _) (Nat.zero_le _) (hK σ hr (by omega) (fun j a1 a2 => absurd a2 (by omega)) (fun a b _ _ _ => rfl))
  · refine xw_iload_n 3 dX3_appendFrom_14 rfl ?_
    refine xz_bipush dX3_appendFrom_15 (by decide) ?_
    refine xz_icmp_ge (tgt := 36) dX3_appendFrom_17 (by decide) (by omega) (by omega) (fun c3 => ?_) (fun c3 => ?_)
    · exact absurd c3 (by omega)
    · refine xw_aload_n 0 dX3_appendFrom_20 rfl ?_
      refine xw_aload_n 1 dX3_appendFrom_21 rfl ?_
      refine yz_getr (fo_X3_9 rfl) dX3_appendFrom_22 (is_cu (by omega)) rfl ?_
      refine xw_iload_n 3 dX3_appendFrom_25 rfl ?_
      have r4 := hr (cw m) k
      refine yz_iald (v := σ (cw m) k) dX3_appendFrom_26 (is_cw (by omega)) (by omega) (by decide) rfl ?_
      have r5 := hr (cu n) 6
      refine yc_V (M' := mX3_append) (d := 1) (c := 0) (s := 0) (As := [.int (iI (σ (cw m) k))]) (st := []) (v0 := none) (G2 := Wd (yfl (yup (yup σ (cw n) (σ (cu n) 6) (σ (cw m) k)) (cu n) 6 ((σ (cu n) 6) + 1)) (ct n) 12 (-1)) X) dX3_appendFrom_27 okX3_append (Or.inl w_1069) (xBig_i (is_cu (by omega)).1) (Wd_get (is_cu (by omega))) ⟨by decide, rfl⟩ rfl (Nat.le_of_ble_eq_true rfl) (by decide) (by decide) (Nat.zero_le _) (Nat.zero_le _) rfl rfl (s_X3_append hL hr (by omega) (by omega)) ?_
      refine xz_iinc (l2 := [(0, .ref (cu n)), (1, .ref (cu m)), (2, .int (iI f)), (3, .int (iI (k + 1)))]) 3 dX3_appendFrom_30 rfl (by decide) rfl rfl ?_
      refine xw_goto (tgt := 6) dX3_appendFrom_33 (by decide) ?_
      have hr1 : yRg (yfl (yup (yup σ (cw n) (σ (cu n) 6) (σ (cw m) k)) (cu n) 6 ((σ (cu n) 6) + 1)) (ct n) 12 (-1)) := (yRg_fl (yRg_up (yRg_up hr (by omega)) (by omega)) (by decide))
      have hne : cu m ≠ cu n := fun q => hnm ((cu_inj hm.1 hn.1).mp q).symm
      have hnw : cw m ≠ cw n := fun q => hnm ((cw_inj hm.1 hn.1).mp q).symm
      have e6 : (yfl (yup (yup σ (cw n) (σ (cu n) 6) (σ (cw m) k)) (cu n) 6 ((σ (cu n) 6) + 1)) (ct n) 12 (-1)) (cu n) 6 = σ (cu n) 6 + 1 := by rw [yfl_i (by simp only [cu, ct]; omega), yup_s]
      have em : (yfl (yup (yup σ (cw n) (σ (cu n) 6) (σ (cw m) k)) (cu n) 6 ((σ (cu n) 6) + 1)) (ct n) 12 (-1)) (cu m) 6 = σ (cu m) 6 := by rw [yfl_i (by simp only [cu, ct]; omega), yup_i hne, yup_i (by simp only [cu, cw]; omega)]
      refine l2_X3_appendFrom hL hr1 hn hm hnm (k + 1) (by omega) (by rw [em]; omega) (by rw [e6, em]; omega) (fun σ' hr2 g1 g2 g3 => hK σ' hr2 ?_ ?_ ?_)
      · rw [g1, e6, em]; omega
      · intro j hj0 hj1
        by_cases ej : j = 0
        · subst ej
          rw [g3 (cw n) _ (by simp only [cw, ct]; omega) (by simp only [cw, cu]; omega) (by rw [e6, em]; omega), yfl_i (by simp only [cw, ct]; omega), yup_i (by simp only [cw, cu]; omega), Int.add_zero, yup_s, Int.add_zero]
        · have g := g2 (j - 1) (by omega) (by rw [em]; omega)
          rw [e6, show σ (cu n) 6 + 1 + (j - 1) = σ (cu n) 6 + j by omega, show k + 1 + (j - 1) = k + j by omega] at g
          rw [g, yfl_i (by simp only [cw, ct]; omega), yup_i (by simp only [cw, cu]; omega), yup_i hnw]
      · intro a b h1 h2 h3
        rw [g3 a b h1 h2 (by rw [e6, em]; intro q; exact h3 ⟨q.1, by omega, by omega⟩), yfl_i h1]
        unfold yup
        rw [if_neg h2, if_neg (fun q => h3 ⟨q.1, by omega, by omega⟩)]
termination_by (σ (cu m) 6 - k).toNat
decreasing_by rw [em]; omega
theorem s2_X3_appendFrom (hL : L.stackTraces = false) (hr : yRg σ) {n m k : Int} (hn : 0 ≤ n ∧ n < 24) (hm : 0 ≤ m ∧ m < 24) (hnm : n ≠ m) (h0 : 0 ≤ k ∧ k < 100) (hc : 0 ≤ σ (cu m) 6 ∧ σ (cu m) 6 ≤ 12) (hw : 0 ≤ σ (cu n) 6 ∧ σ (cu n) 6 + max 0 (σ (cu m) 6 - k) ≤ 12) : xMet L O mX3_appendFrom (xR 2 0 0) [.ref (cu n), .ref (cu m), .int (iI k)] (Wd σ X) (fun o G1 => ∃ σ' : ySg, o = .inl none ∧ yRg σ' ∧ σ' (cu n) 6 = σ (cu n) 6 + max 0 (σ (cu m) 6 - k) ∧ (∀ j, 0 ≤ j → j < σ (cu m) 6 - k → σ' (cw n) (σ (cu n) 6 + j) = σ (cw m) (k + j)) ∧ (∀ a b, a ≠ ct n → ¬ (a = cu n ∧ b = 6) → ¬ (a = cw n ∧ σ (cu n) 6 ≤ b ∧ b < σ (cu n) 6 + max 0 (σ (cu m) 6 - k)) → σ' a b = σ a b) ∧ G1 = Wd σ' X) := xMet_of (by decide) hL (Nat.le_of_ble_eq_true rfl) (by
  refine xw_eq rfl (l2 := [(0, .ref (cu n)), (1, .ref (cu m)), (2, .int (iI k))]) rfl rfl rfl ?_
  refine xz_iconst dX3_appendFrom_0 ?_
  refine xw_iload_n 2 dX3_appendFrom_1 rfl ?_
  refine xz_mmax dX3_appendFrom_2 w_1068 (Nat.le_of_ble_eq_true rfl) (Nat.zero_le _) (Nat.zero_le _) (by omega) (by omega) ?_
  refine xw_istore_n (l2 := [(0, .ref (cu n)), (1, .ref (cu m)), (2, .int (iI k)), (3, .int (iI (max 0 k)))]) dX3_appendFrom_5 (by decide) rfl rfl ?_
  refine xw_eq rfl (l2 := [(0, .ref (cu n)), (1, .ref (cu m)), (2, .int (iI k)), (3, .int (iI k))]) (by rw [show max 0 k = k by omega]) rfl rfl ?_
  exact l2_X3_appendFrom hL hr hn hm hnm k (by omega) hc hw (fun σ' g0 g1 g2 g3 => ⟨σ', rfl, g0, g1, g2, g3, rfl⟩))
theorem s2_split (hL : L.stackTraces = false) {n a : Int} (hr : yRg σ) (hn : 0 ≤ n ∧ n < 24) (h1 : n < σ 0 5) (h2 : σ (cu n) 0 = 1) (ha : 1 ≤ a ∧ a < σ (cu n) 6) (hc : σ (cu n) 6 ≤ 12) (hl : 0 ≤ σ (cu n) 1 ∧ σ (cu n) 1 + 2 ≤ σ (cu n) 2 ∧ σ (cu n) 2 ≤ 99999) (hm : σ 0 5 < 24) (hfr : σ (cu (σ 0 5)) 6 = 0) (hw : ∀ j, 0 ≤ j → j < 12 → 0 ≤ σ (cw n) j) : xMet L O mX11_split (xR 3 0 0) [.ref 0, .int (iI n), .int (iI a)] (Wd σ X) (fun o G1 => ∃ σ' : ySg, o = .inl (some (.int (iI (σ 0 5)))) ∧ yRg σ' ∧ (σ' 0 5 = σ 0 5 + 1 ∧ σ' 0 6 = 0 ∧ σ' (cu n) 2 = σ (cu n) 1 + max 1 (min ((σ (cu n) 2 - σ (cu n) 1) * yLt (σ (cw n)) a / yLt (σ (cw n)) (σ (cu n) 6)) (σ (cu n) 2 - σ (cu n) 1 - 1)) ∧ σ' (cu n) 6 = a ∧ (σ' (cu (σ 0 5)) 0 = 1 ∧ σ' (cu (σ 0 5)) 1 = σ (cu n) 1 + max 1 (min ((σ (cu n) 2 - σ (cu n) 1) * yLt (σ (cw n)) a / yLt (σ (cw n)) (σ (cu n) 6)) (σ (cu n) 2 - σ (cu n) 1 - 1)) ∧ σ' (cu (σ 0 5)) 2 = σ (cu n) 2 ∧ σ' (cu (σ 0 5)) 3 = σ (cu n) 3 ∧ σ' (cu (σ 0 5)) 6 = σ (cu n) 6 - a) ∧ (∀ j, 0 ≤ j → j < σ (cu n) 6 - a → σ' (cw (σ 0 5)) j = σ (cw n) (a + j)) ∧ (∀ j, σ (cu n) 6 - a ≤ j → σ' (cw (σ 0 5)) j = σ (cw (σ 0 5)) j) ∧ (∀ x y, x ≠ cu (σ 0 5) → x ≠ cw (σ 0 5) → x ≠ ct (σ 0 5) → x ≠ ct n → ¬ (x = cu n ∧ (y = 2 ∨ y = 6)) → ¬ (x = 0 ∧ (y = 5 ∨ y = 6)) → σ' x y = σ x y)) ∧ G1 = Wd σ' X) := xMet_of (by decide) hL (Nat.le_of_ble_eq_true rfl) (by
  refine xw_eq rfl (l2 := [(0, .ref 0), (1, .int (iI n)), (2, .int (iI a))]) rfl rfl rfl ?_
  refine xw_aload_n 0 dX11_split_0 rfl ?_
  refine xw_iload_n 1 dX11_split_1 rfl ?_
  refine yc_V (M' := mX11_cueOf) (d := 0) (c := 0) (s := 0) (As := [.int (iI n)]) (st := []) (v0 := some (.ref (cu n))) (G2 := Wd σ X) dX11_split_2 okX11_cueOf (Or.inl w_503) (xBig_i is_0.1) (Wd_get is_0) ⟨by decide, rfl⟩ rfl (Nat.le_of_ble_eq_true rfl) (by decide) (by decide) (Nat.zero_le _) (Nat.zero_le _) rfl rfl (s_cueOf1 hL hr (by omega) (by omega) (by omega)) ?_
  refine xw_astore_n (l2 := [(0, .ref 0), (1, .int (iI n)), (2, .int (iI a)), (3, .ref (cu n))]) dX11_split_5 (by decide) rfl rfl ?_
  refine xw_iload_n 2 dX11_split_6 rfl ?_
  refine xz_iconst dX11_split_7 ?_
  refine xz_icmp_lt (tgt := 23) dX11_split_8 (by decide) (by omega) (by omega) (fun c1 => ?_) (fun c1 => ?_)
  · exact absurd c1 (by omega)
  · refine xw_iload_n 2 dX11_split_11 rfl ?_
    refine xw_aload_n 3 dX11_split_12 rfl ?_
    have r2 := hr (cu n) 6
    refine yz_geti (z := 6) (v := σ (cu n) 6) (fo_X11_208 rfl) dX11_split_13 (is_cu hn) rfl rfl rfl ?_
    refine xz_icmp_ge (tgt := 23) dX11_split_16 (by decide) (by omega) (by omega) (fun c3 => ?_) (fun c3 => ?_)
    · exact absurd c3 (by omega)
    · refine xz_iconst dX11_split_19 ?_
      refine xw_goto (tgt := 24) dX11_split_20 (by decide) ?_
      refine yc_S (M' := mX11_needArgument) (d := 0) (c := 0) (s := 0) (As := [.int (iI 1)]) (st := []) (v0 := none) (G2 := Wd σ X) dX11_split_24 okX11_needArgument (Or.inl w_749) rfl (Nat.le_of_ble_eq_true rfl) (by decide) (by decide) (Nat.zero_le _) (Nat.zero_le _) rfl rfl (s_needArg1 hL) ?_
      refine xw_aload_n 3 dX11_split_27 rfl ?_
      refine yc_V (M' := mX3_length) (d := 0) (c := 0) (s := 0) (As := []) (st := []) (v0 := some (.int (iI (σ (cu n) 2 - σ (cu n) 1)))) (G2 := Wd σ X) dX11_split_28 okX3_length (Or.inl w_590) (xBig_i (is_cu hn).1) (Wd_get (is_cu hn)) ⟨by decide, rfl⟩ rfl (Nat.le_of_ble_eq_true rfl) (by decide) (by decide) (Nat.zero_le _) (Nat.zero_le _) rfl rfl (s_X3_length hL hr hn) ?_
      refine xz_iconst dX11_split_31 ?_
      refine xz_icmp_ge (tgt := 46) dX11_split_32 (by decide) (by omega) (by omega) (fun c4 => ?_) (fun c4 => ?_)
      · refine xw_aload_n 0 dX11_split_46 rfl ?_
        refine yc_V (M' := mX11_needRoomForCue) (d := 0) (c := 0) (s := 0) (As := []) (st := []) (v0 := none) (G2 := Wd σ X) dX11_split_47 okX11_needRoomForCue (Or.inl w_1003) (xBig_i is_0.1) (Wd_get is_0) ⟨by decide, rfl⟩ rfl (Nat.le_of_ble_eq_true rfl) (by decide) (by decide) (Nat.zero_le _) (Nat.zero_le _) rfl rfl (s_needRoom1 hL hr (by omega)) ?_
        refine xw_aload_n 3 dX11_split_50 rfl ?_
        refine yc_V (M' := mX3_length) (d := 0) (c := 0) (s := 0) (As := []) (st := []) (v0 := some (.int (iI (σ (cu n) 2 - σ (cu n) 1)))) (G2 := Wd σ X) dX11_split_51 okX3_length (Or.inl w_590) (xBig_i (is_cu hn).1) (Wd_get (is_cu hn)) ⟨by decide, rfl⟩ rfl (Nat.le_of_ble_eq_true rfl) (by decide) (by decide) (Nat.zero_le _) (Nat.zero_le _) rfl rfl (s_X3_length hL hr hn) ?_
        refine xz_i2l dX11_split_54 (by omega) ?_
        refine xw_aload_n 3 dX11_split_55 rfl ?_
        refine xw_iload_n 2 dX11_split_56 rfl ?_
        have b5 := yLt_bd (σ (cw n)) (j := a) (by omega)
        refine yc_V (M' := mX3_letters) (d := 1) (c := 0) (s := 0) (As := [.int (iI a)]) (st := [.long (lI (σ (cu n) 2 - σ (cu n) 1))]) (v0 := some (.int (iI (yLt (σ (cw n)) a)))) (G2 := Wd σ X) dX11_split_57 okX3_letters (Or.inl w_579) (xBig_i (is_cu hn).1) (Wd_get (is_cu hn)) ⟨by decide, rfl⟩ rfl (Nat.le_of_ble_eq_true rfl) (by decide) (by decide) (Nat.zero_le _) (Nat.zero_le _) rfl rfl (s_X3_letters hL hr hn (by omega) hw) ?_
        refine xz_i2l dX11_split_60 (by omega) ?_
        refine xw_aload_n 3 dX11_split_61 rfl ?_
        refine xw_aload_n 3 dX11_split_62 rfl ?_
        refine yz_geti (z := 6) (v := σ (cu n) 6) (fo_X11_208 rfl) dX11_split_63 (is_cu hn) rfl rfl rfl ?_
        have b6 := yLt_bd (σ (cw n)) (j := σ (cu n) 6) (by omega)
        refine yc_V (M' := mX3_letters) (d := 1) (c := 0) (s := 0) (As := [.int (iI (σ (cu n) 6))]) (st := [.long (lI (yLt (σ (cw n)) a)), .long (lI (σ (cu n) 2 - σ (cu n) 1))]) (v0 := some (.int (iI (yLt (σ (cw n)) (σ (cu n) 6))))) (G2 := Wd σ X) dX11_split_66 okX3_letters (Or.inl w_579) (xBig_i (is_cu hn).1) (Wd_get (is_cu hn)) ⟨by decide, rfl⟩ rfl (Nat.le_of_ble_eq_true rfl) (by decide) (by decide) (Nat.zero_le _) (Nat.zero_le _) rfl rfl (s_X3_letters hL hr hn (by omega) hw) ?_
        refine xz_i2l dX11_split_69 (by omega) ?_
        have hmm := hmul (σ (cu n) 2 - σ (cu n) 1) (yLt (σ (cw n)) a) (by omega) (by omega)
        have hdd := hdiv (σ (cu n) 2 - σ (cu n) 1) (yLt (σ (cw n)) a) (yLt (σ (cw n)) (σ (cu n) 6)) (by omega) (by omega) (by omega)
        refine yc_S (M' := mX11_scaled) (d := 0) (c := 0) (s := 0) (As := [.long (lI (σ (cu n) 2 - σ (cu n) 1)), .long (lI (yLt (σ (cw n)) a)), .long (lI (yLt (σ (cw n)) (σ (cu n) 6)))]) (st := []) (v0 := some (.long (lI ((σ (cu n) 2 - σ (cu n) 1) * (yLt (σ (cw n)) a) / (yLt (σ (cw n)) (σ (cu n) 6)))))) (G2 := Wd σ X) dX11_split_70 okX11_scaled (Or.inl w_905) rfl (Nat.le_of_ble_eq_true rfl) (by decide) (by decide) (Nat.zero_le _) (Nat.zero_le _) rfl rfl (s_scaled hL (by omega) (by omega)) ?_
        refine xw_lstore (l2 := [(0, .ref 0), (1, .int (iI n)), (2, .int (iI a)), (3, .ref (cu n)), (4, .long (lI ((σ (cu n) 2 - σ (cu n) 1) * (yLt (σ (cw n)) a) / (yLt (σ (cw n)) (σ (cu n) 6)))))]) dX11_split_73 (by decide) rfl rfl ?_
        refine xw_aload_n 3 dX11_split_75 rfl ?_
        have r7 := hr (cu n) 1
        refine yz_geti (z := 1) (v := σ (cu n) 1) (fo_X11_221 rfl) dX11_split_76 (is_cu hn) rfl rfl rfl ?_
        refine xz_lconst (z := 1) dX11_split_79 (by decide) ?_
        refine xw_lload 4 dX11_split_80 rfl ?_
        refine xw_aload_n 3 dX11_split_82 rfl ?_
        refine yc_V (M' := mX3_length) (d := 0) (c := 0) (s := 0) (As := []) (st := [.long (lI ((σ (cu n) 2 - σ (cu n) 1) * (yLt (σ (cw n)) a) / (yLt (σ (cw n)) (σ (cu n) 6)))), .long (lI 1), .int (iI (σ (cu n) 1))]) (v0 := some (.int (iI (σ (cu n) 2 - σ (cu n) 1)))) (G2 := Wd σ X) dX11_split_83 okX3_length (Or.inl w_590) (xBig_i (is_cu hn).1) (Wd_get (is_cu hn)) ⟨by decide, rfl⟩ rfl (Nat.le_of_ble_eq_true rfl) (by decide) (by decide) (Nat.zero_le _) (Nat.zero_le _) rfl rfl (s_X3_length hL hr hn) ?_
        refine xz_iconst dX11_split_86 ?_
        refine xz_isub dX11_split_87 ?_
        refine xz_i2l dX11_split_88 (by omega) ?_
        refine xz_mminL dX11_split_89 w_956 (Nat.le_of_ble_eq_true rfl) (Nat.zero_le _) (Nat.zero_le _) (by omega) (by omega) ?_
        refine xz_mmaxL dX11_split_92 w_959 (Nat.le_of_ble_eq_true rfl) (Nat.zero_le _) (Nat.zero_le _) (by omega) (by omega) ?_
        refine xz_l2i dX11_split_95 (by omega) ?_
        refine xz_iadd dX11_split_96 ?_
        refine xw_istore (l2 := [(0, .ref 0), (1, .int (iI n)), (2, .int (iI a)), (3, .ref (cu n)), (4, .long (lI ((σ (cu n) 2 - σ (cu n) 1) * (yLt (σ (cw n)) a) / (yLt (σ (cw n)) (σ (cu n) 6))))), (6, .int (iI ((σ (cu n) 1) + (max 1 (min ((σ (cu n) 2 - σ (cu n) 1) * (yLt (σ (cw n)) a) / (yLt (σ (cw n)) (σ (cu n) 6))) ((σ (cu n) 2 - σ (cu n) 1) - 1))))))]) dX11_split_97 (by decide) rfl rfl ?_
        refine xw_aload_n 0 dX11_split_99 rfl ?_
        refine xw_iload 5 dX11_split_100 rfl ?_
        refine xw_aload_n 3 dX11_split_102 rfl ?_
        have r8 := hr (cu n) 2
        refine yz_geti (z := 2) (v := σ (cu n) 2) (fo_X11_224 rfl) dX11_split_103 (is_cu hn) rfl rfl rfl ?_
        refine xw_aload_n 3 dX11_split_106 rfl ?_
        have r9 := hr (cu n) 3
        refine yz_geti (z := 3) (v := σ (cu n) 3) (fo_X11_282 rfl) dX11_split_107 (is_cu hn) rfl rfl rfl ?_
        have r10 := hr 0 5
        refine yc_V (M' := mX11_makeCue) (d := 0) (c := 0) (s := 0) (As := [.int (iI ((σ (cu n) 1) + (max 1 (min ((σ (cu n) 2 - σ (cu n) 1) * (yLt (σ (cw n)) a) / (yLt (σ (cw n)) (σ (cu n) 6))) ((σ (cu n) 2 - σ (cu n) 1) - 1))))), .int (iI (σ (cu n) 2)), .int (iI (σ (cu n) 3))]) (st := []) (v0 := some (.int (iI (σ 0 5)))) (G2 := Wd (yup (yup (yup (yup (yup (yup σ (cu (σ 0 5)) 0 1) (cu (σ 0 5)) 1 ((σ (cu n) 1) + (max 1 (min ((σ (cu n) 2 - σ (cu n) 1) * (yLt (σ (cw n)) a) / (yLt (σ (cw n)) (σ (cu n) 6))) ((σ (cu n) 2 - σ (cu n) 1) - 1))))) (cu (σ 0 5)) 2 (σ (cu n) 2)) (cu (σ 0 5)) 3 (σ (cu n) 3)) 0 5 ((σ 0 5) + 1)) 0 6 0) X) dX11_split_110 okX11_makeCue (Or.inl w_1008) (xBig_i is_0.1) (Wd_get is_0) ⟨by decide, rfl⟩ rfl (Nat.le_of_ble_eq_true rfl) (by decide) (by decide) (Nat.zero_le _) (Nat.zero_le _) rfl rfl (s_makeCue hL hr (by omega)) ?_
        obtain ⟨σm, em⟩ : ∃ z, z = yup (yup (yup (yup (yup (yup σ (cu (σ 0 5)) 0 1) (cu (σ 0 5)) 1 ((σ (cu n) 1) + (max 1 (min ((σ (cu n) 2 - σ (cu n) 1) * (yLt (σ (cw n)) a) / (yLt (σ (cw n)) (σ (cu n) 6))) ((σ (cu n) 2 - σ (cu n) 1) - 1))))) (cu (σ 0 5)) 2 (σ (cu n) 2)) (cu (σ 0 5)) 3 (σ (cu n) 3)) 0 5 ((σ 0 5) + 1)) 0 6 0 := ⟨_, rfl⟩
        rw [← em]
        have hrm : yRg σm := by rw [em]; exact (yRg_up (yRg_up (yRg_up (yRg_up (yRg_up (yRg_up hr (by omega)) (by omega)) (by omega)) (by omega)) (by omega)) (by omega))
        have gm : ∀ x y, ¬ (x = cu (σ 0 5) ∧ y ≤ 3) → ¬ (x = 0 ∧ (y = 5 ∨ y = 6)) → σm x y = σ x y := fun x y q1 q2 => by
          rw [em, yup_n (fun z => q2 ⟨z.1, by omega⟩), yup_n (fun z => q2 ⟨z.1, by omega⟩), yup_n (fun z => q1 ⟨z.1, by omega⟩), yup_n (fun z => q1 ⟨z.1, by omega⟩), yup_n (fun z => q1 ⟨z.1, by omega⟩), yup_n (fun z => q1 ⟨z.1, by omega⟩)]
        have gn : ∀ y, σm (cu n) y = σ (cu n) y := fun y => gm _ _ (fun z => by have := (cu_inj hn.1 (by omega)).mp z.1; omega) (by unfold cu; omega)
        have gw : ∀ (k : Int) y, σm (cw k) y = σ (cw k) y := fun k y => gm _ _ (by unfold cu cw; omega) (by unfold cw; omega)
        refine xw_istore (l2 := [(0, .ref 0), (1, .int (iI n)), (2, .int (iI a)), (3, .ref (cu n)), (4, .long (lI ((σ (cu n) 2 - σ (cu n) 1) * (yLt (σ (cw n)) a) / (yLt (σ (cw n)) (σ (cu n) 6))))), (6, .int (iI ((σ (cu n) 1) + (max 1 (min ((σ (cu n) 2 - σ (cu n) 1) * (yLt (σ (cw n)) a) / (yLt (σ (cw n)) (σ (cu n) 6))) ((σ (cu n) 2 - σ (cu n) 1) - 1)))))), (7, .int (iI (σ 0 5)))]) dX11_split_113 (by decide) rfl rfl ?_
        refine xw_aload_n 0 dX11_split_115 rfl ?_
        refine yz_getr (fo_X11_37 rfl) dX11_split_116 is_0 rfl ?_
        refine xw_iload 6 dX11_split_119 rfl ?_
        refine yz_aald 3 dX11_split_121 (by decide) rfl rfl is_21 (by omega) (by decide) (ks21_get (by omega)) ?_
        refine xw_aload_n 3 dX11_split_122 rfl ?_
        refine xw_iload_n 2 dX11_split_123 rfl ?_
        refine yc_VE (M' := mX3_appendFrom) (d := 2) (c := 0) (s := 0) (As := [.ref (cu n), .int (iI a)]) (st := []) dX11_split_124 okX3_appendFrom (Or.inl w_1064) (xBig_i (is_cu (by omega)).1) (Wd_get (is_cu (by omega))) ⟨by decide, rfl⟩ rfl (Nat.le_of_ble_eq_true rfl) (by decide) (by decide) (Nat.zero_le _) (Nat.zero_le _) (s2_X3_appendFrom hL hrm (n := σ 0 5) (m := n) (k := a) (by omega) hn (by omega) (by omega) (by rw [gn]; omega) (by rw [gn, gm (cu (σ 0 5)) 6 (by omega) (by unfold cu; omega), hfr]; omega)) (fun v9 G9 h9 => ?_) (fun E9 G9 h9 => ?_)
        · obtain ⟨σ11, e9, hr11, hc11, hw11, hf11, e8⟩ := h9
          cases e9
          subst e8
          have e6 : σm (cu (σ 0 5)) 6 = 0 := (gm (cu (σ 0 5)) 6 (by omega) (by unfold cu; omega)).trans hfr
          rw [e6, gn] at hc11
          rw [e6] at hf11
          rw [e6, gn] at hw11
          refine xw_aload_n 3 dX11_split_127 rfl ?_
          refine xw_iload_n 2 dX11_split_128 rfl ?_
          refine yc_V (M' := mX3_cutWords) (d := 1) (c := 0) (s := 0) (As := [.int (iI a)]) (st := []) (v0 := none) (G2 := Wd (yfl (yup σ11 (cu n) 6 a) (ct n) 12 (-1)) X) dX11_split_129 okX3_cutWords (Or.inl w_1075) (xBig_i (is_cu hn).1) (Wd_get (is_cu hn)) ⟨by decide, rfl⟩ rfl (Nat.le_of_ble_eq_true rfl) (by decide) (by decide) (Nat.zero_le _) (Nat.zero_le _) rfl rfl (s_X3_cutWords hL hn) ?_
          refine xw_aload_n 3 dX11_split_132 rfl ?_
          refine xw_iload 5 dX11_split_133 rfl ?_
          refine yz_puti (z := 2) (fp_X11_224 rfl) dX11_split_135 (is_cu hn) rfl rfl ?_
          refine xw_iload 6 dX11_split_138 rfl ?_
          exact xz_iret dX11_split_140 rfl (Nat.zero_le _) (Nat.zero_le _) ⟨_, rfl, (yRg_up (yRg_fl (yRg_up hr11 (by omega)) (by decide)) (by omega)), by
            have hne : cu (σ 0 5) ≠ cu n := fun z => by have := (cu_inj (by omega) hn.1).mp z; omega
            have up : ∀ x y, ¬ (x = cu n ∧ (y = 2 ∨ y = 6)) → x ≠ ct n → (yup (yfl (yup σ11 (cu n) 6 a) (ct n) 12 (-1)) (cu n) 2 ((σ (cu n) 1) + (max 1 (min ((σ (cu n) 2 - σ (cu n) 1) * (yLt (σ (cw n)) a) / (yLt (σ (cw n)) (σ (cu n) 6))) ((σ (cu n) 2 - σ (cu n) 1) - 1))))) x y = σ11 x y := fun x y q1 q2 => by
              rw [yup_n (fun z => q1 ⟨z.1, by omega⟩), yfl_i q2, yup_n (fun z => q1 ⟨z.1, by omega⟩)]
            have upc : ∀ y, (yup (yfl (yup σ11 (cu n) 6 a) (ct n) 12 (-1)) (cu n) 2 ((σ (cu n) 1) + (max 1 (min ((σ (cu n) 2 - σ (cu n) 1) * (yLt (σ (cw n)) a) / (yLt (σ (cw n)) (σ (cu n) 6))) ((σ (cu n) 2 - σ (cu n) 1) - 1))))) (cu (σ 0 5)) y = σ11 (cu (σ 0 5)) y := fun y => up _ _ (fun z => hne z.1) (by unfold cu ct; omega)
            have s1 : ∀ x y, x ≠ ct (σ 0 5) → ¬ (x = cu (σ 0 5) ∧ y = 6) → x ≠ cw (σ 0 5) → σ11 x y = σm x y := fun x y q1 q2 q3 => hf11 x y q1 q2 (fun z => q3 z.1)
            have s1c : ∀ y, y ≠ 6 → σ11 (cu (σ 0 5)) y = σm (cu (σ 0 5)) y := fun y q => s1 _ _ (by unfold cu ct; omega) (fun z => q z.2) (by unfold cu cw; omega)
            refine ⟨?_, ?_, yup_s, ?_, ⟨?_, ?_, ?_, ?_, ?_⟩, fun j j1 j2 => ?_, fun j j2 => ?_, fun x y q1 q2 q3 q4 q5 q6 => ?_⟩
            · rw [up _ _ (by unfold cu; omega) (by unfold ct; omega), s1 _ _ (by unfold ct; omega) (by unfold cu; omega) (by unfold cw; omega), em, yup_k (by decide), yup_s]
            · rw [up _ _ (by unfold cu; omega) (by unfold ct; omega), s1 _ _ (by unfold ct; omega) (by unfold cu; omega) (by unfold cw; omega), em, yup_s]
            · rw [yup_k (by decide), yfl_i (by unfold cu ct; omega), yup_s]
            · rw [upc, s1c _ (by decide), em, yup_i (by unfold cu; omega), yup_i (by unfold cu; omega), yup_k (by decide), yup_k (by decide), yup_k (by decide), yup_s]
            · rw [upc, s1c _ (by decide), em, yup_i (by unfold cu; omega), yup_i (by unfold cu; omega), yup_k (by decide), yup_k (by decide), yup_s]
            · rw [upc, s1c _ (by decide), em, yup_i (by unfold cu; omega), yup_i (by unfold cu; omega), yup_k (by decide), yup_s]
            · rw [upc, s1c _ (by decide), em, yup_i (by unfold cu; omega), yup_i (by unfold cu; omega), yup_s]
            · rw [upc, hc11]; omega
            · rw [up _ _ (by unfold cw cu; omega) (by unfold cw ct; omega)]
              have := hw11 j j1 (by omega)
              rw [Int.zero_add, gw] at this
              exact this
            · rw [up _ _ (by unfold cw cu; omega) (by unfold cw ct; omega), hf11 _ _ (by unfold cw ct; omega) (by unfold cw cu; omega) (fun z => by rw [gn] at z; omega), gm _ _ (by unfold cw cu; omega) (by unfold cw; omega)]
            · rw [up _ _ q5 q4, s1 _ _ q3 (fun z => q1 z.1) q2, gm _ _ (fun z => q1 z.1) q6], rfl⟩
        · obtain ⟨_, e9, _⟩ := h9
          cases e9
      · exact absurd c4 (by omega))
theorem s2_merge (hL : L.stackTraces = false) {n m : Int} (hr : yRg σ) (hn : 0 ≤ n ∧ n < 24) (h1 : n < σ 0 5) (h2 : σ (cu n) 0 = 1) (hm : 0 ≤ m ∧ m < 24) (m1 : m < σ 0 5) (m2 : σ (cu m) 0 = 1) (hnm : n ≠ m) (h3 : σ (cu n) 3 = σ (cu m) 3) (h6 : 0 ≤ σ (cu n) 6) (h7 : 0 ≤ σ (cu m) 6) (h8 : σ (cu n) 6 + σ (cu m) 6 ≤ 12) : xMet L O mX11_merge (xR 3 0 0) [.ref 0, .int (iI n), .int (iI m)] (Wd σ X) (fun o G1 => ∃ σ' : ySg, o = .inl (some (.int (iI (σ (cu n) 6 + σ (cu m) 6)))) ∧ yRg σ' ∧ (σ' (cu n) 6 = σ (cu n) 6 + σ (cu m) 6 ∧ σ' (cu n) 1 = min (σ (cu n) 1) (σ (cu m) 1) ∧ σ' (cu n) 2 = max (σ (cu n) 2) (σ (cu m) 2) ∧ σ' (cu m) 0 = 0 ∧ σ' 0 6 = 0 ∧ (∀ j, 0 ≤ j → j < σ (cu m) 6 → σ' (cw n) (σ (cu n) 6 + j) = σ (cw m) j) ∧ (∀ x y, x ≠ ct n → ¬ (x = cu n ∧ (y = 1 ∨ y = 2 ∨ y = 6)) → ¬ (x = cw n ∧ σ (cu n) 6 ≤ y ∧ y < σ (cu n) 6 + max 0 (σ (cu m) 6 - 0)) → ¬ (x = cu m ∧ y = 0) → ¬ (x = 0 ∧ y = 6) → σ' x y = σ x y)) ∧ G1 = Wd σ' X) := xMet_of (by decide) hL (Nat.le_of_ble_eq_true rfl) (by
  refine xw_eq rfl (l2 := [(0, .ref 0), (1, .int (iI n)), (2, .int (iI m))]) rfl rfl rfl ?_
  refine xw_aload_n 0 dX11_merge_0 rfl ?_
  refine xw_iload_n 1 dX11_merge_1 rfl ?_
  refine yc_V (M' := mX11_cueOf) (d := 0) (c := 0) (s := 0) (As := [.int (iI n)]) (st := []) (v0 := some (.ref (cu n))) (G2 := Wd σ X) dX11_merge_2 okX11_cueOf (Or.inl w_503) (xBig_i is_0.1) (Wd_get is_0) ⟨by decide, rfl⟩ rfl (Nat.le_of_ble_eq_true rfl) (by decide) (by decide) (Nat.zero_le _) (Nat.zero_le _) rfl rfl (s_cueOf1 hL hr hn h1 h2) ?_
  refine xw_astore_n (l2 := [(0, .ref 0), (1, .int (iI n)), (2, .int (iI m)), (3, .ref (cu n))]) dX11_merge_5 (by decide) rfl rfl ?_
  refine xw_aload_n 0 dX11_merge_6 rfl ?_
  refine xw_iload_n 2 dX11_merge_7 rfl ?_
  refine yc_V (M' := mX11_cueOf) (d := 0) (c := 0) (s := 0) (As := [.int (iI m)]) (st := []) (v0 := some (.ref (cu m))) (G2 := Wd σ X) dX11_merge_8 okX11_cueOf (Or.inl w_503) (xBig_i is_0.1) (Wd_get is_0) ⟨by decide, rfl⟩ rfl (Nat.le_of_ble_eq_true rfl) (by decide) (by decide) (Nat.zero_le _) (Nat.zero_le _) rfl rfl (s_cueOf1 hL hr hm m1 m2) ?_
  refine xw_astore (l2 := [(0, .ref 0), (1, .int (iI n)), (2, .int (iI m)), (3, .ref (cu n)), (4, .ref (cu m))]) dX11_merge_11 (by decide) rfl rfl ?_
  refine xw_iload_n 1 dX11_merge_13 rfl ?_
  refine xw_iload_n 2 dX11_merge_14 rfl ?_
  refine xz_icmp_eq (tgt := 34) dX11_merge_15 (by decide) (by omega) (by omega) (fun c1 => ?_) (fun c1 => ?_)
  · exact absurd c1 hnm
  · refine xw_aload_n 3 dX11_merge_18 rfl ?_
    have r2 := hr (cu n) 3
    refine yz_geti (z := 3) (v := σ (cu n) 3) (fo_X11_282 rfl) dX11_merge_19 (is_cu hn) rfl rfl rfl ?_
    refine xw_aload 4 dX11_merge_22 rfl ?_
    have r3 := hr (cu m) 3
    refine yz_geti (z := 3) (v := σ (cu m) 3) (fo_X11_282 rfl) dX11_merge_24 (is_cu hm) rfl rfl rfl ?_
    refine xz_icmp_ne (tgt := 34) dX11_merge_27 (by decide) (by omega) (by omega) (fun c4 => ?_) (fun c4 => ?_)
    · exact absurd c4 (by omega)
    · refine xz_iconst dX11_merge_30 ?_
      refine xw_goto (tgt := 35) dX11_merge_31 (by decide) ?_
      refine yc_S (M' := mX11_needArgument) (d := 0) (c := 0) (s := 0) (As := [.int (iI 1)]) (st := []) (v0 := none) (G2 := Wd σ X) dX11_merge_35 okX11_needArgument (Or.inl w_749) rfl (Nat.le_of_ble_eq_true rfl) (by decide) (by decide) (Nat.zero_le _) (Nat.zero_le _) rfl rfl (s_needArg1 hL) ?_
      refine xw_aload_n 3 dX11_merge_38 rfl ?_
      have r5 := hr (cu n) 6
      refine yz_geti (z := 6) (v := σ (cu n) 6) (fo_X11_208 rfl) dX11_merge_39 (is_cu hn) rfl rfl rfl ?_
      refine xw_aload 4 dX11_merge_42 rfl ?_
      have r6 := hr (cu m) 6
      refine yz_geti (z := 6) (v := σ (cu m) 6) (fo_X11_208 rfl) dX11_merge_44 (is_cu hm) rfl rfl rfl ?_
      refine xz_iadd dX11_merge_47 ?_
      refine xz_bipush dX11_merge_48 (by decide) ?_
      refine xz_icmp_le (tgt := 64) dX11_merge_50 (by decide) (by omega) (by omega) (fun c7 => ?_) (fun c7 => ?_)
      · refine xw_aload_n 3 dX11_merge_64 rfl ?_
        refine xw_aload 4 dX11_merge_65 rfl ?_
        refine xz_iconst dX11_merge_67 ?_
        refine yc_VE (M' := mX3_appendFrom) (d := 2) (c := 0) (s := 0) (As := [.ref (cu m), .int (iI 0)]) (st := []) dX11_merge_68 okX3_appendFrom (Or.inl w_1064) (xBig_i (is_cu hn).1) (Wd_get (is_cu hn)) ⟨by decide, rfl⟩ rfl (Nat.le_of_ble_eq_true rfl) (by decide) (by decide) (Nat.zero_le _) (Nat.zero_le _) (s2_X3_appendFrom hL hr (k := 0) hn hm hnm (by omega) (by omega) (by omega)) (fun v9 G9 h9 => ?_) (fun E9 G9 h9 => ?_)
        · obtain ⟨σ8, e9, hr8, hc8, hw8, hf8, e8⟩ := h9
          cases e9
          subst e8
          have hne : cu m ≠ cu n := fun z => hnm ((cu_inj hm.1 hn.1).mp z).symm
          have gc : ∀ (q y : Int), y ≠ 6 → σ8 (cu q) y = σ (cu q) y := fun q y z => hf8 _ _ (by unfold cu ct; omega) (fun w => z w.2) (by unfold cu cw; omega)
          have c1n := gc n 1 (by decide)
          have c1m := gc m 1 (by decide)
          have c2n := gc n 2 (by decide)
          have c2m := gc m 2 (by decide)
          have q1 := hr (cu n) 1
          have q2 := hr (cu m) 1
          have q3 := hr (cu n) 2
          have q4 := hr (cu m) 2
          refine xw_aload_n 3 dX11_merge_71 rfl ?_
          refine xw_aload_n 3 dX11_merge_72 rfl ?_
          refine yz_geti (z := 1) (v := σ (cu n) 1) (fo_X11_221 rfl) dX11_merge_73 (is_cu hn) rfl rfl c1n ?_
          refine xw_aload 4 dX11_merge_76 rfl ?_
          refine yz_geti (z := 1) (v := σ (cu m) 1) (fo_X11_221 rfl) dX11_merge_78 (is_cu hm) rfl rfl c1m ?_
          refine xz_mmin dX11_merge_81 w_892 (Nat.le_of_ble_eq_true rfl) (Nat.zero_le _) (Nat.zero_le _) (by omega) (by omega) ?_
          refine yz_puti (z := 1) (fp_X11_221 rfl) dX11_merge_84 (is_cu hn) rfl rfl ?_
          refine xw_aload_n 3 dX11_merge_87 rfl ?_
          refine xw_aload_n 3 dX11_merge_88 rfl ?_
          refine yz_geti (z := 2) (v := σ (cu n) 2) (fo_X11_224 rfl) dX11_merge_89 (is_cu hn) rfl rfl ((yup_k (by decide)).trans c2n) ?_
          refine xw_aload 4 dX11_merge_92 rfl ?_
          refine yz_geti (z := 2) (v := σ (cu m) 2) (fo_X11_224 rfl) dX11_merge_94 (is_cu hm) rfl rfl ((yup_k (by decide)).trans c2m) ?_
          refine xz_mmax dX11_merge_97 w_578 (Nat.le_of_ble_eq_true rfl) (Nat.zero_le _) (Nat.zero_le _) (by omega) (by omega) ?_
          refine yz_puti (z := 2) (fp_X11_224 rfl) dX11_merge_100 (is_cu hn) rfl rfl ?_
          refine xw_aload 4 dX11_merge_103 rfl ?_
          refine xz_iconst dX11_merge_105 ?_
          refine yz_putz (z := 0) (fp_X11_218 rfl) dX11_merge_106 (is_cu hm) rfl rfl (Or.inl rfl) ?_
          refine xw_aload_n 0 dX11_merge_109 rfl ?_
          refine xz_iconst dX11_merge_110 ?_
          refine yz_putz (z := 6) (fp_X11_193 rfl) dX11_merge_111 is_0 rfl rfl (Or.inl rfl) ?_
          refine xw_aload_n 3 dX11_merge_114 rfl ?_
          refine yz_geti (z := 6) (v := σ8 (cu n) 6) (fo_X11_208 rfl) dX11_merge_115 (is_cu hn) rfl rfl ((yup_i (by simp only [cu, cw, ct, cl, pr, co]; omega)).trans ((yup_k (by decide)).trans ((yup_k (by decide)).trans (yup_k (by decide))))) ?_
          exact xz_iret dX11_merge_118 rfl (Nat.zero_le _) (Nat.zero_le _) ⟨_, by rw [hc8]; congr 4 <;> omega, (yRg_up (yRg_up (yRg_up (yRg_up hr8 (by omega)) (by omega)) (by omega)) (by omega)), by
            have up : ∀ x y, ¬ (x = cu n ∧ (y = 1 ∨ y = 2)) → ¬ (x = cu m ∧ y = 0) → ¬ (x = 0 ∧ y = 6) → (yup (yup (yup (yup σ8 (cu n) 1 (min (σ (cu n) 1) (σ (cu m) 1))) (cu n) 2 (max (σ (cu n) 2) (σ (cu m) 2))) (cu m) 0 0) 0 6 0) x y = σ8 x y := fun x y q1 q2 q3 => by
              rw [yup_n q3, yup_n q2, yup_n (fun z => q1 ⟨z.1, by omega⟩), yup_n (fun z => q1 ⟨z.1, by omega⟩)]
            refine ⟨?_, ?_, ?_, ?_, yup_s, fun j j1 j2 => ?_, fun x y q1 q2 q3 q4 q5 => ?_⟩
            · rw [up _ _ (by omega) (by omega) (by unfold cu; omega), hc8]; omega
            · rw [yup_i (by unfold cu; omega), yup_k (by decide), yup_k (by decide), yup_s]
            · rw [yup_i (by unfold cu; omega), yup_k (by decide), yup_s]
            · rw [yup_i (by unfold cu; omega), yup_s]
            · rw [up _ _ (by unfold cw cu; omega) (by unfold cw cu; omega) (by unfold cw; omega), hw8 j j1 (by omega), Int.zero_add]
            · rw [up _ _ (fun z => q2 ⟨z.1, by omega⟩) q4 q5]; exact hf8 _ _ q1 (fun z => q2 ⟨z.1, by omega⟩) q3, rfl⟩
        · obtain ⟨_, e9, _⟩ := h9
          cases e9
      · exact absurd c7 (by omega))
end Y40

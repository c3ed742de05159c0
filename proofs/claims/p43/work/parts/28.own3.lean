section Y28
variable {L : Launch} {O : xWd} {K : xOc → List xOb → Prop} {σ : ySg} {X : List xOb} {G : List xOb}
theorem s_split (hL : L.stackTraces = false) {n a : Int} (hr : yRg σ) (hn : 0 ≤ n ∧ n < 24) (h1 : n < σ 0 5) (h2 : σ (cu n) 0 = 1) (ha : 1 ≤ a ∧ a < σ (cu n) 6) (hc : σ (cu n) 6 ≤ 12) (hl : 0 ≤ σ (cu n) 1 ∧ σ (cu n) 1 + 2 ≤ σ (cu n) 2 ∧ σ (cu n) 2 ≤ 99999) (hm : σ 0 5 < 24) (hfr : σ (cu (σ 0 5)) 6 = 0) (hw : ∀ j, 0 ≤ j → j < 12 → 0 ≤ σ (cw n) j) : xMet L O mX11_split (xR 3 0 0) [.ref 0, .int (iI n), .int (iI a)] (Wd σ X) (fun o G1 => ∃ σ' : ySg, o = .inl (some (.int (iI (σ 0 5)))) ∧ yRg σ' ∧ (σ' 0 5 = σ 0 5 + 1 ∧ σ' 0 6 = 0 ∧ σ' (cu n) 2 = σ (cu n) 1 + max 1 (min ((σ (cu n) 2 - σ (cu n) 1) * yLt (σ (cw n)) a / yLt (σ (cw n)) (σ (cu n) 6)) (σ (cu n) 2 - σ (cu n) 1 - 1)) ∧ σ' (cu n) 6 = a ∧ (σ' (cu (σ 0 5)) 0 = 1 ∧ σ' (cu (σ 0 5)) 1 = σ (cu n) 1 + max 1 (min ((σ (cu n) 2 - σ (cu n) 1) * yLt (σ (cw n)) a / yLt (σ (cw n)) (σ (cu n) 6)) (σ (cu n) 2 - σ (cu n) 1 - 1)) ∧ σ' (cu (σ 0 5)) 2 = σ (cu n) 2 ∧ σ' (cu (σ 0 5)) 3 = σ (cu n) 3 ∧ σ' (cu (σ 0 5)) 6 = σ (cu n) 6 - a) ∧ (∀ j, 0 ≤ j → j < σ (cu n) 6 - a → σ' (cw (σ 0 5)) j = σ (cw n) (a + j)) ∧ (∀ x y, x ≠ cu (σ 0 5) → x ≠ cw (σ 0 5) → x ≠ ct (σ 0 5) → x ≠ ct n → ¬ (x = cu n ∧ (y = 2 ∨ y = 6)) → ¬ (x = 0 ∧ (y = 5 ∨ y = 6)) → σ' x y = σ x y)) ∧ G1 = Wd σ' X) := xMet_of (by decide) hL (Nat.le_of_ble_eq_true rfl) (by
  refine xw_eq rfl (l2 := [(0, .ref 0), (1, .int (iI n)), (2, .int (iI a))]) rfl rfl rfl ?_
  refine xw_aload_n 0 dX11_split_0 rfl ?_
  refine xw_iload_n 1 dX11_split_1 rfl ?_
  refine yc_V (M' := mX11_cueOf) (d := 0) (c := 0) (s := 0) (As := [.int (iI n)]) (st := []) (v0 := some (.ref (cu n))) (G2 := Wd σ X) dX11_split_2 okX11_cueOf (Or.inl w_503) (xBig_i is_0.1) (Wd_get is_0) ⟨by decide, rfl⟩ rfl (Nat.le_of_ble_eq_true rfl) (by decide) (by decide) (Nat.zero_le _) (Nat.zero_le _) rfl rfl (s_cueOf1 hL hr (by omega) (by omega) (by omega)) ?_
  refine xw_astore_n (l2 := [(0, .ref 0), (1, .int (iI n)), (2, .int (iI a)), (3, .ref (cu n))]) dX11_split_5 (by decide) rfl rfl ?_
  refine xw_iload_n 2 dX11_split_6 rfl ?_
  refine xz_iconst dX11_split_7 ?_
  refine xz_icmp_lt (tgt := 23) dX11_split_8 (by decide) (by omega) (by omega) (fun c1 => ?_) (fun c1 => ?_)
  · exact absurd c1 (by omega)
  · refine xw_iload_n 2 dX11_split_11 rfl ?_
    refine xw_aload_n 3 dX11_split_12 rfl ?_
    have r2 := hr (cu n) 6
    refine yz_geti (z := 6) (v := σ (cu n) 6) (fo_X11_208 rfl) dX11_split_13 (is_cu hn) rfl rfl rfl ?_
    refine xz_icmp_ge (tgt := 23) dX11_split_16 (by decide) (by omega) (by omega) (fun c3 => ?_) (fun c3 => ?_)
    · exact absurd c3 (by omega)
    · refine xz_iconst dX11_split_19 ?_
      refine xw_goto (tgt := 24) dX11_split_20 (by decide) ?_
      refine yc_S (M' := mX11_needArgument) (d := 0) (c := 0) (s := 0) (As := [.int (iI 1)]) (st := []) (v0 := none) (G2 := Wd σ X) dX11_split_24 okX11_needArgument (Or.inl w_749) rfl (Nat.le_of_ble_eq_true rfl) (by decide) (by decide) (Nat.zero_le _) (Nat.zero_le _) rfl rfl (s_needArg1 hL) ?_
      refine xw_aload_n 3 dX11_split_27 rfl ?_
      refine yc_V (M' := mX3_length) (d := 0) (c := 0) (s := 0) (As := []) (st := []) (v0 := some (.int (iI (σ (cu n) 2 - σ (cu n) 1)))) (G2 := Wd σ X) dX11_split_28 okX3_length (Or.inl w_590) (xBig_i (is_cu hn).1) (Wd_get (is_cu hn)) ⟨by decide, rfl⟩ rfl (Nat.le_of_ble_eq_true rfl) (by decide) (by decide) (Nat.zero_le _) (Nat.zero_le _) rfl rfl (s_X3_length hL hr hn) ?_
      refine xz_iconst dX11_split_31 ?_
      refine xz_icmp_ge (tgt := 46) dX11_split_32 (by decide) (by omega) (by omega) (fun c4 => ?_) (fun c4 => ?_)
      · refine xw_aload_n 0 dX11_split_46 rfl ?_
        refine yc_V (M' := mX11_needRoomForCue) (d := 0) (c := 0) (s := 0) (As := []) (st := []) (v0 := none) (G2 := Wd σ X) dX11_split_47 okX11_needRoomForCue (Or.inl w_1003) (xBig_i is_0.1) (Wd_get is_0) ⟨by decide, rfl⟩ rfl (Nat.le_of_ble_eq_true rfl) (by decide) (by decide) (Nat.zero_le _) (Nat.zero_le _) rfl rfl (s_needRoom1 hL hr (by omega)) ?_
        refine xw_aload_n 3 dX11_split_50 rfl ?_
        refine yc_V (M' := mX3_length) (d := 0) (c := 0) (s := 0) (As := []) (st := []) (v0 := some (.int (iI (σ (cu n) 2 - σ (cu n) 1)))) (G2 := Wd σ X) dX11_split_51 okX3_length (Or.inl w_590) (xBig_i (is_cu hn).1) (Wd_get (is_cu hn)) ⟨by decide, rfl⟩ rfl (Nat.le_of_ble_eq_true rfl) (by decide) (by decide) (Nat.zero_le _) (Nat.zero_le _) rfl rfl (s_X3_length hL hr hn) ?_
        refine xz_i2l dX11_split_54 (by omega) ?_
        refine xw_aload_n 3 dX11_split_55 rfl ?_
        refine xw_iload_n 2 dX11_split_56 rfl ?_
        have b5 := yLt_bd (σ (cw n)) (j := a) (by omega)
        refine yc_V (M' := mX3_letters) (d := 1) (c := 0) (s := 0) (As := [.int (iI a)]) (st := [.long (lI (σ (cu n) 2 - σ (cu n) 1))]) (v0 := some (.int (iI (yLt (σ (cw n)) a)))) (G2 := Wd σ X) dX11_split_57 okX3_letters (Or.inl w_579) (xBig_i (is_cu hn).1) (Wd_get (is_cu hn)) ⟨by decide, rfl⟩ rfl (Nat.le_of_ble_eq_true rfl) (by decide) (by decide) (Nat.zero_le _) (Nat.zero_le _) rfl rfl (s_X3_letters hL hr hn (by omega) hw) ?_
        refine xz_i2l dX11_split_60 (by omega) ?_
        refine xw_aload_n 3 dX11_split_61 rfl ?_
        refine xw_aload_n 3 dX11_split_62 rfl ?_
        refine yz_geti (z := 6) (v := σ (cu n) 6) (fo_X11_208 rfl) dX11_split_63 (is_cu hn) rfl rfl rfl ?_
        have b6 := yLt_bd (σ (cw n)) (j := σ (cu n) 6) (by omega)
        refine yc_V (M' := mX3_letters) (d := 1) (c := 0) (s := 0) (As := [.int (iI (σ (cu n) 6))]) (st := [.long (lI (yLt (σ (cw n)) a)), .long (lI (σ (cu n) 2 - σ (cu n) 1))]) (v0 := some (.int (iI (yLt (σ (cw n)) (σ (cu n) 6))))) (G2 := Wd σ X) dX11_split_66 okX3_letters (Or.inl w_579) (xBig_i (is_cu hn).1) (Wd_get (is_cu hn)) ⟨by decide, rfl⟩ rfl (Nat.le_of_ble_eq_true rfl) (by decide) (by decide) (Nat.zero_le _) (Nat.zero_le _) rfl rfl (s_X3_letters hL hr hn (by omega) hw) ?_
        refine xz_i2l dX11_split_69 (by omega) ?_
        have hmm := hmul (σ (cu n) 2 - σ (cu n) 1) (yLt (σ (cw n)) a) (by omega) (by omega)
        have hdd := hdiv (σ (cu n) 2 - σ (cu n) 1) (yLt (σ (cw n)) a) (yLt (σ (cw n)) (σ (cu n) 6)) (by omega) (by omega) (by omega)
        refine yc_S (M' := mX11_scaled) (d := 0) (c := 0) (s := 0) (As := [.long (lI (σ (cu n) 2 - σ (cu n) 1)), .long (lI (yLt (σ (cw n)) a)), .long (lI (yLt (σ (cw n)) (σ (cu n) 6)))]) (st := []) (v0 := some (.long (lI ((σ (cu n) 2 - σ (cu n) 1) * (yLt (σ (cw n)) a) / (yLt (σ (cw n)) (σ (cu n) 6)))))) (G2 := Wd σ X) dX11_split_70 okX11_scaled (Or.inl w_905) rfl (Nat.le_of_ble_eq_true rfl) (by decide) (by decide) (Nat.zero_le _) (Nat.zero_le _) rfl rfl (s_scaled hL (by omega) (by omega)) ?_
        refine xw_lstore (l2 := [(0, .ref 0), (1, .int (iI n)), (2, .int (iI a)), (3, .ref (cu n)), (4, .long (lI ((σ (cu n) 2 - σ (cu n) 1) * (yLt (σ (cw n)) a) / (yLt (σ (cw n)) (σ (cu n) 6)))))]) dX11_split_73 (by decide) rfl rfl ?_
        refine xw_aload_n 3 dX11_split_75 rfl ?_
        have r7 := hr (cu n) 1
        refine yz_geti (z := 1) (v := σ (cu n) 1) (fo_X11_221 rfl) dX11_split_76 (is_cu hn) rfl rfl rfl ?_
        refine xz_lconst (z := 1) dX11_split_79 (by decide) ?_
        refine xw_lload 4 dX11_split_80 rfl ?_
        refine xw_aload_n 3 dX11_split_82 rfl ?_
        refine yc_V (M' := mX3_length) (d := 0) (c := 0) (s := 0) (As := []) (st := [.long (lI ((σ (cu n) 2 - σ (cu n) 1) * (yLt (σ (cw n)) a) / (yLt (σ (cw n)) (σ (cu n) 6)))), .long (lI 1), .int (iI (σ (cu n) 1))]) (v0 := some (.int (iI (σ (cu n) 2 - σ (cu n) 1)))) (G2 := Wd σ X) dX11_split_83 okX3_length (Or.inl w_590) (xBig_i (is_cu hn).1) (Wd_get (is_cu hn)) ⟨by decide, rfl⟩ rfl (Nat.le_of_ble_eq_true rfl) (by decide) (by decide) (Nat.zero_le _) (Nat.zero_le _) rfl rfl (s_X3_length hL hr hn) ?_
        refine xz_iconst dX11_split_86 ?_
        refine xz_isub dX11_split_87 ?_
        refine xz_i2l dX11_split_88 (by omega) ?_
        refine xz_mminL dX11_split_89 w_956 (Nat.le_of_ble_eq_true rfl) (Nat.zero_le _) (Nat.zero_le _) (by omega) (by omega) ?_
        refine xz_mmaxL dX11_split_92 w_959 (Nat.le_of_ble_eq_true rfl) (Nat.zero_le _) (Nat.zero_le _) (by omega) (by omega) ?_
        refine xz_l2i dX11_split_95 (by omega) ?_
        refine xz_iadd dX11_split_96 ?_
        refine xw_istore (l2 := [(0, .ref 0), (1, .int (iI n)), (2, .int (iI a)), (3, .ref (cu n)), (4, .long (lI ((σ (cu n) 2 - σ (cu n) 1) * (yLt (σ (cw n)) a) / (yLt (σ (cw n)) (σ (cu n) 6))))), (6, .int (iI ((σ (cu n) 1) + (max 1 (min ((σ (cu n) 2 - σ (cu n) 1) * (yLt (σ (cw n)) a) / (yLt (σ (cw n)) (σ (cu n) 6))) ((σ (cu n) 2 - σ (cu n) 1) - 1))))))]) dX11_split_97 (by decide) rfl rfl ?_
        refine xw_aload_n 0 dX11_split_99 rfl ?_
        refine xw_iload 5 dX11_split_100 rfl ?_
        refine xw_aload_n 3 dX11_split_102 rfl ?_
        have r8 := hr (cu n) 2
        refine yz_geti (z := 2) (v := σ (cu n) 2) (fo_X11_224 rfl) dX11_split_103 (is_cu hn) rfl rfl rfl ?_
        refine xw_aload_n 3 dX11_split_106 rfl ?_
        have r9 := hr (cu n) 3
        refine yz_geti (z := 3) (v := σ (cu n) 3) (fo_X11_282 rfl) dX11_split_107 (is_cu hn) rfl rfl rfl ?_
        have r10 := hr 0 5
        refine yc_V (M' := mX11_makeCue) (d := 0) (c := 0) (s := 0) (As := [.int (iI ((σ (cu n) 1) + (max 1 (min ((σ (cu n) 2 - σ (cu n) 1) * (yLt (σ (cw n)) a) / (yLt (σ (cw n)) (σ (cu n) 6))) ((σ (cu n) 2 - σ (cu n) 1) - 1))))), .int (iI (σ (cu n) 2)), .int (iI (σ (cu n) 3))]) (st := []) (v0 := some (.int (iI (σ 0 5)))) (G2 := Wd (yup (yup (yup (yup (yup (yup σ (cu (σ 0 5)) 0 1) (cu (σ 0 5)) 1 ((σ (cu n) 1) + (max 1 (min ((σ (cu n) 2 - σ (cu n) 1) * (yLt (σ (cw n)) a) / (yLt (σ (cw n)) (σ (cu n) 6))) ((σ (cu n) 2 - σ (cu n) 1) - 1))))) (cu (σ 0 5)) 2 (σ (cu n) 2)) (cu (σ 0 5)) 3 (σ (cu n) 3)) 0 5 ((σ 0 5) + 1)) 0 6 0) X) dX11_split_110 okX11_makeCue (Or.inl w_1008) (xBig_i is_0.1) (Wd_get is_0) ⟨by decide, rfl⟩ rfl (Nat.le_of_ble_eq_true rfl) (by decide) (by decide) (Nat.zero_le _) (Nat.zero_le _) rfl rfl (s_makeCue hL hr (by omega)) ?_
        obtain ⟨σm, em⟩ : ∃ z, z = yup (yup (yup (yup (yup (yup σ (cu (σ 0 5)) 0 1) (cu (σ 0 5)) 1 ((σ (cu n) 1) + (max 1 (min ((σ (cu n) 2 - σ (cu n) 1) * (yLt (σ (cw n)) a) / (yLt (σ (cw n)) (σ (cu n) 6))) ((σ (cu n) 2 - σ (cu n) 1) - 1))))) (cu (σ 0 5)) 2 (σ (cu n) 2)) (cu (σ 0 5)) 3 (σ (cu n) 3)) 0 5 ((σ 0 5) + 1)) 0 6 0 := ⟨_, rfl⟩
        rw [← em]
        have hrm : yRg σm := by rw [em]; exact (yRg_up (yRg_up (yRg_up (yRg_up (yRg_up (yRg_up hr (by omega)) (by omega)) (by omega)) (by omega)) (by omega)) (by omega))
        have gm : ∀ x y, ¬ (x = cu (σ 0 5) ∧ y ≤ 3) → ¬ (x = 0 ∧ (y = 5 ∨ y = 6)) → σm x y = σ x y := fun x y q1 q2 => by
          rw [em, yup_n (fun z => q2 ⟨z.1, by omega⟩), yup_n (fun z => q2 ⟨z.1, by omega⟩), yup_n (fun z => q1 ⟨z.1, by omega⟩), yup_n (fun z => q1 ⟨z.1, by omega⟩), yup_n (fun z => q1 ⟨z.1, by omega⟩), yup_n (fun z => q1 ⟨z.1, by omega⟩)]
        have gn : ∀ y, σm (cu n) y = σ (cu n) y := fun y => gm _ _ (fun z => by have := (cu_inj hn.1 (by omega)).mp z.1; omega) (by unfold cu; omega)
        have gw : ∀ (k : Int) y, σm (cw k) y = σ (cw k) y := fun k y => gm _ _ (by unfold cu cw; omega) (by unfold cw; omega)
        refine xw_istore (l2 := [(0, .ref 0), (1, .int (iI n)), (2, .int (iI a)), (3, .ref (cu n)), (4, .long (lI ((σ (cu n) 2 - σ (cu n) 1) * (yLt (σ (cw n)) a) / (yLt (σ (cw n)) (σ (cu n) 6))))), (6, .int (iI ((σ (cu n) 1) + (max 1 (min ((σ (cu n) 2 - σ (cu n) 1) * (yLt (σ (cw n)) a) / (yLt (σ (cw n)) (σ (cu n) 6))) ((σ (cu n) 2 - σ (cu n) 1) - 1)))))), (7, .int (iI (σ 0 5)))]) dX11_split_113 (by decide) rfl rfl ?_
        refine xw_aload_n 0 dX11_split_115 rfl ?_
        refine yz_getr (fo_X11_37 rfl) dX11_split_116 is_0 rfl ?_
        refine xw_iload 6 dX11_split_119 rfl ?_
        refine yz_aald 3 dX11_split_121 (by decide) rfl rfl is_21 (by omega) (by decide) (ks21_get (by omega)) ?_
        refine xw_aload_n 3 dX11_split_122 rfl ?_
        refine xw_iload_n 2 dX11_split_123 rfl ?_
        refine yc_VE (M' := mX3_appendFrom) (d := 2) (c := 0) (s := 0) (As := [.ref (cu n), .int (iI a)]) (st := []) dX11_split_124 okX3_appendFrom (Or.inl w_1064) (xBig_i (is_cu (by omega)).1) (Wd_get (is_cu (by omega))) ⟨by decide, rfl⟩ rfl (Nat.le_of_ble_eq_true rfl) (by decide) (by decide) (Nat.zero_le _) (Nat.zero_le _) (s_X3_appendFrom hL hrm (n := σ 0 5) (m := n) (k := a) (by omega) hn (by omega) (by omega) (by rw [gn]; omega) (by rw [gn, gm (cu (σ 0 5)) 6 (by omega) (by unfold cu; omega), hfr]; omega)) (fun v9 G9 h9 => ?_) (fun E9 G9 h9 => ?_)
        · obtain ⟨σ11, e9, hr11, hc11, hw11, hf11, e8⟩ := h9
          cases e9
          subst e8
          have e6 : σm (cu (σ 0 5)) 6 = 0 := (gm (cu (σ 0 5)) 6 (by omega) (by unfold cu; omega)).trans hfr
          rw [e6, gn] at hc11
          rw [e6] at hf11
          rw [e6, gn] at hw11
          refine xw_aload_n 3 dX11_split_127 rfl ?_
          refine xw_iload_n 2 dX11_split_128 rfl ?_
          refine yc_V (M' := mX3_cutWords) (d := 1) (c := 0) (s := 0) (As := [.int (iI a)]) (st := []) (v0 := none) (G2 := Wd (yfl (yup σ11 (cu n) 6 a) (ct n) 12 (-1)) X) dX11_split_129 okX3_cutWords (Or.inl w_1075) (xBig_i (is_cu hn).1) (Wd_get (is_cu hn)) ⟨by decide, rfl⟩ rfl (Nat.le_of_ble_eq_true rfl) (by decide) (by decide) (Nat.zero_le _) (Nat.zero_le _) rfl rfl (s_X3_cutWords hL hn) ?_
          refine xw_aload_n 3 dX11_split_132 rfl ?_
          refine xw_iload 5 dX11_split_133 rfl ?_
          refine yz_puti (z := 2) (fp_X11_224 rfl) dX11_split_135 (is_cu hn) rfl rfl ?_
          refine xw_iload 6 dX11_split_138 rfl ?_
          exact xz_iret dX11_split_140 rfl (Nat.zero_le _) (Nat.zero_le _) ⟨_, rfl, (yRg_up (yRg_fl (yRg_up hr11 (by omega)) (by decide)) (by omega)), by
            have hne : cu (σ 0 5) ≠ cu n := fun z => by have := (cu_inj (by omega) hn.1).mp z; omega
            have up : ∀ x y, ¬ (x = cu n ∧ (y = 2 ∨ y = 6)) → x ≠ ct n → (yup (yfl (yup σ11 (cu n) 6 a) (ct n) 12 (-1)) (cu n) 2 ((σ (cu n) 1) + (max 1 (min ((σ (cu n) 2 - σ (cu n) 1) * (yLt (σ (cw n)) a) / (yLt (σ (cw n)) (σ (cu n) 6))) ((σ (cu n) 2 - σ (cu n) 1) - 1))))) x y = σ11 x y := fun x y q1 q2 => by
              rw [yup_n (fun z => q1 ⟨z.1, by omega⟩), yfl_i q2, yup_n (fun z => q1 ⟨z.1, by omega⟩)]
            have upc : ∀ y, (yup (yfl (yup σ11 (cu n) 6 a) (ct n) 12 (-1)) (cu n) 2 ((σ (cu n) 1) + (max 1 (min ((σ (cu n) 2 - σ (cu n) 1) * (yLt (σ (cw n)) a) / (yLt (σ (cw n)) (σ (cu n) 6))) ((σ (cu n) 2 - σ (cu n) 1) - 1))))) (cu (σ 0 5)) y = σ11 (cu (σ 0 5)) y := fun y => up _ _ (fun z => hne z.1) (by unfold cu ct; omega)
            have s1 : ∀ x y, x ≠ ct (σ 0 5) → ¬ (x = cu (σ 0 5) ∧ y = 6) → x ≠ cw (σ 0 5) → σ11 x y = σm x y := fun x y q1 q2 q3 => hf11 x y q1 q2 (fun z => q3 z.1)
            have s1c : ∀ y, y ≠ 6 → σ11 (cu (σ 0 5)) y = σm (cu (σ 0 5)) y := fun y q => s1 _ _ (by unfold cu ct; omega) (fun z => q z.2) (by unfold cu cw; omega)
            refine ⟨?_, ?_, yup_s, ?_, ⟨?_, ?_, ?_, ?_, ?_⟩, fun j j1 j2 => ?_, fun x y q1 q2 q3 q4 q5 q6 => ?_⟩
            · rw [up _ _ (by unfold cu; omega) (by unfold ct; omega), s1 _ _ (by unfold ct; omega) (by unfold cu; omega) (by unfold cw; omega), em, yup_k (by decide), yup_s]
            · rw [up _ _ (by unfold cu; omega) (by unfold ct; omega), s1 _ _ (by unfold ct; omega) (by unfold cu; omega) (by unfold cw; omega), em, yup_s]
            · rw [yup_k (by decide), yfl_i (by unfold cu ct; omega), yup_s]
            · rw [upc, s1c _ (by decide), em, yup_i (by unfold cu; omega), yup_i (by unfold cu; omega), yup_k (by decide), yup_k (by decide), yup_k (by decide), yup_s]
            · rw [upc, s1c _ (by decide), em, yup_i (by unfold cu; omega), yup_i (by unfold cu; omega), yup_k (by decide), yup_k (by decide), yup_s]
            · rw [upc, s1c _ (by decide), em, yup_i (by unfold cu; omega), yup_i (by unfold cu; omega), yup_k (by decide), yup_s]
            · rw [upc, s1c _ (by decide), em, yup_i (by unfold cu; omega), yup_i (by unfold cu; omega), yup_s]
            · rw [upc, hc11]; omega
            · rw [up _ _ (by unfold cw cu; omega) (by unfold cw ct; omega)]
              have := hw11 j j1 (by omega)
              rw [Int.zero_add, gw] at this
              exact this
            · rw [up _ _ q5 q4, s1 _ _ q3 (fun z => q1 z.1) q2, gm _ _ (fun z => q1 z.1) q6], rfl⟩
        · obtain ⟨_, e9, _⟩ := h9
          cases e9
      · exact absurd c4 (by omega))
theorem s_merge (hL : L.stackTraces = false) {n m : Int} (hr : yRg σ) (hn : 0 ≤ n ∧ n < 24) (h1 : n < σ 0 5) (h2 : σ (cu n) 0 = 1) (hm : 0 ≤ m ∧ m < 24) (m1 : m < σ 0 5) (m2 : σ (cu m) 0 = 1) (hnm : n ≠ m) (h3 : σ (cu n) 3 = σ (cu m) 3) (h6 : 0 ≤ σ (cu n) 6) (h7 : 0 ≤ σ (cu m) 6) (h8 : σ (cu n) 6 + σ (cu m) 6 ≤ 12) : xMet L O mX11_merge (xR 3 0 0) [.ref 0, .int (iI n), .int (iI m)] (Wd σ X) (fun o G1 => ∃ σ' : ySg, o = .inl (some (.int (iI (σ (cu n) 6 + σ (cu m) 6)))) ∧ yRg σ' ∧ (σ' (cu n) 6 = σ (cu n) 6 + σ (cu m) 6 ∧ σ' (cu n) 1 = min (σ (cu n) 1) (σ (cu m) 1) ∧ σ' (cu n) 2 = max (σ (cu n) 2) (σ (cu m) 2) ∧ σ' (cu m) 0 = 0 ∧ σ' 0 6 = 0 ∧ (∀ j, 0 ≤ j → j < σ (cu m) 6 → σ' (cw n) (σ (cu n) 6 + j) = σ (cw m) j) ∧ (∀ x y, x ≠ ct n → ¬ (x = cu n ∧ (y = 1 ∨ y = 2 ∨ y = 6)) → ¬ (x = cw n ∧ σ (cu n) 6 ≤ y) → ¬ (x = cu m ∧ y = 0) → ¬ (x = 0 ∧ y = 6) → σ' x y = σ x y)) ∧ G1 = Wd σ' X) := xMet_of (by decide) hL (Nat.le_of_ble_eq_true rfl) (by
  refine xw_eq rfl (l2 := [(0, .ref 0), (1, .int (iI n)), (2, .int (iI m))]) rfl rfl rfl ?_
  refine xw_aload_n 0 dX11_merge_0 rfl ?_
  refine xw_iload_n 1 dX11_merge_1 rfl ?_
  refine yc_V (M' := mX11_cueOf) (d := 0) (c := 0) (s := 0) (As := [.int (iI n)]) (st := []) (v0 := some (.ref (cu n))) (G2 := Wd σ X) dX11_merge_2 okX11_cueOf (Or.inl w_503) (xBig_i is_0.1) (Wd_get is_0) ⟨by decide, rfl⟩ rfl (Nat.le_of_ble_eq_true rfl) (by decide) (by decide) (Nat.zero_le _) (Nat.zero_le _) rfl rfl (s_cueOf1 hL hr hn h1 h2) ?_
  refine xw_astore_n (l2 := [(0, .ref 0), (1, .int (iI n)), (2, .int (iI m)), (3, .ref (cu n))]) dX11_merge_5 (by decide) rfl rfl ?_
  refine xw_aload_n 0 dX11_merge_6 rfl ?_
  refine xw_iload_n 2 dX11_merge_7 rfl ?_
  refine yc_V (M' := mX11_cueOf) (d := 0) (c := 0) (s := 0) (As := [.int (iI m)]) (st := []) (v0 := some (.ref (cu m))) (G2 := Wd σ X) dX11_merge_8 okX11_cueOf (Or.inl w_503) (xBig_i is_0.1) (Wd_get is_0) ⟨by decide, rfl⟩ rfl (Nat.le_of_ble_eq_true rfl) (by decide) (by decide) (Nat.zero_le _) (Nat.zero_le _) rfl rfl (s_cueOf1 hL hr hm m1 m2) ?_
  refine xw_astore (l2 := [(0, .ref 0), (1, .int (iI n)), (2, .int (iI m)), (3, .ref (cu n)), (4, .ref (cu m))]) dX11_merge_11 (by decide) rfl rfl ?_
  refine xw_iload_n 1 dX11_merge_13 rfl ?_
  refine xw_iload_n 2 dX11_merge_14 rfl ?_
  refine xz_icmp_eq (tgt := 34) dX11_merge_15 (by decide) (by omega) (by omega) (fun c1 => ?_) (fun c1 => ?_)
  · exact absurd c1 hnm
  · refine xw_aload_n 3 dX11_merge_18 rfl ?_
    have r2 := hr (cu n) 3
    refine yz_geti (z := 3) (v := σ (cu n) 3) (fo_X11_282 rfl) dX11_merge_19 (is_cu hn) rfl rfl rfl ?_
    refine xw_aload 4 dX11_merge_22 rfl ?_
    have r3 := hr (cu m) 3
    refine yz_geti (z := 3) (v := σ (cu m) 3) (fo_X11_282 rfl) dX11_merge_24 (is_cu hm) rfl rfl rfl ?_
    refine xz_icmp_ne (tgt := 34) dX11_merge_27 (by decide) (by omega) (by omega) (fun c4 => ?_) (fun c4 => ?_)
    · exact absurd c4 (by omega)
    · refine xz_iconst dX11_merge_30 ?_
      refine xw_goto (tgt := 35) dX11_merge_31 (by decide) ?_
      refine yc_S (M' := mX11_needArgument) (d := 0) (c := 0) (s := 0) (As := [.int (iI 1)]) (st := []) (v0 := none) (G2 := Wd σ X) dX11_merge_35 okX11_needArgument (Or.inl w_749) rfl (Nat.le_of_ble_eq_true rfl) (by decide) (by decide) (Nat.zero_le _) (Nat.zero_le _) rfl rfl (s_needArg1 hL) ?_
      refine xw_aload_n 3 dX11_merge_38 rfl ?_
      have r5 := hr (cu n) 6
      refine yz_geti (z := 6) (v := σ (cu n) 6) (fo_X11_208 rfl) dX11_merge_39 (is_cu hn) rfl rfl rfl ?_
      refine xw_aload 4 dX11_merge_42 rfl ?_
      have r6 := hr (cu m) 6
      refine yz_geti (z := 6) (v := σ (cu m) 6) (fo_X11_208 rfl) dX11_merge_44 (is_cu hm) rfl rfl rfl ?_
      refine xz_iadd dX11_merge_47 ?_
      refine xz_bipush dX11_merge_48 (by decide) ?_
      refine xz_icmp_le (tgt := 64) dX11_merge_50 (by decide) (by omega) (by omega) (fun c7 => ?_) (fun c7 => ?_)
      · refine xw_aload_n 3 dX11_merge_64 rfl ?_
        refine xw_aload 4 dX11_merge_65 rfl ?_
        refine xz_iconst dX11_merge_67 ?_
        refine yc_VE (M' := mX3_appendFrom) (d := 2) (c := 0) (s := 0) (As := [.ref (cu m), .int (iI 0)]) (st := []) dX11_merge_68 okX3_appendFrom (Or.inl w_1064) (xBig_i (is_cu hn).1) (Wd_get (is_cu hn)) ⟨by decide, rfl⟩ rfl (Nat.le_of_ble_eq_true rfl) (by decide) (by decide) (Nat.zero_le _) (Nat.zero_le _) (s_X3_appendFrom hL hr (k := 0) hn hm hnm (by omega) (by omega) (by omega)) (fun v9 G9 h9 => ?_) (fun E9 G9 h9 => ?_)
        · obtain ⟨σ8, e9, hr8, hc8, hw8, hf8, e8⟩ := h9
          cases e9
          subst e8
          have hne : cu m ≠ cu n := fun z => hnm ((cu_inj hm.1 hn.1).mp z).symm
          have gc : ∀ (q y : Int), y ≠ 6 → σ8 (cu q) y = σ (cu q) y := fun q y z => hf8 _ _ (by unfold cu ct; omega) (fun w => z w.2) (by unfold cu cw; omega)
          have c1n := gc n 1 (by decide)
          have c1m := gc m 1 (by decide)
          have c2n := gc n 2 (by decide)
          have c2m := gc m 2 (by decide)
          have q1 := hr (cu n) 1
          have q2 := hr (cu m) 1
          have q3 := hr (cu n) 2
          have q4 := hr (cu m) 2
          refine xw_aload_n 3 dX11_merge_71 rfl ?_
          refine xw_aload_n 3 dX11_merge_72 rfl ?_
          refine yz_geti (z := 1) (v := σ (cu n) 1) (fo_X11_221 rfl) dX11_merge_73 (is_cu hn) rfl rfl c1n ?_
          refine xw_aload 4 dX11_merge_76 rfl ?_
          refine yz_geti (z := 1) (v := σ (cu m) 1) (fo_X11_221 rfl) dX11_merge_78 (is_cu hm) rfl rfl c1m ?_
          refine xz_mmin dX11_merge_81 w_892 (Nat.le_of_ble_eq_true rfl) (Nat.zero_le _) (Nat.zero_le _) (by omega) (by omega) ?_
          refine yz_puti (z := 1) (fp_X11_221 rfl) dX11_merge_84 (is_cu hn) rfl rfl ?_
          refine xw_aload_n 3 dX11_merge_87 rfl ?_
          refine xw_aload_n 3 dX11_merge_88 rfl ?_
          refine yz_geti (z := 2) (v := σ (cu n) 2) (fo_X11_224 rfl) dX11_merge_89 (is_cu hn) rfl rfl ((yup_k (by decide)).trans c2n) ?_
          refine xw_aload 4 dX11_merge_92 rfl ?_
          refine yz_geti (z := 2) (v := σ (cu m) 2) (fo_X11_224 rfl) dX11_merge_94 (is_cu hm) rfl rfl ((yup_k (by decide)).trans c2m) ?_
          refine xz_mmax dX11_merge_97 w_578 (Nat.le_of_ble_eq_true rfl) (Nat.zero_le _) (Nat.zero_le _) (by omega) (by omega) ?_
          refine yz_puti (z := 2) (fp_X11_224 rfl) dX11_merge_100 (is_cu hn) rfl rfl ?_
          refine xw_aload 4 dX11_merge_103 rfl ?_
          refine xz_iconst dX11_merge_105 ?_
          refine yz_putz (z := 0) (fp_X11_218 rfl) dX11_merge_106 (is_cu hm) rfl rfl (Or.inl rfl) ?_
          refine xw_aload_n 0 dX11_merge_109 rfl ?_
          refine xz_iconst dX11_merge_110 ?_
          refine yz_putz (z := 6) (fp_X11_193 rfl) dX11_merge_111 is_0 rfl rfl (Or.inl rfl) ?_
          refine xw_aload_n 3 dX11_merge_114 rfl ?_
          refine yz_geti (z := 6) (v := σ8 (cu n) 6) (fo_X11_208 rfl) dX11_merge_115 (is_cu hn) rfl rfl ((yup_i (by simp only [cu, cw, ct, cl, pr, co]; omega)).trans ((yup_k (by decide)).trans ((yup_k (by decide)).trans (yup_k (by decide))))) ?_
          exact xz_iret dX11_merge_118 rfl (Nat.zero_le _) (Nat.zero_le _) ⟨_, by rw [hc8]; congr 4 <;> omega, (yRg_up (yRg_up (yRg_up (yRg_up hr8 (by omega)) (by omega)) (by omega)) (by omega)), by
            have up : ∀ x y, ¬ (x = cu n ∧ (y = 1 ∨ y = 2)) → ¬ (x = cu m ∧ y = 0) → ¬ (x = 0 ∧ y = 6) → (yup (yup (yup (yup σ8 (cu n) 1 (min (σ (cu n) 1) (σ (cu m) 1))) (cu n) 2 (max (σ (cu n) 2) (σ (cu m) 2))) (cu m) 0 0) 0 6 0) x y = σ8 x y := fun x y q1 q2 q3 => by
              rw [yup_n q3, yup_n q2, yup_n (fun z => q1 ⟨z.1, by omega⟩), yup_n (fun z => q1 ⟨z.1, by omega⟩)]
            refine ⟨?_, ?_, ?_, ?_, yup_s, fun j j1 j2 => ?_, fun x y q1 q2 q3 q4 q5 => ?_⟩
            · rw [up _ _ (by omega) (by omega) (by unfold cu; omega), hc8]; omega
            · rw [yup_i (by unfold cu; omega), yup_k (by decide), yup_k (by decide), yup_s]
            · rw [yup_i (by unfold cu; omega), yup_k (by decide), yup_s]
            · rw [yup_i (by unfold cu; omega), yup_s]
            · rw [up _ _ (by unfold cw cu; omega) (by unfold cw cu; omega) (by unfold cw; omega), hw8 j j1 (by omega), Int.zero_add]
            · rw [up _ _ (fun z => q2 ⟨z.1, by omega⟩) q4 q5]; exact hf8 _ _ q1 (fun z => q2 ⟨z.1, by omega⟩) q3, rfl⟩
        · obtain ⟨_, e9, _⟩ := h9
          cases e9
      · exact absurd c7 (by omega))
noncomputable def yPo (N : Int) (o R S W : Int → Int) (x r : Int) : Int :=
  if r = 1 then ySo ((yGl o R 1 N.toNat).length : Int) ((yGl o R 2 N.toNat).length : Int) x (yGt (yGl o R 1 N.toNat)) (yGt (yGl o R 2 N.toNat)) (yPt (yPx S W (yGl o R 1 N.toNat) (yGl o R 2 N.toNat)) ((yGl o R 1 N.toNat).length : Int) ((yGl o R 2 N.toNat).length : Int)) 0
  else yFo ((yGl o R 1 N.toNat).length : Int) ((yGl o R 2 N.toNat).length : Int) x (yGt (yGl o R 1 N.toNat)) (yGt (yGl o R 2 N.toNat)) (yPt (yPx S W (yGl o R 1 N.toNat) (yGl o R 2 N.toNat)) ((yGl o R 1 N.toNat).length : Int) ((yGl o R 2 N.toNat).length : Int)) 0
theorem yOr.cong2 {σ σ' : ySg} {c : Int} (h : yOr σ c) (hc : c ≤ 24) (h1 : ∀ p, σ' 29 p = σ 29 p) (h2 : ∀ k : Int, k < 24 → σ' (cu k) 1 = σ (cu k) 1) : yOr σ' c := by
  obtain ⟨g1, g2, g3⟩ := h
  refine ⟨fun p a b => by rw [h1]; exact g1 p a b, fun p q a b d => ?_, fun k a b => ?_⟩
  · have e1 := g1 p a (by omega)
    have e2 := g1 q (by omega) d
    rw [h1, h1, h2 _ (by omega), h2 _ (by omega)]
    exact g2 p q a b d
  · obtain ⟨p, p1, p2, p3⟩ := g3 k a b
    exact ⟨p, p1, p2, (h1 p).trans p3⟩
theorem yArd.p {σ σ' : ySg} {N : Int} (h : yArd σ N) (hN : N ≤ 24) (g : ∀ a b, (a < 135 ∨ (185 < a ∧ a < 190)) → σ' a b = σ a b) : yArd σ' N := by
  obtain ⟨h1, h2, h3⟩ := h
  refine ⟨(g _ _ (by omega)).trans h1, h2.cong2 hN (fun p => g _ _ (by omega)) (fun k q => g _ _ (by unfold cu; omega)), fun k a1 a2 => ?_⟩
  have := h3 k a1 a2
  unfold yRw at this ⊢
  rw [g _ _ (by unfold cu; omega), g _ _ (by unfold cu; omega), g _ _ (by unfold cu; omega)]
  exact this
theorem s_pairOf (hL : L.stackTraces = false) {n N : Int} (hr : yRg σ) (hn : 0 ≤ n ∧ n < 24) (h1 : n < σ 0 5) (h2 : σ (cu n) 0 = 1) (h3 : 1 ≤ σ (cu n) 3 ∧ σ (cu n) 3 ≤ 2) (hN : 0 ≤ N ∧ N ≤ 24) (ht : yTh σ N) (hcs : yCst σ) (hcu : yCus σ N) (h6 : σ 0 6 = 0 ∨ (σ 0 6 = 1 ∧ yArd σ N)) (hS : ∀ k, 0 ≤ k → k < 24 → 0 ≤ σ (cu k) 1 ∧ σ (cu k) 1 ≤ 99999) (hW : ∀ k, 0 ≤ k → k < 24 → 0 ≤ σ (cu k) 6 ∧ σ (cu k) 6 ≤ 12) : xMet L O mX11_pairOf (xR 7 0 0) [.ref 0, .int (iI n)] (Wd σ X) (fun o G1 => ∃ (σ' : ySg) (z : Int), o = .inl (some (.int (iI z))) ∧ yRg σ' ∧ σ' 0 6 = 1 ∧ yArd σ' N ∧ (∀ x y, ¬ yScA x y → ¬ (x = 0 ∧ y = 6) → (x < 135 ∨ (185 < x ∧ x < 190)) → σ' x y = σ x y) ∧ (σ 0 6 = 1 → ∀ p, σ' 29 p = σ 29 p) ∧ z = yPo N (σ' 29) (fun k => σ (cu k) 3) (fun k => σ (cu k) 1) (fun k => σ (cu k) 6) n (σ (cu n) 3) ∧ G1 = Wd σ' X) := xMet_of (by decide) hL (Nat.le_of_ble_eq_true rfl) (by
  refine xw_eq rfl (l2 := [(0, .ref 0), (1, .int (iI n))]) rfl rfl rfl ?_
  refine xw_aload_n 0 dX11_pairOf_0 rfl ?_
  refine xw_iload_n 1 dX11_pairOf_1 rfl ?_
  refine yc_V (M' := mX11_cueOf) (d := 0) (c := 0) (s := 0) (As := [.int (iI n)]) (st := []) (v0 := some (.ref (cu n))) (G2 := Wd σ X) dX11_pairOf_2 okX11_cueOf (Or.inl w_503) (xBig_i is_0.1) (Wd_get is_0) ⟨by decide, rfl⟩ rfl (Nat.le_of_ble_eq_true rfl) (by decide) (by decide) (Nat.zero_le _) (Nat.zero_le _) rfl rfl (s_cueOf1 hL hr (by omega) (by omega) (by omega)) ?_
  refine xw_astore_n (l2 := [(0, .ref 0), (1, .int (iI n)), (2, .ref (cu n))]) dX11_pairOf_5 (by decide) rfl rfl ?_
  refine xw_aload_n 2 dX11_pairOf_6 rfl ?_
  have r1 := hr (cu n) 3
  refine yz_geti (z := 3) (v := σ (cu n) 3) (fo_X11_282 rfl) dX11_pairOf_7 (is_cu hn) rfl rfl rfl ?_
  refine xz_if_ne (tgt := 24) dX11_pairOf_10 (by decide) (by omega) (fun c2 => ?_) (fun c2 => ?_)
  · refine xw_aload_n 0 dX11_pairOf_24 rfl ?_
    refine yc_VE (M' := mX11_arrange) (d := 5) (c := 0) (s := 0) (As := []) (st := []) dX11_pairOf_25 okX11_arrange (Or.inl w_406) (xBig_i is_0.1) (Wd_get is_0) ⟨by decide, rfl⟩ rfl (Nat.le_of_ble_eq_true rfl) (by decide) (by decide) (Nat.zero_le _) (Nat.zero_le _) (s_arrange hL hr hN ht hcs hcu h6) (fun v9 G9 h9 => ?_) (fun E9 G9 h9 => ?_)
    · obtain ⟨σ3, e9, hr3, h63, ha3, hg3, hs3, e8⟩ := h9
      cases e9
      subst e8
      refine xw_aload_n 0 dX11_pairOf_28 rfl ?_
      refine yz_getr (fo_X11_71 rfl) dX11_pairOf_29 is_0 rfl ?_
      refine xw_aload_n 0 dX11_pairOf_32 rfl ?_
      refine yz_getr (fo_X11_29 rfl) dX11_pairOf_33 is_0 rfl ?_
      refine xw_aload_n 0 dX11_pairOf_36 rfl ?_
      refine yz_getr (fo_X11_57 rfl) dX11_pairOf_37 is_0 rfl ?_
      have ec : ∀ (k b : Int), b < 8 → σ3 (cu k) b = σ (cu k) b := fun k b q => hg3 _ _ (by unfold yScA cu; omega) (by unfold cu; omega)
      have hpa := s_pairAll (O := O) (σ := σ3) (X := X) hL (N := N) (o := σ3 29) (R := fun k => σ (cu k) 3) (S := fun k => σ (cu k) 1) (W := fun k => σ (cu k) 6) hr3 ha3.1 hN (fun p a1 a2 => by have := ha3.2.1.1 p a1 a2; omega) (fun p => rfl) (fun k _ => ec k 3 (by omega)) (fun k _ => ec k 1 (by omega)) (fun k _ => ec k 6 (by omega)) hS hW rfl rfl
      have hflx : ∀ x ∈ yGl (σ3 29) (fun k => σ (cu k) 3) 1 N.toNat, 0 ≤ x ∧ x < 24 := yGl_in _ _ 1 N (fun p a1 a2 => by have := ha3.2.1.1 p a1 a2; omega) N.toNat (by omega)
      have hslx : ∀ x ∈ yGl (σ3 29) (fun k => σ (cu k) 3) 2 N.toNat, 0 ≤ x ∧ x < 24 := yGl_in _ _ 2 N (fun p a1 a2 => by have := ha3.2.1.1 p a1 a2; omega) N.toNat (by omega)
      have hfnx : (yGl (σ3 29) (fun k => σ (cu k) 3) 1 N.toNat).length ≤ 24 := by have := yGl_len (σ3 29) (fun k => σ (cu k) 3) 1 N.toNat; omega
      have hsnx : (yGl (σ3 29) (fun k => σ (cu k) 3) 2 N.toNat).length ≤ 24 := by have := yGl_len (σ3 29) (fun k => σ (cu k) 3) 2 N.toNat; omega
      refine yc_VE (M' := mX8_pairAll) (d := 3) (c := 0) (s := 0) (As := [.ref 20, .ref 133]) (st := []) dX11_pairOf_40 okX8_pairAll (Or.inl w_464) (xBig_i is_190.1) (Wd_get is_190) ⟨by decide, rfl⟩ rfl (Nat.le_of_ble_eq_true rfl) (by decide) (by decide) (Nat.zero_le _) (Nat.zero_le _) hpa (fun v9 G9 h9 => ?_) (fun E9 G9 h9 => ?_)
      · obtain ⟨σ4, e9, hr4, hps4, hpt4, hfp4, e8⟩ := h9
        cases e9
        subst e8
        have e3 : σ4 (cu n) 3 = σ (cu n) 3 := (hfp4 _ _ (by unfold cu; omega)).trans (ec n 3 (by omega))
        refine xw_pop dX11_pairOf_43 rfl ?_
        refine xw_aload_n 2 dX11_pairOf_44 rfl ?_
        refine yz_geti (z := 3) (v := σ (cu n) 3) (fo_X11_282 rfl) dX11_pairOf_45 (is_cu hn) rfl rfl e3 ?_
        refine xz_iconst dX11_pairOf_48 ?_
        refine xz_icmp_ne (tgt := 67) dX11_pairOf_49 (by decide) (by omega) (by omega) (fun c5 => ?_) (fun c5 => ?_)
        · refine xw_aload_n 0 dX11_pairOf_67 rfl ?_
          refine yz_getr (fo_X11_71 rfl) dX11_pairOf_68 is_0 rfl ?_
          refine xw_iload_n 1 dX11_pairOf_71 rfl ?_
          refine xw_aload_n 0 dX11_pairOf_72 rfl ?_
          refine yz_getr (fo_X11_57 rfl) dX11_pairOf_73 is_0 rfl ?_
          refine yc_V (M' := mX8_firstOf) (d := 2) (c := 0) (s := 0) (As := [.int (iI n), .ref 133]) (st := []) (v0 := some (.int (iI (yFo ((yGl (σ3 29) (fun k => σ (cu k) 3) 1 N.toNat).length : Int) ((yGl (σ3 29) (fun k => σ (cu k) 3) 2 N.toNat).length : Int) n (yGt (yGl (σ3 29) (fun k => σ (cu k) 3) 1 N.toNat)) (yGt (yGl (σ3 29) (fun k => σ (cu k) 3) 2 N.toNat)) (yPt (yPx (fun k => σ (cu k) 1) (fun k => σ (cu k) 6) (yGl (σ3 29) (fun k => σ (cu k) 3) 1 N.toNat) (yGl (σ3 29) (fun k => σ (cu k) 3) 2 N.toNat)) ((yGl (σ3 29) (fun k => σ (cu k) 3) 1 N.toNat).length : Int) ((yGl (σ3 29) (fun k => σ (cu k) 3) 2 N.toNat).length : Int)) 0)))) (G2 := Wd σ4 X) dX11_pairOf_76 okX8_firstOf (Or.inl w_1122) (xBig_i is_190.1) (Wd_get is_190) ⟨by decide, rfl⟩ rfl (Nat.le_of_ble_eq_true rfl) (by decide) (by decide) (Nat.zero_le _) (Nat.zero_le _) rfl rfl (s_firstOf hL hr4 hps4 hflx hslx hfnx hsnx hpt4 (by omega)) ?_
          exact xz_iret dX11_pairOf_79 rfl (Nat.zero_le _) (Nat.zero_le _) ⟨_, _, rfl, hr4, (hfp4 _ _ (by omega)).trans h63, ha3.p hN.2 hfp4, fun x y q1 q2 q3 => (hfp4 x y q3).trans (hg3 x y q1 q2), fun q p => (hfp4 _ _ (by omega)).trans (hs3 q p), (by rw [show (σ4 29) = σ3 29 from funext fun p => hfp4 _ _ (by omega)]; unfold yPo; rw [if_neg c5]), rfl⟩
        · refine xw_aload_n 0 dX11_pairOf_52 rfl ?_
          refine yz_getr (fo_X11_71 rfl) dX11_pairOf_53 is_0 rfl ?_
          refine xw_iload_n 1 dX11_pairOf_56 rfl ?_
          refine xw_aload_n 0 dX11_pairOf_57 rfl ?_
          refine yz_getr (fo_X11_57 rfl) dX11_pairOf_58 is_0 rfl ?_
          refine yc_V (M' := mX8_secondOf) (d := 2) (c := 0) (s := 0) (As := [.int (iI n), .ref 133]) (st := []) (v0 := some (.int (iI (ySo ((yGl (σ3 29) (fun k => σ (cu k) 3) 1 N.toNat).length : Int) ((yGl (σ3 29) (fun k => σ (cu k) 3) 2 N.toNat).length : Int) n (yGt (yGl (σ3 29) (fun k => σ (cu k) 3) 1 N.toNat)) (yGt (yGl (σ3 29) (fun k => σ (cu k) 3) 2 N.toNat)) (yPt (yPx (fun k => σ (cu k) 1) (fun k => σ (cu k) 6) (yGl (σ3 29) (fun k => σ (cu k) 3) 1 N.toNat) (yGl (σ3 29) (fun k => σ (cu k) 3) 2 N.toNat)) ((yGl (σ3 29) (fun k => σ (cu k) 3) 1 N.toNat).length : Int) ((yGl (σ3 29) (fun k => σ (cu k) 3) 2 N.toNat).length : Int)) 0)))) (G2 := Wd σ4 X) dX11_pairOf_61 okX8_secondOf (Or.inl w_1116) (xBig_i is_190.1) (Wd_get is_190) ⟨by decide, rfl⟩ rfl (Nat.le_of_ble_eq_true rfl) (by decide) (by decide) (Nat.zero_le _) (Nat.zero_le _) rfl rfl (s_secondOf hL hr4 hps4 hflx hslx hfnx hsnx hpt4 (by omega)) ?_
          refine xw_goto (tgt := 79) dX11_pairOf_64 (by decide) ?_
          exact xz_iret dX11_pairOf_79 rfl (Nat.zero_le _) (Nat.zero_le _) ⟨_, _, rfl, hr4, (hfp4 _ _ (by omega)).trans h63, ha3.p hN.2 hfp4, fun x y q1 q2 q3 => (hfp4 x y q3).trans (hg3 x y q1 q2), fun q p => (hfp4 _ _ (by omega)).trans (hs3 q p), (by rw [show (σ4 29) = σ3 29 from funext fun p => hfp4 _ _ (by omega)]; unfold yPo; rw [if_pos c5]), rfl⟩
      · obtain ⟨_, e9, _⟩ := h9
        cases e9
    · obtain ⟨_, e9, _⟩ := h9
      cases e9
  · exact absurd c2 (by omega))
theorem u_pairOf (hL : L.stackTraces = false) (hX : X.length ≤ 1000000) {n : Int} (hr : yRg σ) (hn : 0 ≤ n ∧ n < 24) (h1 : n < σ 0 5) (h2 : σ (cu n) 0 = 1) (h3 : σ (cu n) 3 = 0) : xMet L O mX11_pairOf (xR 7 1 6) [.ref 0, .int (iI n)] (Wd σ X) (fun o G1 => o = .inr "java/lang/UnsupportedOperationException" ∧ G1 = Wd σ (X ++ [(127, [])])) := xMet_of (by decide) hL (Nat.le_of_ble_eq_true rfl) (by
  refine xw_eq rfl (l2 := [(0, .ref 0), (1, .int (iI n))]) rfl rfl rfl ?_
  refine xw_aload_n 0 dX11_pairOf_0 rfl ?_
  refine xw_iload_n 1 dX11_pairOf_1 rfl ?_
  refine yc_V (M' := mX11_cueOf) (d := 0) (c := 0) (s := 0) (As := [.int (iI n)]) (st := []) (v0 := some (.ref (cu n))) (G2 := Wd σ X) dX11_pairOf_2 okX11_cueOf (Or.inl w_503) (xBig_i is_0.1) (Wd_get is_0) ⟨by decide, rfl⟩ rfl (Nat.le_of_ble_eq_true rfl) (by decide) (by decide) (Nat.zero_le _) (Nat.zero_le _) rfl rfl (s_cueOf1 hL hr (by omega) (by omega) (by omega)) ?_
  refine xw_astore_n (l2 := [(0, .ref 0), (1, .int (iI n)), (2, .ref (cu n))]) dX11_pairOf_5 (by decide) rfl rfl ?_
  refine xw_aload_n 2 dX11_pairOf_6 rfl ?_
  have r1 := hr (cu n) 3
  refine yz_geti (z := 3) (v := σ (cu n) 3) (fo_X11_282 rfl) dX11_pairOf_7 (is_cu hn) rfl rfl rfl ?_
  refine xz_if_ne (tgt := 24) dX11_pairOf_10 (by decide) (by omega) (fun c2 => ?_) (fun c2 => ?_)
  · exact absurd c2 (by omega)
  · exact yt_X11_294_363_298 rfl dX11_pairOf_13 dX11_pairOf_16 dX11_pairOf_17 dX11_pairOf_20 dX11_pairOf_23 rfl (Nat.le_of_ble_eq_true rfl) (Nat.le_of_ble_eq_true rfl) (Nat.le_of_ble_eq_true rfl) hX ⟨rfl, rfl⟩)
theorem s_pairCost0 (hL : L.stackTraces = false) (hr : yRg σ) (hN : (0 : Int) ≤ 0 ∧ (0 : Int) ≤ 24) (ht : yTh σ 0) (hcs : yCst σ) (hcu : yCus σ 0) (h6 : σ 0 6 = 0 ∨ (σ 0 6 = 1 ∧ yArd σ 0)) (hS : ∀ k, 0 ≤ k → k < 24 → 0 ≤ σ (cu k) 1 ∧ σ (cu k) 1 ≤ 99999) (hW : ∀ k, 0 ≤ k → k < 24 → 0 ≤ σ (cu k) 6 ∧ σ (cu k) 6 ≤ 12) : xMet L O mX11_pairCost (xR 7 0 0) [.ref 0] (Wd σ X) (fun o G1 => ∃ σ' : ySg, o = .inl (some (.int (iI 0))) ∧ G1 = Wd σ' X) := xMet_of (by decide) hL (Nat.le_of_ble_eq_true rfl) (by
  refine xw_eq rfl (l2 := [(0, .ref 0)]) rfl rfl rfl ?_
  refine xw_aload_n 0 dX11_pairCost_0 rfl ?_
  refine yc_VE (M' := mX11_arrange) (d := 5) (c := 0) (s := 0) (As := []) (st := []) dX11_pairCost_1 okX11_arrange (Or.inl w_406) (xBig_i is_0.1) (Wd_get is_0) ⟨by decide, rfl⟩ rfl (Nat.le_of_ble_eq_true rfl) (by decide) (by decide) (Nat.zero_le _) (Nat.zero_le _) (s_arrange hL hr hN ht hcs hcu h6) (fun v9 G9 h9 => ?_) (fun E9 G9 h9 => ?_)
  · obtain ⟨σ1, e9, hr1, h61, ha1, hg1, hs1, e8⟩ := h9
    cases e9
    subst e8
    refine xw_aload_n 0 dX11_pairCost_4 rfl ?_
    refine yz_getr (fo_X11_71 rfl) dX11_pairCost_5 is_0 rfl ?_
    refine xw_aload_n 0 dX11_pairCost_8 rfl ?_
    refine yz_getr (fo_X11_29 rfl) dX11_pairCost_9 is_0 rfl ?_
    refine xw_aload_n 0 dX11_pairCost_12 rfl ?_
    refine yz_getr (fo_X11_57 rfl) dX11_pairCost_13 is_0 rfl ?_
    have ec : ∀ (k b : Int), b < 8 → σ1 (cu k) b = σ (cu k) b := fun k b q => hg1 _ _ (by unfold yScA cu; omega) (by unfold cu; omega)
    have hpa := s_pairAll (O := O) (σ := σ1) (X := X) hL (N := 0) (o := σ1 29) (R := fun k => σ (cu k) 3) (S := fun k => σ (cu k) 1) (W := fun k => σ (cu k) 6) hr1 ha1.1 hN (fun p a1 a2 => by have := ha1.2.1.1 p a1 a2; omega) (fun p => rfl) (fun k _ => ec k 3 (by omega)) (fun k _ => ec k 1 (by omega)) (fun k _ => ec k 6 (by omega)) hS hW rfl rfl
    have hflx : ∀ x ∈ yGl (σ1 29) (fun k => σ (cu k) 3) 1 (0 : Int).toNat, 0 ≤ x ∧ x < 24 := yGl_in _ _ 1 0 (fun p a1 a2 => by have := ha1.2.1.1 p a1 a2; omega) (0 : Int).toNat (by omega)
    have hslx : ∀ x ∈ yGl (σ1 29) (fun k => σ (cu k) 3) 2 (0 : Int).toNat, 0 ≤ x ∧ x < 24 := yGl_in _ _ 2 0 (fun p a1 a2 => by have := ha1.2.1.1 p a1 a2; omega) (0 : Int).toNat (by omega)
    have hfnx : (yGl (σ1 29) (fun k => σ (cu k) 3) 1 (0 : Int).toNat).length ≤ 24 := by have := yGl_len (σ1 29) (fun k => σ (cu k) 3) 1 (0 : Int).toNat; omega
    have hsnx : (yGl (σ1 29) (fun k => σ (cu k) 3) 2 (0 : Int).toNat).length ≤ 24 := by have := yGl_len (σ1 29) (fun k => σ (cu k) 3) 2 (0 : Int).toNat; omega
    refine yc_VE (M' := mX8_pairAll) (d := 3) (c := 0) (s := 0) (As := [.ref 20, .ref 133]) (st := []) dX11_pairCost_16 okX8_pairAll (Or.inl w_464) (xBig_i is_190.1) (Wd_get is_190) ⟨by decide, rfl⟩ rfl (Nat.le_of_ble_eq_true rfl) (by decide) (by decide) (Nat.zero_le _) (Nat.zero_le _) hpa (fun v9 G9 h9 => ?_) (fun E9 G9 h9 => ?_)
    · obtain ⟨σ2, e9, hr2, hps2, hpt2, hfp2, e8⟩ := h9
      cases e9
      subst e8
      exact xz_iret dX11_pairCost_19 rfl (Nat.zero_le _) (Nat.zero_le _) ⟨_, congrArg (fun z => Sum.inl (some (Value.int (iI z)))) (yC_0 (m := 0) (n := 0)), rfl⟩
    · obtain ⟨_, e9, _⟩ := h9
      cases e9
  · obtain ⟨_, e9, _⟩ := h9
    cases e9)
end Y28

section Y19
variable {L : Launch} {O : xWd} {K : xOc → List xOb → Prop} {σ : ySg} {X : List xOb} {G : List xOb}
/-- nothing but the breaker's own rows changed -/
def yF1 (σ σ' : ySg) : Prop := ∀ a b, a ≠ 26 → a ≠ 27 → a ≠ 28 → σ' a b = σ a b
theorem yF1.trans {σ σ1 σ2 : ySg} (h : yF1 σ σ1) (h2 : yF1 σ1 σ2) : yF1 σ σ2 := fun a b c d e => (h2 a b c d e).trans (h a b c d e)
def yLB (σ : ySg) (lo W : Int) : Prop := ∀ k, lo ≤ k → k ≤ W → 0 ≤ σ 26 k ∧ σ 26 k ≤ W - k ∧ 0 ≤ σ 27 k ∧ σ 27 k ≤ 400 * (W - k) ∧ (k < W → 1 ≤ σ 28 k ∧ σ 28 k ≤ 12)
theorem yLB_set {f l c b W : Int} (h : yLB σ (f + 1) W) (hf : f < W) (h1 : 0 ≤ l ∧ l ≤ W - f) (h2 : 0 ≤ c ∧ c ≤ 400 * (W - f)) (h3 : 1 ≤ b ∧ b ≤ 12) : yLB (yup (yup (yup σ 26 f l) 27 f c) 28 f b) f W := by
  intro k a1 a2
  by_cases e : k = f
  · subst e
    have e1 : (yup (yup (yup σ 26 k l) 27 k c) 28 k b) 26 k = l := (yup_i (by decide)).trans ((yup_i (by decide)).trans yup_s)
    have e2 : (yup (yup (yup σ 26 k l) 27 k c) 28 k b) 27 k = c := (yup_i (by decide)).trans yup_s
    have e3 : (yup (yup (yup σ 26 k l) 27 k c) 28 k b) 28 k = b := yup_s
    rw [e1, e2, e3]
    exact ⟨h1.1, h1.2, h2.1, h2.2, fun _ => h3⟩
  · have e1 : ∀ a, (yup (yup (yup σ 26 f l) 27 f c) 28 f b) a k = σ a k := fun a => (yup_k e).trans ((yup_k e).trans (yup_k e))
    rw [e1, e1, e1]
    exact h k (by omega) a2
theorem yF1_set {f l c b : Int} : yF1 σ (yup (yup (yup σ 26 f l) 27 f c) 28 f b) := fun a _ h1 h2 h3 => (yup_i h3).trans ((yup_i h2).trans (yup_i h1))
theorem hsq {x : Int} (h : 0 ≤ x ∧ x ≤ 20) : 0 ≤ x * x ∧ x * x ≤ 400 := by
  have h1 : 0 ≤ x * x := Int.mul_nonneg h.1 h.1
  have h2 : x * x ≤ 20 * 20 := Int.mul_le_mul h.2 h.2 h.1 (by omega)
  omega
theorem s_consider1 (hL : L.stackTraces = false) {f b c W : Int} (hr : yRg σ) (hf : 0 ≤ f ∧ f < b ∧ b ≤ W ∧ W ≤ 12) (hc : 0 ≤ c ∧ c ≤ 20) (h : yLB σ (f + 1) W) : xMet L O mX6_consider (xR 0 0 0) [.ref 25, .int (iI f), .int (iI b), .int (iI c), .int (iI 1)] (Wd σ X) (fun o G1 => ∃ σ' : ySg, o = .inl none ∧ yRg σ' ∧ yF1 σ σ' ∧ yLB σ' f W ∧ G1 = Wd σ' X) := xMet_of (by decide) hL (Nat.le_of_ble_eq_true rfl) (by
  have hb := h b (by omega) (by omega)
  have hs := hsq hc
  refine xw_eq rfl (l2 := [(0, .ref 25), (1, .int (iI f)), (2, .int (iI b)), (3, .int (iI c)), (4, .int (iI 1))]) rfl rfl rfl ?_
  refine xz_iconst dX6_consider_0 ?_
  refine xw_aload_n 0 dX6_consider_1 rfl ?_
  refine yz_getr (fo_X6_9 rfl) dX6_consider_2 is_25 rfl ?_
  refine xw_iload_n 2 dX6_consider_5 rfl ?_
  have r1 := hr 26 b
  refine yz_iald (v := σ 26 b) dX6_consider_6 is_26 (by omega) (by decide) rfl ?_
  refine xz_iadd dX6_consider_7 ?_
  refine xw_istore (l2 := [(0, .ref 25), (1, .int (iI f)), (2, .int (iI b)), (3, .int (iI c)), (4, .int (iI 1)), (5, .int (iI (1 + (σ 26 b))))]) dX6_consider_8 (by decide) rfl rfl ?_
  refine xw_iload_n 3 dX6_consider_10 rfl ?_
  refine xw_iload_n 3 dX6_consider_11 rfl ?_
  refine xz_imul dX6_consider_12 ?_
  refine xw_aload_n 0 dX6_consider_13 rfl ?_
  refine yz_getr (fo_X6_15 rfl) dX6_consider_14 is_25 rfl ?_
  refine xw_iload_n 2 dX6_consider_17 rfl ?_
  have r2 := hr 27 b
  refine yz_iald (v := σ 27 b) dX6_consider_18 is_27 (by omega) (by decide) rfl ?_
  refine xz_iadd dX6_consider_19 ?_
  refine xw_istore (l2 := [(0, .ref 25), (1, .int (iI f)), (2, .int (iI b)), (3, .int (iI c)), (4, .int (iI 1)), (5, .int (iI (1 + (σ 26 b)))), (6, .int (iI ((c * c) + (σ 27 b))))]) dX6_consider_20 (by decide) rfl rfl ?_
  refine xw_iload 5 dX6_consider_22 rfl ?_
  refine xw_aload_n 0 dX6_consider_24 rfl ?_
  refine yz_getr (fo_X6_9 rfl) dX6_consider_25 is_25 rfl ?_
  refine xw_iload_n 1 dX6_consider_28 rfl ?_
  have r3 := hr 26 f
  refine yz_iald (v := σ 26 f) dX6_consider_29 is_26 (by omega) (by decide) rfl ?_
  refine xw_join (J := 60) (c1 := 0) (n1 := 0) (P := fun z4 => z4 = 0 ∨ z4 = 1) (ls' := fun _ => [(0, .ref 25), (1, .int (iI f)), (2, .int (iI b)), (3, .int (iI c)), (4, .int (iI 1)), (5, .int (iI (1 + (σ 26 b)))), (6, .int (iI ((c * c) + (σ 27 b))))]) (st' := fun z4 => [.int (iI z4)]) (G' := fun _ => Wd σ X) (fun z4 hz6 => ?_) (fun j5 => ?_)
  · refine xw_istore (l2 := [(0, .ref 25), (1, .int (iI f)), (2, .int (iI b)), (3, .int (iI c)), (4, .int (iI 1)), (5, .int (iI (1 + (σ 26 b)))), (6, .int (iI ((c * c) + (σ 27 b)))), (7, .int (iI z4))]) dX6_consider_60 (by decide) rfl rfl ?_
    refine xw_iload 4 dX6_consider_62 rfl ?_
    refine xz_if_ne (tgt := 72) dX6_consider_64 (by decide) (by omega) (fun c7 => ?_) (fun c7 => ?_)
    · refine xw_aload_n 0 dX6_consider_72 rfl ?_
      refine yz_getr (fo_X6_9 rfl) dX6_consider_73 is_25 rfl ?_
      refine xw_iload_n 1 dX6_consider_76 rfl ?_
      refine xw_iload 5 dX6_consider_77 rfl ?_
      refine yz_iast dX6_consider_79 is_26 (by omega) (by decide) ?_
      refine xw_aload_n 0 dX6_consider_80 rfl ?_
      refine yz_getr (fo_X6_15 rfl) dX6_consider_81 is_25 rfl ?_
      refine xw_iload_n 1 dX6_consider_84 rfl ?_
      refine xw_iload 6 dX6_consider_85 rfl ?_
      refine yz_iast dX6_consider_87 is_27 (by omega) (by decide) ?_
      refine xw_aload_n 0 dX6_consider_88 rfl ?_
      refine yz_getr (fo_X6_18 rfl) dX6_consider_89 is_25 rfl ?_
      refine xw_iload_n 1 dX6_consider_92 rfl ?_
      refine xw_iload_n 2 dX6_consider_93 rfl ?_
      refine xw_iload_n 1 dX6_consider_94 rfl ?_
      refine xz_isub dX6_consider_95 ?_
      refine yz_iast dX6_consider_96 is_28 (by omega) (by decide) ?_
      exact xw_vret dX6_consider_97 rfl (Nat.zero_le _) (Nat.zero_le _) ⟨_, rfl, (yRg_up (yRg_up (yRg_up hr (by omega)) (by omega)) (by omega)), yF1_set, yLB_set h (by omega) (by omega) (by omega) (by omega), rfl⟩
    · exact absurd c7 (by omega)
  · refine xz_icmp_lt (tgt := 55) dX6_consider_30 (by decide) (by omega) (by omega) (fun c8 => ?_) (fun c8 => ?_)
    · refine xz_iconst dX6_consider_55 ?_
      refine xw_goto (tgt := 60) dX6_consider_56 (by decide) ?_
      exact j5 _ (by omega)
    · refine xw_iload 5 dX6_consider_33 rfl ?_
      refine xw_aload_n 0 dX6_consider_35 rfl ?_
      refine yz_getr (fo_X6_9 rfl) dX6_consider_36 is_25 rfl ?_
      refine xw_iload_n 1 dX6_consider_39 rfl ?_
      refine yz_iald (v := σ 26 f) dX6_consider_40 is_26 (by omega) (by decide) rfl ?_
      refine xz_icmp_ne (tgt := 59) dX6_consider_41 (by decide) (by omega) (by omega) (fun c9 => ?_) (fun c9 => ?_)
      · refine xz_iconst dX6_consider_59 ?_
        exact j5 _ (by omega)
      · refine xw_iload 6 dX6_consider_44 rfl ?_
        refine xw_aload_n 0 dX6_consider_46 rfl ?_
        refine yz_getr (fo_X6_15 rfl) dX6_consider_47 is_25 rfl ?_
        refine xw_iload_n 1 dX6_consider_50 rfl ?_
        have r10 := hr 27 f
        refine yz_iald (v := σ 27 f) dX6_consider_51 is_27 (by omega) (by decide) rfl ?_
        refine xz_icmp_ge (tgt := 59) dX6_consider_52 (by decide) (by omega) (by omega) (fun c11 => ?_) (fun c11 => ?_)
        · refine xz_iconst dX6_consider_59 ?_
          exact j5 _ (by omega)
        · refine xz_iconst dX6_consider_55 ?_
          refine xw_goto (tgt := 60) dX6_consider_56 (by decide) ?_
          exact j5 _ (by omega))
theorem s_consider0 (hL : L.stackTraces = false) {f b c W : Int} (hr : yRg σ) (hf : 0 ≤ f ∧ f < b ∧ b ≤ W ∧ W ≤ 12) (hc : 0 ≤ c ∧ c ≤ 20) (h : yLB σ (f + 1) W) (h9 : yLB σ f W) : xMet L O mX6_consider (xR 0 0 0) [.ref 25, .int (iI f), .int (iI b), .int (iI c), .int (iI 0)] (Wd σ X) (fun o G1 => ∃ σ' : ySg, o = .inl none ∧ yRg σ' ∧ yF1 σ σ' ∧ yLB σ' f W ∧ G1 = Wd σ' X) := xMet_of (by decide) hL (Nat.le_of_ble_eq_true rfl) (by
  have hb := h b (by omega) (by omega)
  have hs := hsq hc
  refine xw_eq rfl (l2 := [(0, .ref 25), (1, .int (iI f)), (2, .int (iI b)), (3, .int (iI c)), (4, .int (iI 0))]) rfl rfl rfl ?_
  refine xz_iconst dX6_consider_0 ?_
  refine xw_aload_n 0 dX6_consider_1 rfl ?_
  refine yz_getr (fo_X6_9 rfl) dX6_consider_2 is_25 rfl ?_
  refine xw_iload_n 2 dX6_consider_5 rfl ?_
  have r1 := hr 26 b
  refine yz_iald (v := σ 26 b) dX6_consider_6 is_26 (by omega) (by decide) rfl ?_
  refine xz_iadd dX6_consider_7 ?_
  refine xw_istore (l2 := [(0, .ref 25), (1, .int (iI f)), (2, .int (iI b)), (3, .int (iI c)), (4, .int (iI 0)), (5, .int (iI (1 + (σ 26 b))))]) dX6_consider_8 (by decide) rfl rfl ?_
  refine xw_iload_n 3 dX6_consider_10 rfl ?_
  refine xw_iload_n 3 dX6_consider_11 rfl ?_
  refine xz_imul dX6_consider_12 ?_
  refine xw_aload_n 0 dX6_consider_13 rfl ?_
  refine yz_getr (fo_X6_15 rfl) dX6_consider_14 is_25 rfl ?_
  refine xw_iload_n 2 dX6_consider_17 rfl ?_
  have r2 := hr 27 b
  refine yz_iald (v := σ 27 b) dX6_consider_18 is_27 (by omega) (by decide) rfl ?_
  refine xz_iadd dX6_consider_19 ?_
  refine xw_istore (l2 := [(0, .ref 25), (1, .int (iI f)), (2, .int (iI b)), (3, .int (iI c)), (4, .int (iI 0)), (5, .int (iI (1 + (σ 26 b)))), (6, .int (iI ((c * c) + (σ 27 b))))]) dX6_consider_20 (by decide) rfl rfl ?_
  refine xw_iload 5 dX6_consider_22 rfl ?_
  refine xw_aload_n 0 dX6_consider_24 rfl ?_
  refine yz_getr (fo_X6_9 rfl) dX6_consider_25 is_25 rfl ?_
  refine xw_iload_n 1 dX6_consider_28 rfl ?_
  have r3 := hr 26 f
  refine yz_iald (v := σ 26 f) dX6_consider_29 is_26 (by omega) (by decide) rfl ?_
  refine xw_join (J := 60) (c1 := 0) (n1 := 0) (P := fun z4 => z4 = 0 ∨ z4 = 1) (ls' := fun _ => [(0, .ref 25), (1, .int (iI f)), (2, .int (iI b)), (3, .int (iI c)), (4, .int (iI 0)), (5, .int (iI (1 + (σ 26 b)))), (6, .int (iI ((c * c) + (σ 27 b))))]) (st' := fun z4 => [.int (iI z4)]) (G' := fun _ => Wd σ X) (fun z4 hz6 => ?_) (fun j5 => ?_)
  · refine xw_istore (l2 := [(0, .ref 25), (1, .int (iI f)), (2, .int (iI b)), (3, .int (iI c)), (4, .int (iI 0)), (5, .int (iI (1 + (σ 26 b)))), (6, .int (iI ((c * c) + (σ 27 b)))), (7, .int (iI z4))]) dX6_consider_60 (by decide) rfl rfl ?_
    refine xw_iload 4 dX6_consider_62 rfl ?_
    refine xz_if_ne (tgt := 72) dX6_consider_64 (by decide) (by omega) (fun c7 => ?_) (fun c7 => ?_)
    · exact absurd c7 (by omega)
    · refine xw_iload 7 dX6_consider_67 rfl ?_
      refine xz_if_eq (tgt := 97) dX6_consider_69 (by decide) (by omega) (fun c8 => ?_) (fun c8 => ?_)
      · exact xw_vret dX6_consider_97 rfl (Nat.zero_le _) (Nat.zero_le _) ⟨σ, rfl, hr, fun a b _ _ _ => rfl, h9, rfl⟩
      · refine xw_aload_n 0 dX6_consider_72 rfl ?_
        refine yz_getr (fo_X6_9 rfl) dX6_consider_73 is_25 rfl ?_
        refine xw_iload_n 1 dX6_consider_76 rfl ?_
        refine xw_iload 5 dX6_consider_77 rfl ?_
        refine yz_iast dX6_consider_79 is_26 (by omega) (by decide) ?_
        refine xw_aload_n 0 dX6_consider_80 rfl ?_
        refine yz_getr (fo_X6_15 rfl) dX6_consider_81 is_25 rfl ?_
        refine xw_iload_n 1 dX6_consider_84 rfl ?_
        refine xw_iload 6 dX6_consider_85 rfl ?_
        refine yz_iast dX6_consider_87 is_27 (by omega) (by decide) ?_
        refine xw_aload_n 0 dX6_consider_88 rfl ?_
        refine yz_getr (fo_X6_18 rfl) dX6_consider_89 is_25 rfl ?_
        refine xw_iload_n 1 dX6_consider_92 rfl ?_
        refine xw_iload_n 2 dX6_consider_93 rfl ?_
        refine xw_iload_n 1 dX6_consider_94 rfl ?_
        refine xz_isub dX6_consider_95 ?_
        refine yz_iast dX6_consider_96 is_28 (by omega) (by decide) ?_
        exact xw_vret dX6_consider_97 rfl (Nat.zero_le _) (Nat.zero_le _) ⟨_, rfl, (yRg_up (yRg_up (yRg_up hr (by omega)) (by omega)) (by omega)), yF1_set, yLB_set h (by omega) (by omega) (by omega) (by omega), rfl⟩
  · refine xz_icmp_lt (tgt := 55) dX6_consider_30 (by decide) (by omega) (by omega) (fun c9 => ?_) (fun c9 => ?_)
    · refine xz_iconst dX6_consider_55 ?_
      refine xw_goto (tgt := 60) dX6_consider_56 (by decide) ?_
      exact j5 _ (by omega)
    · refine xw_iload 5 dX6_consider_33 rfl ?_
      refine xw_aload_n 0 dX6_consider_35 rfl ?_
      refine yz_getr (fo_X6_9 rfl) dX6_consider_36 is_25 rfl ?_
      refine xw_iload_n 1 dX6_consider_39 rfl ?_
      refine yz_iald (v := σ 26 f) dX6_consider_40 is_26 (by omega) (by decide) rfl ?_
      refine xz_icmp_ne (tgt := 59) dX6_consider_41 (by decide) (by omega) (by omega) (fun c10 => ?_) (fun c10 => ?_)
      · refine xz_iconst dX6_consider_59 ?_
        exact j5 _ (by omega)
      · refine xw_iload 6 dX6_consider_44 rfl ?_
        refine xw_aload_n 0 dX6_consider_46 rfl ?_
        refine yz_getr (fo_X6_15 rfl) dX6_consider_47 is_25 rfl ?_
        refine xw_iload_n 1 dX6_consider_50 rfl ?_
        have r11 := hr 27 f
        refine yz_iald (v := σ 27 f) dX6_consider_51 is_27 (by omega) (by decide) rfl ?_
        refine xz_icmp_ge (tgt := 59) dX6_consider_52 (by decide) (by omega) (by omega) (fun c12 => ?_) (fun c12 => ?_)
        · refine xz_iconst dX6_consider_59 ?_
          exact j5 _ (by omega)
        · refine xz_iconst dX6_consider_55 ?_
          refine xw_goto (tgt := 60) dX6_consider_56 (by decide) ?_
          exact j5 _ (by omega))
theorem l_chooseLine (hL : L.stackTraces = false) {σ : ySg} {n f W : Int} (hr : yRg σ) (hn : 0 ≤ n ∧ n < 24) (hW : 0 ≤ f ∧ f < W ∧ W ≤ 12) (hw : ∀ j, 0 ≤ j → j < 12 → 0 ≤ σ (cw n) j) (j : Int) (h0 : f < j) (h1 : j ≤ W) (l : Int) (hl : 0 ≤ l ∧ l ≤ 20) (hb : yLB σ f W) (hK : ∀ σ' : ySg, yRg σ' → yF1 σ σ' → yLB σ' f W → K (.inl none) (Wd σ' X)) : xWP L O mX6_chooseLine (xR 1 0 0) K 29 [(0, .ref 25), (1, .ref (cu n)), (2, .int (iI 20)), (3, .int (iI f)), (4, .int (iI W)), (5, .int (iI l)), (6, .int (iI j))] [] (Wd σ X) 0 0 := by
  refine xw_iload 6 dX6_chooseLine_29 rfl ?_
  refine xw_iload 4 dX6_chooseLine_31 rfl ?_
  refine xz_icmp_ge (tgt := 76) dX6_chooseLine_33 (by decide) (by omega) (by omega) (fun c1 => ?_) (fun c1 => ?_)
  · exact xw_vret dX6_chooseLine_76 rfl (Nat.zero_le _) (Nat.zero_le _) (hK σ hr (fun a b _ _ _ => rfl) hb)
  · refine xw_iload 5 dX6_chooseLine_36 rfl ?_
    refine xz_iconst dX6_chooseLine_38 ?_
    refine xw_aload_n 1 dX6_chooseLine_39 rfl ?_
    refine xw_iload 6 dX6_chooseLine_40 rfl ?_
    refine yc_V (M' := mX3_lettersOf) (d := 0) (c := 0) (s := 0) (As := [.int (iI j)]) (st := [.int (iI 1), .int (iI l)]) (v0 := some (.int (iI (1 + σ (cw n) j % 9)))) (G2 := Wd σ X) dX6_chooseLine_42 okX3_lettersOf (Or.inl w_441) (xBig_i (is_cu hn).1) (Wd_get (is_cu hn)) ⟨by decide, rfl⟩ rfl (Nat.le_of_ble_eq_true rfl) (by decide) (by decide) (Nat.zero_le _) (Nat.zero_le _) rfl rfl (s_X3_lettersOf hL hr hn (by omega) (hw _ (by omega) (by omega))) ?_
    refine xz_iadd dX6_chooseLine_45 ?_
    refine xz_iadd dX6_chooseLine_46 ?_
    refine xw_istore (l2 := [(0, .ref 25), (1, .ref (cu n)), (2, .int (iI 20)), (3, .int (iI f)), (4, .int (iI W)), (5, .int (iI (l + (1 + (1 + σ (cw n) j % 9))))), (6, .int (iI j))]) dX6_chooseLine_47 (by decide) rfl rfl ?_
    refine xw_iload 5 dX6_chooseLine_49 rfl ?_
    refine xw_iload_n 2 dX6_chooseLine_51 rfl ?_
    refine xz_icmp_le (tgt := 56) dX6_chooseLine_52 (by decide) (by omega) (by omega) (fun c2 => ?_) (fun c2 => ?_)
    · refine xw_aload_n 0 dX6_chooseLine_56 rfl ?_
      refine xw_iload_n 3 dX6_chooseLine_57 rfl ?_
      refine xw_iload 6 dX6_chooseLine_58 rfl ?_
      refine xz_iconst dX6_chooseLine_60 ?_
      refine xz_iadd dX6_chooseLine_61 ?_
      refine xw_iload_n 2 dX6_chooseLine_62 rfl ?_
      refine xw_iload 5 dX6_chooseLine_63 rfl ?_
      refine xz_isub dX6_chooseLine_65 ?_
      refine xz_iconst dX6_chooseLine_66 ?_
      refine yc_VE (M' := mX6_consider) (d := 0) (c := 0) (s := 0) (As := [.int (iI f), .int (iI (j + 1)), .int (iI (20 - (l + (1 + (1 + σ (cw n) j % 9))))), .int (iI 0)]) (st := []) dX6_chooseLine_67 okX6_consider (Or.inl w_448) (xBig_i is_25.1) (Wd_get is_25) ⟨by decide, rfl⟩ rfl (Nat.le_of_ble_eq_true rfl) (by decide) (by decide) (Nat.zero_le _) (Nat.zero_le _) (s_consider0 hL hr (f := f) (W := W) (by omega) (by omega) (fun k a1 a2 => hb k (by omega) a2) hb) (fun v9 G9 h9 => ?_) (fun E9 G9 h9 => ?_)
      · obtain ⟨σ3, e9, hr3, hf3, hb3, e8⟩ := h9
        cases e9
        subst e8
        refine xz_iinc (l2 := [(0, .ref 25), (1, .ref (cu n)), (2, .int (iI 20)), (3, .int (iI f)), (4, .int (iI W)), (5, .int (iI (l + (1 + (1 + σ (cw n) j % 9))))), (6, .int (iI (j + 1)))]) 6 dX6_chooseLine_70 rfl (by decide) rfl rfl ?_
        refine xw_goto (tgt := 29) dX6_chooseLine_73 (by decide) ?_
        exact l_chooseLine hL hr3 hn hW (fun k a1 a2 => by rw [hf3 _ _ (by simp only [cw]; omega) (by simp only [cw]; omega) (by simp only [cw]; omega)]; exact hw k a1 a2) (j + 1) (by omega) (by omega) _ (by omega) hb3 (fun σ' b1 b2 b3 => hK σ' b1 (hf3.trans b2) b3)
      · obtain ⟨_, e9, _⟩ := h9
        cases e9
    · exact xw_vret dX6_chooseLine_55 rfl (Nat.zero_le _) (Nat.zero_le _) (hK σ hr (fun a b _ _ _ => rfl) hb)
termination_by (W - j).toNat
theorem s_chooseLine (hL : L.stackTraces = false) {n f W : Int} (hr : yRg σ) (hn : 0 ≤ n ∧ n < 24) (hW : 0 ≤ f ∧ f < W ∧ W ≤ 12) (hw : ∀ j, 0 ≤ j → j < 12 → 0 ≤ σ (cw n) j) (h : yLB σ (f + 1) W) : xMet L O mX6_chooseLine (xR 1 0 0) [.ref 25, .ref (cu n), .int (iI 20), .int (iI f), .int (iI W)] (Wd σ X) (fun o G1 => ∃ σ' : ySg, o = .inl none ∧ yRg σ' ∧ yF1 σ σ' ∧ yLB σ' f W ∧ G1 = Wd σ' X) := xMet_of (by decide) hL (Nat.le_of_ble_eq_true rfl) (by
  refine xw_eq rfl (l2 := [(0, .ref 25), (1, .ref (cu n)), (2, .int (iI 20)), (3, .int (iI f)), (4, .int (iI W))]) rfl rfl rfl ?_
  refine xw_aload_n 1 dX6_chooseLine_0 rfl ?_
  refine xw_iload_n 3 dX6_chooseLine_1 rfl ?_
  refine yc_V (M' := mX3_lettersOf) (d := 0) (c := 0) (s := 0) (As := [.int (iI f)]) (st := []) (v0 := some (.int (iI (1 + σ (cw n) f % 9)))) (G2 := Wd σ X) dX6_chooseLine_2 okX3_lettersOf (Or.inl w_441) (xBig_i (is_cu hn).1) (Wd_get (is_cu hn)) ⟨by decide, rfl⟩ rfl (Nat.le_of_ble_eq_true rfl) (by decide) (by decide) (Nat.zero_le _) (Nat.zero_le _) rfl rfl (s_X3_lettersOf hL hr hn (by omega) (hw _ (by omega) (by omega))) ?_
  have hl5 := hw f (by omega) (by omega)
  refine xw_istore (l2 := [(0, .ref 25), (1, .ref (cu n)), (2, .int (iI 20)), (3, .int (iI f)), (4, .int (iI W)), (5, .int (iI (1 + σ (cw n) f % 9)))]) dX6_chooseLine_5 (by decide) rfl rfl ?_
  refine xw_aload_n 0 dX6_chooseLine_7 rfl ?_
  refine xw_iload_n 3 dX6_chooseLine_8 rfl ?_
  refine xw_iload_n 3 dX6_chooseLine_9 rfl ?_
  refine xz_iconst dX6_chooseLine_10 ?_
  refine xz_iadd dX6_chooseLine_11 ?_
  refine xz_iconst dX6_chooseLine_12 ?_
  refine xw_iload_n 2 dX6_chooseLine_13 rfl ?_
  refine xw_iload 5 dX6_chooseLine_14 rfl ?_
  refine xz_isub dX6_chooseLine_16 ?_
  refine xz_mmax dX6_chooseLine_17 w_445 (Nat.le_of_ble_eq_true rfl) (Nat.zero_le _) (Nat.zero_le _) (by omega) (by omega) ?_
  refine xz_iconst dX6_chooseLine_20 ?_
  refine yc_VE (M' := mX6_consider) (d := 0) (c := 0) (s := 0) (As := [.int (iI f), .int (iI (f + 1)), .int (iI (max 0 (20 - (1 + σ (cw n) f % 9)))), .int (iI 1)]) (st := []) dX6_chooseLine_21 okX6_consider (Or.inl w_448) (xBig_i is_25.1) (Wd_get is_25) ⟨by decide, rfl⟩ rfl (Nat.le_of_ble_eq_true rfl) (by decide) (by decide) (Nat.zero_le _) (Nat.zero_le _) (s_consider1 hL hr (f := f) (W := W) (by omega) (by omega) h) (fun v9 G9 h9 => ?_) (fun E9 G9 h9 => ?_)
  · obtain ⟨σ1, e9, hr1, hf1, hb1, e8⟩ := h9
    cases e9
    subst e8
    refine xw_iload_n 3 dX6_chooseLine_24 rfl ?_
    refine xz_iconst dX6_chooseLine_25 ?_
    refine xz_iadd dX6_chooseLine_26 ?_
    refine xw_istore (l2 := [(0, .ref 25), (1, .ref (cu n)), (2, .int (iI 20)), (3, .int (iI f)), (4, .int (iI W)), (5, .int (iI (1 + σ (cw n) f % 9))), (6, .int (iI (f + 1)))]) dX6_chooseLine_27 (by decide) rfl rfl ?_
    exact l_chooseLine hL hr1 hn hW (fun k a1 a2 => by rw [hf1 _ _ (by simp only [cw]; omega) (by simp only [cw]; omega) (by simp only [cw]; omega)]; exact hw k a1 a2) (f + 1) (by omega) (by omega) _ (by omega) hb1 (fun σ' b1 b2 b3 => ⟨σ', rfl, b1, hf1.trans b2, b3, rfl⟩)
  · obtain ⟨_, e9, _⟩ := h9
    cases e9)
theorem l_break2 (hL : L.stackTraces = false) {σ : ySg} {n W : Int} (hr : yRg σ) (hn : 0 ≤ n ∧ n < 24) (hW : 0 ≤ W ∧ W ≤ 12) (j : Int) (h0 : 0 ≤ j) (h1 : j ≤ 12) (f : Int) (hf : 0 ≤ f ∧ f ≤ 100) (hb : yLB σ 0 W) (hK : ∀ σ' : ySg, yRg σ' → (∀ a b, a ≠ cl n → σ' a b = σ a b) → K (.inl none) (Wd σ' X)) : xWP L O mX6_breakUp (xR 2 0 0) K 65 [(0, .ref 25), (1, .ref (cu n)), (2, .int (iI 20)), (3, .int (iI W)), (4, .int (iI f)), (5, .int (iI j))] [] (Wd σ X) 0 0 := by
  have hb0 := hb 0 (by omega) (by omega)
  refine xw_iload 5 dX6_breakUp_65 rfl ?_
  refine xw_aload_n 0 dX6_breakUp_67 rfl ?_
  refine yz_getr (fo_X6_9 rfl) dX6_breakUp_68 is_25 rfl ?_
  refine xz_iconst dX6_breakUp_71 ?_
  have r1 := hr 26 0
  refine yz_iald (v := σ 26 0) dX6_breakUp_72 is_26 (by decide) (by decide) rfl ?_
  refine xz_icmp_ge (tgt := 121) dX6_breakUp_73 (by decide) (by omega) (by omega) (fun c2 => ?_) (fun c2 => ?_)
  · exact xw_vret dX6_breakUp_121 rfl (Nat.zero_le _) (Nat.zero_le _) (hK σ hr (fun a b _ => rfl))
  · refine xw_iload 5 dX6_breakUp_76 rfl ?_
    refine xz_bipush dX6_breakUp_78 (by decide) ?_
    refine xz_icmp_ge (tgt := 121) dX6_breakUp_80 (by decide) (by omega) (by omega) (fun c3 => ?_) (fun c3 => ?_)
    · exact xw_vret dX6_breakUp_121 rfl (Nat.zero_le _) (Nat.zero_le _) (hK σ hr (fun a b _ => rfl))
    · refine xw_iload 4 dX6_breakUp_83 rfl ?_
      refine xw_iload_n 3 dX6_breakUp_85 rfl ?_
      refine xz_icmp_ge (tgt := 121) dX6_breakUp_86 (by decide) (by omega) (by omega) (fun c4 => ?_) (fun c4 => ?_)
      · exact xw_vret dX6_breakUp_121 rfl (Nat.zero_le _) (Nat.zero_le _) (hK σ hr (fun a b _ => rfl))
      · have hb1 := (hb f (by omega) (by omega)).2.2.2.2 (by omega)
        refine xw_aload_n 1 dX6_breakUp_89 rfl ?_
        refine yz_getr (fo_X6_40 rfl) dX6_breakUp_90 (is_cu hn) rfl ?_
        refine xw_iload 5 dX6_breakUp_93 rfl ?_
        refine xw_aload_n 0 dX6_breakUp_95 rfl ?_
        refine yz_getr (fo_X6_18 rfl) dX6_breakUp_96 is_25 rfl ?_
        refine xw_iload 4 dX6_breakUp_99 rfl ?_
        have r5 := hr 28 f
        refine yz_iald (v := σ 28 f) dX6_breakUp_101 is_28 (by omega) (by decide) rfl ?_
        refine yz_iast dX6_breakUp_102 (is_cl hn) (by omega) (by decide) ?_
        refine xw_iload 4 dX6_breakUp_103 rfl ?_
        refine xw_aload_n 0 dX6_breakUp_105 rfl ?_
        refine yz_getr (fo_X6_18 rfl) dX6_breakUp_106 is_25 rfl ?_
        refine xw_iload 4 dX6_breakUp_109 rfl ?_
        refine yz_iald (v := σ 28 f) dX6_breakUp_111 is_28 (by omega) (by decide) (yup_i (by simp only [cu, cw, ct, cl, pr, co]; omega)) ?_
        refine xz_iadd dX6_breakUp_112 ?_
        refine xw_istore (l2 := [(0, .ref 25), (1, .ref (cu n)), (2, .int (iI 20)), (3, .int (iI W)), (4, .int (iI (f + (σ 28 f)))), (5, .int (iI j))]) dX6_breakUp_113 (by decide) rfl rfl ?_
        refine xz_iinc (l2 := [(0, .ref 25), (1, .ref (cu n)), (2, .int (iI 20)), (3, .int (iI W)), (4, .int (iI (f + (σ 28 f)))), (5, .int (iI (j + 1)))]) 5 dX6_breakUp_115 rfl (by decide) rfl rfl ?_
        refine xw_goto (tgt := 65) dX6_breakUp_118 (by decide) ?_
        have e1 : ∀ a b, a ≠ cl n → (yup σ (cl n) j (σ 28 f)) a b = σ a b := fun a b q => yup_i q
        exact l_break2 hL (yRg_up hr (by omega)) hn hW (j + 1) (by omega) (by omega) _ (by omega) (fun k a1 a2 => by rw [e1 26 k (by simp only [cl]; omega), e1 27 k (by simp only [cl]; omega), e1 28 k (by simp only [cl]; omega)]; exact hb k a1 a2) (fun σ' b1 b2 => hK σ' b1 (fun a b q => (b2 a b q).trans (e1 a b q)))
termination_by (12 - j).toNat
theorem l_break1 (hL : L.stackTraces = false) {σ : ySg} {n W : Int} (hr : yRg σ) (hn : 0 ≤ n ∧ n < 24) (hW : 0 ≤ W ∧ W ≤ 12) (hw : ∀ j, 0 ≤ j → j < 12 → 0 ≤ σ (cw n) j) (j : Int) (h0 : -1 ≤ j) (h1 : j < W ∨ j = -1) (hb : yLB σ (j + 1) W) (hK : ∀ σ' : ySg, yRg σ' → (∀ a b, a ≠ 26 → a ≠ 27 → a ≠ 28 → a ≠ cl n → ¬ (a = cu n ∧ b = 8) → σ' a b = σ a b) → (0 ≤ σ' (cu n) 8 ∧ σ' (cu n) 8 ≤ 12) → (W = 0 → σ' (cu n) 8 = 0) → K (.inl none) (Wd σ' X)) : xWP L O mX6_breakUp (xR 2 0 0) K 29 [(0, .ref 25), (1, .ref (cu n)), (2, .int (iI 20)), (3, .int (iI W)), (4, .int (iI j))] [] (Wd σ X) 0 0 := by
  refine xw_iload 4 dX6_breakUp_29 rfl ?_
  refine xz_if_lt (tgt := 49) dX6_breakUp_31 (by decide) (by omega) (fun c1 => ?_) (fun c1 => ?_)
  · refine xw_aload_n 1 dX6_breakUp_49 rfl ?_
    refine xw_aload_n 0 dX6_breakUp_50 rfl ?_
    refine yz_getr (fo_X6_9 rfl) dX6_breakUp_51 is_25 rfl ?_
    refine xz_iconst dX6_breakUp_54 ?_
    have r2 := hr 26 0
    refine yz_iald (v := σ 26 0) dX6_breakUp_55 is_26 (by decide) (by decide) rfl ?_
    refine yz_puti (z := 8) (fp_X6_37 rfl) dX6_breakUp_56 (is_cu hn) rfl rfl ?_
    refine xz_iconst dX6_breakUp_59 ?_
    refine xw_istore (l2 := [(0, .ref 25), (1, .ref (cu n)), (2, .int (iI 20)), (3, .int (iI W)), (4, .int (iI 0))]) dX6_breakUp_60 (by decide) rfl rfl ?_
    refine xz_iconst dX6_breakUp_62 ?_
    refine xw_istore (l2 := [(0, .ref 25), (1, .ref (cu n)), (2, .int (iI 20)), (3, .int (iI W)), (4, .int (iI 0)), (5, .int (iI 0))]) dX6_breakUp_63 (by decide) rfl rfl ?_
    have hb0 := hb 0 (by omega) (by omega)
    have e1 : ∀ a b, ¬ (a = cu n ∧ b = 8) → (yup σ (cu n) 8 (σ 26 0)) a b = σ a b := fun a b q => if_neg q
    refine l_break2 hL (yRg_up hr (by omega)) hn hW 0 (by omega) (by omega) 0 (by omega) (fun k a1 a2 => ?_) (fun σ' b1 b2 => hK σ' b1 (fun a b q1 q2 q3 q4 q5 => (b2 a b q4).trans (e1 a b q5)) ?_ ?_)
    · rw [e1 26 k (by simp only [cu]; omega), e1 27 k (by simp only [cu]; omega), e1 28 k (by simp only [cu]; omega)]; exact hb k (by omega) a2
    · rw [b2 _ _ (by simp only [cu, cl]; omega), yup_s]; omega
    · intro q; rw [b2 _ _ (by simp only [cu, cl]; omega), yup_s]; omega
  · refine xw_aload_n 0 dX6_breakUp_34 rfl ?_
    refine xw_aload_n 1 dX6_breakUp_35 rfl ?_
    refine xw_iload_n 2 dX6_breakUp_36 rfl ?_
    refine xw_iload 4 dX6_breakUp_37 rfl ?_
    refine xw_iload_n 3 dX6_breakUp_39 rfl ?_
    refine yc_VE (M' := mX6_chooseLine) (d := 1) (c := 0) (s := 0) (As := [.ref (cu n), .int (iI 20), .int (iI j), .int (iI W)]) (st := []) dX6_breakUp_40 okX6_chooseLine (Or.inl w_437) (xBig_i is_25.1) (Wd_get is_25) ⟨by decide, rfl⟩ rfl (Nat.le_of_ble_eq_true rfl) (by decide) (by decide) (Nat.zero_le _) (Nat.zero_le _) (s_chooseLine hL hr hn (by omega) hw hb) (fun v9 G9 h9 => ?_) (fun E9 G9 h9 => ?_)
    · obtain ⟨σ3, e9, hr3, hf3, hb3, e8⟩ := h9
      cases e9
      subst e8
      refine xz_iinc (l2 := [(0, .ref 25), (1, .ref (cu n)), (2, .int (iI 20)), (3, .int (iI W)), (4, .int (iI (j + (-1))))]) 4 dX6_breakUp_43 rfl (by decide) rfl rfl ?_
      refine xw_goto (tgt := 29) dX6_breakUp_46 (by decide) ?_
      rw [show j + (-1) = j - 1 by omega]
      exact l_break1 hL hr3 hn hW (fun k a1 a2 => by rw [hf3 _ _ (by simp only [cw]; omega) (by simp only [cw]; omega) (by simp only [cw]; omega)]; exact hw k a1 a2) (j - 1) (by omega) (by omega) (by rw [show j - 1 + 1 = j by omega]; exact hb3) (fun σ' b1 b2 b3 b4 => hK σ' b1 (fun a b q1 q2 q3 q4 q5 => (b2 a b q1 q2 q3 q4 q5).trans (hf3 a b q1 q2 q3)) b3 b4)
    · obtain ⟨_, e9, _⟩ := h9
      cases e9
termination_by (j + 1).toNat
theorem s_breakUp (hL : L.stackTraces = false) {n : Int} (hr : yRg σ) (hn : 0 ≤ n ∧ n < 24) (hc : 0 ≤ σ (cu n) 6 ∧ σ (cu n) 6 ≤ 12) (hw : ∀ j, 0 ≤ j → j < 12 → 0 ≤ σ (cw n) j) : xMet L O mX6_breakUp (xR 2 0 0) [.ref 25, .ref (cu n), .int (iI 20)] (Wd σ X) (fun o G1 => ∃ σ' : ySg, o = .inl none ∧ yRg σ' ∧ (∀ a b, a ≠ 26 → a ≠ 27 → a ≠ 28 → a ≠ cl n → ¬ (a = cu n ∧ b = 8) → σ' a b = σ a b) ∧ (0 ≤ σ' (cu n) 8 ∧ σ' (cu n) 8 ≤ 12) ∧ (σ (cu n) 6 = 0 → σ' (cu n) 8 = 0) ∧ G1 = Wd σ' X) := xMet_of (by decide) hL (Nat.le_of_ble_eq_true rfl) (by
  refine xw_eq rfl (l2 := [(0, .ref 25), (1, .ref (cu n)), (2, .int (iI 20))]) rfl rfl rfl ?_
  refine xw_aload_n 1 dX6_breakUp_0 rfl ?_
  have r1 := hr (cu n) 6
  refine yz_geti (z := 6) (v := σ (cu n) 6) (fo_X6_21 rfl) dX6_breakUp_1 (is_cu hn) rfl rfl rfl ?_
  refine xz_bipush dX6_breakUp_4 (by decide) ?_
  refine xz_mmin dX6_breakUp_6 w_434 (Nat.le_of_ble_eq_true rfl) (Nat.zero_le _) (Nat.zero_le _) (by omega) (by omega) ?_
  refine xw_istore_n (l2 := [(0, .ref 25), (1, .ref (cu n)), (2, .int (iI 20)), (3, .int (iI (min (σ (cu n) 6) 12)))]) dX6_breakUp_9 (by decide) rfl rfl ?_
  refine xw_aload_n 0 dX6_breakUp_10 rfl ?_
  refine yz_getr (fo_X6_9 rfl) dX6_breakUp_11 is_25 rfl ?_
  refine xw_iload_n 3 dX6_breakUp_14 rfl ?_
  refine xz_iconst dX6_breakUp_15 ?_
  refine yz_iast dX6_breakUp_16 is_26 (by omega) (by decide) ?_
  refine xw_aload_n 0 dX6_breakUp_17 rfl ?_
  refine yz_getr (fo_X6_15 rfl) dX6_breakUp_18 is_25 rfl ?_
  refine xw_iload_n 3 dX6_breakUp_21 rfl ?_
  refine xz_iconst dX6_breakUp_22 ?_
  refine yz_iast dX6_breakUp_23 is_27 (by omega) (by decide) ?_
  refine xw_iload_n 3 dX6_breakUp_24 rfl ?_
  refine xz_iconst dX6_breakUp_25 ?_
  refine xz_isub dX6_breakUp_26 ?_
  refine xw_istore (l2 := [(0, .ref 25), (1, .ref (cu n)), (2, .int (iI 20)), (3, .int (iI (min (σ (cu n) 6) 12))), (4, .int (iI ((min (σ (cu n) 6) 12) - 1)))]) dX6_breakUp_27 (by decide) rfl rfl ?_
  have e0 : min (σ (cu n) 6) 12 = σ (cu n) 6 := by omega
  rw [e0]
  have e1 : ∀ a b, a ≠ 26 → a ≠ 27 → (yup (yup σ 26 (σ (cu n) 6) 0) 27 (σ (cu n) 6) 0) a b = σ a b := fun a b q1 q2 => (yup_i q2).trans (yup_i q1)
  refine l_break1 hL (yRg_up (yRg_up hr (by omega)) (by omega)) hn hc (fun k a1 a2 => by rw [e1 _ _ (by simp only [cw]; omega) (by simp only [cw]; omega)]; exact hw k a1 a2) (σ (cu n) 6 - 1) (by omega) (by omega) (fun k a1 a2 => ?_) (fun σ' b1 b2 b3 b4 => ⟨σ', rfl, b1, fun a b q1 q2 q3 q4 q5 => (b2 a b q1 q2 q3 q4 q5).trans (e1 a b q1 q2), b3, b4, rfl⟩)
  have e2 : k = σ (cu n) 6 := by omega
  subst e2
  rw [show (yup (yup σ 26 (σ (cu n) 6) 0) 27 (σ (cu n) 6) 0) 26 (σ (cu n) 6) = 0 from (yup_i (by decide)).trans yup_s, show (yup (yup σ 26 (σ (cu n) 6) 0) 27 (σ (cu n) 6) 0) 27 (σ (cu n) 6) = 0 from yup_s]
  exact ⟨by omega, by omega, by omega, by omega, fun q => absurd q (by omega)⟩)
end Y19

section Y21
variable {L : Launch} {O : xWd} {K : xOc → List xOb → Prop} {σ : ySg} {X : List xOb} {G : List xOb}
/-- what arranging writes -/
def yScA (a : Nat) (b : Int) : Prop := (26 ≤ a ∧ a ≤ 31) ∨ (a = 20 ∧ b = 6) ∨ (32 ≤ a ∧ a < 128 ∧ ((a % 4 = 0 ∧ (b = 8 ∨ b = 9)) ∨ a % 4 = 3))
def yAg (σ σ' : ySg) : Prop := ∀ a b, ¬ yScA a b → σ' a b = σ a b
theorem yAg.rfl' : yAg σ σ := fun _ _ _ => rfl
theorem yAg.trans {σ σ1 σ2 : ySg} (h : yAg σ σ1) (h2 : yAg σ1 σ2) : yAg σ σ2 := fun a b c => (h2 a b c).trans (h a b c)
theorem yAg.kcu {σ σ' : ySg} (h : yAg σ σ') (k b : Int) (hb : b < 8) : σ' (cu k) b = σ (cu k) b := h _ _ (by unfold yScA cu; omega)
theorem yAg.kcw {σ σ' : ySg} (h : yAg σ σ') (k b : Int) : σ' (cw k) b = σ (cw k) b := h _ _ (by unfold yScA cw; omega)
def yCus (σ : ySg) (N : Int) : Prop := ∀ k, 0 ≤ k → k < N → (0 ≤ σ (cu k) 3 ∧ σ (cu k) 3 < 3) ∧ (0 ≤ σ (cu k) 6 ∧ σ (cu k) 6 ≤ 12) ∧ ∀ j, 0 ≤ j → j < 12 → 0 ≤ σ (cw k) j
theorem yCus.ag {σ σ' : ySg} {N : Int} (h : yCus σ N) (g : yAg σ σ') : yCus σ' N := fun k a1 a2 => by
  obtain ⟨h1, h2, h3⟩ := h k a1 a2
  rw [g.kcu _ _ (by omega), g.kcu _ _ (by omega)]
  exact ⟨h1, h2, fun j b1 b2 => by rw [g.kcw]; exact h3 j b1 b2⟩
theorem yCst.ag {σ σ' : ySg} (h : yCst σ) (g : yAg σ σ') : yCst σ' := fun r a1 a2 => by
  rw [g 22 r (by unfold yScA; omega), g 23 r (by unfold yScA; omega), g 24 r (by unfold yScA; omega)]
  exact h r a1 a2
theorem yTh.ag {σ σ' : ySg} {N : Int} (h : yTh σ N) (g : yAg σ σ') : yTh σ' N := fun k a1 a2 => by
  rw [g.kcu _ _ (by omega)]
  exact h k a1 a2
theorem yOr.cong {σ σ' : ySg} {c : Int} (h : yOr σ c) (h1 : ∀ p, σ' 29 p = σ 29 p) (h2 : ∀ k : Int, σ' (cu k) 1 = σ (cu k) 1) : yOr σ' c := by
  unfold yOr at h ⊢
  simp only [h1, h2]
  exact h
def yRw (σ : ySg) (k : Int) : Prop := (0 ≤ σ (cu k) 8 ∧ σ (cu k) 8 ≤ 12) ∧ (-1 ≤ σ (cu k) 9 ∧ σ (cu k) 9 ≤ 7) ∧ (σ (cu k) 6 = 0 → σ (cu k) 8 = 0 ∧ σ (cu k) 9 = -1)
def yArd (σ : ySg) (N : Int) : Prop := σ 20 6 = N ∧ yOr σ N ∧ ∀ k, 0 ≤ k → k < N → yRw σ k
theorem l_arrangeAll (hL : L.stackTraces = false) {σ : ySg} {N : Int} (hr : yRg σ) (hN : 0 ≤ N ∧ N ≤ 24) (hcs : yCst σ) (hcu : yCus σ N) (hc : σ 20 6 = N) (ho : yOr σ N) (j : Int) (h0 : 0 ≤ j) (h1 : j ≤ N) (hrw : ∀ p, 0 ≤ p → p < j → yRw σ (σ 29 p)) (hK : ∀ σ' : ySg, yRg σ' → σ' 20 6 = N → yOr σ' N → (∀ p, 0 ≤ p → p < N → yRw σ' (σ' 29 p)) → yAg σ σ' → K (.inl none) (Wd σ' X)) : xWP L O mX10_arrangeAll (xR 4 0 0) K 6 [(0, .ref 20), (1, .int (iI j))] [] (Wd σ X) 0 0 := by
  refine xw_iload_n 1 dX10_arrangeAll_6 rfl ?_
  refine xw_aload_n 0 dX10_arrangeAll_7 rfl ?_
  have r1 := hr 20 6
  refine yz_geti (z := 6) (v := σ 20 6) (fo_X10_58 rfl) dX10_arrangeAll_8 is_20 rfl rfl rfl ?_
  refine xz_icmp_ge (tgt := 49) dX10_arrangeAll_11 (by decide) (by omega) (by omega) (fun c2 => ?_) (fun c2 => ?_)
  · exact xw_vret dX10_arrangeAll_49 rfl (Nat.zero_le _) (Nat.zero_le _) (hK σ hr hc ho (fun p a1 a2 => hrw p a1 (by omega)) yAg.rfl')
  · refine xw_aload_n 0 dX10_arrangeAll_14 rfl ?_
    refine xw_iload_n 1 dX10_arrangeAll_15 rfl ?_
    have r3 := hr 29 j
    have ho4 : 0 ≤ σ 29 j ∧ σ 29 j < 24 := by have := ho.1 _ h0 (by omega); omega
    refine yc_V (M' := mX10_cueIn) (d := 1) (c := 0) (s := 0) (As := [.int (iI j)]) (st := []) (v0 := some (.ref (cu (σ 29 j)))) (G2 := Wd σ X) dX10_arrangeAll_16 okX10_cueIn (Or.inl w_422) (xBig_i is_20.1) (Wd_get is_20) ⟨by decide, rfl⟩ rfl (Nat.le_of_ble_eq_true rfl) (by decide) (by decide) (Nat.zero_le _) (Nat.zero_le _) rfl rfl (s_cueIn hL hr (by omega) ho4) ?_
    obtain ⟨n, en⟩ : ∃ n, n = σ 29 j := ⟨_, rfl⟩
    rw [← en]
    have hnN : 0 ≤ n ∧ n < N := by rw [en]; exact ho.1 _ h0 (by omega)
    have hn : 0 ≤ n ∧ n < 24 := by omega
    obtain ⟨h3, hw6, hww⟩ := hcu n hnN.1 hnN.2
    have hct := hcs (σ (cu n) 3) h3.1 h3.2
    refine xw_astore_n (l2 := [(0, .ref 20), (1, .int (iI j)), (2, .ref (cu n))]) dX10_arrangeAll_19 (by decide) rfl rfl ?_
    refine xw_aload_n 0 dX10_arrangeAll_20 rfl ?_
    refine yz_getr (fo_X10_30 rfl) dX10_arrangeAll_21 is_20 rfl ?_
    refine xw_aload_n 2 dX10_arrangeAll_24 rfl ?_
    refine xw_aload_n 0 dX10_arrangeAll_25 rfl ?_
    refine yz_getr (fo_X10_24 rfl) dX10_arrangeAll_26 is_20 rfl ?_
    refine xw_aload_n 2 dX10_arrangeAll_29 rfl ?_
    have r5 := hr (cu n) 3
    refine yz_geti (z := 3) (v := σ (cu n) 3) (fo_X10_66 rfl) dX10_arrangeAll_30 (is_cu hn) rfl rfl rfl ?_
    refine yz_iald (v := 20) dX10_arrangeAll_33 is_24 (by omega) (by decide) hct.2.2 ?_
    refine yc_VE (M' := mX6_breakUp) (d := 2) (c := 0) (s := 0) (As := [.ref (cu n), .int (iI 20)]) (st := []) dX10_arrangeAll_34 okX6_breakUp (Or.inl w_430) (xBig_i is_25.1) (Wd_get is_25) ⟨by decide, rfl⟩ rfl (Nat.le_of_ble_eq_true rfl) (by decide) (by decide) (Nat.zero_le _) (Nat.zero_le _) (s_breakUp hL hr hn hw6 hww) (fun v9 G9 h9 => ?_) (fun E9 G9 h9 => ?_)
    · obtain ⟨σ6, e9, hr6, hf6, h86, h06, e8⟩ := h9
      cases e9
      subst e8
      have g1 : yAg σ σ6 := fun a b q => hf6 a b (by unfold yScA at q; omega) (by unfold yScA at q; omega) (by unfold yScA at q; omega) (by unfold yScA at q; unfold cl; omega) (by unfold yScA at q; unfold cu; omega)
      have e29 : ∀ p, σ6 29 p = σ 29 p := fun p => hf6 _ _ (by decide) (by decide) (by decide) (by unfold cl; omega) (by unfold cu; omega)
      have hc9 : ∀ k : Int, σ6 (cu k) 9 = σ (cu k) 9 := fun k => hf6 _ _ (by unfold cu; omega) (by unfold cu; omega) (by unfold cu; omega) (by unfold cu cl; omega) (by omega)
      have hc8 : ∀ k : Int, 0 ≤ k → k ≠ n → σ6 (cu k) 8 = σ (cu k) 8 := fun k q q2 => hf6 _ _ (by unfold cu; omega) (by unfold cu; omega) (by unfold cu; omega) (by unfold cu cl; omega) (by rw [cu_inj q hn.1]; omega)
      have hq8 : ∀ p, 0 ≤ p → p < j → (0 ≤ σ6 (cu (σ 29 p)) 8 ∧ σ6 (cu (σ 29 p)) 8 ≤ 12) := fun p a1 a2 => by
        by_cases e : σ 29 p = n
        · rw [e]; exact h86
        · rw [hc8 _ (ho.1 p a1 (by omega)).1 e]; exact (hrw p a1 a2).1
      refine xw_aload_n 0 dX10_arrangeAll_37 rfl ?_
      refine xw_aload_n 2 dX10_arrangeAll_38 rfl ?_
      refine xw_iload_n 1 dX10_arrangeAll_39 rfl ?_
      refine yc_VE (M' := mX10_takeRows) (d := 2) (c := 0) (s := 0) (As := [.ref (cu n), .int (iI j)]) (st := []) dX10_arrangeAll_40 okX10_takeRows (Or.inl w_452) (xBig_i is_20.1) (Wd_get is_20) ⟨by decide, rfl⟩ rfl (Nat.le_of_ble_eq_true rfl) (by decide) (by decide) (Nat.zero_le _) (Nat.zero_le _) (s_takeRows hL hr6 hn (by omega) (fun p a1 a2 => by rw [e29]; have := ho.1 p a1 (by omega); omega) (fun p a1 a2 => by rw [e29, hc9]; have h1 := hq8 p a1 a2; have h2 := (hrw p a1 a2).2.1; omega) (by omega) (by rw [g1.kcu _ _ (by omega), g1 _ _ (by unfold yScA; omega), g1 _ _ (by unfold yScA; omega), g1 _ _ (by unfold yScA; omega)]; exact hct) (by rw [g1.kcu _ _ (by omega)]; exact h3)) (fun v9 G9 h9 => ?_) (fun E9 G9 h9 => ?_)
      · obtain ⟨σ7, e9, hr7, hf7, h97, h07, e8⟩ := h9
        cases e9
        subst e8
        have g2 : yAg σ6 σ7 := fun a b q => hf7 a b (by unfold yScA at q; omega) (by unfold yScA at q; unfold cu; omega)
        have g3 := g1.trans g2
        have e29' : ∀ p, σ7 29 p = σ 29 p := fun p => (hf7 _ _ (by decide) (by unfold cu; omega)).trans (e29 p)
        have hd8 : ∀ k : Int, σ7 (cu k) 8 = σ6 (cu k) 8 := fun k => hf7 _ _ (by unfold cu; omega) (by omega)
        have hd9 : ∀ k : Int, 0 ≤ k → k ≠ n → σ7 (cu k) 9 = σ6 (cu k) 9 := fun k q q2 => hf7 _ _ (by unfold cu; omega) (by rw [cu_inj q hn.1]; omega)
        refine xz_iinc (l2 := [(0, .ref 20), (1, .int (iI (j + 1))), (2, .ref (cu n))]) 1 dX10_arrangeAll_43 rfl (by decide) rfl rfl ?_
        refine xw_goto (tgt := 6) dX10_arrangeAll_46 (by decide) ?_
        refine xw_loc [(0, .ref 20), (1, .int (iI (j + 1)))] (fun q9 hq9 => List.mem_append_left ([(2, .ref (cu n))] : List (Nat × Value)) hq9) ?_
        exact l_arrangeAll hL hr7 hN (hcs.ag g3) (hcu.ag g3) (by rw [hf7 _ _ (by decide) (by unfold cu; omega), hf6 _ _ (by decide) (by decide) (by decide) (by unfold cl; omega) (by unfold cu; omega)]; exact hc) (ho.cong e29' (fun k => g3.kcu _ _ (by omega))) (j + 1) (by omega) (by omega) (fun p a1 a2 => by
          rw [e29']
          have hp := ho.1 p a1 (by omega)
          unfold yRw
          rw [hd8, g3.kcu _ 6 (by omega)]
          by_cases e : σ 29 p = n
          · rw [e]
            exact ⟨h86, h97, fun q => ⟨h06 q, h07 (h06 q)⟩⟩
          · have hpj : p < j := by
              by_cases e2 : p = j
              · subst e2; exact absurd en.symm e
              · omega
            obtain ⟨q1, q2, q3⟩ := hrw p a1 hpj
            rw [hc8 _ hp.1 e, hd9 _ hp.1 e, hc9]
            exact ⟨q1, q2, q3⟩) (fun σ' b1 b2 b3 b4 b5 => hK σ' b1 b2 b3 b4 (g3.trans b5))
      · obtain ⟨_, e9, _⟩ := h9
        cases e9
    · obtain ⟨_, e9, _⟩ := h9
      cases e9
termination_by (N - j).toNat
theorem s_arrangeAll (hL : L.stackTraces = false) {N : Int} (hr : yRg σ) (hN : 0 ≤ N ∧ N ≤ 24) (ht : yTh σ N) (hcs : yCst σ) (hcu : yCus σ N) : xMet L O mX10_arrangeAll (xR 4 0 0) [.ref 20] (Wd σ X) (fun o G1 => ∃ σ' : ySg, o = .inl none ∧ yRg σ' ∧ yArd σ' N ∧ yAg σ σ' ∧ G1 = Wd σ' X) := xMet_of (by decide) hL (Nat.le_of_ble_eq_true rfl) (by
  refine xw_eq rfl (l2 := [(0, .ref 20)]) rfl rfl rfl ?_
  refine xw_aload_n 0 dX10_arrangeAll_0 rfl ?_
  refine yc_VE (M' := mX10_sortCues) (d := 3) (c := 0) (s := 0) (As := []) (st := []) dX10_arrangeAll_1 okX10_sortCues (Or.inl w_414) (xBig_i is_20.1) (Wd_get is_20) ⟨by decide, rfl⟩ rfl (Nat.le_of_ble_eq_true rfl) (by decide) (by decide) (Nat.zero_le _) (Nat.zero_le _) (s_sortCues hL hr hN ht) (fun v9 G9 h9 => ?_) (fun E9 G9 h9 => ?_)
  · obtain ⟨σ1, e9, hr1, hc1, ho1, hf1, e8⟩ := h9
    cases e9
    subst e8
    refine xz_iconst dX10_arrangeAll_4 ?_
    refine xw_istore_n (l2 := [(0, .ref 20), (1, .int (iI 0))]) dX10_arrangeAll_5 (by decide) rfl rfl ?_
    have g1 : yAg σ σ1 := fun a b q => hf1 a b (by unfold yScA at q; omega) (by unfold yScA at q; omega)
    exact l_arrangeAll hL hr1 hN (hcs.ag g1) (hcu.ag g1) hc1 ho1 0 (by omega) (by omega) (fun p a1 a2 => absurd a2 (by omega)) (fun σ' b1 b2 b3 b4 b5 => ⟨σ', rfl, b1, ⟨b2, b3, fun k a1 a2 => by obtain ⟨p, p1, p2, p3⟩ := b3.2.2 k a1 a2; rw [← p3]; exact b4 p p1 p2⟩, g1.trans b5, rfl⟩)
  · obtain ⟨_, e9, _⟩ := h9
    cases e9)
theorem yArd_up {N v : Int} (h : yArd σ N) : yArd (yup σ 0 6 v) N := by
  have e : ∀ a b, a ≠ 0 → yup σ 0 6 v a b = σ a b := fun a b q => yup_i q
  obtain ⟨h1, h2, h3⟩ := h
  refine ⟨(e _ _ (by decide)).trans h1, h2.cong (fun p => e _ _ (by decide)) (fun k => e _ _ (by unfold cu; omega)), fun k a1 a2 => ?_⟩
  have := h3 k a1 a2
  unfold yRw at this ⊢
  rw [e _ _ (by unfold cu; omega), e _ _ (by unfold cu; omega), e _ _ (by unfold cu; omega)]
  exact this
theorem s_arrange (hL : L.stackTraces = false) {N : Int} (hr : yRg σ) (hN : 0 ≤ N ∧ N ≤ 24) (ht : yTh σ N) (hcs : yCst σ) (hcu : yCus σ N) (h6 : σ 0 6 = 0 ∨ (σ 0 6 = 1 ∧ yArd σ N)) : xMet L O mX11_arrange (xR 5 0 0) [.ref 0] (Wd σ X) (fun o G1 => ∃ σ' : ySg, o = .inl none ∧ yRg σ' ∧ σ' 0 6 = 1 ∧ yArd σ' N ∧ (∀ a b, ¬ yScA a b → ¬ (a = 0 ∧ b = 6) → σ' a b = σ a b) ∧ (σ 0 6 = 1 → ∀ p, σ' 29 p = σ 29 p) ∧ G1 = Wd σ' X) := xMet_of (by decide) hL (Nat.le_of_ble_eq_true rfl) (by
  refine xw_eq rfl (l2 := [(0, .ref 0)]) rfl rfl rfl ?_
  refine xw_aload_n 0 dX11_arrange_0 rfl ?_
  have r1 := hr 0 6
  refine yz_geti (z := 6) (v := σ 0 6) (fo_X11_193 rfl) dX11_arrange_1 is_0 rfl rfl rfl ?_
  refine xz_if_ne (tgt := 19) dX11_arrange_4 (by decide) (by omega) (fun c2 => ?_) (fun c2 => ?_)
  · exact xw_vret dX11_arrange_19 rfl (Nat.zero_le _) (Nat.zero_le _) ⟨σ, rfl, hr, by omega, by rcases h6 with q | q; exact absurd q (by omega); exact q.2, fun a b _ _ => rfl, fun _ _ => rfl, rfl⟩
  · refine xw_aload_n 0 dX11_arrange_7 rfl ?_
    refine yz_getr (fo_X11_29 rfl) dX11_arrange_8 is_0 rfl ?_
    refine yc_VE (M' := mX10_arrangeAll) (d := 4) (c := 0) (s := 0) (As := []) (st := []) dX11_arrange_11 okX10_arrangeAll (Or.inl w_410) (xBig_i is_20.1) (Wd_get is_20) ⟨by decide, rfl⟩ rfl (Nat.le_of_ble_eq_true rfl) (by decide) (by decide) (Nat.zero_le _) (Nat.zero_le _) (s_arrangeAll hL hr hN ht hcs hcu) (fun v9 G9 h9 => ?_) (fun E9 G9 h9 => ?_)
    · obtain ⟨σ3, e9, hr3, ha3, hg3, e8⟩ := h9
      cases e9
      subst e8
      refine xw_aload_n 0 dX11_arrange_14 rfl ?_
      refine xz_iconst dX11_arrange_15 ?_
      refine yz_putz (z := 6) (fp_X11_193 rfl) dX11_arrange_16 is_0 rfl rfl (Or.inr rfl) ?_
      exact xw_vret dX11_arrange_19 rfl (Nat.zero_le _) (Nat.zero_le _) ⟨_, rfl, (yRg_up hr3 (by omega)), yup_s, yArd_up ha3, fun a b q1 q2 => (yup_n q2).trans (hg3 a b q1), fun q => absurd q (by omega), rfl⟩
    · obtain ⟨_, e9, _⟩ := h9
      cases e9)
end Y21

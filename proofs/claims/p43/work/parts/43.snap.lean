theorem yB3.cg {σ : ySg} {N cm : Int} {S E Rg C S' E' C' : Int → Int} (h : yB3 σ N S E Rg cm C) (hs : ∀ k, 0 ≤ k → k < N → S' k = S k ∧ E' k = E k) (hc : ∀ i, 0 ≤ i → i < cm → C' i = C i) : yB3 σ N S' E' Rg cm C' := by
  obtain ⟨h1, h2, h3, h4, h5, h6, h7, h8, ⟨h9, h10, h11⟩, h12⟩ := h
  refine ⟨h1, h2, h3, h4, h5, h6, h7, fun k a b => ?_, ⟨h9, h10, fun i a b => ?_⟩, h12⟩
  · rw [(hs k a b).1, (hs k a b).2]; exact h8 k a b
  · rw [hc i a b]; exact h11 i a b
theorem yDd_cg {N : Int} {S E S' E' S0 E0 : Int → Int} (hs : ∀ k, 0 ≤ k → k < N → S' k = S k ∧ E' k = E k) : yPs (yDd S' S0 E' E0) N.toNat = yPs (yDd S S0 E E0) N.toNat := yPs_cong _ (fun k a b => by
  unfold yDd
  rw [(hs k a (by omega)).1, (hs k a (by omega)).2])
/-- a move of the cues alone -/
theorem yB3.mvM {σ σ1 : ySg} {N cm : Int} {S E Rg C : Int → Int} {R : Int → Int → Int → Int → Prop} (h : yB3 σ N S E Rg cm C) (hr : yRg σ1) (hm : yMv R N σ σ1 24) (hb : ∀ k, 0 ≤ k → k < N → 0 ≤ σ1 (cu k) 1 ∧ σ1 (cu k) 1 < σ1 (cu k) 2 ∧ σ1 (cu k) 2 ≤ 99999) : yB3 (yup σ1 0 6 0) N (fun k => σ1 (cu k) 1) (fun k => σ1 (cu k) 2) Rg cm C := by
  obtain ⟨h1, h2, h3, h4, h5, h6, h7, h8, ⟨h9, h10, h11⟩, h12, h13, h14, h15, h16⟩ := id h
  have g : ∀ x y, ¬ (x = 0 ∧ y = 6) → ¬ (32 ≤ x ∧ x < 128 ∧ x % 4 = 0 ∧ (y = 2 ∨ (y = 1 ∧ x < 32 + 4 * N.toNat))) → (yup σ1 0 6 0) x y = σ x y := fun x y a b => by rw [yup_n a]; exact hm.2 x y (by omega)
  refine h.mv (yRg_up hr (by decide)) yup_s ?_ (fun x y _ a b _ => g x y a b) (fun k a b => ?_) (fun i a b => ?_)
  · rw [g 130 2 (by omega) (by omega)]; exact h13
  · have q := hb k a b
    rw [yup_i (by unfold cu; omega), yup_i (by unfold cu; omega)]
    exact ⟨rfl, rfl, q⟩
  · rw [g 129 i (by omega) (by omega)]; exact h11 i a b
theorem ySp_to {D C : Int → Int} {c cm f r z : Int} (h : ySp D c f r z) (e : c = cm) (hD : ∀ i, 0 ≤ i → i < cm → D i = C i) : ySp C cm f r z := by
  subst e
  rcases h with ⟨h1, h2⟩ | ⟨⟨i, i1, i2, i3⟩, h2, h3⟩
  · exact Or.inl ⟨h1, fun i a b => by rw [← hD i a b]; exact h2 i a b⟩
  · exact Or.inr ⟨⟨i, i1, i2, i3.trans (hD i i1 i2)⟩, h2, fun i a b => by rw [← hD i a b]; exact h3 i a b⟩
theorem ySnR_to {D C : Int → Int} {c cm r S E S' E' : Int} (h : ySnR D c r S E S' E') (e : c = cm) (hD : ∀ i, 0 ≤ i → i < cm → D i = C i) : ySnR C cm r S E S' E' := by
  obtain ⟨z1, z2, h1, h2, h3⟩ := h
  exact ⟨z1, z2, ySp_to h1 e hD, ySp_to h2 e hD, h3⟩
theorem ySnR_bd {C : Int → Int} {c r S E S' E' : Int} (h : ySnR C c r S E S' E') (hC : ∀ i, 0 ≤ i → i < c → 0 ≤ C i ∧ C i ≤ 99999) (hs : 0 ≤ S ∧ S < E ∧ E ≤ 99999) : 0 ≤ S' ∧ S' < E' ∧ E' ≤ 99999 := by
  obtain ⟨z1, z2, h1, h2, h3, h4⟩ := h
  have b1 := ySp_bd h1 (by omega) hC
  have b2 := ySp_bd h2 (by omega) hC
  omega
section Y43
variable {L : Launch} {O : xWd}
theorem L_snapL (hL : L.stackTraces = false) {σ : ySg} {N cm v : Int} {aS aE aR aC aP aQ : Nat} {S E Rg C S1 E1 T U : Int → Int} (j : Int) (hj : 0 ≤ j ∧ j < 4) (hv : 0 ≤ v ∧ v < 1000000) (hK : yK7 L O aS aE aR aC N cm Rg (j + 1)) {z : Int} (k : Int) (h0 : 0 ≤ k) (h1 : k ≤ N) {X : List xOb} (hA : yHs ((aQ, iaL 24 E) :: (aP, iaL 24 S) :: (aC, iaL 20 C) :: (aR, iaL 24 Rg) :: (aE, iaL 24 E1) :: (aS, iaL 24 S1) :: []) X) {c : Nat} (hXl : X.length ≤ c) (hc : (c : Int) ≤ 20040 + 100 * j) (hB : yB3 σ N T U Rg cm C) (hz : -1000000 ≤ z ∧ z ≤ 1000000) (hb0 : ∀ k, 0 ≤ k → k < N → 0 ≤ S k ∧ S k < E k ∧ E k ≤ 99999) (hT : ∀ k, 0 ≤ k → k < N → ySnR C cm (v / 4 % 100) (S k) (E k) (T k) (U k)) (hin1 : ∀ i, 0 ≤ i → i < N → i < k → S1 i = T i ∧ E1 i = U i) (hin2 : ∀ i, k ≤ i → S1 i = S i ∧ E1 i = E i) (hzd : z = yPs (yDd T S U E) N.toNat) : xWP L O mL_law (xR 13 828823 6605674) yKL 787 [(0, .ref xBig), (1, .ref 0), (2, .int (iI N)), (3, .ref aS), (4, .ref aE), (5, .ref aR), (6, .ref aC), (7, .int (iI cm)), (8, .int (iI j)), (9, .int (iI v)), (10, .int (iI 0)), (11, .int (iI z)), (12, .ref aP), (13, .ref aQ), (14, .int (iI k))] [] (Wd σ X) c (6000 + 24 * c) := by
  obtain ⟨hr, d2, d3, d4, d5, d6, d7, d8, ⟨d9, d10, d11⟩, d12, d13, d14, d15, d16⟩ := id hB
  refine xw_iload 14 dL_law_787 rfl ?_
  refine xw_iload_n 2 dL_law_789 rfl ?_
  refine xz_icmp_ge (tgt := 887) dL_law_790 (by decide) (by omega) (by omega) (fun c1 => ?_) (fun c1 => ?_)
  · refine xw_goto (tgt := 1769) dL_law_887 (by decide) ?_
    refine xw_loc [(0, .ref xBig), (1, .ref 0), (2, .int (iI N)), (3, .ref aS), (4, .ref aE), (5, .ref aR), (6, .ref aC), (7, .int (iI cm)), (8, .int (iI j)), (10, .int (iI 0)), (11, .int (iI z)), (12, .ref aP), (13, .ref aQ)] (fun q9 hq9 => by simp only [List.mem_cons, List.not_mem_nil, or_false] at hq9 ⊢; rcases hq9 with h | h | h | h | h | h | h | h | h | h | h | h | h <;> subst h <;> simp) ?_
    refine xw_wid (c2 := c) (n2 := 6000 + 24 * (c)) (by omega) (by omega) ?_
    exact L_ck hL j hj hK hA (c := c) hXl (by omega) (hB.cg (fun i a b => hin1 i a b (by omega)) (fun _ _ _ => rfl)) hz hb0 (Or.inr ⟨rfl, by rw [hzd]; exact (yDd_cg (fun i a b => hin1 i a b (by omega))).symm⟩)
  · have d8k := d8 k h0 (by omega)
    have b0k := hb0 k h0 (by omega)
    have i2 := hin2 k (by omega)
    obtain ⟨y1, y2, p1, p2, p3, p4⟩ := hT k h0 (by omega)
    have by1 := ySp_bd p1 (by omega) (fun i a b => (d11 i a b).2)
    have by2 := ySp_bd p2 (by omega) (fun i a b => (d11 i a b).2)
    refine xw_aload_n 3 dL_law_793 rfl ?_
    refine xw_iload 14 dL_law_794 rfl ?_
    refine yh_aldF 5 hA rfl dL_law_796 (by omega) (by decide) ?_
    refine xw_aload 6 dL_law_797 rfl ?_
    refine xw_iload 7 dL_law_799 rfl ?_
    refine xw_iload 9 dL_law_801 rfl ?_
    refine xz_iconst dL_law_803 ?_
    refine xz_idiv dL_law_804 (by omega) (by decide) ?_
    refine xz_bipush dL_law_805 (by decide) ?_
    refine xz_irem dL_law_807 (by omega) (by decide) ?_
    refine yc_SE (M' := mL_snapped) (d := 0) (c := 0) (s := 0) (As := [.int (iI (S1 k)), .ref aC, .int (iI cm), .int (iI ((v / 4) % 100))]) (st := []) dL_law_808 okL_snapped (Or.inl w_1155) rfl (Nat.le_of_ble_eq_true rfl) (by decide) (by decide) (by omega) (by omega) (s_snapped hL hA 2 rfl (fun i a b => (d11 i a b).2) (by omega) (by omega) (by omega)) (fun w9 G9 h9 => ?_) (fun E9 G9 h9 => by obtain ⟨_, h, _⟩ := h9; cases h)
    obtain ⟨z1, e9, hz1, rfl⟩ := h9
    cases e9
    rw [i2.1] at hz1
    have e1 := ySp_uniq hz1 p1
    refine xw_istore (l2 := [(0, .ref xBig), (1, .ref 0), (2, .int (iI N)), (3, .ref aS), (4, .ref aE), (5, .ref aR), (6, .ref aC), (7, .int (iI cm)), (8, .int (iI j)), (9, .int (iI v)), (10, .int (iI 0)), (11, .int (iI z)), (12, .ref aP), (13, .ref aQ), (14, .int (iI k)), (15, .int (iI z1))]) dL_law_811 (by decide) rfl rfl ?_
    refine xw_aload_n 3 dL_law_813 rfl ?_
    refine xw_iload 14 dL_law_814 rfl ?_
    refine xw_iload 15 dL_law_816 rfl ?_
    refine xw_aload 4 dL_law_818 rfl ?_
    refine xw_iload 14 dL_law_820 rfl ?_
    refine yh_aldF 4 hA rfl dL_law_822 (by omega) (by decide) ?_
    refine xw_join (J := 835) (c1 := c) (n1 := 6000 + 24 * c) (P := fun y2 => y2 = T k) (ls' := fun _ => [(0, .ref xBig), (1, .ref 0), (2, .int (iI N)), (3, .ref aS), (4, .ref aE), (5, .ref aR), (6, .ref aC), (7, .int (iI cm)), (8, .int (iI j)), (9, .int (iI v)), (10, .int (iI 0)), (11, .int (iI z)), (12, .ref aP), (13, .ref aQ), (14, .int (iI k)), (15, .int (iI z1))]) (st' := fun y2 => [.int (iI y2), .int (iI k), .ref aS]) (G' := fun _ => Wd σ X) (fun y2 hz4 => ?_) (fun j3 => ?_)
    · refine yh_astF 5 (A2 := ((aQ, iaL 24 E) :: (aP, iaL 24 S) :: (aC, iaL 20 C) :: (aR, iaL 24 Rg) :: (aE, iaL 24 E1) :: (aS, iaL 24 (fup S1 k y2)) :: [])) hA rfl dL_law_835 (by omega) (by decide) rfl hXl (fun X hA hXl => ?_)
      have hf : (fup S1 k y2) k = _ := fup_s
      refine xw_aload 4 dL_law_836 rfl ?_
      refine xw_iload 14 dL_law_838 rfl ?_
      refine yh_aldF 4 hA rfl dL_law_840 (by omega) (by decide) ?_
      refine xw_aload 6 dL_law_841 rfl ?_
      refine xw_iload 7 dL_law_843 rfl ?_
      refine xw_iload 9 dL_law_845 rfl ?_
      refine xz_iconst dL_law_847 ?_
      refine xz_idiv dL_law_848 (by omega) (by decide) ?_
      refine xz_bipush dL_law_849 (by decide) ?_
      refine xz_irem dL_law_851 (by omega) (by decide) ?_
      refine yc_SE (M' := mL_snapped) (d := 0) (c := 0) (s := 0) (As := [.int (iI (E1 k)), .ref aC, .int (iI cm), .int (iI ((v / 4) % 100))]) (st := []) dL_law_852 okL_snapped (Or.inl w_1155) rfl (Nat.le_of_ble_eq_true rfl) (by decide) (by decide) (by omega) (by omega) (s_snapped hL hA 2 rfl (fun i a b => (d11 i a b).2) (by omega) (by omega) (by omega)) (fun w9 G9 h9 => ?_) (fun E9 G9 h9 => by obtain ⟨_, h, _⟩ := h9; cases h)
      obtain ⟨z2, e9, hz2, rfl⟩ := h9
      cases e9
      rw [i2.2] at hz2
      have e2 := ySp_uniq hz2 p2
      refine xw_istore (l2 := [(0, .ref xBig), (1, .ref 0), (2, .int (iI N)), (3, .ref aS), (4, .ref aE), (5, .ref aR), (6, .ref aC), (7, .int (iI cm)), (8, .int (iI j)), (9, .int (iI v)), (10, .int (iI 0)), (11, .int (iI z)), (12, .ref aP), (13, .ref aQ), (14, .int (iI k)), (15, .int (iI z1)), (16, .int (iI z2))]) dL_law_855 (by decide) rfl rfl ?_
      refine xw_aload 4 dL_law_857 rfl ?_
      refine xw_iload 14 dL_law_859 rfl ?_
      refine xw_iload 16 dL_law_861 rfl ?_
      refine xw_aload_n 3 dL_law_863 rfl ?_
      refine xw_iload 14 dL_law_864 rfl ?_
      refine yh_aldF 5 hA rfl dL_law_866 (by omega) (by decide) ?_
      refine xw_join (J := 880) (c1 := c) (n1 := 6000 + 24 * c) (P := fun y5 => y5 = U k) (ls' := fun _ => [(0, .ref xBig), (1, .ref 0), (2, .int (iI N)), (3, .ref aS), (4, .ref aE), (5, .ref aR), (6, .ref aC), (7, .int (iI cm)), (8, .int (iI j)), (9, .int (iI v)), (10, .int (iI 0)), (11, .int (iI z)), (12, .ref aP), (13, .ref aQ), (14, .int (iI k)), (15, .int (iI z1)), (16, .int (iI z2))]) (st' := fun y5 => [.int (iI y5), .int (iI k), .ref aE]) (G' := fun _ => Wd σ X) (fun y5 hz7 => ?_) (fun j6 => ?_)
      · refine yh_astF 4 (A2 := ((aQ, iaL 24 E) :: (aP, iaL 24 S) :: (aC, iaL 20 C) :: (aR, iaL 24 Rg) :: (aE, iaL 24 (fup E1 k y5)) :: (aS, iaL 24 (fup S1 k y2)) :: [])) hA rfl dL_law_880 (by omega) (by decide) rfl hXl (fun X hA hXl => ?_)
        refine xz_iinc (l2 := [(0, .ref xBig), (1, .ref 0), (2, .int (iI N)), (3, .ref aS), (4, .ref aE), (5, .ref aR), (6, .ref aC), (7, .int (iI cm)), (8, .int (iI j)), (9, .int (iI v)), (10, .int (iI 0)), (11, .int (iI z)), (12, .ref aP), (13, .ref aQ), (14, .int (iI (k + 1))), (15, .int (iI z1)), (16, .int (iI z2))]) 14 dL_law_881 rfl (by decide) rfl rfl ?_
        refine xw_goto (tgt := 787) dL_law_884 (by decide) ?_
        refine xw_loc [(0, .ref xBig), (1, .ref 0), (2, .int (iI N)), (3, .ref aS), (4, .ref aE), (5, .ref aR), (6, .ref aC), (7, .int (iI cm)), (8, .int (iI j)), (9, .int (iI v)), (10, .int (iI 0)), (11, .int (iI z)), (12, .ref aP), (13, .ref aQ), (14, .int (iI (k + 1)))] (fun q9 hq9 => by simp only [List.mem_cons, List.not_mem_nil, or_false] at hq9 ⊢; rcases hq9 with h | h | h | h | h | h | h | h | h | h | h | h | h | h | h <;> subst h <;> simp) ?_
        refine xw_wid (c2 := c) (n2 := 6000 + 24 * (c)) (by omega) (by omega) ?_
        exact L_snapL hL j hj hv hK (k + 1) (by omega) (by omega) hA (c := c) hXl (by omega) hB hz hb0 hT (fun i a b c => by by_cases e : i = k; (rw [e, fup_s, fup_s]; exact ⟨by assumption, by assumption⟩); (rw [fup_n e, fup_n e]; exact hin1 i a b (by omega))) (fun i a => by rw [fup_n (by omega), fup_n (by omega)]; exact hin2 i (by omega)) hzd
      · refine xz_icmp_le (tgt := 875) dL_law_867 (by decide) (by omega) (by omega) (fun c8 => ?_) (fun c8 => ?_)
        · refine xw_aload 4 dL_law_875 rfl ?_
          refine xw_iload 14 dL_law_877 rfl ?_
          refine yh_aldF 4 hA rfl dL_law_879 (by omega) (by decide) ?_
          exact j6 _ (by omega)
        · refine xw_iload 16 dL_law_870 rfl ?_
          refine xw_goto (tgt := 880) dL_law_872 (by decide) ?_
          exact j6 _ (by omega)
    · refine xz_icmp_ge (tgt := 831) dL_law_823 (by decide) (by omega) (by omega) (fun c9 => ?_) (fun c9 => ?_)
      · refine xw_aload_n 3 dL_law_831 rfl ?_
        refine xw_iload 14 dL_law_832 rfl ?_
        refine yh_aldF 5 hA rfl dL_law_834 (by omega) (by decide) ?_
        exact j3 _ (by omega)
      · refine xw_iload 15 dL_law_826 rfl ?_
        refine xw_goto (tgt := 835) dL_law_828 (by decide) ?_
        exact j3 _ (by omega)
termination_by (N - k).toNat
theorem L_snap (hL : L.stackTraces = false) {σ : ySg} {N cm v : Int} {aS aE aR aC aP aQ : Nat} {S E Rg C : Int → Int} (j : Int) (hj : 0 ≤ j ∧ j < 4) (hv : 0 ≤ v ∧ v < 1000000) (hK : yK7 L O aS aE aR aC N cm Rg (j + 1))  {X : List xOb} (hA : yHs ((aQ, iaL 24 E) :: (aP, iaL 24 S) :: (aC, iaL 20 C) :: (aR, iaL 24 Rg) :: (aE, iaL 24 E) :: (aS, iaL 24 S) :: []) X) {c : Nat} (hXl : X.length ≤ c) (hc : (c : Int) ≤ 20010 + 100 * j) (hB : yB3 σ N S E Rg cm C) : xWP L O mL_law (xR 13 828823 6605674) yKL 763 [(0, .ref xBig), (1, .ref 0), (2, .int (iI N)), (3, .ref aS), (4, .ref aE), (5, .ref aR), (6, .ref aC), (7, .int (iI cm)), (8, .int (iI j)), (9, .int (iI v)), (10, .int (iI 0)), (12, .ref aP), (13, .ref aQ)] [] (Wd σ X) c (6000 + 24 * c) := by
  obtain ⟨hr, d2, d3, d4, d5, d6, d7, d8, ⟨d9, d10, d11⟩, d12, d13, d14, d15, d16⟩ := id hB
  refine xw_aload_n 1 dL_law_763 rfl ?_
  refine xz_bipush dL_law_764 (by decide) ?_
  refine xz_iconst dL_law_766 ?_
  refine yv_new (N := 1) (L := [.int (iI 0)]) hXl (by omega) dL_law_767 rfl (by decide) rfl (by omega) (by omega) ?_
  refine xw_dup dL_law_769 rfl ?_
  refine xz_iconst dL_law_770 ?_
  refine xw_iload 9 dL_law_771 rfl ?_
  refine xz_iconst dL_law_773 ?_
  refine xz_idiv dL_law_774 (by omega) (by decide) ?_
  refine xz_bipush dL_law_775 (by decide) ?_
  refine xz_irem dL_law_777 (by omega) (by decide) ?_
  refine yv_put (k := 0) (L2 := [.int (iI ((v / 4) % 100))]) dL_law_778 rfl (by show _ < 1; decide) (by show 1 ≤ _; decide) rfl ?_
  refine yc_SE (K' := fun o9 G9 => ∃ σ9 : ySg, o9 = .inl (some (.int (iI (yDf σ σ9 N)))) ∧ yRg σ9 ∧ yMv (ySnR (σ 129) (σ 128 1) (v / 4 % 100)) N σ σ9 24 ∧ G9 = Wd (yup σ9 0 6 0) (X ++ [(64, [.int (iI ((v / 4) % 100))])])) (M' := mL_ask) (d := 8) (c := 1) (s := 24) (As := [.ref 0, .int (iI 83), .ref (193 + X.length)]) (st := []) dL_law_779 okL_ask (Or.inl w_715) rfl (Nat.le_of_ble_eq_true rfl) (by decide) (by decide) (by omega) (by omega) (a_snap (d := 2) (c := 0) (s := 0) hL (by decide) (by decide) (by decide) (by omega) yv_last (s_snap hL hr (by omega) d3 (by omega) (fun i a b => by have := d11 i a (by omega); omega) (fun k a b => by have := d8 k a b; omega) (by omega)) (fun w9 G9 h => by obtain ⟨σ9, q1, q2⟩ := h; exact ⟨_, Sum.inl.inj q1, σ9, rfl, q2⟩) (fun E9 G9 h => by obtain ⟨σ9, q1, q2⟩ := h; cases q1)) (fun w9 G9 h9 => ?_) (fun E9 G9 h9 => by obtain ⟨_, h, _⟩ := h9; cases h)
  obtain ⟨σ1, e9, hr1, hm1, rfl⟩ := h9
  cases e9
  refine yl_g (m2 := c + 2) (Y := [(64, [.int (iI ((v / 4) % 100))])]) hA hXl (by simp only [List.append_assoc, List.cons_append, List.nil_append]) (by show _ + 1 ≤ _; omega) (fun X hA hXl => ?_)
  refine xw_eq (pc2 := 782) rfl rfl rfl rfl (xw_wid (c2 := c + 2) (n2 := 6000 + 24 * c + 25) (by omega) (by omega) ?_)
  have hT : ∀ k, 0 ≤ k → k < N → ySnR C cm (v / 4 % 100) (S k) (E k) (σ1 (cu k) 1) (σ1 (cu k) 2) := fun k a b => by
    have q := hm1.1 k a (by omega) b
    rw [(d8 k a b).1, (d8 k a b).2.1] at q
    exact ySnR_to q d10 (fun i a b => (d11 i a b).1)
  have hB1 := hB.mvM hr1 hm1 (fun k a b => ySnR_bd (hT k a b) (fun i a b => (d11 i a b).2) (d8 k a b).2.2.2)
  have hdb := yDf_bd σ σ1 N (by omega)
  refine xw_istore (l2 := [(0, .ref xBig), (1, .ref 0), (2, .int (iI N)), (3, .ref aS), (4, .ref aE), (5, .ref aR), (6, .ref aC), (7, .int (iI cm)), (8, .int (iI j)), (9, .int (iI v)), (10, .int (iI 0)), (12, .ref aP), (13, .ref aQ), (11, .int (iI (yDf σ σ1 N)))]) dL_law_782 (by decide) rfl rfl ?_
  refine xz_iconst dL_law_784 ?_
  refine xw_istore (l2 := [(0, .ref xBig), (1, .ref 0), (2, .int (iI N)), (3, .ref aS), (4, .ref aE), (5, .ref aR), (6, .ref aC), (7, .int (iI cm)), (8, .int (iI j)), (9, .int (iI v)), (10, .int (iI 0)), (12, .ref aP), (13, .ref aQ), (11, .int (iI (yDf σ σ1 N))), (14, .int (iI 0))]) dL_law_785 (by decide) rfl rfl ?_
  refine xw_loc [(0, .ref xBig), (1, .ref 0), (2, .int (iI N)), (3, .ref aS), (4, .ref aE), (5, .ref aR), (6, .ref aC), (7, .int (iI cm)), (8, .int (iI j)), (9, .int (iI v)), (10, .int (iI 0)), (11, .int (iI (yDf σ σ1 N))), (12, .ref aP), (13, .ref aQ), (14, .int (iI 0))] (fun q9 hq9 => by simp only [List.mem_cons, List.not_mem_nil, or_false] at hq9 ⊢; rcases hq9 with h | h | h | h | h | h | h | h | h | h | h | h | h | h | h <;> subst h <;> simp) ?_
  refine xw_wid (c2 := c + 2) (n2 := 6000 + 24 * (c + 2)) (by omega) (by omega) ?_
  exact L_snapL hL j hj hv hK 0 (by omega) (by omega) hA (c := c + 2) hXl (by omega) hB1 (by omega) (fun k a b => (d8 k a b).2.2.2) hT (fun i a b c => absurd c (by omega)) (fun i a => ⟨rfl, rfl⟩) (yDf_dd (by omega) (fun k a b => ⟨(d8 k a b).1, (d8 k a b).2.1⟩) (fun k a b => ⟨rfl, rfl⟩))
end Y43

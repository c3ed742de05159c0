theorem yMo_uniq {a0 a1 t0 t1 f z y : Int} (h : yMo a0 a1 t0 t1 f z) (g : yMo a0 a1 t0 t1 f y) (ha : a0 < a1) : z = y := by
  rcases h with h | h | h <;> rcases g with g | g | g <;> omega
theorem yDrR_bd {a0 a1 t0 t1 S E S' E' : Int} (h : yDrR a0 a1 t0 t1 S E S' E') : 0 ≤ S' ∧ S' < E' ∧ E' ≤ 99999 := by
  obtain ⟨z1, z2, _, _, h1, h2⟩ := h
  omega
section Y46
variable {L : Launch} {O : xWd}
theorem L_drL (hL : L.stackTraces = false) {σ : ySg} {N cm v : Int} {aS aE aR aC aP aQ : Nat} {S E Rg C S1 E1 T U : Int → Int} (j : Int) (hj : 0 ≤ j ∧ j < 4) (hv : 0 ≤ v ∧ v < 1000000) (hK : yK7 L O aS aE aR aC N cm Rg (j + 1)) {z f t p q : Int} (k : Int) (h0 : 0 ≤ k) (h1 : k ≤ N) {X : List xOb} (hA : yHs ((aQ, iaL 24 E) :: (aP, iaL 24 S) :: (aC, iaL 20 C) :: (aR, iaL 24 Rg) :: (aE, iaL 24 E1) :: (aS, iaL 24 S1) :: []) X) {c : Nat} (hXl : X.length ≤ c) (hc : (c : Int) ≤ 20040 + 100 * j) (hB : yB3 σ N T U Rg cm C) (hz : -1000000 ≤ z ∧ z ≤ 1000000) (hb0 : ∀ k, 0 ≤ k → k < N → 0 ≤ S k ∧ S k < E k ∧ E k ≤ 99999) (hf : 0 ≤ f ∧ f < 500) (ht : 0 ≤ t ∧ t < 400) (hp : 1 ≤ p ∧ p ≤ 300) (hq : 1 ≤ q ∧ q ≤ 600) (hT : ∀ k, 0 ≤ k → k < N → yDrR f (f + p) t (t + q) (S k) (E k) (T k) (U k)) (hin1 : ∀ i, 0 ≤ i → i < N → i < k → S1 i = T i ∧ E1 i = U i) (hin2 : ∀ i, k ≤ i → S1 i = S i ∧ E1 i = E i) (hzd : z = yPs (yDd T S U E) N.toNat) : xWP L O mL_law (xR 13 828823 6605674) yKL 1600 [(0, .ref xBig), (1, .ref 0), (2, .int (iI N)), (3, .ref aS), (4, .ref aE), (5, .ref aR), (6, .ref aC), (7, .int (iI cm)), (8, .int (iI j)), (9, .int (iI v)), (10, .int (iI 0)), (11, .int (iI z)), (12, .ref aP), (13, .ref aQ), (14, .int (iI f)), (15, .int (iI t)), (16, .int (iI p)), (17, .int (iI q)), (18, .int (iI k))] [] (Wd σ X) c (6000 + 24 * c) := by
  obtain ⟨hr, d2, d3, d4, d5, d6, d7, d8, ⟨d9, d10, d11⟩, d12, d13, d14, d15, d16⟩ := id hB
  refine xw_iload 18 dL_law_1600 rfl ?_
  refine xw_iload_n 2 dL_law_1602 rfl ?_
  refine xz_icmp_ge (tgt := 1769) dL_law_1603 (by decide) (by omega) (by omega) (fun c1 => ?_) (fun c1 => ?_)
  · refine xw_loc [(0, .ref xBig), (1, .ref 0), (2, .int (iI N)), (3, .ref aS), (4, .ref aE), (5, .ref aR), (6, .ref aC), (7, .int (iI cm)), (8, .int (iI j)), (10, .int (iI 0)), (11, .int (iI z)), (12, .ref aP), (13, .ref aQ)] (fun q9 hq9 => by simp only [List.mem_cons, List.not_mem_nil, or_false] at hq9 ⊢; rcases hq9 with h | h | h | h | h | h | h | h | h | h | h | h | h <;> subst h <;> simp) ?_
    refine xw_wid (c2 := c) (n2 := 6000 + 24 * (c)) (by omega) (by omega) ?_
    exact L_ck hL j hj hK hA (c := c) hXl (by omega) (hB.cg (fun i a b => hin1 i a b (by omega)) (fun _ _ _ => rfl)) hz hb0 (Or.inr ⟨rfl, by rw [hzd]; exact (yDd_cg (fun i a b => hin1 i a b (by omega))).symm⟩)
  · have i2 := hin2 k (by omega)
    have b0k := hb0 k h0 (by omega)
    obtain ⟨u1, u2, p1, p2, p3, p4⟩ := hT k h0 (by omega)
    refine xz_iconst dL_law_1606 ?_
    refine xw_istore (l2 := [(0, .ref xBig), (1, .ref 0), (2, .int (iI N)), (3, .ref aS), (4, .ref aE), (5, .ref aR), (6, .ref aC), (7, .int (iI cm)), (8, .int (iI j)), (9, .int (iI v)), (10, .int (iI 0)), (11, .int (iI z)), (12, .ref aP), (13, .ref aQ), (14, .int (iI f)), (15, .int (iI t)), (16, .int (iI p)), (17, .int (iI q)), (18, .int (iI k)), (19, .int (iI 0))]) dL_law_1607 (by decide) rfl rfl ?_
    refine xw_iload 19 dL_law_1609 rfl ?_
    refine xz_iconst dL_law_1611 ?_
    refine xz_icmp_ge (tgt := 1763) dL_law_1612 (by decide) (by omega) (by omega) (fun c2 => ?_) (fun c2 => ?_)
    · exact absurd c2 (by omega)
    · refine xw_iload 19 dL_law_1615 rfl ?_
      refine xz_if_ne (tgt := 1627) dL_law_1617 (by decide) (by omega) (fun c3 => ?_) (fun c3 => ?_)
      · exact absurd c3 (by omega)
      · refine xw_aload_n 3 dL_law_1620 rfl ?_
        refine xw_iload 18 dL_law_1621 rfl ?_
        refine yh_aldF 5 hA rfl dL_law_1623 (by omega) (by decide) ?_
        refine xw_goto (tgt := 1632) dL_law_1624 (by decide) ?_
        refine xw_istore (l2 := [(0, .ref xBig), (1, .ref 0), (2, .int (iI N)), (3, .ref aS), (4, .ref aE), (5, .ref aR), (6, .ref aC), (7, .int (iI cm)), (8, .int (iI j)), (9, .int (iI v)), (10, .int (iI 0)), (11, .int (iI z)), (12, .ref aP), (13, .ref aQ), (14, .int (iI f)), (15, .int (iI t)), (16, .int (iI p)), (17, .int (iI q)), (18, .int (iI k)), (19, .int (iI 0)), (20, .int (iI (S1 k)))]) dL_law_1632 (by decide) rfl rfl ?_
        refine xw_iload 20 dL_law_1634 rfl ?_
        refine xw_iload 14 dL_law_1636 rfl ?_
        refine xz_isub dL_law_1638 ?_
        refine xz_i2l dL_law_1639 (by omega) ?_
        refine xw_lstore (l2 := [(0, .ref xBig), (1, .ref 0), (2, .int (iI N)), (3, .ref aS), (4, .ref aE), (5, .ref aR), (6, .ref aC), (7, .int (iI cm)), (8, .int (iI j)), (9, .int (iI v)), (10, .int (iI 0)), (11, .int (iI z)), (12, .ref aP), (13, .ref aQ), (14, .int (iI f)), (15, .int (iI t)), (16, .int (iI p)), (17, .int (iI q)), (18, .int (iI k)), (19, .int (iI 0)), (20, .int (iI (S1 k))), (21, .long (lI ((S1 k) - f)))]) dL_law_1640 (by decide) rfl rfl ?_
        refine xw_iload 20 dL_law_1642 rfl ?_
        refine xw_iload 14 dL_law_1644 rfl ?_
        refine xw_join (J := 1698) (c1 := c) (n1 := 6000 + 24 * c) (P := fun y4 => yMo f (f + p) t (t + q) (S1 k) y4) (ls' := fun _ => [(0, .ref xBig), (1, .ref 0), (2, .int (iI N)), (3, .ref aS), (4, .ref aE), (5, .ref aR), (6, .ref aC), (7, .int (iI cm)), (8, .int (iI j)), (9, .int (iI v)), (10, .int (iI 0)), (11, .int (iI z)), (12, .ref aP), (13, .ref aQ), (14, .int (iI f)), (15, .int (iI t)), (16, .int (iI p)), (17, .int (iI q)), (18, .int (iI k)), (19, .int (iI 0)), (20, .int (iI (S1 k))), (21, .long (lI ((S1 k) - f)))]) (st' := fun y4 => [.long (lI y4)]) (G' := fun _ => Wd σ X) (fun y4 hz6 => ?_) (fun j5 => ?_)
        · rw [i2.1] at hz6
          have hzb1 := yMo_bd hz6 ⟨by omega, by omega, by omega⟩ ⟨by omega, by omega, by omega⟩ (by omega)
          have hu1 := yMo_uniq hz6 p1 (by omega)
          refine xw_lstore (l2 := [(0, .ref xBig), (1, .ref 0), (2, .int (iI N)), (3, .ref aS), (4, .ref aE), (5, .ref aR), (6, .ref aC), (7, .int (iI cm)), (8, .int (iI j)), (9, .int (iI v)), (10, .int (iI 0)), (11, .int (iI z)), (12, .ref aP), (13, .ref aQ), (14, .int (iI f)), (15, .int (iI t)), (16, .int (iI p)), (17, .int (iI q)), (18, .int (iI k)), (19, .int (iI 0)), (20, .int (iI (S1 k))), (21, .long (lI ((S1 k) - f))), (23, .long (lI y4))]) dL_law_1698 (by decide) rfl rfl ?_
          refine xz_lconst (z := 0) dL_law_1700 (by decide) ?_
          refine xw_iload 19 dL_law_1701 rfl ?_
          refine xz_if_ne (tgt := 1712) dL_law_1703 (by decide) (by omega) (fun c7 => ?_) (fun c7 => ?_)
          · exact absurd c7 (by omega)
          · refine xz_ldc2 (z := 99998) dL_law_1706 w_1175 (by decide) ?_
            refine xw_goto (tgt := 1715) dL_law_1709 (by decide) ?_
            refine xw_lload 22 dL_law_1715 rfl ?_
            refine xz_mminL dL_law_1717 w_1161 (Nat.le_of_ble_eq_true rfl) (by first | omega | (simp only [xR]; omega)) (by first | omega | (simp only [xR]; omega)) (by omega) (by omega) ?_
            refine xz_mmaxL dL_law_1720 w_1159 (Nat.le_of_ble_eq_true rfl) (by first | omega | (simp only [xR]; omega)) (by first | omega | (simp only [xR]; omega)) (by omega) (by omega) ?_
            refine xw_lstore (l2 := [(0, .ref xBig), (1, .ref 0), (2, .int (iI N)), (3, .ref aS), (4, .ref aE), (5, .ref aR), (6, .ref aC), (7, .int (iI cm)), (8, .int (iI j)), (9, .int (iI v)), (10, .int (iI 0)), (11, .int (iI z)), (12, .ref aP), (13, .ref aQ), (14, .int (iI f)), (15, .int (iI t)), (16, .int (iI p)), (17, .int (iI q)), (18, .int (iI k)), (19, .int (iI 0)), (20, .int (iI (S1 k))), (21, .long (lI ((S1 k) - f))), (23, .long (lI (max 0 (min 99998 y4))))]) dL_law_1723 (by decide) rfl rfl ?_
            refine xw_iload 19 dL_law_1725 rfl ?_
            refine xz_if_ne (tgt := 1740) dL_law_1727 (by decide) (by omega) (fun c8 => ?_) (fun c8 => ?_)
            · exact absurd c8 (by omega)
            · refine xw_aload_n 3 dL_law_1730 rfl ?_
              refine xw_iload 18 dL_law_1731 rfl ?_
              refine xw_lload 22 dL_law_1733 rfl ?_
              refine xz_l2i dL_law_1735 (by omega) ?_
              refine yh_astF 5 (A2 := ((aQ, iaL 24 E) :: (aP, iaL 24 S) :: (aC, iaL 20 C) :: (aR, iaL 24 Rg) :: (aE, iaL 24 E1) :: (aS, iaL 24 (fup S1 k (max 0 (min 99998 y4)))) :: [])) hA rfl dL_law_1736 (by omega) (by decide) rfl hXl (fun X hA hXl => ?_)
              refine xw_goto (tgt := 1757) dL_law_1737 (by decide) ?_
              have hf9 : (fup S1 k (max 0 (min 99998 y4))) k = _ := fup_s
              refine xz_iinc (l2 := [(0, .ref xBig), (1, .ref 0), (2, .int (iI N)), (3, .ref aS), (4, .ref aE), (5, .ref aR), (6, .ref aC), (7, .int (iI cm)), (8, .int (iI j)), (9, .int (iI v)), (10, .int (iI 0)), (11, .int (iI z)), (12, .ref aP), (13, .ref aQ), (14, .int (iI f)), (15, .int (iI t)), (16, .int (iI p)), (17, .int (iI q)), (18, .int (iI k)), (19, .int (iI 1)), (20, .int (iI (S1 k))), (21, .long (lI ((S1 k) - f))), (23, .long (lI (max 0 (min 99998 y4))))]) 19 dL_law_1757 rfl (by decide) rfl rfl ?_
              refine xw_goto (tgt := 1609) dL_law_1760 (by decide) ?_
              refine xw_iload 19 dL_law_1609 rfl ?_
              refine xz_iconst dL_law_1611 ?_
              refine xz_icmp_ge (tgt := 1763) dL_law_1612 (by decide) (by omega) (by omega) (fun c9 => ?_) (fun c9 => ?_)
              · exact absurd c9 (by omega)
              · refine xw_iload 19 dL_law_1615 rfl ?_
                refine xz_if_ne (tgt := 1627) dL_law_1617 (by decide) (by omega) (fun c10 => ?_) (fun c10 => ?_)
                · refine xw_aload 4 dL_law_1627 rfl ?_
                  refine xw_iload 18 dL_law_1629 rfl ?_
                  refine yh_aldF 4 hA rfl dL_law_1631 (by omega) (by decide) ?_
                  refine xw_istore (l2 := [(0, .ref xBig), (1, .ref 0), (2, .int (iI N)), (3, .ref aS), (4, .ref aE), (5, .ref aR), (6, .ref aC), (7, .int (iI cm)), (8, .int (iI j)), (9, .int (iI v)), (10, .int (iI 0)), (11, .int (iI z)), (12, .ref aP), (13, .ref aQ), (14, .int (iI f)), (15, .int (iI t)), (16, .int (iI p)), (17, .int (iI q)), (18, .int (iI k)), (19, .int (iI 1)), (20, .int (iI (E1 k))), (21, .long (lI ((S1 k) - f))), (23, .long (lI (max 0 (min 99998 y4))))]) dL_law_1632 (by decide) rfl rfl ?_
                  refine xw_iload 20 dL_law_1634 rfl ?_
                  refine xw_iload 14 dL_law_1636 rfl ?_
                  refine xz_isub dL_law_1638 ?_
                  refine xz_i2l dL_law_1639 (by omega) ?_
                  refine xw_lstore (l2 := [(0, .ref xBig), (1, .ref 0), (2, .int (iI N)), (3, .ref aS), (4, .ref aE), (5, .ref aR), (6, .ref aC), (7, .int (iI cm)), (8, .int (iI j)), (9, .int (iI v)), (10, .int (iI 0)), (11, .int (iI z)), (12, .ref aP), (13, .ref aQ), (14, .int (iI f)), (15, .int (iI t)), (16, .int (iI p)), (17, .int (iI q)), (18, .int (iI k)), (19, .int (iI 1)), (20, .int (iI (E1 k))), (21, .long (lI ((E1 k) - f))), (23, .long (lI (max 0 (min 99998 y4))))]) dL_law_1640 (by decide) rfl rfl ?_
                  refine xw_iload 20 dL_law_1642 rfl ?_
                  refine xw_iload 14 dL_law_1644 rfl ?_
                  refine xw_join (J := 1698) (c1 := c) (n1 := 6000 + 24 * c) (P := fun y11 => yMo f (f + p) t (t + q) (E1 k) y11) (ls' := fun _ => [(0, .ref xBig), (1, .ref 0), (2, .int (iI N)), (3, .ref aS), (4, .ref aE), (5, .ref aR), (6, .ref aC), (7, .int (iI cm)), (8, .int (iI j)), (9, .int (iI v)), (10, .int (iI 0)), (11, .int (iI z)), (12, .ref aP), (13, .ref aQ), (14, .int (iI f)), (15, .int (iI t)), (16, .int (iI p)), (17, .int (iI q)), (18, .int (iI k)), (19, .int (iI 1)), (20, .int (iI (E1 k))), (21, .long (lI ((E1 k) - f))), (23, .long (lI (max 0 (min 99998 y4))))]) (st' := fun y11 => [.long (lI y11)]) (G' := fun _ => Wd σ X) (fun y11 hz13 => ?_) (fun j12 => ?_)
                  · rw [i2.2] at hz13
                    have hzb2 := yMo_bd hz13 ⟨by omega, by omega, by omega⟩ ⟨by omega, by omega, by omega⟩ (by omega)
                    have hu2 := yMo_uniq hz13 p2 (by omega)
                    refine xw_lstore (l2 := [(0, .ref xBig), (1, .ref 0), (2, .int (iI N)), (3, .ref aS), (4, .ref aE), (5, .ref aR), (6, .ref aC), (7, .int (iI cm)), (8, .int (iI j)), (9, .int (iI v)), (10, .int (iI 0)), (11, .int (iI z)), (12, .ref aP), (13, .ref aQ), (14, .int (iI f)), (15, .int (iI t)), (16, .int (iI p)), (17, .int (iI q)), (18, .int (iI k)), (19, .int (iI 1)), (20, .int (iI (E1 k))), (21, .long (lI ((E1 k) - f))), (23, .long (lI y11))]) dL_law_1698 (by decide) rfl rfl ?_
                    refine xz_lconst (z := 0) dL_law_1700 (by decide) ?_
                    refine xw_iload 19 dL_law_1701 rfl ?_
                    refine xz_if_ne (tgt := 1712) dL_law_1703 (by decide) (by omega) (fun c14 => ?_) (fun c14 => ?_)
                    · refine xz_ldc2 (z := 99999) dL_law_1712 w_1174 (by decide) ?_
                      refine xw_lload 22 dL_law_1715 rfl ?_
                      refine xz_mminL dL_law_1717 w_1161 (Nat.le_of_ble_eq_true rfl) (by first | omega | (simp only [xR]; omega)) (by first | omega | (simp only [xR]; omega)) (by omega) (by omega) ?_
                      refine xz_mmaxL dL_law_1720 w_1159 (Nat.le_of_ble_eq_true rfl) (by first | omega | (simp only [xR]; omega)) (by first | omega | (simp only [xR]; omega)) (by omega) (by omega) ?_
                      refine xw_lstore (l2 := [(0, .ref xBig), (1, .ref 0), (2, .int (iI N)), (3, .ref aS), (4, .ref aE), (5, .ref aR), (6, .ref aC), (7, .int (iI cm)), (8, .int (iI j)), (9, .int (iI v)), (10, .int (iI 0)), (11, .int (iI z)), (12, .ref aP), (13, .ref aQ), (14, .int (iI f)), (15, .int (iI t)), (16, .int (iI p)), (17, .int (iI q)), (18, .int (iI k)), (19, .int (iI 1)), (20, .int (iI (E1 k))), (21, .long (lI ((E1 k) - f))), (23, .long (lI (max 0 (min 99999 y11))))]) dL_law_1723 (by decide) rfl rfl ?_
                      refine xw_iload 19 dL_law_1725 rfl ?_
                      refine xz_if_ne (tgt := 1740) dL_law_1727 (by decide) (by omega) (fun c15 => ?_) (fun c15 => ?_)
                      · refine xw_aload 4 dL_law_1740 rfl ?_
                        refine xw_iload 18 dL_law_1742 rfl ?_
                        refine xw_aload_n 3 dL_law_1744 rfl ?_
                        refine xw_iload 18 dL_law_1745 rfl ?_
                        refine yh_aldF 5 hA rfl dL_law_1747 (by omega) (by decide) ?_
                        refine xz_iconst dL_law_1748 ?_
                        refine xz_iadd dL_law_1749 ?_
                        refine xw_lload 22 dL_law_1750 rfl ?_
                        refine xz_l2i dL_law_1752 (by omega) ?_
                        refine xz_mmax dL_law_1753 w_1158 (Nat.le_of_ble_eq_true rfl) (by first | omega | (simp only [xR]; omega)) (by first | omega | (simp only [xR]; omega)) (by omega) (by omega) ?_
                        refine yh_astF 4 (A2 := ((aQ, iaL 24 E) :: (aP, iaL 24 S) :: (aC, iaL 20 C) :: (aR, iaL 24 Rg) :: (aE, iaL 24 (fup E1 k (max ((((fup S1 k (max 0 (min 99998 y4)))) k) + 1) (max 0 (min 99999 y11))))) :: (aS, iaL 24 (fup S1 k (max 0 (min 99998 y4)))) :: [])) hA rfl dL_law_1756 (by omega) (by decide) rfl hXl (fun X hA hXl => ?_)
                        refine xz_iinc (l2 := [(0, .ref xBig), (1, .ref 0), (2, .int (iI N)), (3, .ref aS), (4, .ref aE), (5, .ref aR), (6, .ref aC), (7, .int (iI cm)), (8, .int (iI j)), (9, .int (iI v)), (10, .int (iI 0)), (11, .int (iI z)), (12, .ref aP), (13, .ref aQ), (14, .int (iI f)), (15, .int (iI t)), (16, .int (iI p)), (17, .int (iI q)), (18, .int (iI k)), (19, .int (iI 2)), (20, .int (iI (E1 k))), (21, .long (lI ((E1 k) - f))), (23, .long (lI (max 0 (min 99999 y11))))]) 19 dL_law_1757 rfl (by decide) rfl rfl ?_
                        refine xw_goto (tgt := 1609) dL_law_1760 (by decide) ?_
                        refine xw_iload 19 dL_law_1609 rfl ?_
                        refine xz_iconst dL_law_1611 ?_
                        refine xz_icmp_ge (tgt := 1763) dL_law_1612 (by decide) (by omega) (by omega) (fun c16 => ?_) (fun c16 => ?_)
                        · refine xz_iinc (l2 := [(0, .ref xBig), (1, .ref 0), (2, .int (iI N)), (3, .ref aS), (4, .ref aE), (5, .ref aR), (6, .ref aC), (7, .int (iI cm)), (8, .int (iI j)), (9, .int (iI v)), (10, .int (iI 0)), (11, .int (iI z)), (12, .ref aP), (13, .ref aQ), (14, .int (iI f)), (15, .int (iI t)), (16, .int (iI p)), (17, .int (iI q)), (18, .int (iI (k + 1))), (19, .int (iI 2)), (20, .int (iI (E1 k))), (21, .long (lI ((E1 k) - f))), (23, .long (lI (max 0 (min 99999 y11))))]) 18 dL_law_1763 rfl (by decide) rfl rfl ?_
                          refine xw_goto (tgt := 1600) dL_law_1766 (by decide) ?_
                          refine xw_loc [(0, .ref xBig), (1, .ref 0), (2, .int (iI N)), (3, .ref aS), (4, .ref aE), (5, .ref aR), (6, .ref aC), (7, .int (iI cm)), (8, .int (iI j)), (9, .int (iI v)), (10, .int (iI 0)), (11, .int (iI z)), (12, .ref aP), (13, .ref aQ), (14, .int (iI f)), (15, .int (iI t)), (16, .int (iI p)), (17, .int (iI q)), (18, .int (iI (k + 1)))] (fun q9 hq9 => by simp only [List.mem_cons, List.not_mem_nil, or_false] at hq9 ⊢; rcases hq9 with h | h | h | h | h | h | h | h | h | h | h | h | h | h | h | h | h | h | h <;> subst h <;> simp) ?_
                          refine xw_wid (c2 := c) (n2 := 6000 + 24 * (c)) (by omega) (by omega) ?_
                          exact L_drL hL j hj hv hK (k + 1) (by omega) (by omega) hA (c := c) hXl (by omega) hB hz hb0 hf ht hp hq hT (fun i a b c => by by_cases e : i = k; (rw [e, fup_s, fup_s]; omega); (rw [fup_n e, fup_n e]; exact hin1 i a b (by omega))) (fun i a => by rw [fup_n (by omega), fup_n (by omega)]; exact hin2 i (by omega)) hzd
                        · exact absurd c16 (by omega)
                      · exact absurd c15 (by omega)
                    · exact absurd c14 (by omega)
                  · refine xz_icmp_ge (tgt := 1658) dL_law_1646 (by decide) (by omega) (by omega) (fun c17 => ?_) (fun c17 => ?_)
                    · refine xw_iload 20 dL_law_1658 rfl ?_
                      refine xw_iload 14 dL_law_1660 rfl ?_
                      refine xw_iload 16 dL_law_1662 rfl ?_
                      refine xz_iadd dL_law_1664 ?_
                      refine xz_icmp_lt (tgt := 1684) dL_law_1665 (by decide) (by omega) (by omega) (fun c18 => ?_) (fun c18 => ?_)
                      · have hmx := hmul (E1 k - f) q (by omega) (by omega)
                        refine xw_iload 15 dL_law_1684 rfl ?_
                        refine xz_i2l dL_law_1686 (by omega) ?_
                        refine xw_lload 21 dL_law_1687 rfl ?_
                        refine xw_iload 17 dL_law_1689 rfl ?_
                        refine xz_i2l dL_law_1691 (by omega) ?_
                        refine xz_lmul dL_law_1692 ?_
                        refine xw_iload 16 dL_law_1693 rfl ?_
                        refine xz_i2l dL_law_1695 (by omega) ?_
                        refine xz_ldiv dL_law_1696 (by omega) (by omega) ?_
                        refine xz_ladd dL_law_1697 ?_
                        exact j12 _ (by first | exact Or.inl ⟨by omega, by omega⟩ | exact Or.inr (Or.inl ⟨by omega, by omega⟩) | exact Or.inr (Or.inr ⟨by omega, by omega, by rw [show t + q - t = q by omega, show f + p - f = p by omega]⟩))
                      · refine xw_iload 15 dL_law_1668 rfl ?_
                        refine xw_iload 17 dL_law_1670 rfl ?_
                        refine xz_iadd dL_law_1672 ?_
                        refine xz_i2l dL_law_1673 (by omega) ?_
                        refine xw_lload 21 dL_law_1674 rfl ?_
                        refine xz_ladd dL_law_1676 ?_
                        refine xw_iload 16 dL_law_1677 rfl ?_
                        refine xz_i2l dL_law_1679 (by omega) ?_
                        refine xz_lsub dL_law_1680 ?_
                        refine xw_goto (tgt := 1698) dL_law_1681 (by decide) ?_
                        exact j12 _ (by first | exact Or.inl ⟨by omega, by omega⟩ | exact Or.inr (Or.inl ⟨by omega, by omega⟩) | exact Or.inr (Or.inr ⟨by omega, by omega, by rw [show t + q - t = q by omega, show f + p - f = p by omega]⟩))
                    · refine xw_iload 15 dL_law_1649 rfl ?_
                      refine xz_i2l dL_law_1651 (by omega) ?_
                      refine xw_lload 21 dL_law_1652 rfl ?_
                      refine xz_ladd dL_law_1654 ?_
                      refine xw_goto (tgt := 1698) dL_law_1655 (by decide) ?_
                      exact j12 _ (by first | exact Or.inl ⟨by omega, by omega⟩ | exact Or.inr (Or.inl ⟨by omega, by omega⟩) | exact Or.inr (Or.inr ⟨by omega, by omega, by rw [show t + q - t = q by omega, show f + p - f = p by omega]⟩))
                · exact absurd c10 (by omega)
        · refine xz_icmp_ge (tgt := 1658) dL_law_1646 (by decide) (by omega) (by omega) (fun c19 => ?_) (fun c19 => ?_)
          · refine xw_iload 20 dL_law_1658 rfl ?_
            refine xw_iload 14 dL_law_1660 rfl ?_
            refine xw_iload 16 dL_law_1662 rfl ?_
            refine xz_iadd dL_law_1664 ?_
            refine xz_icmp_lt (tgt := 1684) dL_law_1665 (by decide) (by omega) (by omega) (fun c20 => ?_) (fun c20 => ?_)
            · have hmx := hmul (S1 k - f) q (by omega) (by omega)
              refine xw_iload 15 dL_law_1684 rfl ?_
              refine xz_i2l dL_law_1686 (by omega) ?_
              refine xw_lload 21 dL_law_1687 rfl ?_
              refine xw_iload 17 dL_law_1689 rfl ?_
              refine xz_i2l dL_law_1691 (by omega) ?_
              refine xz_lmul dL_law_1692 ?_
              refine xw_iload 16 dL_law_1693 rfl ?_
              refine xz_i2l dL_law_1695 (by omega) ?_
              refine xz_ldiv dL_law_1696 (by omega) (by omega) ?_
              refine xz_ladd dL_law_1697 ?_
              exact j5 _ (by first | exact Or.inl ⟨by omega, by omega⟩ | exact Or.inr (Or.inl ⟨by omega, by omega⟩) | exact Or.inr (Or.inr ⟨by omega, by omega, by rw [show t + q - t = q by omega, show f + p - f = p by omega]⟩))
            · refine xw_iload 15 dL_law_1668 rfl ?_
              refine xw_iload 17 dL_law_1670 rfl ?_
              refine xz_iadd dL_law_1672 ?_
              refine xz_i2l dL_law_1673 (by omega) ?_
              refine xw_lload 21 dL_law_1674 rfl ?_
              refine xz_ladd dL_law_1676 ?_
              refine xw_iload 16 dL_law_1677 rfl ?_
              refine xz_i2l dL_law_1679 (by omega) ?_
              refine xz_lsub dL_law_1680 ?_
              refine xw_goto (tgt := 1698) dL_law_1681 (by decide) ?_
              exact j5 _ (by first | exact Or.inl ⟨by omega, by omega⟩ | exact Or.inr (Or.inl ⟨by omega, by omega⟩) | exact Or.inr (Or.inr ⟨by omega, by omega, by rw [show t + q - t = q by omega, show f + p - f = p by omega]⟩))
          · refine xw_iload 15 dL_law_1649 rfl ?_
            refine xz_i2l dL_law_1651 (by omega) ?_
            refine xw_lload 21 dL_law_1652 rfl ?_
            refine xz_ladd dL_law_1654 ?_
            refine xw_goto (tgt := 1698) dL_law_1655 (by decide) ?_
            exact j5 _ (by first | exact Or.inl ⟨by omega, by omega⟩ | exact Or.inr (Or.inl ⟨by omega, by omega⟩) | exact Or.inr (Or.inr ⟨by omega, by omega, by rw [show t + q - t = q by omega, show f + p - f = p by omega]⟩))
termination_by (N - k).toNat
theorem L_dr1 (hL : L.stackTraces = false) {σ : ySg} {N cm v : Int} {aS aE aR aC aP aQ : Nat} {S E Rg C : Int → Int} (j : Int) (hj : 0 ≤ j ∧ j < 4) (hv : 0 ≤ v ∧ v < 1000000) (hK : yK7 L O aS aE aR aC N cm Rg (j + 1)) {f t p q : Int} {X : List xOb} (hA : yHs ((aQ, iaL 24 E) :: (aP, iaL 24 S) :: (aC, iaL 20 C) :: (aR, iaL 24 Rg) :: (aE, iaL 24 E) :: (aS, iaL 24 S) :: []) X) {c : Nat} (hXl : X.length ≤ c) (hc : (c : Int) ≤ 20020 + 100 * j) (hB : yB3 σ N S E Rg cm C) (hf : 0 ≤ f ∧ f < 500) (ht : 0 ≤ t ∧ t < 400) (hp : 1 ≤ p ∧ p ≤ 300) (hq : 1 ≤ q ∧ q ≤ 600)  : xWP L O mL_law (xR 13 828823 6605674) yKL 1478 [(0, .ref xBig), (1, .ref 0), (2, .int (iI N)), (3, .ref aS), (4, .ref aE), (5, .ref aR), (6, .ref aC), (7, .int (iI cm)), (8, .int (iI j)), (9, .int (iI v)), (10, .int (iI 0)), (12, .ref aP), (13, .ref aQ), (14, .int (iI f)), (15, .int (iI t)), (16, .int (iI p)), (17, .int (iI q))] [] (Wd σ X) c (6000 + 24 * c) := by
  obtain ⟨hr, d2, d3, d4, d5, d6, d7, d8, ⟨d9, d10, d11⟩, d12, d13, d14, d15, d16⟩ := id hB
  refine xw_aload_n 1 dL_law_1478 rfl ?_
  refine xz_bipush dL_law_1479 (by decide) ?_
  refine xz_iconst dL_law_1481 ?_
  refine yv_new (N := 2) (L := [.int (iI 0), .int (iI 0)]) hXl (by omega) dL_law_1482 rfl (by decide) rfl (by omega) (by omega) ?_
  refine xw_dup dL_law_1484 rfl ?_
  refine xz_iconst dL_law_1485 ?_
  refine xw_iload 13 dL_law_1486 rfl ?_
  refine yv_put (k := 0) (L2 := [.int (iI f), .int (iI 0)]) dL_law_1488 rfl (by show _ < 2; decide) (by show 2 ≤ _; decide) rfl ?_
  refine xw_dup dL_law_1489 rfl ?_
  refine xz_iconst dL_law_1490 ?_
  refine xw_iload 14 dL_law_1491 rfl ?_
  refine yv_put (k := 1) (L2 := [.int (iI f), .int (iI t)]) dL_law_1493 rfl (by show _ < 2; decide) (by show 2 ≤ _; decide) rfl ?_
  refine yc_S (M' := mL_ask) (d := 8) (c := 1) (s := 24) (As := [.ref 0, .int (iI 65), .ref (193 + X.length)]) (st := []) (v0 := some (.int (iI (σ 130 2 + 1)))) (G2 := Wd (yup (yup (yup σ 131 (σ 130 2) f) 132 (σ 130 2) t) 130 2 (σ 130 2 + 1)) (X ++ [(64, [.int (iI f), .int (iI t)])])) dL_law_1494 okL_ask (Or.inl w_715) rfl (Nat.le_of_ble_eq_true rfl) (by decide) (by decide) (by omega) (by omega) rfl rfl (a_addAnchor (d := 2) (c := 0) (s := 0) hL (by decide) (by decide) (by decide) (by omega) yv_last (s_addAnchor hL hr (by omega) (by omega) (by omega) (Or.inl d13)) (fun w9 G9 h => ⟨_, Sum.inl.inj h.1, rfl, h.2⟩) (fun E9 G9 h => by cases h.1)) ?_
  refine yl_g (m2 := c + 2) (Y := [(64, [.int (iI f), .int (iI t)])]) hA hXl (by simp only [List.append_assoc, List.cons_append, List.nil_append]) (by show _ + 1 ≤ _; omega) (fun X hA hXl => ?_)
  refine xw_eq (pc2 := 1497) rfl rfl rfl rfl (xw_wid (c2 := c + 2) (n2 := 6000 + 24 * c + 26) (by omega) (by omega) ?_)
  obtain ⟨σa, ea⟩ : ∃ s9 : ySg, s9 = yup (yup (yup σ 131 (σ 130 2) f) 132 (σ 130 2) t) 130 2 (σ 130 2 + 1) := ⟨_, rfl⟩
  rw [← ea]
  have hra : yRg σa := by rw [ea]; exact yRg_up (yRg_up (yRg_up hr (by omega)) (by omega)) (by omega)
  have a2 : σa 130 2 = 1 := by rw [ea, yup_s, d13]; rfl
  have a31 : σa 131 0 = f := by rw [ea, yup_i (by decide), yup_i (by decide), d13, yup_s]
  have a32 : σa 132 0 = t := by rw [ea, yup_i (by decide), d13, yup_s]
  have ga : ∀ x y, ¬ (130 ≤ x ∧ x ≤ 132) → σa x y = σ x y := fun x y h => by rw [ea, yup_i (by omega), yup_i (by omega), yup_i (by omega)]
  refine xz_iconst dL_law_1497 ?_
  refine xz_icmp_ne (tgt := 1584) dL_law_1498 (by decide) (by omega) (by omega) (fun c1 => ?_) (fun c1 => ?_)
  · exact absurd (by omega) c1
  · refine xw_aload_n 1 dL_law_1501 rfl ?_
    refine xz_bipush dL_law_1502 (by decide) ?_
    refine xz_iconst dL_law_1504 ?_
    refine yv_new (N := 2) (L := [.int (iI 0), .int (iI 0)]) hXl (by omega) dL_law_1505 rfl (by decide) rfl (by omega) (by omega) ?_
    refine xw_dup dL_law_1507 rfl ?_
    refine xz_iconst dL_law_1508 ?_
    refine xw_iload 13 dL_law_1509 rfl ?_
    refine yv_put (k := 0) (L2 := [.int (iI f), .int (iI 0)]) dL_law_1511 rfl (by show _ < 2; decide) (by show 2 ≤ _; decide) rfl ?_
    refine xw_dup dL_law_1512 rfl ?_
    refine xz_iconst dL_law_1513 ?_
    refine xw_iload 14 dL_law_1514 rfl ?_
    refine xz_iconst dL_law_1516 ?_
    refine xz_iadd dL_law_1517 ?_
    refine yv_put (k := 1) (L2 := [.int (iI f), .int (iI (t + 1))]) dL_law_1518 rfl (by show _ < 2; decide) (by show 2 ≤ _; decide) rfl ?_
    refine yc_S (M' := mL_ask) (d := 8) (c := 1) (s := 24) (As := [.ref 0, .int (iI 65), .ref (193 + X.length)]) (st := []) (v0 := some (.int (iI (-1002)))) (G2 := Wd σa ((X ++ [(64, [.int (iI f), .int (iI (t + 1))])]) ++ [(127, [])])) dL_law_1519 okL_ask (Or.inl w_715) rfl (Nat.le_of_ble_eq_true rfl) (by decide) (by decide) (by omega) (by omega) rfl rfl (a_addAnchor (d := 2) (c := 1) (s := 6) hL (by decide) (by decide) (by decide) (by omega) yv_last (t_addAnchor hL (yv_len hXl (by omega)) hra (by omega) (by omega) (by omega) ⟨by omega, by rw [a2, show (1 : Int) - 1 = 0 from rfl, a31, a32]; omega⟩) (fun w9 G9 h => by cases h.1) (fun E9 G9 h => Or.inl ⟨Sum.inr.inj h.1, rfl, h.2⟩)) ?_
    refine yl_g (m2 := c + 4) (Y := [(64, [.int (iI f), .int (iI (t + 1))]), (127, [])]) hA hXl (by simp only [List.append_assoc, List.cons_append, List.nil_append]) (by show _ + 2 ≤ _; omega) (fun X hA hXl => ?_)
    refine xw_eq (pc2 := 1522) rfl rfl rfl rfl (xw_wid (c2 := c + 4) (n2 := 6000 + 24 * c + 52) (by omega) (by omega) ?_)
    refine xz_sipush dL_law_1522 (by omega) ?_
    refine xz_icmp_ne (tgt := 1584) dL_law_1525 (by decide) (by omega) (by omega) (fun c2 => ?_) (fun c2 => ?_)
    · exact absurd rfl c2
    · refine xw_aload_n 1 dL_law_1528 rfl ?_
      refine xz_bipush dL_law_1529 (by decide) ?_
      refine xz_iconst dL_law_1531 ?_
      refine yv_new (N := 2) (L := [.int (iI 0), .int (iI 0)]) hXl (by omega) dL_law_1532 rfl (by decide) rfl (by omega) (by omega) ?_
      refine xw_dup dL_law_1534 rfl ?_
      refine xz_iconst dL_law_1535 ?_
      refine xw_iload 13 dL_law_1536 rfl ?_
      refine xz_iconst dL_law_1538 ?_
      refine xz_iadd dL_law_1539 ?_
      refine yv_put (k := 0) (L2 := [.int (iI (f + 1)), .int (iI 0)]) dL_law_1540 rfl (by show _ < 2; decide) (by show 2 ≤ _; decide) rfl ?_
      refine xw_dup dL_law_1541 rfl ?_
      refine xz_iconst dL_law_1542 ?_
      refine xw_iload 14 dL_law_1543 rfl ?_
      refine yv_put (k := 1) (L2 := [.int (iI (f + 1)), .int (iI t)]) dL_law_1545 rfl (by show _ < 2; decide) (by show 2 ≤ _; decide) rfl ?_
      refine yc_S (M' := mL_ask) (d := 8) (c := 1) (s := 24) (As := [.ref 0, .int (iI 65), .ref (193 + X.length)]) (st := []) (v0 := some (.int (iI (-1002)))) (G2 := Wd σa ((X ++ [(64, [.int (iI (f + 1)), .int (iI t)])]) ++ [(127, [])])) dL_law_1546 okL_ask (Or.inl w_715) rfl (Nat.le_of_ble_eq_true rfl) (by decide) (by decide) (by omega) (by omega) rfl rfl (a_addAnchor (d := 2) (c := 1) (s := 6) hL (by decide) (by decide) (by decide) (by omega) yv_last (t_addAnchor hL (yv_len hXl (by omega)) hra (by omega) (by omega) (by omega) ⟨by omega, by rw [a2, show (1 : Int) - 1 = 0 from rfl, a31, a32]; omega⟩) (fun w9 G9 h => by cases h.1) (fun E9 G9 h => Or.inl ⟨Sum.inr.inj h.1, rfl, h.2⟩)) ?_
      refine yl_g (m2 := c + 6) (Y := [(64, [.int (iI (f + 1)), .int (iI t)]), (127, [])]) hA hXl (by simp only [List.append_assoc, List.cons_append, List.nil_append]) (by show _ + 2 ≤ _; omega) (fun X hA hXl => ?_)
      refine xw_eq (pc2 := 1549) rfl rfl rfl rfl (xw_wid (c2 := c + 6) (n2 := 6000 + 24 * c + 78) (by omega) (by omega) ?_)
      refine xz_sipush dL_law_1549 (by omega) ?_
      refine xz_icmp_ne (tgt := 1584) dL_law_1552 (by decide) (by omega) (by omega) (fun c3 => ?_) (fun c3 => ?_)
      · exact absurd rfl c3
      · refine xw_aload_n 1 dL_law_1555 rfl ?_
        refine xz_bipush dL_law_1556 (by decide) ?_
        refine xz_iconst dL_law_1558 ?_
        refine yv_new (N := 2) (L := [.int (iI 0), .int (iI 0)]) hXl (by omega) dL_law_1559 rfl (by decide) rfl (by omega) (by omega) ?_
        refine xw_dup dL_law_1561 rfl ?_
        refine xz_iconst dL_law_1562 ?_
        refine xw_iload 13 dL_law_1563 rfl ?_
        refine xw_iload 15 dL_law_1565 rfl ?_
        refine xz_iadd dL_law_1567 ?_
        refine yv_put (k := 0) (L2 := [.int (iI (f + p)), .int (iI 0)]) dL_law_1568 rfl (by show _ < 2; decide) (by show 2 ≤ _; decide) rfl ?_
        refine xw_dup dL_law_1569 rfl ?_
        refine xz_iconst dL_law_1570 ?_
        refine xw_iload 14 dL_law_1571 rfl ?_
        refine xw_iload 16 dL_law_1573 rfl ?_
        refine xz_iadd dL_law_1575 ?_
        refine yv_put (k := 1) (L2 := [.int (iI (f + p)), .int (iI (t + q))]) dL_law_1576 rfl (by show _ < 2; decide) (by show 2 ≤ _; decide) rfl ?_
        refine yc_S (M' := mL_ask) (d := 8) (c := 1) (s := 24) (As := [.ref 0, .int (iI 65), .ref (193 + X.length)]) (st := []) (v0 := some (.int (iI (σa 130 2 + 1)))) (G2 := Wd (yup (yup (yup σa 131 (σa 130 2) (f + p)) 132 (σa 130 2) (t + q)) 130 2 (σa 130 2 + 1)) (X ++ [(64, [.int (iI (f + p)), .int (iI (t + q))])])) dL_law_1577 okL_ask (Or.inl w_715) rfl (Nat.le_of_ble_eq_true rfl) (by decide) (by decide) (by omega) (by omega) rfl rfl (a_addAnchor (d := 2) (c := 0) (s := 0) hL (by decide) (by decide) (by decide) (by omega) yv_last (s_addAnchor hL hra (by omega) (by omega) (by omega) (Or.inr (by rw [a2, show (1 : Int) - 1 = 0 from rfl, a31, a32]; omega))) (fun w9 G9 h => ⟨_, Sum.inl.inj h.1, rfl, h.2⟩) (fun E9 G9 h => by cases h.1)) ?_
        refine yl_g (m2 := c + 8) (Y := [(64, [.int (iI (f + p)), .int (iI (t + q))])]) hA hXl (by simp only [List.append_assoc, List.cons_append, List.nil_append]) (by show _ + 1 ≤ _; omega) (fun X hA hXl => ?_)
        refine xw_eq (pc2 := 1580) rfl rfl rfl rfl (xw_wid (c2 := c + 8) (n2 := 6000 + 24 * c + 104) (by omega) (by omega) ?_)
        obtain ⟨σb, eb⟩ : ∃ s9 : ySg, s9 = yup (yup (yup σa 131 (σa 130 2) (f + p)) 132 (σa 130 2) (t + q)) 130 2 (σa 130 2 + 1) := ⟨_, rfl⟩
        rw [← eb]
        have hrb : yRg σb := by rw [eb]; exact yRg_up (yRg_up (yRg_up hra (by omega)) (by omega)) (by omega)
        have b2 : σb 130 2 = 2 := by rw [eb, yup_s, a2]; rfl
        have b310 : σb 131 0 = f := by rw [eb, yup_i (by decide), yup_i (by decide), a2, yup_k (by decide), a31]
        have b311 : σb 131 1 = f + p := by rw [eb, yup_i (by decide), yup_i (by decide), a2, yup_s]
        have b320 : σb 132 0 = t := by rw [eb, yup_i (by decide), a2, yup_k (by decide), yup_i (by decide), a32]
        have b321 : σb 132 1 = t + q := by rw [eb, yup_i (by decide), a2, yup_s]
        have gb : ∀ x y, ¬ (130 ≤ x ∧ x ≤ 132) → σb x y = σ x y := fun x y h => by rw [eb, yup_i (by omega), yup_i (by omega), yup_i (by omega), ga x y h]
        have gbc : ∀ k y : Int, 0 ≤ k → k < 24 → σb (cu k) y = σ (cu k) y := fun k y a b => gb _ _ (by unfold cu; omega)
        refine xz_iconst dL_law_1580 ?_
        refine xz_icmp_eq (tgt := 1586) dL_law_1581 (by decide) (by omega) (by omega) (fun c4 => ?_) (fun c4 => ?_)
        · refine xw_aload_n 1 dL_law_1586 rfl ?_
          refine xz_bipush dL_law_1587 (by decide) ?_
          refine xz_iconst dL_law_1589 ?_
          refine yv_new (N := 0) (L := []) hXl (by omega) dL_law_1590 rfl (by decide) rfl (by omega) (by omega) ?_
          refine yc_SE (K' := fun o9 G9 => ∃ σ9 : ySg, o9 = .inl (some (.int (iI (yDf σb σ9 N)))) ∧ yRg σ9 ∧ yMv (yDrR (σb 131 0) (σb 131 1) (σb 132 0) (σb 132 1)) N σb σ9 24 ∧ G9 = Wd (yup (yup σ9 130 2 0) 0 6 0) (X ++ [(64, [])])) (M' := mL_ask) (d := 8) (c := 1) (s := 24) (As := [.ref 0, .int (iI 68), .ref (193 + X.length)]) (st := []) dL_law_1592 okL_ask (Or.inl w_715) rfl (Nat.le_of_ble_eq_true rfl) (by decide) (by decide) (by omega) (by omega) (a_drift (d := 2) (c := 0) (s := 0) hL (by decide) (by decide) (by decide) (by omega) yv_last (s_drift hL hrb (by omega) (d3.cong (fun k a b => gbc k 0 a b)) b2 (by omega) (by omega) (fun k a b => by have := d8 k a b; rw [gbc k 1 a (by omega), gbc k 2 a (by omega)]; omega)) (fun w9 G9 h => by obtain ⟨σ9, q1, q2⟩ := h; exact ⟨_, Sum.inl.inj q1, σ9, rfl, q2⟩) (fun E9 G9 h => by obtain ⟨σ9, q1, q2⟩ := h; cases q1)) (fun w9 G9 h9 => ?_) (fun E9 G9 h9 => by obtain ⟨_, h, _⟩ := h9; cases h)
          obtain ⟨σ1, e9, hr1, hm1, rfl⟩ := h9
          cases e9
          refine yl_g (m2 := c + 10) (Y := [(64, [])]) hA hXl (by simp only [List.append_assoc, List.cons_append, List.nil_append]) (by show _ + 1 ≤ _; omega) (fun X hA hXl => ?_)
          refine xw_eq (pc2 := 1595) rfl rfl rfl rfl (xw_wid (c2 := c + 10) (n2 := 6000 + 24 * c + 128) (by omega) (by omega) ?_)
          have hT : ∀ k, 0 ≤ k → k < N → yDrR f (f + p) t (t + q) (S k) (E k) (σ1 (cu k) 1) (σ1 (cu k) 2) := fun k a b => by
            have q := hm1.1 k a (by omega) b
            rw [gbc k 1 a (by omega), gbc k 2 a (by omega), (d8 k a b).1, (d8 k a b).2.1, b310, b311, b320, b321] at q
            exact q
          have hB1 : yB3 (yup (yup σ1 130 2 0) 0 6 0) N (fun k => σ1 (cu k) 1) (fun k => σ1 (cu k) 2) Rg cm C := by
            have g : ∀ x y, ¬ (x = 0 ∧ y = 6) → ¬ (130 ≤ x ∧ x ≤ 132) → ¬ (32 ≤ x ∧ x < 128 ∧ x % 4 = 0 ∧ (y = 2 ∨ (y = 1 ∧ x < 32 + 4 * N.toNat))) → (yup (yup σ1 130 2 0) 0 6 0) x y = σ x y := fun x y a e b => by rw [yup_n a, yup_i (by omega), hm1.2 x y (by omega), gb x y e]
            refine hB.mv (yRg_up (yRg_up hr1 (by decide)) (by decide)) yup_s (by rw [yup_i (by decide), yup_s]) (fun x y _ a b c => g x y a (by omega) b) (fun k a b => ?_) (fun i a b => by rw [g 129 i (by omega) (by omega) (by omega)]; exact d11 i a b)
            rw [yup_i (by unfold cu; omega), yup_i (by unfold cu; omega), yup_i (by unfold cu; omega), yup_i (by unfold cu; omega)]
            exact ⟨rfl, rfl, yDrR_bd (hT k a b)⟩
          have hdb := yDf_bd σb σ1 N (by omega)
          refine xw_istore (l2 := [(0, .ref xBig), (1, .ref 0), (2, .int (iI N)), (3, .ref aS), (4, .ref aE), (5, .ref aR), (6, .ref aC), (7, .int (iI cm)), (8, .int (iI j)), (9, .int (iI v)), (10, .int (iI 0)), (12, .ref aP), (13, .ref aQ), (14, .int (iI f)), (15, .int (iI t)), (16, .int (iI p)), (17, .int (iI q)), (11, .int (iI (yDf σb σ1 N)))]) dL_law_1595 (by decide) rfl rfl ?_
          refine xz_iconst dL_law_1597 ?_
          refine xw_istore (l2 := [(0, .ref xBig), (1, .ref 0), (2, .int (iI N)), (3, .ref aS), (4, .ref aE), (5, .ref aR), (6, .ref aC), (7, .int (iI cm)), (8, .int (iI j)), (9, .int (iI v)), (10, .int (iI 0)), (12, .ref aP), (13, .ref aQ), (14, .int (iI f)), (15, .int (iI t)), (16, .int (iI p)), (17, .int (iI q)), (11, .int (iI (yDf σb σ1 N))), (18, .int (iI 0))]) dL_law_1598 (by decide) rfl rfl ?_
          refine xw_loc [(0, .ref xBig), (1, .ref 0), (2, .int (iI N)), (3, .ref aS), (4, .ref aE), (5, .ref aR), (6, .ref aC), (7, .int (iI cm)), (8, .int (iI j)), (9, .int (iI v)), (10, .int (iI 0)), (11, .int (iI (yDf σb σ1 N))), (12, .ref aP), (13, .ref aQ), (14, .int (iI f)), (15, .int (iI t)), (16, .int (iI p)), (17, .int (iI q)), (18, .int (iI 0))] (fun q9 hq9 => by simp only [List.mem_cons, List.not_mem_nil, or_false] at hq9 ⊢; rcases hq9 with h | h | h | h | h | h | h | h | h | h | h | h | h | h | h | h | h | h | h <;> subst h <;> simp) ?_
          refine xw_wid (c2 := c + 10) (n2 := 6000 + 24 * (c + 10)) (by omega) (by omega) ?_
          exact L_drL hL j hj hv hK 0 (by omega) (by omega) hA (c := c + 10) hXl (by omega) hB1 (by omega) (fun k a b => (d8 k a b).2.2.2) hf ht hp hq hT (fun i a b c => absurd c (by omega)) (fun i a => ⟨rfl, rfl⟩) (yDf_dd (by omega) (fun k a b => ⟨(gbc k 1 a (by omega)).trans (d8 k a b).1, (gbc k 2 a (by omega)).trans (d8 k a b).2.1⟩) (fun k a b => ⟨rfl, rfl⟩))
        · exact absurd (by omega) c4
theorem L_dr (hL : L.stackTraces = false) {σ : ySg} {N cm v : Int} {aS aE aR aC aP aQ : Nat} {S E Rg C : Int → Int} (j : Int) (hj : 0 ≤ j ∧ j < 4) (hv : 0 ≤ v ∧ v < 1000000) (hK : yK7 L O aS aE aR aC N cm Rg (j + 1))  {X : List xOb} (hA : yHs ((aQ, iaL 24 E) :: (aP, iaL 24 S) :: (aC, iaL 20 C) :: (aR, iaL 24 Rg) :: (aE, iaL 24 E) :: (aS, iaL 24 S) :: []) X) {c : Nat} (hXl : X.length ≤ c) (hc : (c : Int) ≤ 20010 + 100 * j) (hB : yB3 σ N S E Rg cm C) : xWP L O mL_law (xR 13 828823 6605674) yKL 1413 [(0, .ref xBig), (1, .ref 0), (2, .int (iI N)), (3, .ref aS), (4, .ref aE), (5, .ref aR), (6, .ref aC), (7, .int (iI cm)), (8, .int (iI j)), (9, .int (iI v)), (10, .int (iI 0)), (12, .ref aP), (13, .ref aQ)] [] (Wd σ X) c (6000 + 24 * c) := by
  obtain ⟨hr, d2, d3, d4, d5, d6, d7, d8, ⟨d9, d10, d11⟩, d12, d13, d14, d15, d16⟩ := id hB
  refine xw_aload_n 1 dL_law_1413 rfl ?_
  refine xz_bipush dL_law_1414 (by decide) ?_
  refine xz_iconst dL_law_1416 ?_
  refine yv_new (N := 0) (L := []) hXl (by omega) dL_law_1417 rfl (by decide) rfl (by omega) (by omega) ?_
  refine yc_S (M' := mL_ask) (d := 8) (c := 1) (s := 24) (As := [.ref 0, .int (iI 68), .ref (193 + X.length)]) (st := []) (v0 := some (.int (iI (-1003)))) (G2 := Wd σ ((X ++ [(64, [])]) ++ [(127, [])])) dL_law_1419 okL_ask (Or.inl w_715) rfl (Nat.le_of_ble_eq_true rfl) (by decide) (by decide) (by omega) (by omega) rfl rfl (a_drift (d := 2) (c := 1) (s := 6) hL (by decide) (by decide) (by decide) (by omega) yv_last (t_drift hL (yv_len hXl (by omega)) d13) (fun w9 G9 h => by cases h.1) (fun E9 G9 h => Or.inr (Or.inl ⟨Sum.inr.inj h.1, rfl, h.2⟩))) ?_
  refine yl_g (m2 := c + 2) (Y := [(64, []), (127, [])]) hA hXl (by simp only [List.append_assoc, List.cons_append, List.nil_append]) (by show _ + 2 ≤ _; omega) (fun X hA hXl => ?_)
  refine xw_eq (pc2 := 1422) rfl rfl rfl rfl (xw_wid (c2 := c + 2) (n2 := 6000 + 24 * c + 24) (by omega) (by omega) ?_)
  refine xz_sipush dL_law_1422 (by omega) ?_
  refine xz_icmp_eq (tgt := 1430) dL_law_1425 (by decide) (by omega) (by omega) (fun c1 => ?_) (fun c1 => ?_)
  · refine xw_iload 9 dL_law_1430 rfl ?_
    refine xz_iconst dL_law_1432 ?_
    refine xz_idiv dL_law_1433 (by omega) (by decide) ?_
    refine xz_sipush dL_law_1434 (by decide) ?_
    refine xz_irem dL_law_1437 (by omega) (by decide) ?_
    refine xw_istore (l2 := [(0, .ref xBig), (1, .ref 0), (2, .int (iI N)), (3, .ref aS), (4, .ref aE), (5, .ref aR), (6, .ref aC), (7, .int (iI cm)), (8, .int (iI j)), (9, .int (iI v)), (10, .int (iI 0)), (12, .ref aP), (13, .ref aQ), (14, .int (iI ((v / 4) % 500)))]) dL_law_1438 (by decide) rfl rfl ?_
    refine xw_iload 9 dL_law_1440 rfl ?_
    refine xz_sipush dL_law_1442 (by decide) ?_
    refine xz_idiv dL_law_1445 (by omega) (by decide) ?_
    refine xz_sipush dL_law_1446 (by decide) ?_
    refine xz_irem dL_law_1449 (by omega) (by decide) ?_
    refine xw_istore (l2 := [(0, .ref xBig), (1, .ref 0), (2, .int (iI N)), (3, .ref aS), (4, .ref aE), (5, .ref aR), (6, .ref aC), (7, .int (iI cm)), (8, .int (iI j)), (9, .int (iI v)), (10, .int (iI 0)), (12, .ref aP), (13, .ref aQ), (14, .int (iI ((v / 4) % 500))), (15, .int (iI ((v / 2000) % 400)))]) dL_law_1450 (by decide) rfl rfl ?_
    refine xz_iconst dL_law_1452 ?_
    refine xw_iload 9 dL_law_1453 rfl ?_
    refine xz_bipush dL_law_1455 (by decide) ?_
    refine xz_idiv dL_law_1457 (by omega) (by decide) ?_
    refine xz_sipush dL_law_1458 (by decide) ?_
    refine xz_irem dL_law_1461 (by omega) (by decide) ?_
    refine xz_iadd dL_law_1462 ?_
    refine xw_istore (l2 := [(0, .ref xBig), (1, .ref 0), (2, .int (iI N)), (3, .ref aS), (4, .ref aE), (5, .ref aR), (6, .ref aC), (7, .int (iI cm)), (8, .int (iI j)), (9, .int (iI v)), (10, .int (iI 0)), (12, .ref aP), (13, .ref aQ), (14, .int (iI ((v / 4) % 500))), (15, .int (iI ((v / 2000) % 400))), (16, .int (iI (1 + ((v / 7) % 300))))]) dL_law_1463 (by decide) rfl rfl ?_
    refine xz_iconst dL_law_1465 ?_
    refine xw_iload 9 dL_law_1466 rfl ?_
    refine xz_bipush dL_law_1468 (by decide) ?_
    refine xz_idiv dL_law_1470 (by omega) (by decide) ?_
    refine xz_sipush dL_law_1471 (by decide) ?_
    refine xz_irem dL_law_1474 (by omega) (by decide) ?_
    refine xz_iadd dL_law_1475 ?_
    refine xw_istore (l2 := [(0, .ref xBig), (1, .ref 0), (2, .int (iI N)), (3, .ref aS), (4, .ref aE), (5, .ref aR), (6, .ref aC), (7, .int (iI cm)), (8, .int (iI j)), (9, .int (iI v)), (10, .int (iI 0)), (12, .ref aP), (13, .ref aQ), (14, .int (iI ((v / 4) % 500))), (15, .int (iI ((v / 2000) % 400))), (16, .int (iI (1 + ((v / 7) % 300)))), (17, .int (iI (1 + ((v / 11) % 600))))]) dL_law_1476 (by decide) rfl rfl ?_
    refine xw_wid (c2 := c + 2) (n2 := 6000 + 24 * (c + 2)) (by omega) (by omega) ?_
    exact L_dr1 hL j hj hv hK hA (c := c + 2) hXl (by omega) hB (by omega) (by omega) (by omega) (by omega)
  · exact absurd rfl c1
end Y46

/-- the numbers between the law's steps -/
def yB3 (σ : ySg) (N : Int) (S E Rg : Int → Int) (cm : Int) (C : Int → Int) : Prop := yRg σ ∧ σ 0 5 = N ∧ yTh σ N ∧ (1 ≤ N ∧ N ≤ 8) ∧ yCst σ ∧ (∀ k, 0 ≤ k → k < 24 → (0 ≤ σ (cu k) 1 ∧ σ (cu k) 1 ≤ 99999) ∧ (0 ≤ σ (cu k) 3 ∧ σ (cu k) 3 < 3) ∧ σ (cu k) 6 = 0) ∧ (∀ k j, 0 ≤ k → k < 24 → 0 ≤ j → j < 12 → 0 ≤ σ (cw k) j) ∧ (∀ k, 0 ≤ k → k < N → σ (cu k) 1 = S k ∧ σ (cu k) 2 = E k ∧ σ (cu k) 3 = Rg k ∧ 0 ≤ S k ∧ S k < E k ∧ E k ≤ 99999) ∧ ((0 ≤ cm ∧ cm ≤ 8) ∧ σ 128 1 = cm ∧ ∀ i, 0 ≤ i → i < cm → σ 129 i = C i ∧ 0 ≤ C i ∧ C i ≤ 99999) ∧ yJa σ N ∧ σ 130 2 = 0 ∧ σ 186 2 = 0 ∧ σ 13 7 = 0 ∧ σ 1 4 = 0
theorem yB3.b4 {σ : ySg} {N cm : Int} {S E Rg C : Int → Int} (h : yB3 σ N S E Rg cm C) : yB4 σ N S E Rg ∧ σ (cu 0) 6 = 0 := by
  obtain ⟨h1, h2, h3, h4, h5, h6, h7, h8, h9⟩ := h
  exact ⟨⟨h1, h2, h3, h4, h5, fun k a b => ⟨(h6 k a b).1, (h6 k a b).2.1, fun _ => (h6 k a b).2.2⟩, h7, h8⟩, (h6 0 (by omega) (by omega)).2.2⟩
theorem yB3.cus {σ : ySg} {N cm : Int} {S E Rg C : Int → Int} (h : yB3 σ N S E Rg cm C) : yCus σ N := by
  obtain ⟨h1, h2, h3, h4, h5, h6, h7, h8, h9⟩ := h
  exact fun k a b => ⟨(h6 k a (by omega)).2.1, by have := (h6 k a (by omega)).2.2; omega, fun j c d => h7 k j a (by omega) c d⟩
/-- another arrangement of the same -/
theorem yB3.pr {σ σ' : ySg} {N cm : Int} {S E Rg C : Int → Int} (h : yB3 σ N S E Rg cm C) (hr : yRg σ') (ha : σ' 0 6 = 1 ∧ yArd σ' N) (g : ∀ a b, ¬ yScA a b → ¬ (a = 0 ∧ b = 6) → σ' a b = σ a b) : yB3 σ' N S E Rg cm C := by
  obtain ⟨h1, h2, h3, h4, h5, h6, h7, h8, ⟨h9, h10, h11⟩, h12, h13, h14, h15, h16⟩ := h
  have gc : ∀ k y : Int, 0 ≤ k → k < 24 → y < 8 → σ' (cu k) y = σ (cu k) y := fun k y a b c => g _ _ (by unfold yScA cu; omega) (by unfold cu; omega)
  have g1 : ∀ (x : Nat) (y : Int), (21 ≤ x ∧ x < 25 ∨ 128 ≤ x ∨ (1 ≤ x ∧ x < 20)) → σ' x y = σ x y := fun x y q => g _ _ (by unfold yScA; omega) (by omega)
  refine ⟨hr, by rw [g 0 5 (by unfold yScA; omega) (by omega)]; exact h2, h3.cong (fun k a b => gc k 0 a b (by omega)), h4, fun r a b => ?_, fun k a b => ?_, fun k j a b c d => ?_, fun k a b => ?_, ⟨h9, by rw [g1 128 1 (by omega)]; exact h10, fun i a b => by rw [g1 129 i (by omega)]; exact h11 i a b⟩, Or.inr ha, by rw [g1 130 2 (by omega)]; exact h13, by rw [g1 186 2 (by omega)]; exact h14, by rw [g1 13 7 (by omega)]; exact h15, by rw [g1 1 4 (by omega)]; exact h16⟩
  · rw [g1 22 r (by omega), g1 23 r (by omega), g1 24 r (by omega)]; exact h5 r a b
  · rw [gc k 1 a b (by omega), gc k 3 a b (by omega), gc k 6 a b (by omega)]; exact h6 k a b
  · rw [g (cw k) j (by unfold yScA cw; omega) (by unfold cw; omega)]; exact h7 k j a b c d
  · rw [gc k 1 a (by omega) (by omega), gc k 2 a (by omega) (by omega), gc k 3 a (by omega) (by omega)]; exact h8 k a b
/-- the cues moved -/
theorem yB3.mv {σ σ' : ySg} {N cm : Int} {S E Rg C S' E' C' : Int → Int} (h : yB3 σ N S E Rg cm C) (hr : yRg σ') (h06 : σ' 0 6 = 0) (h130 : σ' 130 2 = 0) (g : ∀ x y, ¬ yScA x y → ¬ (x = 0 ∧ y = 6) → ¬ (32 ≤ x ∧ x < 128 ∧ x % 4 = 0 ∧ (y = 2 ∨ (y = 1 ∧ x < 32 + 4 * N.toNat))) → ¬ (129 ≤ x ∧ x ≤ 132) → σ' x y = σ x y) (hS : ∀ k, 0 ≤ k → k < N → σ' (cu k) 1 = S' k ∧ σ' (cu k) 2 = E' k ∧ 0 ≤ S' k ∧ S' k < E' k ∧ E' k ≤ 99999) (hC : ∀ i, 0 ≤ i → i < cm → σ' 129 i = C' i ∧ 0 ≤ C' i ∧ C' i ≤ 99999) : yB3 σ' N S' E' Rg cm C' := by
  obtain ⟨h1, h2, h3, h4, h5, h6, h7, h8, ⟨h9, h10, h11⟩, h12, h13, h14, h15, h16⟩ := h
  have gc : ∀ k y : Int, 0 ≤ k → k < 24 → y < 8 → y ≠ 1 → y ≠ 2 → σ' (cu k) y = σ (cu k) y := fun k y a b c d e => g _ _ (by unfold yScA cu; omega) (by unfold cu; omega) (by omega) (by unfold cu; omega)
  have g1 : ∀ (x : Nat) (y : Int), (21 ≤ x ∧ x < 25 ∨ x = 128 ∨ 133 ≤ x ∨ (1 ≤ x ∧ x < 20)) → σ' x y = σ x y := fun x y q => g _ _ (by unfold yScA; omega) (by omega) (by omega) (by omega)
  refine ⟨hr, by rw [g 0 5 (by unfold yScA; omega) (by omega) (by omega) (by omega)]; exact h2, h3.cong (fun k a b => gc k 0 a b (by omega) (by omega) (by omega)), h4, fun r a b => ?_, fun k a b => ?_, fun k j a b c d => ?_, fun k a b => ?_, ⟨h9, by rw [g1 128 1 (by omega)]; exact h10, hC⟩, Or.inl h06, h130, by rw [g1 186 2 (by omega)]; exact h14, by rw [g1 13 7 (by omega)]; exact h15, by rw [g1 1 4 (by omega)]; exact h16⟩
  · rw [g1 22 r (by omega), g1 23 r (by omega), g1 24 r (by omega)]; exact h5 r a b
  · rw [gc k 3 a b (by omega) (by omega) (by omega), gc k 6 a b (by omega) (by omega) (by omega)]
    have q := h6 k a b
    refine ⟨?_, q.2⟩
    by_cases c : k < N
    · have := hS k a c; omega
    · rw [g (cu k) 1 (by unfold yScA cu; omega) (by unfold cu; omega) (by unfold cu; omega) (by unfold cu; omega)]; exact q.1
  · rw [g (cw k) j (by unfold yScA cw; omega) (by unfold cw; omega) (by unfold cw; omega) (by unfold cw; omega)]; exact h7 k j a b c d
  · rw [gc k 3 a (by omega) (by omega) (by omega) (by omega)]
    have q := hS k a b
    exact ⟨q.1, q.2.1, (h8 k a b).2.2.1, q.2.2⟩
def yDd (S S0 E E0 : Int → Int) (k : Int) : Int := yne (S k) (S0 k) + yne (E k) (E0 k)
theorem yDd_bd (S S0 E E0 : Int → Int) (k : Int) : 0 ≤ yDd S S0 E E0 k ∧ yDd S S0 E E0 k ≤ 2 := by
  have h1 := yne_bd (S k) (S0 k)
  have h2 := yne_bd (E k) (E0 k)
  unfold yDd
  omega
theorem yDd_s (S S0 E E0 : Int → Int) {k : Int} (h : 0 ≤ k) : yPs (yDd S S0 E E0) (k + 1).toNat = yPs (yDd S S0 E E0) k.toNat + yDd S S0 E E0 k := by
  rw [show (k + 1).toNat = k.toNat + 1 by omega]
  show yPs (yDd S S0 E E0) k.toNat + yDd S S0 E E0 (k.toNat : Int) = _
  rw [Int.toNat_of_nonneg h]
/-- how many numbers a step changed, told by the rows -/
theorem yDf_dd {σ σ' : ySg} {N : Int} {S E S' E' : Int → Int} (hN : 0 ≤ N) (h : ∀ k, 0 ≤ k → k < N → σ (cu k) 1 = S k ∧ σ (cu k) 2 = E k) (h2 : ∀ k, 0 ≤ k → k < N → σ' (cu k) 1 = S' k ∧ σ' (cu k) 2 = E' k) : yDf σ σ' N = yPs (yDd S' S E' E) N.toNat := yPs_cong _ (fun k a b => by
  unfold yTd yDd
  rw [(h k a (by omega)).1, (h k a (by omega)).2, (h2 k a (by omega)).1, (h2 k a (by omega)).2])
/-- the next step -/
def yK7 (L : Launch) (O : xWd) (aS aE aR aC : Nat) (N cm : Int) (Rg : Int → Int) (j : Int) : Prop :=
  ∀ (σ : ySg) (S E C : Int → Int) (X : List xOb) (c : Nat), yHs [(aC, iaL 20 C), (aR, iaL 24 Rg), (aE, iaL 24 E), (aS, iaL 24 S)] X → X.length ≤ c → (c : Int) ≤ 20000 + 100 * j → yB3 σ N S E Rg cm C → xWP L O mL_law (xR 13 828823 6605674) yKL 712 [(0, .ref xBig), (1, .ref 0), (2, .int (iI N)), (3, .ref aS), (4, .ref aE), (5, .ref aR), (6, .ref aC), (7, .int (iI cm)), (8, .int (iI j))] [] (Wd σ X) c (6000 + 24 * c)
section Y42
variable {L : Launch} {O : xWd}
theorem L_chk (hL : L.stackTraces = false) {σ : ySg} {N cm : Int} {aS aE aR aC aP aQ : Nat} {S E Rg C S0 E0 : Int → Int} (j : Int) (hj : 0 ≤ j ∧ j < 4) (hK : yK7 L O aS aE aR aC N cm Rg (j + 1)) {q z : Int} (k : Int) (h0 : 0 ≤ k) (h1 : k ≤ N) {X : List xOb} (hA : yHs ((aQ, iaL 24 E0) :: (aP, iaL 24 S0) :: (aC, iaL 20 C) :: (aR, iaL 24 Rg) :: (aE, iaL 24 E) :: (aS, iaL 24 S) :: []) X) {c : Nat} (hXl : X.length ≤ c) (hc : (c : Int) ≤ 20040 + 100 * j + 4 * k) (hB : yB3 σ N S E Rg cm C) (hz : -1000000 ≤ z ∧ z ≤ 1000000) (hb0 : ∀ k, 0 ≤ k → k < N → 0 ≤ S0 k ∧ S0 k < E0 k ∧ E0 k ≤ 99999) (hd : q = -1 ∨ (q = yPs (yDd S S0 E E0) k.toNat ∧ z = yPs (yDd S S0 E E0) N.toNat)) : xWP L O mL_law (xR 13 828823 6605674) yKL 1772 [(0, .ref xBig), (1, .ref 0), (2, .int (iI N)), (3, .ref aS), (4, .ref aE), (5, .ref aR), (6, .ref aC), (7, .int (iI cm)), (8, .int (iI j)), (10, .int (iI q)), (11, .int (iI z)), (12, .ref aP), (13, .ref aQ), (14, .int (iI k))] [] (Wd σ X) c (6000 + 24 * c) := by
  obtain ⟨hr, d2, d3, d4, d5, d6, d7, d8, ⟨d9, d10, d11⟩, d12, d13, d14, d15, d16⟩ := id hB
  have hpb := yPs_bd (yDd_bd S S0 E E0) k.toNat
  have yb := yDd_bd S S0 E E0 k
  refine xw_iload 13 dL_law_1772 rfl ?_
  refine xw_iload_n 2 dL_law_1774 rfl ?_
  refine xz_icmp_ge (tgt := 1879) dL_law_1775 (by decide) (by omega) (by omega) (fun c1 => ?_) (fun c1 => ?_)
  · refine xw_iload 9 dL_law_1879 rfl ?_
    refine xz_if_lt (tgt := 1891) dL_law_1881 (by decide) (by omega) (fun c2 => ?_) (fun c2 => ?_)
    · refine xw_aload_n 1 dL_law_1891 rfl ?_
      refine yc_V (M' := mX11_cues) (d := 0) (c := 0) (s := 0) (As := []) (st := []) (v0 := some (.int (iI N))) (G2 := Wd σ X) dL_law_1892 okX11_cues (Or.inl w_398) (xBig_i is_0.1) (Wd_get is_0) ⟨by decide, rfl⟩ rfl (Nat.le_of_ble_eq_true rfl) (by decide) (by decide) (by omega) (by omega) rfl rfl (s_cues hL hr (by omega) d3) ?_
      refine xw_iload_n 2 dL_law_1895 rfl ?_
      refine xz_icmp_ne (tgt := 1906) dL_law_1896 (by decide) (by omega) (by omega) (fun c3 => ?_) (fun c3 => ?_)
      · exact absurd rfl c3
      · refine xw_aload_n 1 dL_law_1899 rfl ?_
        refine yc_VE (M' := mX11_isSound) (d := 6) (c := 0) (s := 0) (As := []) (st := []) dL_law_1900 okX11_isSound (Or.inl w_595) (xBig_i is_0.1) (Wd_get is_0) ⟨by decide, rfl⟩ rfl (Nat.le_of_ble_eq_true rfl) (by decide) (by decide) (by omega) (by omega) (s_isSound hL hr (by omega) d3 d5 hB.cus (fun k a b => (d6 k a b).2.1) d12 (fun k a b => (d6 k a (by omega)).2.2) (fun k a b => by have := d8 k a b; omega) d15 d16) (fun w9 G9 h9 => ?_) (fun E9 G9 h9 => by obtain ⟨_, h, _⟩ := h9; cases h)
        obtain ⟨σ2, e9, i1, i2, i3, i4, rfl⟩ := h9
        cases e9
        refine xz_if_ne (tgt := 1908) dL_law_1903 (by decide) (by omega) (fun c4 => ?_) (fun c4 => ?_)
        · refine xz_iinc (l2 := [(0, .ref xBig), (1, .ref 0), (2, .int (iI N)), (3, .ref aS), (4, .ref aE), (5, .ref aR), (6, .ref aC), (7, .int (iI cm)), (8, .int (iI (j + 1))), (10, .int (iI q)), (11, .int (iI z)), (12, .ref aP), (13, .ref aQ), (14, .int (iI k))]) 8 dL_law_1908 rfl (by decide) rfl rfl ?_
          refine xw_goto (tgt := 712) dL_law_1911 (by decide) ?_
          refine xw_loc [(0, .ref xBig), (1, .ref 0), (2, .int (iI N)), (3, .ref aS), (4, .ref aE), (5, .ref aR), (6, .ref aC), (7, .int (iI cm)), (8, .int (iI (j + 1)))] (fun q9 hq9 => by simp only [List.mem_cons, List.not_mem_nil, or_false] at hq9 ⊢; rcases hq9 with h | h | h | h | h | h | h | h | h <;> subst h <;> simp) ?_
          refine xw_wid (c2 := c) (n2 := 6000 + 24 * (c)) (by omega) (by omega) ?_
          exact hK σ2 S E C X (c) (hA.sub [2, 3, 4, 5] rfl (by decide)) hXl (by omega) (hB.pr i1 ⟨i2, i3⟩ i4)
        · exact absurd c4 (by omega)
    · refine xw_iload 10 dL_law_1884 rfl ?_
      refine xw_iload 9 dL_law_1886 rfl ?_
      refine xz_icmp_ne (tgt := 1906) dL_law_1888 (by decide) (by omega) (by omega) (fun c5 => ?_) (fun c5 => ?_)
      · exact absurd c5 (by rw [show k = N by omega] at hd; omega)
      · refine xw_aload_n 1 dL_law_1891 rfl ?_
        refine yc_V (M' := mX11_cues) (d := 0) (c := 0) (s := 0) (As := []) (st := []) (v0 := some (.int (iI N))) (G2 := Wd σ X) dL_law_1892 okX11_cues (Or.inl w_398) (xBig_i is_0.1) (Wd_get is_0) ⟨by decide, rfl⟩ rfl (Nat.le_of_ble_eq_true rfl) (by decide) (by decide) (by omega) (by omega) rfl rfl (s_cues hL hr (by omega) d3) ?_
        refine xw_iload_n 2 dL_law_1895 rfl ?_
        refine xz_icmp_ne (tgt := 1906) dL_law_1896 (by decide) (by omega) (by omega) (fun c6 => ?_) (fun c6 => ?_)
        · exact absurd rfl c6
        · refine xw_aload_n 1 dL_law_1899 rfl ?_
          refine yc_VE (M' := mX11_isSound) (d := 6) (c := 0) (s := 0) (As := []) (st := []) dL_law_1900 okX11_isSound (Or.inl w_595) (xBig_i is_0.1) (Wd_get is_0) ⟨by decide, rfl⟩ rfl (Nat.le_of_ble_eq_true rfl) (by decide) (by decide) (by omega) (by omega) (s_isSound hL hr (by omega) d3 d5 hB.cus (fun k a b => (d6 k a b).2.1) d12 (fun k a b => (d6 k a (by omega)).2.2) (fun k a b => by have := d8 k a b; omega) d15 d16) (fun w9 G9 h9 => ?_) (fun E9 G9 h9 => by obtain ⟨_, h, _⟩ := h9; cases h)
          obtain ⟨σ2, e9, i1, i2, i3, i4, rfl⟩ := h9
          cases e9
          refine xz_if_ne (tgt := 1908) dL_law_1903 (by decide) (by omega) (fun c7 => ?_) (fun c7 => ?_)
          · refine xz_iinc (l2 := [(0, .ref xBig), (1, .ref 0), (2, .int (iI N)), (3, .ref aS), (4, .ref aE), (5, .ref aR), (6, .ref aC), (7, .int (iI cm)), (8, .int (iI (j + 1))), (10, .int (iI q)), (11, .int (iI z)), (12, .ref aP), (13, .ref aQ), (14, .int (iI k))]) 8 dL_law_1908 rfl (by decide) rfl rfl ?_
            refine xw_goto (tgt := 712) dL_law_1911 (by decide) ?_
            refine xw_loc [(0, .ref xBig), (1, .ref 0), (2, .int (iI N)), (3, .ref aS), (4, .ref aE), (5, .ref aR), (6, .ref aC), (7, .int (iI cm)), (8, .int (iI (j + 1)))] (fun q9 hq9 => by simp only [List.mem_cons, List.not_mem_nil, or_false] at hq9 ⊢; rcases hq9 with h | h | h | h | h | h | h | h | h <;> subst h <;> simp) ?_
            refine xw_wid (c2 := c) (n2 := 6000 + 24 * (c)) (by omega) (by omega) ?_
            exact hK σ2 S E C X (c) (hA.sub [2, 3, 4, 5] rfl (by decide)) hXl (by omega) (hB.pr i1 ⟨i2, i3⟩ i4)
          · exact absurd c7 (by omega)
  · have d8k := d8 k h0 (by omega)
    have b0k := hb0 k h0 (by omega)
    refine xw_iload 9 dL_law_1778 rfl ?_
    refine xw_iload 9 dL_law_1780 rfl ?_
    refine xw_join (J := 1825) (c1 := c) (n1 := 6000 + 24 * c) (P := fun y8 => (q = -1 ∧ y8 = 0) ∨ (0 ≤ q ∧ y8 = yDd S S0 E E0 k)) (ls' := fun _ => [(0, .ref xBig), (1, .ref 0), (2, .int (iI N)), (3, .ref aS), (4, .ref aE), (5, .ref aR), (6, .ref aC), (7, .int (iI cm)), (8, .int (iI j)), (10, .int (iI q)), (11, .int (iI z)), (12, .ref aP), (13, .ref aQ), (14, .int (iI k))]) (st' := fun y8 => [.int (iI y8), .int (iI q)]) (G' := fun _ => Wd σ X) (fun y8 hz10 => ?_) (fun j9 => ?_)
    · refine xz_iadd dL_law_1825 ?_
      have yb := yDd_bd S S0 E E0 k
      refine xw_istore (l2 := [(0, .ref xBig), (1, .ref 0), (2, .int (iI N)), (3, .ref aS), (4, .ref aE), (5, .ref aR), (6, .ref aC), (7, .int (iI cm)), (8, .int (iI j)), (10, .int (iI (q + y8))), (11, .int (iI z)), (12, .ref aP), (13, .ref aQ), (14, .int (iI k))]) dL_law_1826 (by decide) rfl rfl ?_
      refine xw_aload_n 1 dL_law_1828 rfl ?_
      refine xz_bipush dL_law_1829 (by decide) ?_
      refine xz_iconst dL_law_1831 ?_
      refine yv_new (N := 1) (L := [.int (iI 0)]) hXl (by omega) dL_law_1832 rfl (by decide) rfl (by omega) (by omega) ?_
      refine xw_dup dL_law_1834 rfl ?_
      refine xz_iconst dL_law_1835 ?_
      refine xw_iload 13 dL_law_1836 rfl ?_
      refine yv_put (k := 0) (L2 := [.int (iI k)]) dL_law_1838 rfl (by show _ < 1; decide) (by show 1 ≤ _; decide) rfl ?_
      have d3k := d3 k h0 (by omega)
      refine yc_S (M' := mL_cue) (d := 8) (c := 1) (s := 24) (As := [.ref 0, .int (iI 115), .ref (193 + X.length)]) (st := []) (v0 := some (.int (iI (σ (cu k) 1)))) (G2 := Wd σ (X ++ [(64, [.int (iI k)])])) dL_law_1839 okL_cue (Or.inl w_971) rfl (Nat.le_of_ble_eq_true rfl) (by decide) (by decide) (by omega) (by omega) rfl rfl (a_startOf (d := 1) (c := 0) (s := 0) hL (by decide) (by decide) (by decide) (by omega) yv_last (s_startOf hL hr (by omega) (by omega) (by omega)) (fun w9 G9 h => ⟨_, Sum.inl.inj h.1, rfl, h.2⟩) (fun E9 G9 h => by cases h.1)) ?_
      refine yl_g (m2 := c + 2) (Y := [(64, [.int (iI k)])]) hA hXl (by simp only [List.append_assoc, List.cons_append, List.nil_append]) (by show _ + 1 ≤ _; omega) (fun X hA hXl => ?_)
      refine xw_eq (pc2 := 1842) rfl rfl rfl rfl (xw_wid (c2 := c + 2) (n2 := 6000 + 24 * c + 25) (by omega) (by omega) ?_)
      refine xw_aload_n 3 dL_law_1842 rfl ?_
      refine xw_iload 13 dL_law_1843 rfl ?_
      refine yh_aldF 5 hA rfl dL_law_1845 (by omega) (by decide) ?_
      refine xz_icmp_ne (tgt := 1871) dL_law_1846 (by decide) (by omega) (by omega) (fun c11 => ?_) (fun c11 => ?_)
      · exact absurd (by omega) c11
      · refine xw_aload_n 1 dL_law_1849 rfl ?_
        refine xz_bipush dL_law_1850 (by decide) ?_
        refine xz_iconst dL_law_1852 ?_
        refine yv_new (N := 1) (L := [.int (iI 0)]) hXl (by omega) dL_law_1853 rfl (by decide) rfl (by omega) (by omega) ?_
        refine xw_dup dL_law_1855 rfl ?_
        refine xz_iconst dL_law_1856 ?_
        refine xw_iload 13 dL_law_1857 rfl ?_
        refine yv_put (k := 0) (L2 := [.int (iI k)]) dL_law_1859 rfl (by show _ < 1; decide) (by show 1 ≤ _; decide) rfl ?_
        refine yc_S (M' := mL_cue) (d := 8) (c := 1) (s := 24) (As := [.ref 0, .int (iI 101), .ref (193 + X.length)]) (st := []) (v0 := some (.int (iI (σ (cu k) 2)))) (G2 := Wd σ (X ++ [(64, [.int (iI k)])])) dL_law_1860 okL_cue (Or.inl w_971) rfl (Nat.le_of_ble_eq_true rfl) (by decide) (by decide) (by omega) (by omega) rfl rfl (a_endOf (d := 1) (c := 0) (s := 0) hL (by decide) (by decide) (by decide) (by omega) yv_last (s_endOf hL hr (by omega) (by omega) (by omega)) (fun w9 G9 h => ⟨_, Sum.inl.inj h.1, rfl, h.2⟩) (fun E9 G9 h => by cases h.1)) ?_
        refine yl_g (m2 := c + 4) (Y := [(64, [.int (iI k)])]) hA hXl (by simp only [List.append_assoc, List.cons_append, List.nil_append]) (by show _ + 1 ≤ _; omega) (fun X hA hXl => ?_)
        refine xw_eq (pc2 := 1863) rfl rfl rfl rfl (xw_wid (c2 := c + 4) (n2 := 6000 + 24 * c + 50) (by omega) (by omega) ?_)
        refine xw_aload 4 dL_law_1863 rfl ?_
        refine xw_iload 13 dL_law_1865 rfl ?_
        refine yh_aldF 4 hA rfl dL_law_1867 (by omega) (by decide) ?_
        refine xz_icmp_eq (tgt := 1873) dL_law_1868 (by decide) (by omega) (by omega) (fun c12 => ?_) (fun c12 => ?_)
        · refine xz_iinc (l2 := [(0, .ref xBig), (1, .ref 0), (2, .int (iI N)), (3, .ref aS), (4, .ref aE), (5, .ref aR), (6, .ref aC), (7, .int (iI cm)), (8, .int (iI j)), (10, .int (iI (q + y8))), (11, .int (iI z)), (12, .ref aP), (13, .ref aQ), (14, .int (iI (k + 1)))]) 13 dL_law_1873 rfl (by decide) rfl rfl ?_
          refine xw_goto (tgt := 1772) dL_law_1876 (by decide) ?_
          refine xw_wid (c2 := c + 4) (n2 := 6000 + 24 * (c + 4)) (by omega) (by omega) ?_
          exact L_chk hL j hj hK (q := q + y8) (k + 1) (by omega) (by omega) hA (c := c + 4) hXl (by omega) hB hz hb0 (by rw [yDd_s _ _ _ _ h0]; omega)
        · exact absurd (by omega) c12
    · refine xz_if_ge (tgt := 1789) dL_law_1782 (by decide) (by omega) (fun c13 => ?_) (fun c13 => ?_)
      · refine xw_aload_n 3 dL_law_1789 rfl ?_
        refine xw_iload 13 dL_law_1790 rfl ?_
        refine yh_aldF 5 hA rfl dL_law_1792 (by omega) (by decide) ?_
        refine xw_aload 11 dL_law_1793 rfl ?_
        refine xw_iload 13 dL_law_1795 rfl ?_
        refine yh_aldF 1 hA rfl dL_law_1797 (by omega) (by decide) ?_
        refine xw_join (J := 1806) (c1 := c) (n1 := 6000 + 24 * c) (P := fun y14 => y14 = yne (S k) (S0 k)) (ls' := fun _ => [(0, .ref xBig), (1, .ref 0), (2, .int (iI N)), (3, .ref aS), (4, .ref aE), (5, .ref aR), (6, .ref aC), (7, .int (iI cm)), (8, .int (iI j)), (10, .int (iI q)), (11, .int (iI z)), (12, .ref aP), (13, .ref aQ), (14, .int (iI k))]) (st' := fun y14 => [.int (iI y14), .int (iI q)]) (G' := fun _ => Wd σ X) (fun y14 hz16 => ?_) (fun j15 => ?_)
        · refine xw_aload 4 dL_law_1806 rfl ?_
          refine xw_iload 13 dL_law_1808 rfl ?_
          refine yh_aldF 4 hA rfl dL_law_1810 (by omega) (by decide) ?_
          refine xw_aload 12 dL_law_1811 rfl ?_
          refine xw_iload 13 dL_law_1813 rfl ?_
          refine yh_aldF 0 hA rfl dL_law_1815 (by omega) (by decide) ?_
          refine xw_join (J := 1824) (c1 := c) (n1 := 6000 + 24 * c) (P := fun y17 => y17 = yne (E k) (E0 k)) (ls' := fun _ => [(0, .ref xBig), (1, .ref 0), (2, .int (iI N)), (3, .ref aS), (4, .ref aE), (5, .ref aR), (6, .ref aC), (7, .int (iI cm)), (8, .int (iI j)), (10, .int (iI q)), (11, .int (iI z)), (12, .ref aP), (13, .ref aQ), (14, .int (iI k))]) (st' := fun y17 => [.int (iI y17), .int (iI y14), .int (iI q)]) (G' := fun _ => Wd σ X) (fun y17 hz19 => ?_) (fun j18 => ?_)
          · refine xz_iadd dL_law_1824 ?_
            exact j9 _ (by first | exact Or.inl ⟨by omega, rfl⟩ | (refine Or.inr ⟨by omega, ?_⟩; unfold yDd; omega))
          · refine xz_icmp_eq (tgt := 1823) dL_law_1816 (by decide) (by omega) (by omega) (fun c20 => ?_) (fun c20 => ?_)
            · refine xz_iconst dL_law_1823 ?_
              exact j18 _ (by first | exact (yne_0 (by omega)).symm | exact (yne_1 (by omega)).symm)
            · refine xz_iconst dL_law_1819 ?_
              refine xw_goto (tgt := 1824) dL_law_1820 (by decide) ?_
              exact j18 _ (by first | exact (yne_0 (by omega)).symm | exact (yne_1 (by omega)).symm)
        · refine xz_icmp_eq (tgt := 1805) dL_law_1798 (by decide) (by omega) (by omega) (fun c21 => ?_) (fun c21 => ?_)
          · refine xz_iconst dL_law_1805 ?_
            exact j15 _ (by first | exact (yne_0 (by omega)).symm | exact (yne_1 (by omega)).symm)
          · refine xz_iconst dL_law_1801 ?_
            refine xw_goto (tgt := 1806) dL_law_1802 (by decide) ?_
            exact j15 _ (by first | exact (yne_0 (by omega)).symm | exact (yne_1 (by omega)).symm)
      · refine xz_iconst dL_law_1785 ?_
        refine xw_goto (tgt := 1825) dL_law_1786 (by decide) ?_
        exact j9 _ (by first | exact Or.inl ⟨by omega, rfl⟩ | (refine Or.inr ⟨by omega, ?_⟩; unfold yDd; omega))
termination_by (N - k).toNat
theorem L_ck (hL : L.stackTraces = false) {σ : ySg} {N cm : Int} {aS aE aR aC aP aQ : Nat} {S E Rg C S0 E0 : Int → Int} (j : Int) (hj : 0 ≤ j ∧ j < 4) (hK : yK7 L O aS aE aR aC N cm Rg (j + 1)) {q z : Int} {X : List xOb} (hA : yHs ((aQ, iaL 24 E0) :: (aP, iaL 24 S0) :: (aC, iaL 20 C) :: (aR, iaL 24 Rg) :: (aE, iaL 24 E) :: (aS, iaL 24 S) :: []) X) {c : Nat} (hXl : X.length ≤ c) (hc : (c : Int) ≤ 20040 + 100 * j) (hB : yB3 σ N S E Rg cm C) (hz : -1000000 ≤ z ∧ z ≤ 1000000) (hb0 : ∀ k, 0 ≤ k → k < N → 0 ≤ S0 k ∧ S0 k < E0 k ∧ E0 k ≤ 99999) (hd : q = -1 ∨ (q = 0 ∧ z = yPs (yDd S S0 E E0) N.toNat)) : xWP L O mL_law (xR 13 828823 6605674) yKL 1769 [(0, .ref xBig), (1, .ref 0), (2, .int (iI N)), (3, .ref aS), (4, .ref aE), (5, .ref aR), (6, .ref aC), (7, .int (iI cm)), (8, .int (iI j)), (10, .int (iI q)), (11, .int (iI z)), (12, .ref aP), (13, .ref aQ)] [] (Wd σ X) c (6000 + 24 * c) := by
  obtain ⟨_, _, _, d4, _⟩ := id hB
  refine xz_iconst dL_law_1769 ?_
  refine xw_istore (l2 := [(0, .ref xBig), (1, .ref 0), (2, .int (iI N)), (3, .ref aS), (4, .ref aE), (5, .ref aR), (6, .ref aC), (7, .int (iI cm)), (8, .int (iI j)), (10, .int (iI q)), (11, .int (iI z)), (12, .ref aP), (13, .ref aQ), (14, .int (iI 0))]) dL_law_1770 (by decide) rfl rfl ?_
  exact L_chk hL j hj hK 0 (by omega) (by omega) hA (c := c) hXl (by omega) hB hz hb0 (by rcases hd with h | ⟨h, h2⟩; exact Or.inl h; exact Or.inr ⟨h, h2⟩)
end Y42

section Y23
variable {L : Launch} {O : xWd} {K : xOc → List xOb → Prop} {σ : ySg} {X : List xOb} {G : List xOb}
/-- what pairing costs, a of the firsts and b of the seconds being left -/
def aC (P : Int → Int → Int) (m n : Int) : Nat → Nat → Int
  | 0, 0 => 0
  | 0, b + 1 => aC P m n 0 b + 40
  | a + 1, 0 => aC P m n a 0 + 40
  | a + 1, b + 1 => min (min (aC P m n a (b + 1) + 40) (aC P m n (a + 1) b + 40)) (P (m - ((a : Int) + 1)) (n - ((b : Int) + 1)) + aC P m n a b)
def yC (P : Int → Int → Int) (m n i j : Int) : Int := aC P m n (m - i).toNat (n - j).toNat
theorem yC_0 {P : Int → Int → Int} {m n : Int} : yC P m n m n = 0 := by
  unfold yC
  rw [Int.sub_self, Int.sub_self]
  simp [aC]
theorem yC_b {P : Int → Int → Int} {m n j : Int} (h : j < n) : yC P m n m j = yC P m n m (j + 1) + 40 := by
  unfold yC
  have e : (n - j).toNat = (n - (j + 1)).toNat + 1 := by omega
  rw [Int.sub_self, e]
  simp [aC]
theorem yC_a {P : Int → Int → Int} {m n i : Int} (h : i < m) : yC P m n i n = yC P m n (i + 1) n + 40 := by
  unfold yC
  have e : (m - i).toNat = (m - (i + 1)).toNat + 1 := by omega
  rw [Int.sub_self, e]
  simp [aC]
theorem yC_ab {P : Int → Int → Int} {m n i j : Int} (h : i < m) (h2 : j < n) : yC P m n i j = min (min (yC P m n (i + 1) j + 40) (yC P m n i (j + 1) + 40)) (P i j + yC P m n (i + 1) (j + 1)) := by
  unfold yC
  have e : (m - i).toNat = (m - (i + 1)).toNat + 1 := by omega
  have e2 : (n - j).toNat = (n - (j + 1)).toNat + 1 := by omega
  rw [e, e2, aC]
  rw [show m - (((m - (i + 1)).toNat : Int) + 1) = i by omega, show n - (((n - (j + 1)).toNat : Int) + 1) = j by omega]
theorem aC_bd {P : Int → Int → Int} {m n : Int} (hP : ∀ i j, 0 ≤ P i j) : ∀ a b : Nat, 0 ≤ aC P m n a b ∧ aC P m n a b ≤ 40 * ((a : Int) + (b : Int))
  | 0, 0 => by simp [aC]
  | 0, b + 1 => by
    have := aC_bd (m := m) (n := n) hP 0 b
    simp only [aC]
    omega
  | a + 1, 0 => by
    have := aC_bd (m := m) (n := n) hP a 0
    simp only [aC]
    omega
  | a + 1, b + 1 => by
    have h1 := aC_bd (m := m) (n := n) hP a (b + 1)
    have h2 := aC_bd (m := m) (n := n) hP (a + 1) b
    have h3 := aC_bd (m := m) (n := n) hP a b
    have h4 := hP (m - ((a : Int) + 1)) (n - ((b : Int) + 1))
    simp only [aC]
    omega
theorem yC_bd {P : Int → Int → Int} {m n : Int} (hP : ∀ i j, 0 ≤ P i j) (i j : Int) (hi : 0 ≤ i ∧ m ≤ 30) (hj : 0 ≤ j ∧ n ≤ 30) : 0 ≤ yC P m n i j ∧ yC P m n i j ≤ 2400 := by
  have := aC_bd (m := m) (n := n) hP (m - i).toNat (n - j).toNat
  unfold yC
  omega
/-- how far the second ones go on at the first one i -/
def ySt (P : Int → Int → Int) (m n i s : Int) : Prop := yC P m n i s = P i s + yC P m n (i + 1) (s + 1) ∨ yC P m n i s = yC P m n (i + 1) s + 40
noncomputable def yAdF (P : Int → Int → Int) (m n i : Int) : Nat → Int → Int
  | 0, s => s
  | k + 1, s => @ite _ (ySt P m n i s) (Classical.propDecidable _) s (yAdF P m n i k (s + 1))

noncomputable def yAd (P : Int → Int → Int) (m n i s : Int) : Int := yAdF P m n i (n - s).toNat s
theorem yAd_end {P : Int → Int → Int} {m n i s : Int} (h : n ≤ s) : yAd P m n i s = s := by
  unfold yAd
  rw [show (n - s).toNat = 0 by omega]
  rfl
theorem yAd_stop {P : Int → Int → Int} {m n i s : Int} (h : s < n) (h2 : ySt P m n i s) : yAd P m n i s = s := by
  unfold yAd
  rw [show (n - s).toNat = (n - (s + 1)).toNat + 1 by omega]
  exact @if_pos _ (Classical.propDecidable _) h2 _ _ _
theorem yAd_go {P : Int → Int → Int} {m n i s : Int} (h : s < n) (h2 : ¬ ySt P m n i s) : yAd P m n i s = yAd P m n i (s + 1) := by
  unfold yAd
  rw [show (n - s).toNat = (n - (s + 1)).toNat + 1 by omega]
  exact @if_neg _ (Classical.propDecidable _) h2 _ _ _
theorem yAdF_bd {P : Int → Int → Int} {m n i : Int} : ∀ (k : Nat) (s : Int), s ≤ yAdF P m n i k s ∧ yAdF P m n i k s ≤ s + k
  | 0, s => by simp [yAdF]
  | k + 1, s => by
    have h := yAdF_bd (P := P) (m := m) (n := n) (i := i) k (s + 1)
    by_cases c : ySt P m n i s
    · rw [show yAdF P m n i (k + 1) s = s from @if_pos _ (Classical.propDecidable _) c _ _ _]; omega
    · rw [show yAdF P m n i (k + 1) s = yAdF P m n i k (s + 1) from @if_neg _ (Classical.propDecidable _) c _ _ _]; omega
theorem yAd_bd {P : Int → Int → Int} {m n i s : Int} (h : s ≤ n) : s ≤ yAd P m n i s ∧ yAd P m n i s ≤ n := by
  have := yAdF_bd (P := P) (m := m) (n := n) (i := i) (n - s).toNat s
  unfold yAd
  omega
/-- there is a pair at (i, q) -/
def yPr (P : Int → Int → Int) (m n i q : Int) : Prop := q < n ∧ yC P m n i q = P i q + yC P m n (i + 1) (q + 1)
noncomputable def ySeN (P : Int → Int → Int) (m n : Int) : Nat → Int
  | 0 => 0
  | k + 1 => yAd P m n (k : Int) (ySeN P m n k) + @ite _ (yPr P m n (k : Int) (yAd P m n (k : Int) (ySeN P m n k))) (Classical.propDecidable _) 1 0
noncomputable def ySe (P : Int → Int → Int) (m n i : Int) : Int := ySeN P m n i.toNat
/-- the place where the search for i ends, and i's partner -/
noncomputable def yQ (P : Int → Int → Int) (m n i : Int) : Int := yAd P m n i (ySe P m n i)
noncomputable def yPt (P : Int → Int → Int) (m n i : Int) : Int := @ite _ (yPr P m n i (yQ P m n i)) (Classical.propDecidable _) (yQ P m n i) (-1)
theorem ySe_0 {P : Int → Int → Int} {m n : Int} : ySe P m n 0 = 0 := rfl
theorem ySe_p {P : Int → Int → Int} {m n i : Int} (h : 0 ≤ i) (c : yPr P m n i (yQ P m n i)) : ySe P m n (i + 1) = yQ P m n i + 1 ∧ yPt P m n i = yQ P m n i := by
  refine ⟨?_, @if_pos _ (Classical.propDecidable _) c _ _ _⟩
  unfold ySe
  rw [show (i + 1).toNat = i.toNat + 1 by omega]
  unfold ySeN
  rw [Int.toNat_of_nonneg h]
  unfold yQ ySe at c ⊢
  rw [@if_pos _ (Classical.propDecidable _) c]
theorem ySe_n {P : Int → Int → Int} {m n i : Int} (h : 0 ≤ i) (c : ¬ yPr P m n i (yQ P m n i)) : ySe P m n (i + 1) = yQ P m n i ∧ yPt P m n i = -1 := by
  refine ⟨?_, @if_neg _ (Classical.propDecidable _) c _ _ _⟩
  unfold ySe
  rw [show (i + 1).toNat = i.toNat + 1 by omega]
  unfold ySeN
  rw [Int.toNat_of_nonneg h]
  unfold yQ ySe at c ⊢
  rw [@if_neg _ (Classical.propDecidable _) c, Int.add_zero]
theorem s_setPrice (hL : L.stackTraces = false) {i j v : Int} (hi : 0 ≤ i ∧ i < 24) (hj : 0 ≤ j ∧ j < 30) : xMet L O mX0_setPrice (xR 1 0 0) [.ref 133, .int (iI i), .int (iI j), .int (iI v)] (Wd σ X) (fun o G1 => o = .inl none ∧ G1 = Wd (yup σ (pr i) j v) X) := xMet_of (by decide) hL (Nat.le_of_ble_eq_true rfl) (by
  refine xw_eq rfl (l2 := [(0, .ref 133), (1, .int (iI i)), (2, .int (iI j)), (3, .int (iI v))]) rfl rfl rfl ?_
  refine xw_iload_n 1 dX0_setPrice_0 rfl ?_
  refine xz_iconst dX0_setPrice_1 ?_
  refine xz_bipush dX0_setPrice_2 (by decide) ?_
  refine yc_S (M' := mX11_isIn) (d := 0) (c := 0) (s := 0) (As := [.int (iI i), .int (iI 0), .int (iI 23)]) (st := []) (v0 := some (.int (iI 1))) (G2 := Wd σ X) dX0_setPrice_4 okX11_isIn (Or.inr ⟨rfl, _, w_483⟩) rfl (Nat.le_of_ble_eq_true rfl) (by decide) (by decide) (Nat.zero_le _) (Nat.zero_le _) rfl rfl (s_isIn1 hL (by omega) (by decide) (by decide) (by omega)) ?_
  refine xz_if_eq (tgt := 29) dX0_setPrice_7 (by decide) (by omega) (fun c1 => ?_) (fun c1 => ?_)
  · exact absurd c1 (by omega)
  · refine xw_iload_n 2 dX0_setPrice_10 rfl ?_
    refine xz_iconst dX0_setPrice_11 ?_
    refine xz_bipush dX0_setPrice_12 (by decide) ?_
    refine yc_S (M' := mX11_isIn) (d := 0) (c := 0) (s := 0) (As := [.int (iI j), .int (iI 0), .int (iI 29)]) (st := []) (v0 := some (.int (iI 1))) (G2 := Wd σ X) dX0_setPrice_14 okX11_isIn (Or.inr ⟨rfl, _, w_483⟩) rfl (Nat.le_of_ble_eq_true rfl) (by decide) (by decide) (Nat.zero_le _) (Nat.zero_le _) rfl rfl (s_isIn1 hL (by omega) (by decide) (by decide) (by omega)) ?_
    refine xz_if_eq (tgt := 29) dX0_setPrice_17 (by decide) (by omega) (fun c2 => ?_) (fun c2 => ?_)
    · exact absurd c2 (by omega)
    · refine xw_aload_n 0 dX0_setPrice_20 rfl ?_
      refine yz_getr (fo_X0_11 rfl) dX0_setPrice_21 is_133 rfl ?_
      refine xw_iload_n 1 dX0_setPrice_24 rfl ?_
      refine yz_aald 4 dX0_setPrice_25 (by decide) rfl rfl is_134 (by omega) (by decide) (ks134_get (by omega)) ?_
      refine xw_iload_n 2 dX0_setPrice_26 rfl ?_
      refine xw_iload_n 3 dX0_setPrice_27 rfl ?_
      refine yz_iast dX0_setPrice_28 (is_pr (by omega)) (by omega) (by decide) ?_
      exact xw_vret dX0_setPrice_29 rfl (Nat.zero_le _) (Nat.zero_le _) ⟨rfl, rfl⟩)
theorem s_partnerOf (hL : L.stackTraces = false) {i : Int} (hr : yRg σ) (hi : 0 ≤ i ∧ i < 24) : xMet L O mX0_partnerOf (xR 1 0 0) [.ref 133, .int (iI i)] (Wd σ X) (fun o G1 => o = .inl (some (.int (iI (σ 185 i)))) ∧ G1 = Wd σ X) := xMet_of (by decide) hL (Nat.le_of_ble_eq_true rfl) (by
  refine xw_eq rfl (l2 := [(0, .ref 133), (1, .int (iI i))]) rfl rfl rfl ?_
  refine xw_iload_n 1 dX0_partnerOf_0 rfl ?_
  refine xz_iconst dX0_partnerOf_1 ?_
  refine xz_bipush dX0_partnerOf_2 (by decide) ?_
  refine yc_S (M' := mX11_isIn) (d := 0) (c := 0) (s := 0) (As := [.int (iI i), .int (iI 0), .int (iI 23)]) (st := []) (v0 := some (.int (iI 1))) (G2 := Wd σ X) dX0_partnerOf_4 okX11_isIn (Or.inr ⟨rfl, _, w_483⟩) rfl (Nat.le_of_ble_eq_true rfl) (by decide) (by decide) (Nat.zero_le _) (Nat.zero_le _) rfl rfl (s_isIn1 hL (by omega) (by decide) (by decide) (by omega)) ?_
  refine xz_if_eq (tgt := 19) dX0_partnerOf_7 (by decide) (by omega) (fun c1 => ?_) (fun c1 => ?_)
  · exact absurd c1 (by omega)
  · refine xw_aload_n 0 dX0_partnerOf_10 rfl ?_
    refine yz_getr (fo_X0_19 rfl) dX0_partnerOf_11 is_133 rfl ?_
    refine xw_iload_n 1 dX0_partnerOf_14 rfl ?_
    have r2 := hr 185 i
    refine yz_iald (v := σ 185 i) dX0_partnerOf_15 is_185 (by omega) (by decide) rfl ?_
    refine xw_goto (tgt := 20) dX0_partnerOf_16 (by decide) ?_
    exact xz_iret dX0_partnerOf_20 rfl (Nat.zero_le _) (Nat.zero_le _) ⟨rfl, rfl⟩)
theorem s_pairedCost (hL : L.stackTraces = false) {i j : Int} (hr : yRg σ) (hi : 0 ≤ i ∧ i < 24) (hj : 0 ≤ j ∧ j < 30) : xMet L O mX0_pairedCost (xR 0 0 0) [.ref 133, .int (iI i), .int (iI j)] (Wd σ X) (fun o G1 => o = .inl (some (.int (iI (σ (pr i) j + σ (co (i + 1)) (j + 1))))) ∧ G1 = Wd σ X) := xMet_of (by decide) hL (Nat.le_of_ble_eq_true rfl) (by
  refine xw_eq rfl (l2 := [(0, .ref 133), (1, .int (iI i)), (2, .int (iI j))]) rfl rfl rfl ?_
  refine xw_aload_n 0 dX0_pairedCost_0 rfl ?_
  refine yz_getr (fo_X0_11 rfl) dX0_pairedCost_1 is_133 rfl ?_
  refine xw_iload_n 1 dX0_pairedCost_4 rfl ?_
  refine yz_aald 4 dX0_pairedCost_5 (by decide) rfl rfl is_134 (by omega) (by decide) (ks134_get (by omega)) ?_
  refine xw_iload_n 2 dX0_pairedCost_6 rfl ?_
  have r1 := hr (pr i) j
  refine yz_iald (v := σ (pr i) j) dX0_pairedCost_7 (is_pr (by omega)) (by omega) (by decide) rfl ?_
  refine xw_aload_n 0 dX0_pairedCost_8 rfl ?_
  refine yz_getr (fo_X0_16 rfl) dX0_pairedCost_9 is_133 rfl ?_
  refine xw_iload_n 1 dX0_pairedCost_12 rfl ?_
  refine xz_iconst dX0_pairedCost_13 ?_
  refine xz_iadd dX0_pairedCost_14 ?_
  refine yz_aald 4 dX0_pairedCost_15 (by decide) rfl rfl is_159 (by omega) (by decide) (ks159_get (by omega)) ?_
  refine xw_iload_n 2 dX0_pairedCost_16 rfl ?_
  refine xz_iconst dX0_pairedCost_17 ?_
  refine xz_iadd dX0_pairedCost_18 ?_
  have r2 := hr (co (i + 1)) (j + 1)
  refine yz_iald (v := σ (co (i + 1)) (j + 1)) dX0_pairedCost_19 (is_co (by omega)) (by omega) (by decide) rfl ?_
  refine xz_iadd dX0_pairedCost_20 ?_
  exact xz_iret dX0_pairedCost_21 rfl (Nat.zero_le _) (Nat.zero_le _) ⟨rfl, rfl⟩)
/-- the table of the costs is right from the row lo on -/
def yCt (P : Int → Int → Int) (σ : ySg) (m n lo : Int) : Prop := ∀ i j, lo ≤ i → i ≤ m → 0 ≤ j → j ≤ n → σ (co i) j = yC P m n i j
def yPi (P : Int → Int → Int) (σ : ySg) (m n : Int) : Prop := ∀ i j, 0 ≤ i → i < m → 0 ≤ j → j < n → σ (pr i) j = P i j
theorem l_choose12 (hL : L.stackTraces = false) {P : Int → Int → Int} {m n : Int} (hr : yRg σ) (hm : 0 ≤ m ∧ m ≤ 24) (hn : 0 ≤ n ∧ n ≤ 24) (hP0 : ∀ i j, 0 ≤ P i j) (hP1 : ∀ i j, P i j ≤ 1000000) (hPi : yPi P σ m n) (hCt : yCt P σ m n 0) {i : Int} (hi : 0 ≤ i ∧ i < m) (s : Int) (hs : 0 ≤ s ∧ s ≤ n) (hK : xWP L O mX0_choose (xR 1 0 0) K 72 [(0, .ref 133), (1, .int (iI m)), (2, .int (iI n)), (3, .int (iI 40)), (4, .int (iI (yAd P m n i s))), (5, .int (iI i))] [] (Wd σ X) 0 0) : xWP L O mX0_choose (xR 1 0 0) K 12 [(0, .ref 133), (1, .int (iI m)), (2, .int (iI n)), (3, .int (iI 40)), (4, .int (iI s)), (5, .int (iI i))] [] (Wd σ X) 0 0 := by
  refine xw_iload 4 dX0_choose_12 rfl ?_
  refine xw_iload_n 2 dX0_choose_14 rfl ?_
  refine xz_icmp_ge (tgt := 72) dX0_choose_15 (by decide) (by omega) (by omega) (fun c1 => ?_) (fun c1 => ?_)
  · first | (rw [yAd_end (by omega)] at hK; exact hK) | (rw [yAd_stop (by omega) (by unfold ySt; omega)] at hK; exact hK)
  · refine xw_aload_n 0 dX0_choose_18 rfl ?_
    refine yz_getr (fo_X0_16 rfl) dX0_choose_19 is_133 rfl ?_
    refine xw_iload 5 dX0_choose_22 rfl ?_
    refine yz_aald 4 dX0_choose_24 (by decide) rfl rfl is_159 (by omega) (by decide) (ks159_get (by omega)) ?_
    refine xw_iload 4 dX0_choose_25 rfl ?_
    have e2 : σ (co i) s = yC P m n i s := hCt _ _ (by omega) (by omega) (by omega) (by omega)
    have b3 := yC_bd (m := m) (n := n) hP0 i s (by omega) (by omega)
    refine yz_iald (v := yC P m n i s) dX0_choose_27 (is_co (by omega)) (by omega) (by decide) e2 ?_
    refine xw_aload_n 0 dX0_choose_28 rfl ?_
    refine xw_iload 5 dX0_choose_29 rfl ?_
    refine xw_iload 4 dX0_choose_31 rfl ?_
    have e4 : σ (co (i + 1)) (s + 1) = yC P m n (i + 1) (s + 1) := hCt _ _ (by omega) (by omega) (by omega) (by omega)
    have b5 := yC_bd (m := m) (n := n) hP0 (i + 1) (s + 1) (by omega) (by omega)
    have p6 : σ (pr i) s = P i s := hPi _ _ (by omega) (by omega) (by omega) (by omega)
    have p60 := hP0 i s
    have p61 := hP1 i s
    refine yc_V (M' := mX0_pairedCost) (d := 0) (c := 0) (s := 0) (As := [.int (iI i), .int (iI s)]) (st := [.int (iI (yC P m n i s))]) (v0 := some (.int (iI (P i s + yC P m n (i + 1) (s + 1))))) (G2 := Wd σ X) dX0_choose_33 okX0_pairedCost (Or.inl w_491) (xBig_i is_133.1) (Wd_get is_133) ⟨by decide, rfl⟩ rfl (Nat.le_of_ble_eq_true rfl) (by decide) (by decide) (Nat.zero_le _) (Nat.zero_le _) rfl rfl (by have q := s_pairedCost (O := O) (σ := σ) (X := X) hL hr (i := i) (j := s) (by omega) (by omega); rw [e4, p6] at q; exact q) ?_
    refine xz_icmp_eq (tgt := 72) dX0_choose_36 (by decide) (by omega) (by omega) (fun c7 => ?_) (fun c7 => ?_)
    · first | (rw [yAd_end (by omega)] at hK; exact hK) | (rw [yAd_stop (by omega) (by unfold ySt; omega)] at hK; exact hK)
    · refine xw_aload_n 0 dX0_choose_39 rfl ?_
      refine yz_getr (fo_X0_16 rfl) dX0_choose_40 is_133 rfl ?_
      refine xw_iload 5 dX0_choose_43 rfl ?_
      refine yz_aald 4 dX0_choose_45 (by decide) rfl rfl is_159 (by omega) (by decide) (ks159_get (by omega)) ?_
      refine xw_iload 4 dX0_choose_46 rfl ?_
      have e8 : σ (co i) s = yC P m n i s := hCt _ _ (by omega) (by omega) (by omega) (by omega)
      have b9 := yC_bd (m := m) (n := n) hP0 i s (by omega) (by omega)
      refine yz_iald (v := yC P m n i s) dX0_choose_48 (is_co (by omega)) (by omega) (by decide) e8 ?_
      refine xw_aload_n 0 dX0_choose_49 rfl ?_
      refine yz_getr (fo_X0_16 rfl) dX0_choose_50 is_133 rfl ?_
      refine xw_iload 5 dX0_choose_53 rfl ?_
      refine xz_iconst dX0_choose_55 ?_
      refine xz_iadd dX0_choose_56 ?_
      refine yz_aald 4 dX0_choose_57 (by decide) rfl rfl is_159 (by omega) (by decide) (ks159_get (by omega)) ?_
      refine xw_iload 4 dX0_choose_58 rfl ?_
      have e10 : σ (co (i + 1)) s = yC P m n (i + 1) s := hCt _ _ (by omega) (by omega) (by omega) (by omega)
      have b11 := yC_bd (m := m) (n := n) hP0 (i + 1) s (by omega) (by omega)
      refine yz_iald (v := yC P m n (i + 1) s) dX0_choose_60 (is_co (by omega)) (by omega) (by decide) e10 ?_
      refine xw_iload_n 3 dX0_choose_61 rfl ?_
      refine xz_iadd dX0_choose_62 ?_
      refine xz_icmp_eq (tgt := 72) dX0_choose_63 (by decide) (by omega) (by omega) (fun c12 => ?_) (fun c12 => ?_)
      · first | (rw [yAd_end (by omega)] at hK; exact hK) | (rw [yAd_stop (by omega) (by unfold ySt; omega)] at hK; exact hK)
      · refine xz_iinc (l2 := [(0, .ref 133), (1, .int (iI m)), (2, .int (iI n)), (3, .int (iI 40)), (4, .int (iI (s + 1))), (5, .int (iI i))]) 4 dX0_choose_66 rfl (by decide) rfl rfl ?_
        refine xw_goto (tgt := 12) dX0_choose_69 (by decide) ?_
        exact l_choose12 hL hr hm hn hP0 hP1 hPi hCt hi (s + 1) (by omega) (by rw [← yAd_go (by omega) (by unfold ySt; omega)]; exact hK)
termination_by (n - s).toNat
theorem l_choose6 (hL : L.stackTraces = false) {σ : ySg} {P : Int → Int → Int} {m n : Int} (hr : yRg σ) (hm : 0 ≤ m ∧ m ≤ 24) (hn : 0 ≤ n ∧ n ≤ 24) (hP0 : ∀ i j, 0 ≤ P i j) (hP1 : ∀ i j, P i j ≤ 1000000) (hPi : yPi P σ m n) (hCt : yCt P σ m n 0) (i : Int) (h0 : 0 ≤ i) (h1 : i ≤ m) (hs : 0 ≤ ySe P m n i ∧ ySe P m n i ≤ n) (hp : ∀ p, 0 ≤ p → p < i → σ 185 p = yPt P m n p) (hK : ∀ σ' : ySg, yRg σ' → (∀ p, 0 ≤ p → p < m → σ' 185 p = yPt P m n p) → (∀ a b, a ≠ 185 → σ' a b = σ a b) → K (.inl none) (Wd σ' X)) : xWP L O mX0_choose (xR 1 0 0) K 6 [(0, .ref 133), (1, .int (iI m)), (2, .int (iI n)), (3, .int (iI 40)), (4, .int (iI (ySe P m n i))), (5, .int (iI i))] [] (Wd σ X) 0 0 := by
  refine xw_iload 5 dX0_choose_6 rfl ?_
  refine xw_iload_n 1 dX0_choose_8 rfl ?_
  refine xz_icmp_ge (tgt := 145) dX0_choose_9 (by decide) (by omega) (by omega) (fun c1 => ?_) (fun c1 => ?_)
  · exact xw_vret dX0_choose_145 rfl (Nat.zero_le _) (Nat.zero_le _) (hK σ hr (fun p a1 a2 => hp p a1 (by omega)) (fun a b _ => rfl))
  · refine l_choose12 hL hr hm hn hP0 hP1 hPi hCt ⟨h0, by omega⟩ _ hs ?_
    obtain ⟨q, eq⟩ : ∃ q, q = yAd P m n i (ySe P m n i) := ⟨_, rfl⟩
    have hq := yAd_bd (P := P) (m := m) (i := i) hs.2
    have eq2 : q = yQ P m n i := eq
    rw [← eq] at hq ⊢
    refine xw_iload 4 dX0_choose_72 rfl ?_
    refine xw_iload_n 2 dX0_choose_74 rfl ?_
    refine xw_join (J := 104) (c1 := 0) (n1 := 0) (P := fun z2 => (z2 = 1 ∧ yPr P m n i q) ∨ (z2 = 0 ∧ ¬ yPr P m n i q)) (ls' := fun _ => [(0, .ref 133), (1, .int (iI m)), (2, .int (iI n)), (3, .int (iI 40)), (4, .int (iI q)), (5, .int (iI i))]) (st' := fun z2 => [.int (iI z2)]) (G' := fun _ => Wd σ X) (fun z2 hz4 => ?_) (fun j3 => ?_)
    · refine xw_istore (l2 := [(0, .ref 133), (1, .int (iI m)), (2, .int (iI n)), (3, .int (iI 40)), (4, .int (iI q)), (5, .int (iI i)), (6, .int (iI z2))]) dX0_choose_104 (by decide) rfl rfl ?_
      refine xw_aload_n 0 dX0_choose_106 rfl ?_
      refine yz_getr (fo_X0_19 rfl) dX0_choose_107 is_133 rfl ?_
      refine xw_iload 5 dX0_choose_110 rfl ?_
      refine xw_iload 6 dX0_choose_112 rfl ?_
      refine xz_if_eq (tgt := 122) dX0_choose_114 (by decide) (by omega) (fun c5 => ?_) (fun c5 => ?_)
      · refine xz_iconst dX0_choose_122 ?_
        refine yz_iast dX0_choose_123 is_185 (by omega) (by decide) ?_
        refine xw_iload 4 dX0_choose_124 rfl ?_
        refine xw_iload 6 dX0_choose_126 rfl ?_
        refine xz_if_eq (tgt := 135) dX0_choose_128 (by decide) (by omega) (fun c6 => ?_) (fun c6 => ?_)
        · refine xz_iconst dX0_choose_135 ?_
          refine xz_iadd dX0_choose_136 ?_
          refine xw_istore (l2 := [(0, .ref 133), (1, .int (iI m)), (2, .int (iI n)), (3, .int (iI 40)), (4, .int (iI (q + 0))), (5, .int (iI i)), (6, .int (iI z2))]) dX0_choose_137 (by decide) rfl rfl ?_
          refine xz_iinc (l2 := [(0, .ref 133), (1, .int (iI m)), (2, .int (iI n)), (3, .int (iI 40)), (4, .int (iI (q + 0))), (5, .int (iI (i + 1))), (6, .int (iI z2))]) 5 dX0_choose_139 rfl (by decide) rfl rfl ?_
          refine xw_goto (tgt := 6) dX0_choose_142 (by decide) ?_
          refine xw_loc [(0, .ref 133), (1, .int (iI m)), (2, .int (iI n)), (3, .int (iI 40)), (4, .int (iI (q + 0))), (5, .int (iI (i + 1)))] (fun q9 hq9 => List.mem_append_left ([(6, .int (iI z2))] : List (Nat × Value)) hq9) ?_
          have hpr : ¬ yPr P m n i (yQ P m n i) := by rw [← eq2]; rcases hz4 with h | h; omega; exact h.2
          obtain ⟨e1, e2⟩ := ySe_n h0 hpr
          rw [show q + 0 = ySe P m n (i + 1) by rw [e1, ← eq2]; try omega]
          have g1 : ∀ a b, a ≠ 185 → (yup σ 185 i (-1)) a b = σ a b := fun a b z => yup_i z
          refine l_choose6 hL (yRg_up hr (by omega)) hm hn hP0 hP1 (fun a b c1 c2 c3 c4 => by rw [g1 _ _ (by unfold pr; omega)]; exact hPi a b c1 c2 c3 c4) (fun a b c1 c2 c3 c4 => by rw [g1 _ _ (by unfold co; omega)]; exact hCt a b c1 c2 c3 c4) (i + 1) (by omega) (by omega) (by rw [e1, ← eq2]; unfold yPr at hpr; omega) (fun p a1 a2 => ?_) (fun σ' c1 c2 c3 => hK σ' c1 c2 (fun a b z => (c3 a b z).trans (g1 a b z)))
          by_cases ep : p = i
          · subst ep; rw [yup_s, e2]
          · exact (yup_k ep).trans (hp p a1 (by omega))
        · exact absurd c6 (by omega)
      · refine xw_iload 4 dX0_choose_117 rfl ?_
        refine xw_goto (tgt := 123) dX0_choose_119 (by decide) ?_
        refine yz_iast dX0_choose_123 is_185 (by omega) (by decide) ?_
        refine xw_iload 4 dX0_choose_124 rfl ?_
        refine xw_iload 6 dX0_choose_126 rfl ?_
        refine xz_if_eq (tgt := 135) dX0_choose_128 (by decide) (by omega) (fun c7 => ?_) (fun c7 => ?_)
        · exact absurd c7 (by omega)
        · refine xz_iconst dX0_choose_131 ?_
          refine xw_goto (tgt := 136) dX0_choose_132 (by decide) ?_
          refine xz_iadd dX0_choose_136 ?_
          refine xw_istore (l2 := [(0, .ref 133), (1, .int (iI m)), (2, .int (iI n)), (3, .int (iI 40)), (4, .int (iI (q + 1))), (5, .int (iI i)), (6, .int (iI z2))]) dX0_choose_137 (by decide) rfl rfl ?_
          refine xz_iinc (l2 := [(0, .ref 133), (1, .int (iI m)), (2, .int (iI n)), (3, .int (iI 40)), (4, .int (iI (q + 1))), (5, .int (iI (i + 1))), (6, .int (iI z2))]) 5 dX0_choose_139 rfl (by decide) rfl rfl ?_
          refine xw_goto (tgt := 6) dX0_choose_142 (by decide) ?_
          refine xw_loc [(0, .ref 133), (1, .int (iI m)), (2, .int (iI n)), (3, .int (iI 40)), (4, .int (iI (q + 1))), (5, .int (iI (i + 1)))] (fun q9 hq9 => List.mem_append_left ([(6, .int (iI z2))] : List (Nat × Value)) hq9) ?_
          have hpr : yPr P m n i (yQ P m n i) := by rw [← eq2]; rcases hz4 with h | h; exact h.2; omega
          obtain ⟨e1, e2⟩ := ySe_p h0 hpr
          rw [show q + 1 = ySe P m n (i + 1) by rw [e1, ← eq2]; try omega]
          have g1 : ∀ a b, a ≠ 185 → (yup σ 185 i q) a b = σ a b := fun a b z => yup_i z
          refine l_choose6 hL (yRg_up hr (by omega)) hm hn hP0 hP1 (fun a b c1 c2 c3 c4 => by rw [g1 _ _ (by unfold pr; omega)]; exact hPi a b c1 c2 c3 c4) (fun a b c1 c2 c3 c4 => by rw [g1 _ _ (by unfold co; omega)]; exact hCt a b c1 c2 c3 c4) (i + 1) (by omega) (by omega) (by rw [e1, ← eq2]; unfold yPr at hpr; omega) (fun p a1 a2 => ?_) (fun σ' c1 c2 c3 => hK σ' c1 c2 (fun a b z => (c3 a b z).trans (g1 a b z)))
          by_cases ep : p = i
          · subst ep; rw [yup_s, e2, eq2]
          · exact (yup_k ep).trans (hp p a1 (by omega))
    · refine xz_icmp_ge (tgt := 103) dX0_choose_75 (by decide) (by omega) (by omega) (fun c8 => ?_) (fun c8 => ?_)
      · refine xz_iconst dX0_choose_103 ?_
        exact j3 _ (by unfold yPr; omega)
      · refine xw_aload_n 0 dX0_choose_78 rfl ?_
        refine yz_getr (fo_X0_16 rfl) dX0_choose_79 is_133 rfl ?_
        refine xw_iload 5 dX0_choose_82 rfl ?_
        refine yz_aald 4 dX0_choose_84 (by decide) rfl rfl is_159 (by omega) (by decide) (ks159_get (by omega)) ?_
        refine xw_iload 4 dX0_choose_85 rfl ?_
        have e9 : σ (co i) q = yC P m n i q := hCt _ _ (by omega) (by omega) (by omega) (by omega)
        have b10 := yC_bd (m := m) (n := n) hP0 i q (by omega) (by omega)
        refine yz_iald (v := yC P m n i q) dX0_choose_87 (is_co (by omega)) (by omega) (by decide) e9 ?_
        refine xw_aload_n 0 dX0_choose_88 rfl ?_
        refine xw_iload 5 dX0_choose_89 rfl ?_
        refine xw_iload 4 dX0_choose_91 rfl ?_
        have e11 : σ (co (i + 1)) (q + 1) = yC P m n (i + 1) (q + 1) := hCt _ _ (by omega) (by omega) (by omega) (by omega)
        have b12 := yC_bd (m := m) (n := n) hP0 (i + 1) (q + 1) (by omega) (by omega)
        have p13 : σ (pr i) q = P i q := hPi _ _ (by omega) (by omega) (by omega) (by omega)
        have p130 := hP0 i q
        have p131 := hP1 i q
        refine yc_V (M' := mX0_pairedCost) (d := 0) (c := 0) (s := 0) (As := [.int (iI i), .int (iI q)]) (st := [.int (iI (yC P m n i q))]) (v0 := some (.int (iI (P i q + yC P m n (i + 1) (q + 1))))) (G2 := Wd σ X) dX0_choose_93 okX0_pairedCost (Or.inl w_491) (xBig_i is_133.1) (Wd_get is_133) ⟨by decide, rfl⟩ rfl (Nat.le_of_ble_eq_true rfl) (by decide) (by decide) (Nat.zero_le _) (Nat.zero_le _) rfl rfl (by have q := s_pairedCost (O := O) (σ := σ) (X := X) hL hr (i := i) (j := q) (by omega) (by omega); rw [e11, p13] at q; exact q) ?_
        refine xz_icmp_ne (tgt := 103) dX0_choose_96 (by decide) (by omega) (by omega) (fun c14 => ?_) (fun c14 => ?_)
        · refine xz_iconst dX0_choose_103 ?_
          exact j3 _ (by unfold yPr; omega)
        · refine xz_iconst dX0_choose_99 ?_
          refine xw_goto (tgt := 104) dX0_choose_100 (by decide) ?_
          exact j3 _ (by unfold yPr; omega)
termination_by (m - i).toNat
theorem s_choose (hL : L.stackTraces = false) {P : Int → Int → Int} {m n : Int} (hr : yRg σ) (hm : 0 ≤ m ∧ m ≤ 24) (hn : 0 ≤ n ∧ n ≤ 24) (hP0 : ∀ i j, 0 ≤ P i j) (hP1 : ∀ i j, P i j ≤ 1000000) (hPi : yPi P σ m n) (hCt : yCt P σ m n 0) : xMet L O mX0_choose (xR 1 0 0) [.ref 133, .int (iI m), .int (iI n), .int (iI 40)] (Wd σ X) (fun o G1 => ∃ σ' : ySg, o = .inl none ∧ yRg σ' ∧ (∀ p, 0 ≤ p → p < m → σ' 185 p = yPt P m n p) ∧ (∀ a b, a ≠ 185 → σ' a b = σ a b) ∧ G1 = Wd σ' X) := xMet_of (by decide) hL (Nat.le_of_ble_eq_true rfl) (by
  refine xw_eq rfl (l2 := [(0, .ref 133), (1, .int (iI m)), (2, .int (iI n)), (3, .int (iI 40))]) rfl rfl rfl ?_
  refine xz_iconst dX0_choose_0 ?_
  refine xw_istore (l2 := [(0, .ref 133), (1, .int (iI m)), (2, .int (iI n)), (3, .int (iI 40)), (4, .int (iI 0))]) dX0_choose_1 (by decide) rfl rfl ?_
  refine xz_iconst dX0_choose_3 ?_
  refine xw_istore (l2 := [(0, .ref 133), (1, .int (iI m)), (2, .int (iI n)), (3, .int (iI 40)), (4, .int (iI 0)), (5, .int (iI 0))]) dX0_choose_4 (by decide) rfl rfl ?_
  exact l_choose6 hL hr hm hn hP0 hP1 hPi hCt 0 (by omega) (by omega) (by rw [ySe_0]; omega) (fun p a1 a2 => absurd a2 (by omega)) (fun σ' c1 c2 c3 => ⟨σ', rfl, c1, c2, c3, rfl⟩))
end Y23

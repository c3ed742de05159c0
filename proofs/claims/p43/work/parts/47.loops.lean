/-- the numbers while the first k cues come -/
def yB2 (σ : ySg) (k : Int) (S E Rg : Int → Int) : Prop := yRg σ ∧ σ 0 5 = k ∧ yTh σ k ∧ yCst σ ∧ (∀ i, 0 ≤ i → i < 24 → (0 ≤ σ (cu i) 1 ∧ σ (cu i) 1 ≤ 99999) ∧ (0 ≤ σ (cu i) 3 ∧ σ (cu i) 3 < 3) ∧ σ (cu i) 6 = 0) ∧ (∀ i j, 0 ≤ i → i < 24 → 0 ≤ j → j < 12 → 0 ≤ σ (cw i) j) ∧ (∀ i, 0 ≤ i → i < k → σ (cu i) 1 = S i ∧ σ (cu i) 2 = E i ∧ σ (cu i) 3 = Rg i ∧ 0 ≤ S i ∧ S i < E i ∧ E i ≤ 99999) ∧ σ 128 1 = 0 ∧ σ 0 6 = 0 ∧ σ 130 2 = 0 ∧ σ 186 2 = 0 ∧ σ 13 7 = 0 ∧ σ 1 4 = 0
theorem yB2.b3 {σ : ySg} {N : Int} {S E Rg C : Int → Int} (h : yB2 σ N S E Rg) (hN : 1 ≤ N ∧ N ≤ 8) : yB3 σ N S E Rg 0 C := by
  obtain ⟨h1, h2, h3, h5, h6, h7, h8, h9, h10, h11, h12, h13, h14⟩ := h
  exact ⟨h1, h2, h3, hN, h5, h6, h7, h8, ⟨by omega, h9, fun i a b => absurd b (by omega)⟩, Or.inl h10, h11, h12, h13, h14⟩
def yWdC (σ : ySg) (a b c : Int) : ySg := yup (yup (yup (yup (yup (yup σ (cu (σ 0 5)) 0 1) (cu (σ 0 5)) 1 a) (cu (σ 0 5)) 2 b) (cu (σ 0 5)) 3 c) 0 5 (σ 0 5 + 1)) 0 6 0
theorem yB2.add {σ : ySg} {k a b c : Int} {S E Rg S' E' R' : Int → Int} (h : yB2 σ k S E Rg) (hk : 0 ≤ k ∧ k < 8) (ha : 0 ≤ a ∧ a < b ∧ b ≤ 99999) (hc : 0 ≤ c ∧ c < 3) (hin : ∀ i, i ≠ k → S' i = S i ∧ E' i = E i ∧ R' i = Rg i) (hkk : S' k = a ∧ E' k = b ∧ R' k = c) : yB2 (yWdC σ a b c) (k + 1) S' E' R' := by
  obtain ⟨h1, h2, h3, h5, h6, h7, h8, h9, h10, h11, h12, h13, h14⟩ := h
  have hr : yRg (yWdC σ a b c) := yRg_up (yRg_up (yRg_up (yRg_up (yRg_up (yRg_up h1 (by decide)) (by omega)) (by omega)) (by omega)) (by omega)) (by decide)
  have g : ∀ x y, ¬ (x = cu k ∧ (0 ≤ y ∧ y ≤ 3)) → ¬ (x = 0 ∧ (y = 5 ∨ y = 6)) → yWdC σ a b c x y = σ x y := fun x y a1 a2 => by
    unfold yWdC
    rw [h2, yup_n (fun z => a2 ⟨z.1, by omega⟩), yup_n (fun z => a2 ⟨z.1, by omega⟩), yup_n (fun z => a1 ⟨z.1, by omega⟩), yup_n (fun z => a1 ⟨z.1, by omega⟩), yup_n (fun z => a1 ⟨z.1, by omega⟩), yup_n (fun z => a1 ⟨z.1, by omega⟩)]
  have g0 : yWdC σ a b c (cu k) 0 = 1 := by unfold yWdC; rw [h2, yup_i (by unfold cu; omega), yup_i (by unfold cu; omega), yup_k (by decide), yup_k (by decide), yup_k (by decide), yup_s]
  have g1 : yWdC σ a b c (cu k) 1 = a := by unfold yWdC; rw [h2, yup_i (by unfold cu; omega), yup_i (by unfold cu; omega), yup_k (by decide), yup_k (by decide), yup_s]
  have g2 : yWdC σ a b c (cu k) 2 = b := by unfold yWdC; rw [h2, yup_i (by unfold cu; omega), yup_i (by unfold cu; omega), yup_k (by decide), yup_s]
  have g3 : yWdC σ a b c (cu k) 3 = c := by unfold yWdC; rw [h2, yup_i (by unfold cu; omega), yup_i (by unfold cu; omega), yup_s]
  have gc : ∀ i y : Int, 0 ≤ i → i < 24 → i ≠ k → yWdC σ a b c (cu i) y = σ (cu i) y := fun i y p q e => g _ _ (fun z => e ((cu_inj p hk.1).mp z.1)) (by unfold cu; omega)
  have go : ∀ (x : Nat) (y : Int), (128 ≤ x ∨ (1 ≤ x ∧ x < 32)) → yWdC σ a b c x y = σ x y := fun x y q => g _ _ (by unfold cu; omega) (by omega)
  refine ⟨hr, ?_, fun i p q => ?_, fun r p q => ?_, fun i p q => ?_, fun i j p q r s => ?_, fun i p q => ?_, by rw [go 128 1 (by omega)]; exact h9, ?_, by rw [go 130 2 (by omega)]; exact h11, by rw [go 186 2 (by omega)]; exact h12, by rw [go 13 7 (by omega)]; exact h13, by rw [go 1 4 (by omega)]; exact h14⟩
  · unfold yWdC; rw [yup_k (by decide), yup_s, h2]
  · by_cases e : i = k
    · rw [e, g0]; omega
    · rw [gc i 0 p q e]
      have := h3 i p q
      omega
  · rw [go 22 r (by omega), go 23 r (by omega), go 24 r (by omega)]; exact h5 r p q
  · by_cases e : i = k
    · rw [e, g1, g3, g (cu k) 6 (by omega) (by unfold cu; omega)]
      have := h6 k (by omega) (by omega)
      omega
    · rw [gc i 1 p q e, gc i 3 p q e, gc i 6 p q e]; exact h6 i p q
  · rw [g (cw i) j (by unfold cu cw; omega) (by unfold cw; omega)]; exact h7 i j p q r s
  · by_cases e : i = k
    · rw [e, g1, g2, g3]; omega
    · rw [gc i 1 p (by omega) e, gc i 2 p (by omega) e, gc i 3 p (by omega) e, (hin i e).1, (hin i e).2.1, (hin i e).2.2]; exact h8 i p (by omega)
  · unfold yWdC; rw [yup_s]
def yWdK (σ : ySg) (x : Int) : ySg := yup (yup σ 129 (σ 128 1) x) 128 1 (σ 128 1 + 1)
theorem yB3.cut {σ : ySg} {N cm x : Int} {S E Rg C : Int → Int} (h : yB3 σ N S E Rg cm C) (h06 : σ 0 6 = 0) (hcm : cm < 8) (hx : 0 ≤ x ∧ x ≤ 99999) : yB3 (yWdK σ x) N S E Rg (cm + 1) (fup C cm x) ∧ yWdK σ x 0 6 = 0 := by
  obtain ⟨h1, h2, h3, h4, h5, h6, h7, h8, ⟨h9, h10, h11⟩, h12, h13, h14, h15, h16⟩ := h
  have g : ∀ a b, ¬ (a = 128 ∨ a = 129) → yWdK σ x a b = σ a b := fun a b q => by unfold yWdK; rw [yup_i (by omega), yup_i (by omega)]
  have gc : ∀ k y : Int, 0 ≤ k → k < 24 → yWdK σ x (cu k) y = σ (cu k) y := fun k y a b => g _ _ (by unfold cu; omega)
  have e6 : yWdK σ x 0 6 = 0 := (g 0 6 (by omega)).trans h06
  refine ⟨⟨yRg_up (yRg_up h1 (by omega)) (by omega), (g 0 5 (by omega)).trans h2, h3.cong (fun k a b => gc k 0 a b), h4, fun r a b => ?_, fun k a b => ?_, fun k j a b c d => ?_, fun k a b => ?_, ⟨by omega, ?_, fun i a b => ?_⟩, Or.inl e6, (g 130 2 (by omega)).trans h13, (g 186 2 (by omega)).trans h14, (g 13 7 (by omega)).trans h15, (g 1 4 (by omega)).trans h16⟩, e6⟩
  · rw [g 22 r (by omega), g 23 r (by omega), g 24 r (by omega)]; exact h5 r a b
  · rw [gc k 1 a b, gc k 3 a b, gc k 6 a b]; exact h6 k a b
  · rw [g (cw k) j (by unfold cw; omega)]; exact h7 k j a b c d
  · rw [gc k 1 a (by omega), gc k 2 a (by omega), gc k 3 a (by omega)]; exact h8 k a b
  · unfold yWdK; rw [yup_s, h10]
  · by_cases e : i = cm
    · rw [e, fup_s]
      unfold yWdK
      rw [yup_i (by decide), h10, yup_s]
      exact ⟨rfl, hx⟩
    · rw [fup_n e]
      unfold yWdK
      rw [yup_i (by decide), h10, yup_k e]
      exact h11 i a (by omega)
/-- x is among the first k -/
def yCk (C : Int → Int) (x k y : Int) : Prop := (y = 1 ∧ ∃ i, (0 ≤ i ∧ i < k) ∧ C i = x) ∨ (y = 0 ∧ ∀ i, 0 ≤ i → i < k → ¬ C i = x)
theorem yCk.r {C : Int → Int} {x k y : Int} (h : yCk C x k y) : 0 ≤ y ∧ y ≤ 1 := by rcases h with ⟨h, _⟩ | ⟨h, _⟩ <;> omega
theorem yCk.old {C : Int → Int} {x k y : Int} (h : yCk C x k y) (hy : ¬ y = 0) : yCk C x (k + 1) 1 := by
  rcases h with ⟨h1, i, h2, h3⟩ | ⟨h1, _⟩
  · exact Or.inl ⟨rfl, i, by omega, h3⟩
  · omega
theorem yCk.new {C : Int → Int} {x k : Int} (hk : 0 ≤ k) (hx : C k = x) : yCk C x (k + 1) 1 := Or.inl ⟨rfl, k, by omega, hx⟩
theorem yCk.no {C : Int → Int} {x k y : Int} (h : yCk C x k y) (hy : y = 0) (hx : ¬ C k = x) : yCk C x (k + 1) 0 := by
  rcases h with ⟨h1, _⟩ | ⟨_, h2⟩
  · omega
  · exact Or.inr ⟨rfl, fun i a b => by by_cases e : i = k; (rw [e]; exact hx); exact h2 i a (by omega)⟩
section Y47
variable {L : Launch} {O : xWd}
theorem L_steps (hL : L.stackTraces = false) {σ : ySg} (hLb : O.2.2.2.2.1 < 2147483648) {N cm : Int} {aS aE aR aC : Nat} {S E Rg C : Int → Int} (j : Int) (h0 : 0 ≤ j) (h1 : j ≤ 4) {X : List xOb} (hA : yHs ((aC, iaL 20 C) :: (aR, iaL 24 Rg) :: (aE, iaL 24 E) :: (aS, iaL 24 S) :: []) X) {c : Nat} (hXl : X.length ≤ c) (hc : (c : Int) ≤ 20000 + 100 * j) (hB : yB3 σ N S E Rg cm C) : xWP L O mL_law (xR 13 828823 6605674) yKL 712 [(0, .ref xBig), (1, .ref 0), (2, .int (iI N)), (3, .ref aS), (4, .ref aE), (5, .ref aR), (6, .ref aC), (7, .int (iI cm)), (8, .int (iI j))] [] (Wd σ X) c (6000 + 24 * c) := by
  refine xw_iload 8 dL_law_712 rfl ?_
  refine xz_iconst dL_law_714 ?_
  refine xz_icmp_ge (tgt := 1914) dL_law_715 (by decide) (by omega) (by omega) (fun c1 => ?_) (fun c1 => ?_)
  · refine xw_loc [(0, .ref xBig), (1, .ref 0), (2, .int (iI N)), (3, .ref aS), (4, .ref aE), (5, .ref aR)] (fun q9 hq9 => by simp only [List.mem_cons, List.not_mem_nil, or_false] at hq9 ⊢; rcases hq9 with h | h | h | h | h | h <;> subst h <;> simp) ?_
    refine xw_wid (c2 := c) (n2 := 6000 + 24 * (c)) (by omega) (by omega) ?_
    exact L_ws hL hLb (hA.sub [1, 2, 3] rfl (by decide)) (c := c) hXl (by omega) hB.b4.1 hB.b4.2
  · have hK : yK7 L O aS aE aR aC N cm Rg (j + 1) := fun σ S E C X c h1 h2 h3 h4 => L_steps hL hLb (j + 1) (by omega) (by omega) h1 h2 h3 h4
    refine xw_aload_n 0 dL_law_718 rfl ?_
    refine xz_bipush dL_law_719 (by decide) ?_
    refine xw_iload 8 dL_law_721 rfl ?_
    refine xz_iadd dL_law_723 ?_
    refine yc_SE (M' := mL_at) (d := 0) (c := 0) (s := 0) (As := [.ref xBig, .int (iI (30 + j))]) (st := []) dL_law_724 okL_at (Or.inl w_709) rfl (Nat.le_of_ble_eq_true rfl) (by decide) (by decide) (by omega) (by omega) (s_at hL hLb (by omega)) (fun w9 G9 h9 => ?_) (fun E9 G9 h9 => by obtain ⟨_, h, _⟩ := h9; cases h)
    obtain ⟨x2, e9, rfl⟩ := h9
    cases e9
    refine xz_ldc (z := 1000000) dL_law_727 w_1172 (by decide) ?_
    refine yc_SE (M' := mL_some) (d := 0) (c := 0) (s := 0) (As := [.int x2, .int (iI 1000000)]) (st := []) dL_law_729 okL_some (Or.inl w_712) rfl (Nat.le_of_ble_eq_true rfl) (by decide) (by decide) (by omega) (by omega) (s_some hL (by omega)) (fun w9 G9 h9 => ?_) (fun E9 G9 h9 => by obtain ⟨_, h, _⟩ := h9; cases h)
    obtain ⟨z3, e9, hz3, rfl⟩ := h9
    cases e9
    refine xw_istore (l2 := [(0, .ref xBig), (1, .ref 0), (2, .int (iI N)), (3, .ref aS), (4, .ref aE), (5, .ref aR), (6, .ref aC), (7, .int (iI cm)), (8, .int (iI j)), (9, .int (iI z3))]) dL_law_732 (by decide) rfl rfl ?_
    refine xz_iconst dL_law_734 ?_
    refine xw_istore (l2 := [(0, .ref xBig), (1, .ref 0), (2, .int (iI N)), (3, .ref aS), (4, .ref aE), (5, .ref aR), (6, .ref aC), (7, .int (iI cm)), (8, .int (iI j)), (9, .int (iI z3)), (10, .int (iI 0))]) dL_law_735 (by decide) rfl rfl ?_
    refine xw_aload_n 3 dL_law_737 rfl ?_
    refine yh_clone 3 (m2 := c + 1) rfl rfl hA rfl hXl (by omega) (by omega) dL_law_738 (Nat.le_of_ble_eq_true rfl) (by omega) (by omega) (fun X aP hA hXl => ?_)
    refine yh_cast 0 hA rfl dL_law_741 w_1173 ?_
    refine xw_astore (l2 := [(0, .ref xBig), (1, .ref 0), (2, .int (iI N)), (3, .ref aS), (4, .ref aE), (5, .ref aR), (6, .ref aC), (7, .int (iI cm)), (8, .int (iI j)), (9, .int (iI z3)), (10, .int (iI 0)), (12, .ref aP)]) dL_law_744 (by decide) rfl rfl ?_
    refine xw_aload 4 dL_law_746 rfl ?_
    refine yh_clone 3 (m2 := c + 2) rfl rfl hA rfl hXl (by omega) (by omega) dL_law_748 (Nat.le_of_ble_eq_true rfl) (by omega) (by omega) (fun X aQ hA hXl => ?_)
    refine yh_cast 0 hA rfl dL_law_751 w_1173 ?_
    refine xw_astore (l2 := [(0, .ref xBig), (1, .ref 0), (2, .int (iI N)), (3, .ref aS), (4, .ref aE), (5, .ref aR), (6, .ref aC), (7, .int (iI cm)), (8, .int (iI j)), (9, .int (iI z3)), (10, .int (iI 0)), (12, .ref aP), (13, .ref aQ)]) dL_law_754 (by decide) rfl rfl ?_
    refine xw_iload 9 dL_law_756 rfl ?_
    refine xz_iconst dL_law_758 ?_
    refine xz_irem dL_law_759 (by omega) (by decide) ?_
    refine xz_if_ne (tgt := 890) dL_law_760 (by decide) (by omega) (fun c4 => ?_) (fun c4 => ?_)
    · refine xw_iload 9 dL_law_890 rfl ?_
      refine xz_iconst dL_law_892 ?_
      refine xz_irem dL_law_893 (by omega) (by decide) ?_
      refine xz_iconst dL_law_894 ?_
      refine xz_icmp_ne (tgt := 1119) dL_law_895 (by decide) (by omega) (by omega) (fun c5 => ?_) (fun c5 => ?_)
      · refine xw_iload 9 dL_law_1119 rfl ?_
        refine xz_iconst dL_law_1121 ?_
        refine xz_irem dL_law_1122 (by omega) (by decide) ?_
        refine xz_iconst dL_law_1123 ?_
        refine xz_icmp_ne (tgt := 1413) dL_law_1124 (by decide) (by omega) (by omega) (fun c6 => ?_) (fun c6 => ?_)
        · refine xw_wid (c2 := c + 2) (n2 := 6000 + 24 * (c + 2)) (by omega) (by omega) ?_
          exact L_dr hL j ⟨h0, by omega⟩ hz3 hK hA (c := c + 2) hXl (by omega) hB
        · refine xw_wid (c2 := c + 2) (n2 := 6000 + 24 * (c + 2)) (by omega) (by omega) ?_
          exact L_cv hL j ⟨h0, by omega⟩ hz3 hK hA (c := c + 2) hXl (by omega) hB
      · refine xw_wid (c2 := c + 2) (n2 := 6000 + 24 * (c + 2)) (by omega) (by omega) ?_
        exact L_str hL j ⟨h0, by omega⟩ hz3 hK hA (c := c + 2) hXl (by omega) hB
    · refine xw_wid (c2 := c + 2) (n2 := 6000 + 24 * (c + 2)) (by omega) (by omega) ?_
      exact L_snap hL j ⟨h0, by omega⟩ hz3 hK hA (c := c + 2) hXl (by omega) hB
termination_by (4 - j).toNat
theorem L_cutI (hL : L.stackTraces = false) {σ : ySg} {N cm i x y : Int} {aS aE aR aC : Nat} {S E Rg C : Int → Int} (k : Int) (h0 : 0 ≤ k) (h1 : k ≤ cm) {X : List xOb} (hA : yHs ((aC, iaL 20 C) :: (aR, iaL 24 Rg) :: (aE, iaL 24 E) :: (aS, iaL 24 S) :: []) X) {c : Nat} (hXl : X.length ≤ c) (hc : c ≤ 30000) (hcm : cm ≤ 8) (hx : 0 ≤ x ∧ x < 1000) (hC : ∀ i, 0 ≤ i → i < cm → 0 ≤ C i ∧ C i ≤ 99999) (hy : yCk C x k y) (hKi : ∀ y, yCk C x cm y → xWP L O mL_law (xR 13 828823 6605674) yKL 654 [(0, .ref xBig), (1, .ref 0), (2, .int (iI N)), (3, .ref aS), (4, .ref aE), (5, .ref aR), (6, .ref aC), (7, .int (iI cm)), (8, .int (iI i)), (9, .int (iI x)), (10, .int (iI y))] [] (Wd σ X) c (6000 + 24 * c)) : xWP L O mL_law (xR 13 828823 6605674) yKL 619 [(0, .ref xBig), (1, .ref 0), (2, .int (iI N)), (3, .ref aS), (4, .ref aE), (5, .ref aR), (6, .ref aC), (7, .int (iI cm)), (8, .int (iI i)), (9, .int (iI x)), (10, .int (iI y)), (11, .int (iI k))] [] (Wd σ X) c (6000 + 24 * c) := by
  have hyr := hy.r
  refine xw_iload 11 dL_law_619 rfl ?_
  refine xw_iload 7 dL_law_621 rfl ?_
  refine xz_icmp_ge (tgt := 654) dL_law_623 (by decide) (by omega) (by omega) (fun c1 => ?_) (fun c1 => ?_)
  · refine xw_loc [(0, .ref xBig), (1, .ref 0), (2, .int (iI N)), (3, .ref aS), (4, .ref aE), (5, .ref aR), (6, .ref aC), (7, .int (iI cm)), (8, .int (iI i)), (9, .int (iI x)), (10, .int (iI y))] (fun q9 hq9 => by simp only [List.mem_cons, List.not_mem_nil, or_false] at hq9 ⊢; rcases hq9 with h | h | h | h | h | h | h | h | h | h | h <;> subst h <;> simp) ?_
    exact hKi y (by rw [show k = cm by omega] at hy; exact hy)
  · have hCk := hC k h0 (by omega)
    refine xw_iload 10 dL_law_626 rfl ?_
    refine xw_join (J := 646) (c1 := c) (n1 := 6000 + 24 * c) (P := fun u2 => yCk C x (k + 1) u2) (ls' := fun _ => [(0, .ref xBig), (1, .ref 0), (2, .int (iI N)), (3, .ref aS), (4, .ref aE), (5, .ref aR), (6, .ref aC), (7, .int (iI cm)), (8, .int (iI i)), (9, .int (iI x)), (10, .int (iI y)), (11, .int (iI k))]) (st' := fun u2 => [.int (iI u2)]) (G' := fun _ => Wd σ X) (fun u2 hz4 => ?_) (fun j3 => ?_)
    · refine xw_istore (l2 := [(0, .ref xBig), (1, .ref 0), (2, .int (iI N)), (3, .ref aS), (4, .ref aE), (5, .ref aR), (6, .ref aC), (7, .int (iI cm)), (8, .int (iI i)), (9, .int (iI x)), (10, .int (iI u2)), (11, .int (iI k))]) dL_law_646 (by decide) rfl rfl ?_
      refine xz_iinc (l2 := [(0, .ref xBig), (1, .ref 0), (2, .int (iI N)), (3, .ref aS), (4, .ref aE), (5, .ref aR), (6, .ref aC), (7, .int (iI cm)), (8, .int (iI i)), (9, .int (iI x)), (10, .int (iI u2)), (11, .int (iI (k + 1)))]) 11 dL_law_648 rfl (by decide) rfl rfl ?_
      refine xw_goto (tgt := 619) dL_law_651 (by decide) ?_
      exact L_cutI hL (k + 1) (by omega) (by omega) hA hXl hc hcm hx hC hz4 hKi
    · refine xz_if_ne (tgt := 641) dL_law_628 (by decide) (by omega) (fun c5 => ?_) (fun c5 => ?_)
      · refine xz_iconst dL_law_641 ?_
        refine xw_goto (tgt := 646) dL_law_642 (by decide) ?_
        exact j3 _ (by first | exact hy.old (by omega) | exact yCk.new h0 (by omega) | exact hy.no (by omega) (by omega))
      · refine xw_aload 6 dL_law_631 rfl ?_
        refine xw_iload 11 dL_law_633 rfl ?_
        refine yh_aldF 0 hA rfl dL_law_635 (by omega) (by decide) ?_
        refine xw_iload 9 dL_law_636 rfl ?_
        refine xz_icmp_ne (tgt := 645) dL_law_638 (by decide) (by omega) (by omega) (fun c6 => ?_) (fun c6 => ?_)
        · refine xz_iconst dL_law_645 ?_
          exact j3 _ (by first | exact hy.old (by omega) | exact yCk.new h0 (by omega) | exact hy.no (by omega) (by omega))
        · refine xz_iconst dL_law_641 ?_
          refine xw_goto (tgt := 646) dL_law_642 (by decide) ?_
          exact j3 _ (by first | exact hy.old (by omega) | exact yCk.new h0 (by omega) | exact hy.no (by omega) (by omega))
termination_by (cm - k).toNat
theorem L_cuts (hL : L.stackTraces = false) {σ : ySg} (hLb : O.2.2.2.2.1 < 2147483648) {N cm : Int} {aS aE aR aC : Nat} {S E Rg C : Int → Int} (i : Int) (h0 : 0 ≤ i) (h1 : i ≤ 8) {X : List xOb} (hA : yHs ((aC, iaL 20 C) :: (aR, iaL 24 Rg) :: (aE, iaL 24 E) :: (aS, iaL 24 S) :: []) X) {c : Nat} (hXl : X.length ≤ c) (hc : (c : Int) ≤ 19000 + 10 * i) (hB : yB3 σ N S E Rg cm C) (h06 : σ 0 6 = 0) (hci : cm ≤ i) : xWP L O mL_law (xR 13 828823 6605674) yKL 589 [(0, .ref xBig), (1, .ref 0), (2, .int (iI N)), (3, .ref aS), (4, .ref aE), (5, .ref aR), (6, .ref aC), (7, .int (iI cm)), (8, .int (iI i))] [] (Wd σ X) c (6000 + 24 * c) := by
  obtain ⟨hr, d2, d3, d4, d5, d6, d7, d8, ⟨d9, d10, d11⟩, d12, d13, d14, d15, d16⟩ := id hB
  refine xw_iload 8 dL_law_589 rfl ?_
  refine xz_bipush dL_law_591 (by decide) ?_
  refine xz_icmp_ge (tgt := 709) dL_law_593 (by decide) (by omega) (by omega) (fun c1 => ?_) (fun c1 => ?_)
  · refine xz_iconst dL_law_709 ?_
    refine xw_istore (l2 := [(0, .ref xBig), (1, .ref 0), (2, .int (iI N)), (3, .ref aS), (4, .ref aE), (5, .ref aR), (6, .ref aC), (7, .int (iI cm)), (8, .int (iI 0))]) dL_law_710 (by decide) rfl rfl ?_
    refine xw_wid (c2 := c) (n2 := 6000 + 24 * (c)) (by omega) (by omega) ?_
    exact L_steps hL hLb 0 (by omega) (by omega) hA (c := c) hXl (by omega) hB
  · refine xw_aload_n 0 dL_law_596 rfl ?_
    refine xz_bipush dL_law_597 (by decide) ?_
    refine xw_iload 8 dL_law_599 rfl ?_
    refine xz_iadd dL_law_601 ?_
    refine yc_SE (M' := mL_at) (d := 0) (c := 0) (s := 0) (As := [.ref xBig, .int (iI (20 + i))]) (st := []) dL_law_602 okL_at (Or.inl w_709) rfl (Nat.le_of_ble_eq_true rfl) (by decide) (by decide) (by omega) (by omega) (s_at hL hLb (by omega)) (fun w9 G9 h9 => ?_) (fun E9 G9 h9 => by obtain ⟨_, h, _⟩ := h9; cases h)
    obtain ⟨x2, e9, rfl⟩ := h9
    cases e9
    refine xz_sipush dL_law_605 (by decide) ?_
    refine yc_SE (M' := mL_some) (d := 0) (c := 0) (s := 0) (As := [.int x2, .int (iI 1000)]) (st := []) dL_law_608 okL_some (Or.inl w_712) rfl (Nat.le_of_ble_eq_true rfl) (by decide) (by decide) (by omega) (by omega) (s_some hL (by omega)) (fun w9 G9 h9 => ?_) (fun E9 G9 h9 => by obtain ⟨_, h, _⟩ := h9; cases h)
    obtain ⟨z3, e9, hz3, rfl⟩ := h9
    cases e9
    refine xw_istore (l2 := [(0, .ref xBig), (1, .ref 0), (2, .int (iI N)), (3, .ref aS), (4, .ref aE), (5, .ref aR), (6, .ref aC), (7, .int (iI cm)), (8, .int (iI i)), (9, .int (iI z3))]) dL_law_611 (by decide) rfl rfl ?_
    refine xz_iconst dL_law_613 ?_
    refine xw_istore (l2 := [(0, .ref xBig), (1, .ref 0), (2, .int (iI N)), (3, .ref aS), (4, .ref aE), (5, .ref aR), (6, .ref aC), (7, .int (iI cm)), (8, .int (iI i)), (9, .int (iI z3)), (10, .int (iI 0))]) dL_law_614 (by decide) rfl rfl ?_
    refine xz_iconst dL_law_616 ?_
    refine xw_istore (l2 := [(0, .ref xBig), (1, .ref 0), (2, .int (iI N)), (3, .ref aS), (4, .ref aE), (5, .ref aR), (6, .ref aC), (7, .int (iI cm)), (8, .int (iI i)), (9, .int (iI z3)), (10, .int (iI 0)), (11, .int (iI 0))]) dL_law_617 (by decide) rfl rfl ?_
    refine L_cutI hL 0 (by omega) d9.1 hA hXl (by omega) d9.2 hz3 (fun i a b => (d11 i a b).2) (Or.inr ⟨rfl, fun i a b => absurd b (by omega)⟩) (fun y hy => ?_)
    refine xw_aload_n 1 dL_law_654 rfl ?_
    refine xz_bipush dL_law_655 (by decide) ?_
    refine xz_iconst dL_law_657 ?_
    refine yv_new (N := 1) (L := [.int (iI 0)]) hXl (by omega) dL_law_658 rfl (by decide) rfl (by omega) (by omega) ?_
    refine xw_dup dL_law_660 rfl ?_
    refine xz_iconst dL_law_661 ?_
    refine xw_iload 9 dL_law_662 rfl ?_
    refine yv_put (k := 0) (L2 := [.int (iI z3)]) dL_law_664 rfl (by show _ < 1; decide) (by show 1 ≤ _; decide) rfl ?_
    rcases hy with ⟨hy1, i9, hi9, hx9⟩ | ⟨hy0, hno⟩
    · refine yc_S (M' := mL_ask) (d := 8) (c := 1) (s := 24) (As := [.ref 0, .int (iI 67), .ref (193 + X.length)]) (st := []) (v0 := some (.int (iI (-1003)))) (G2 := Wd σ ((X ++ [(64, [.int (iI z3)])]) ++ [(127, [])])) dL_law_665 okL_ask (Or.inl w_715) rfl (Nat.le_of_ble_eq_true rfl) (by decide) (by decide) (by omega) (by omega) rfl rfl (a_addCut (d := 2) (c := 1) (s := 6) hL (by decide) (by decide) (by decide) (by omega) yv_last (t_addCut hL (yv_len hXl (by omega)) hr (by omega) (fun i a b => by have := d11 i a (by omega); omega) (by omega) ⟨i9, hi9.1, by omega, (d11 i9 hi9.1 hi9.2).1.trans hx9⟩) (fun w9 G9 h => by cases h.1) (fun E9 G9 h => Or.inr (Or.inl ⟨Sum.inr.inj h.1, rfl, h.2⟩))) ?_
      refine yl_g (m2 := c + 2) (Y := [(64, [.int (iI z3)]), (127, [])]) hA hXl (by simp only [List.append_assoc, List.cons_append, List.nil_append]) (by show _ + 2 ≤ _; omega) (fun X hA hXl => ?_)
      refine xw_eq (pc2 := 668) rfl rfl rfl rfl (xw_wid (c2 := c + 2) (n2 := 6000 + 24 * c + 25) (by omega) (by omega) ?_)
      refine xw_iload 10 dL_law_668 rfl ?_
      refine xz_if_eq (tgt := 679) dL_law_670 (by decide) (by omega) (fun c4 => ?_) (fun c4 => ?_)
      · exact absurd c4 (by omega)
      · refine xz_sipush dL_law_673 (by omega) ?_
        refine xw_goto (tgt := 683) dL_law_676 (by decide) ?_
        refine xz_icmp_eq (tgt := 688) dL_law_683 (by decide) (by omega) (by omega) (fun c5 => ?_) (fun c5 => ?_)
        · refine xw_iload 10 dL_law_688 rfl ?_
          refine xz_if_ne (tgt := 703) dL_law_690 (by decide) (by omega) (fun c6 => ?_) (fun c6 => ?_)
          · refine xz_iinc (l2 := [(0, .ref xBig), (1, .ref 0), (2, .int (iI N)), (3, .ref aS), (4, .ref aE), (5, .ref aR), (6, .ref aC), (7, .int (iI cm)), (8, .int (iI (i + 1))), (9, .int (iI z3)), (10, .int (iI y))]) 8 dL_law_703 rfl (by decide) rfl rfl ?_
            refine xw_goto (tgt := 589) dL_law_706 (by decide) ?_
            refine xw_loc [(0, .ref xBig), (1, .ref 0), (2, .int (iI N)), (3, .ref aS), (4, .ref aE), (5, .ref aR), (6, .ref aC), (7, .int (iI cm)), (8, .int (iI (i + 1)))] (fun q9 hq9 => by simp only [List.mem_cons, List.not_mem_nil, or_false] at hq9 ⊢; rcases hq9 with h | h | h | h | h | h | h | h | h <;> subst h <;> simp) ?_
            refine xw_wid (c2 := c + 2) (n2 := 6000 + 24 * (c + 2)) (by omega) (by omega) ?_
            exact L_cuts hL hLb (i + 1) (by omega) (by omega) hA (c := c + 2) hXl (by omega) hB h06 (by omega)
          · exact absurd c6 (by omega)
        · exact absurd (by omega) c5
    · refine yc_S (M' := mL_ask) (d := 8) (c := 1) (s := 24) (As := [.ref 0, .int (iI 67), .ref (193 + X.length)]) (st := []) (v0 := some (.int (iI (σ 128 1 + 1)))) (G2 := Wd (yup (yup σ 129 (σ 128 1) z3) 128 1 (σ 128 1 + 1)) (X ++ [(64, [.int (iI z3)])])) dL_law_665 okL_ask (Or.inl w_715) rfl (Nat.le_of_ble_eq_true rfl) (by decide) (by decide) (by omega) (by omega) rfl rfl (a_addCut (d := 2) (c := 0) (s := 0) hL (by decide) (by decide) (by decide) (by omega) yv_last (s_addCut hL hr (by omega) (fun i a b => by have := d11 i a (by omega); omega) (by omega) (by omega) (fun i a b => by rw [(d11 i a (by omega)).1]; exact hno i a (by omega))) (fun w9 G9 h => ⟨_, Sum.inl.inj h.1, rfl, h.2⟩) (fun E9 G9 h => by cases h.1)) ?_
      refine yl_g (m2 := c + 2) (Y := [(64, [.int (iI z3)])]) hA hXl (by simp only [List.append_assoc, List.cons_append, List.nil_append]) (by show _ + 1 ≤ _; omega) (fun X hA hXl => ?_)
      refine xw_eq (pc2 := 668) rfl rfl rfl rfl (xw_wid (c2 := c + 2) (n2 := 6000 + 24 * c + 25) (by omega) (by omega) ?_)
      refine xw_iload 10 dL_law_668 rfl ?_
      refine xz_if_eq (tgt := 679) dL_law_670 (by decide) (by omega) (fun c7 => ?_) (fun c7 => ?_)
      · refine xw_iload 7 dL_law_679 rfl ?_
        refine xz_iconst dL_law_681 ?_
        refine xz_iadd dL_law_682 ?_
        refine xz_icmp_eq (tgt := 688) dL_law_683 (by decide) (by omega) (by omega) (fun c8 => ?_) (fun c8 => ?_)
        · refine xw_iload 10 dL_law_688 rfl ?_
          refine xz_if_ne (tgt := 703) dL_law_690 (by decide) (by omega) (fun c9 => ?_) (fun c9 => ?_)
          · exact absurd hy0 c9
          · refine xw_aload 6 dL_law_693 rfl ?_
            refine xw_iload 7 dL_law_695 rfl ?_
            refine xw_iload 9 dL_law_697 rfl ?_
            refine yh_astF 0 (A2 := ((aC, iaL 20 (fup C cm z3)) :: (aR, iaL 24 Rg) :: (aE, iaL 24 E) :: (aS, iaL 24 S) :: [])) hA rfl dL_law_699 (by omega) (by decide) rfl hXl (fun X hA hXl => ?_)
            refine xz_iinc (l2 := [(0, .ref xBig), (1, .ref 0), (2, .int (iI N)), (3, .ref aS), (4, .ref aE), (5, .ref aR), (6, .ref aC), (7, .int (iI (cm + 1))), (8, .int (iI i)), (9, .int (iI z3)), (10, .int (iI y))]) 7 dL_law_700 rfl (by decide) rfl rfl ?_
            refine xz_iinc (l2 := [(0, .ref xBig), (1, .ref 0), (2, .int (iI N)), (3, .ref aS), (4, .ref aE), (5, .ref aR), (6, .ref aC), (7, .int (iI (cm + 1))), (8, .int (iI (i + 1))), (9, .int (iI z3)), (10, .int (iI y))]) 8 dL_law_703 rfl (by decide) rfl rfl ?_
            refine xw_goto (tgt := 589) dL_law_706 (by decide) ?_
            refine xw_loc [(0, .ref xBig), (1, .ref 0), (2, .int (iI N)), (3, .ref aS), (4, .ref aE), (5, .ref aR), (6, .ref aC), (7, .int (iI (cm + 1))), (8, .int (iI (i + 1)))] (fun q9 hq9 => by simp only [List.mem_cons, List.not_mem_nil, or_false] at hq9 ⊢; rcases hq9 with h | h | h | h | h | h | h | h | h <;> subst h <;> simp) ?_
            refine xw_wid (c2 := c + 2) (n2 := 6000 + 24 * (c + 2)) (by omega) (by omega) ?_
            exact L_cuts hL (σ := yWdK σ z3) hLb (i + 1) (by omega) (by omega) hA (c := c + 2) hXl (by omega) (hB.cut h06 (by omega) (by omega)).1 (hB.cut h06 (by omega) (by omega)).2 (by omega)
        · exact absurd (by omega) c8
      · exact absurd hy0 c7
termination_by (8 - i).toNat
theorem L_cut0 (hL : L.stackTraces = false) {σ : ySg} (hLb : O.2.2.2.2.1 < 2147483648) {N : Int} {aS aE aR : Nat} {S E Rg : Int → Int} (hN : 1 ≤ N ∧ N ≤ 8) {X : List xOb} (hA : yHs ((aR, iaL 24 Rg) :: (aE, iaL 24 E) :: (aS, iaL 24 S) :: []) X) {c : Nat} (hXl : X.length ≤ c) (hc : c ≤ 18000) (hB : yB2 σ N S E Rg) : xWP L O mL_law (xR 13 828823 6605674) yKL 577 [(0, .ref xBig), (1, .ref 0), (2, .int (iI N)), (3, .ref aS), (4, .ref aE), (5, .ref aR)] [] (Wd σ X) c (6000 + 24 * c) := by
  refine xz_bipush dL_law_577 (by decide) ?_
  refine yh_new (N := 20) (m2 := c + 1) hA hXl (by omega) (by omega) dL_law_579 rfl (by decide) (by omega) (by omega) (fun X aC hA hXl => ?_)
  refine xw_astore (l2 := [(0, .ref xBig), (1, .ref 0), (2, .int (iI N)), (3, .ref aS), (4, .ref aE), (5, .ref aR), (6, .ref aC)]) dL_law_581 (by decide) rfl rfl ?_
  refine xz_iconst dL_law_583 ?_
  refine xw_istore (l2 := [(0, .ref xBig), (1, .ref 0), (2, .int (iI N)), (3, .ref aS), (4, .ref aE), (5, .ref aR), (6, .ref aC), (7, .int (iI 0))]) dL_law_584 (by decide) rfl rfl ?_
  refine xz_iconst dL_law_586 ?_
  refine xw_istore (l2 := [(0, .ref xBig), (1, .ref 0), (2, .int (iI N)), (3, .ref aS), (4, .ref aE), (5, .ref aR), (6, .ref aC), (7, .int (iI 0)), (8, .int (iI 0))]) dL_law_587 (by decide) rfl rfl ?_
  refine xw_wid (c2 := c + 1) (n2 := 6000 + 24 * (c + 1)) (by omega) (by omega) ?_
  exact L_cuts hL hLb 0 (by omega) (by omega) hA (c := c + 1) hXl (by omega) (hB.b3 hN) hB.2.2.2.2.2.2.2.2.1 (by omega)
theorem L_cues (hL : L.stackTraces = false) {σ : ySg} (hLb : O.2.2.2.2.1 < 2147483648) {N : Int} {aS aE aR : Nat} {S E Rg : Int → Int} (hN : 1 ≤ N ∧ N ≤ 8) (k : Int) (h0 : 0 ≤ k) (h1 : k ≤ N) {X : List xOb} (hA : yHs ((aR, iaL 24 Rg) :: (aE, iaL 24 E) :: (aS, iaL 24 S) :: []) X) {c : Nat} (hXl : X.length ≤ c) (hc : (c : Int) ≤ 17000 + 10 * k) (hB : yB2 σ k S E Rg) : xWP L O mL_law (xR 13 828823 6605674) yKL 467 [(0, .ref xBig), (1, .ref 0), (2, .int (iI N)), (3, .ref aS), (4, .ref aE), (5, .ref aR), (6, .int (iI k))] [] (Wd σ X) c (6000 + 24 * c) := by
  obtain ⟨hr, d2, d3, d5, d6, d7, d8, d9, d10, d11, d12, d13, d14⟩ := id hB
  refine xw_iload 6 dL_law_467 rfl ?_
  refine xw_iload_n 2 dL_law_469 rfl ?_
  refine xz_icmp_ge (tgt := 577) dL_law_470 (by decide) (by omega) (by omega) (fun c1 => ?_) (fun c1 => ?_)
  · refine xw_loc [(0, .ref xBig), (1, .ref 0), (2, .int (iI N)), (3, .ref aS), (4, .ref aE), (5, .ref aR)] (fun q9 hq9 => by simp only [List.mem_cons, List.not_mem_nil, or_false] at hq9 ⊢; rcases hq9 with h | h | h | h | h | h <;> subst h <;> simp) ?_
    refine xw_wid (c2 := c) (n2 := 6000 + 24 * (c)) (by omega) (by omega) ?_
    exact L_cut0 hL hLb hN hA (c := c) hXl (by omega) (by rw [show k = N by omega] at hB; exact hB)
  · refine xw_aload_n 0 dL_law_473 rfl ?_
    refine xz_bipush dL_law_474 (by decide) ?_
    refine xw_iload 6 dL_law_476 rfl ?_
    refine xz_iadd dL_law_478 ?_
    refine yc_SE (M' := mL_at) (d := 0) (c := 0) (s := 0) (As := [.ref xBig, .int (iI (11 + k))]) (st := []) dL_law_479 okL_at (Or.inl w_709) rfl (Nat.le_of_ble_eq_true rfl) (by decide) (by decide) (by omega) (by omega) (s_at hL hLb (by omega)) (fun w9 G9 h9 => ?_) (fun E9 G9 h9 => by obtain ⟨_, h, _⟩ := h9; cases h)
    obtain ⟨x2, e9, rfl⟩ := h9
    cases e9
    refine xz_ldc (z := 100000000) dL_law_482 w_1171 (by decide) ?_
    refine yc_SE (M' := mL_some) (d := 0) (c := 0) (s := 0) (As := [.int x2, .int (iI 100000000)]) (st := []) dL_law_484 okL_some (Or.inl w_712) rfl (Nat.le_of_ble_eq_true rfl) (by decide) (by decide) (by omega) (by omega) (s_some hL (by omega)) (fun w9 G9 h9 => ?_) (fun E9 G9 h9 => by obtain ⟨_, h, _⟩ := h9; cases h)
    obtain ⟨z3, e9, hz3, rfl⟩ := h9
    cases e9
    refine xw_istore (l2 := [(0, .ref xBig), (1, .ref 0), (2, .int (iI N)), (3, .ref aS), (4, .ref aE), (5, .ref aR), (6, .int (iI k)), (7, .int (iI z3))]) dL_law_487 (by decide) rfl rfl ?_
    refine xw_aload_n 3 dL_law_489 rfl ?_
    refine xw_iload 6 dL_law_490 rfl ?_
    refine xw_iload 7 dL_law_492 rfl ?_
    refine xz_sipush dL_law_494 (by decide) ?_
    refine xz_irem dL_law_497 (by omega) (by decide) ?_
    refine yh_astF 2 (A2 := ((aR, iaL 24 Rg) :: (aE, iaL 24 E) :: (aS, iaL 24 (fup S k (z3 % 900))) :: [])) hA rfl dL_law_498 (by omega) (by decide) rfl hXl (fun X hA hXl => ?_)
    have faS : (fup S k (z3 % 900)) k = _ := fup_s
    refine xw_aload 4 dL_law_499 rfl ?_
    refine xw_iload 6 dL_law_501 rfl ?_
    refine xw_aload_n 3 dL_law_503 rfl ?_
    refine xw_iload 6 dL_law_504 rfl ?_
    refine yh_aldF 2 hA rfl dL_law_506 (by omega) (by decide) ?_
    refine xz_iconst dL_law_507 ?_
    refine xz_iadd dL_law_508 ?_
    refine xw_iload 7 dL_law_509 rfl ?_
    refine xz_sipush dL_law_511 (by decide) ?_
    refine xz_idiv dL_law_514 (by omega) (by decide) ?_
    refine xz_bipush dL_law_515 (by decide) ?_
    refine xz_irem dL_law_517 (by omega) (by decide) ?_
    refine xz_iadd dL_law_518 ?_
    refine yh_astF 1 (A2 := ((aR, iaL 24 Rg) :: (aE, iaL 24 (fup E k (((((fup S k (z3 % 900))) k) + 1) + ((z3 / 900) % 120)))) :: (aS, iaL 24 (fup S k (z3 % 900))) :: [])) hA rfl dL_law_519 (by omega) (by decide) rfl hXl (fun X hA hXl => ?_)
    have faE : (fup E k (((((fup S k (z3 % 900))) k) + 1) + ((z3 / 900) % 120))) k = _ := fup_s
    refine xw_aload 5 dL_law_520 rfl ?_
    refine xw_iload 6 dL_law_522 rfl ?_
    refine xw_iload 7 dL_law_524 rfl ?_
    refine xz_ldc (z := 108000) dL_law_526 w_1151 (by decide) ?_
    refine xz_idiv dL_law_528 (by omega) (by decide) ?_
    refine xz_iconst dL_law_529 ?_
    refine xz_irem dL_law_530 (by omega) (by decide) ?_
    refine yh_astF 0 (A2 := ((aR, iaL 24 (fup Rg k ((z3 / 108000) % 3))) :: (aE, iaL 24 (fup E k (((((fup S k (z3 % 900))) k) + 1) + ((z3 / 900) % 120)))) :: (aS, iaL 24 (fup S k (z3 % 900))) :: [])) hA rfl dL_law_531 (by omega) (by decide) rfl hXl (fun X hA hXl => ?_)
    have faR : (fup Rg k ((z3 / 108000) % 3)) k = _ := fup_s
    refine xw_aload_n 1 dL_law_532 rfl ?_
    refine xz_bipush dL_law_533 (by decide) ?_
    refine xz_iconst dL_law_535 ?_
    refine yv_new (N := 3) (L := [.int (iI 0), .int (iI 0), .int (iI 0)]) hXl (by omega) dL_law_536 rfl (by decide) rfl (by omega) (by omega) ?_
    refine xw_dup dL_law_538 rfl ?_
    refine xz_iconst dL_law_539 ?_
    refine xw_aload_n 3 dL_law_540 rfl ?_
    refine xw_iload 6 dL_law_541 rfl ?_
    refine yh_aldF 2 hA.app rfl dL_law_543 (by omega) (by decide) ?_
    refine yv_put (k := 0) (L2 := [.int (iI (((fup S k (z3 % 900))) k)), .int (iI 0), .int (iI 0)]) dL_law_544 rfl (by show _ < 3; decide) (by show 3 ≤ _; decide) rfl ?_
    refine xw_dup dL_law_545 rfl ?_
    refine xz_iconst dL_law_546 ?_
    refine xw_aload 4 dL_law_547 rfl ?_
    refine xw_iload 6 dL_law_549 rfl ?_
    refine yh_aldF 1 hA.app rfl dL_law_551 (by omega) (by decide) ?_
    refine yv_put (k := 1) (L2 := [.int (iI (((fup S k (z3 % 900))) k)), .int (iI (((fup E k (((((fup S k (z3 % 900))) k) + 1) + ((z3 / 900) % 120)))) k)), .int (iI 0)]) dL_law_552 rfl (by show _ < 3; decide) (by show 3 ≤ _; decide) rfl ?_
    refine xw_dup dL_law_553 rfl ?_
    refine xz_iconst dL_law_554 ?_
    refine xw_aload 5 dL_law_555 rfl ?_
    refine xw_iload 6 dL_law_557 rfl ?_
    refine yh_aldF 0 hA.app rfl dL_law_559 (by omega) (by decide) ?_
    refine yv_put (k := 2) (L2 := [.int (iI (((fup S k (z3 % 900))) k)), .int (iI (((fup E k (((((fup S k (z3 % 900))) k) + 1) + ((z3 / 900) % 120)))) k)), .int (iI (((fup Rg k ((z3 / 108000) % 3))) k))]) dL_law_560 rfl (by show _ < 3; decide) (by show 3 ≤ _; decide) rfl ?_
    refine yc_S (M' := mL_cue) (d := 8) (c := 1) (s := 24) (As := [.ref 0, .int (iI 97), .ref (193 + X.length)]) (st := []) (v0 := some (.int (iI (σ 0 5)))) (G2 := Wd (yup (yup (yup (yup (yup (yup σ (cu (σ 0 5)) 0 1) (cu (σ 0 5)) 1 (((fup S k (z3 % 900))) k)) (cu (σ 0 5)) 2 (((fup E k (((((fup S k (z3 % 900))) k) + 1) + ((z3 / 900) % 120)))) k)) (cu (σ 0 5)) 3 (((fup Rg k ((z3 / 108000) % 3))) k)) 0 5 (σ 0 5 + 1)) 0 6 0) (X ++ [(64, [.int (iI (((fup S k (z3 % 900))) k)), .int (iI (((fup E k (((((fup S k (z3 % 900))) k) + 1) + ((z3 / 900) % 120)))) k)), .int (iI (((fup Rg k ((z3 / 108000) % 3))) k))])])) dL_law_561 okL_cue (Or.inl w_971) rfl (Nat.le_of_ble_eq_true rfl) (by decide) (by decide) (by omega) (by omega) rfl rfl (a_addCue (d := 2) (c := 0) (s := 0) hL (by decide) (by decide) (by decide) (by omega) yv_last (s_addCue hL hr (by omega) (by omega) (by omega)) (fun w9 G9 h => ⟨_, Sum.inl.inj h.1, rfl, h.2⟩) (fun E9 G9 h => by cases h.1)) ?_
    refine yl_g (m2 := c + 2) (Y := [(64, [.int (iI (((fup S k (z3 % 900))) k)), .int (iI (((fup E k (((((fup S k (z3 % 900))) k) + 1) + ((z3 / 900) % 120)))) k)), .int (iI (((fup Rg k ((z3 / 108000) % 3))) k))])]) hA hXl (by simp only [List.append_assoc, List.cons_append, List.nil_append]) (by show _ + 1 ≤ _; omega) (fun X hA hXl => ?_)
    refine xw_eq (pc2 := 564) rfl rfl rfl rfl (xw_wid (c2 := c + 2) (n2 := 6000 + 24 * c + 27) (by omega) (by omega) ?_)
    refine xw_iload 6 dL_law_564 rfl ?_
    refine xz_icmp_eq (tgt := 571) dL_law_566 (by decide) (by omega) (by omega) (fun c4 => ?_) (fun c4 => ?_)
    · refine xz_iinc (l2 := [(0, .ref xBig), (1, .ref 0), (2, .int (iI N)), (3, .ref aS), (4, .ref aE), (5, .ref aR), (6, .int (iI (k + 1))), (7, .int (iI z3))]) 6 dL_law_571 rfl (by decide) rfl rfl ?_
      refine xw_goto (tgt := 467) dL_law_574 (by decide) ?_
      refine xw_loc [(0, .ref xBig), (1, .ref 0), (2, .int (iI N)), (3, .ref aS), (4, .ref aE), (5, .ref aR), (6, .int (iI (k + 1)))] (fun q9 hq9 => by simp only [List.mem_cons, List.not_mem_nil, or_false] at hq9 ⊢; rcases hq9 with h | h | h | h | h | h | h <;> subst h <;> simp) ?_
      refine xw_wid (c2 := c + 2) (n2 := 6000 + 24 * (c + 2)) (by omega) (by omega) ?_
      exact L_cues hL (σ := yWdC σ (((fup S k (z3 % 900))) k) (((fup E k (((((fup S k (z3 % 900))) k) + 1) + ((z3 / 900) % 120)))) k) (((fup Rg k ((z3 / 108000) % 3))) k)) hLb hN (k + 1) (by omega) (by omega) hA (c := c + 2) hXl (by omega) (hB.add ⟨h0, by omega⟩ (by omega) (by omega) (fun i h => ⟨fup_n h, fup_n h, fup_n h⟩) ⟨rfl, rfl, rfl⟩)
    · exact absurd (by omega) c4
termination_by (N - k).toNat
theorem L_cue0 (hL : L.stackTraces = false) {σ : ySg} (hLb : O.2.2.2.2.1 < 2147483648)  {X : List xOb} (hA : yHs ([]) X) {c : Nat} (hXl : X.length ≤ c) (hc : c ≤ 16000) (hB : yB2 σ 0 (fun _ => 0) (fun _ => 0) (fun _ => 0)) : xWP L O mL_law (xR 13 828823 6605674) yKL 433 [(0, .ref xBig), (1, .ref 0)] [] (Wd σ X) c (6000 + 24 * c) := by
  refine xz_iconst dL_law_433 ?_
  refine xw_aload_n 0 dL_law_434 rfl ?_
  refine xz_bipush dL_law_435 (by decide) ?_
  refine yc_SE (M' := mL_at) (d := 0) (c := 0) (s := 0) (As := [.ref xBig, .int (iI 10)]) (st := [.int (iI 1)]) dL_law_437 okL_at (Or.inl w_709) rfl (Nat.le_of_ble_eq_true rfl) (by decide) (by decide) (by omega) (by omega) (s_at hL hLb (by omega)) (fun w9 G9 h9 => ?_) (fun E9 G9 h9 => by obtain ⟨_, h, _⟩ := h9; cases h)
  obtain ⟨x1, e9, rfl⟩ := h9
  cases e9
  refine xz_bipush dL_law_440 (by decide) ?_
  refine yc_SE (M' := mL_some) (d := 0) (c := 0) (s := 0) (As := [.int x1, .int (iI 8)]) (st := [.int (iI 1)]) dL_law_442 okL_some (Or.inl w_712) rfl (Nat.le_of_ble_eq_true rfl) (by decide) (by decide) (by omega) (by omega) (s_some hL (by omega)) (fun w9 G9 h9 => ?_) (fun E9 G9 h9 => by obtain ⟨_, h, _⟩ := h9; cases h)
  obtain ⟨z2, e9, hz2, rfl⟩ := h9
  cases e9
  refine xz_iadd dL_law_445 ?_
  refine xw_istore_n (l2 := [(0, .ref xBig), (1, .ref 0), (2, .int (iI (1 + z2)))]) dL_law_446 (by decide) rfl rfl ?_
  refine xz_bipush dL_law_447 (by decide) ?_
  refine yh_new (N := 24) (m2 := c + 1) hA hXl (by omega) (by omega) dL_law_449 rfl (by decide) (by omega) (by omega) (fun X aS hA hXl => ?_)
  refine xw_astore_n (l2 := [(0, .ref xBig), (1, .ref 0), (2, .int (iI (1 + z2))), (3, .ref aS)]) dL_law_451 (by decide) rfl rfl ?_
  refine xz_bipush dL_law_452 (by decide) ?_
  refine yh_new (N := 24) (m2 := c + 2) hA hXl (by omega) (by omega) dL_law_454 rfl (by decide) (by omega) (by omega) (fun X aE hA hXl => ?_)
  refine xw_astore (l2 := [(0, .ref xBig), (1, .ref 0), (2, .int (iI (1 + z2))), (3, .ref aS), (4, .ref aE)]) dL_law_456 (by decide) rfl rfl ?_
  refine xz_bipush dL_law_458 (by decide) ?_
  refine yh_new (N := 24) (m2 := c + 3) hA hXl (by omega) (by omega) dL_law_460 rfl (by decide) (by omega) (by omega) (fun X aR hA hXl => ?_)
  refine xw_astore (l2 := [(0, .ref xBig), (1, .ref 0), (2, .int (iI (1 + z2))), (3, .ref aS), (4, .ref aE), (5, .ref aR)]) dL_law_462 (by decide) rfl rfl ?_
  refine xz_iconst dL_law_464 ?_
  refine xw_istore (l2 := [(0, .ref xBig), (1, .ref 0), (2, .int (iI (1 + z2))), (3, .ref aS), (4, .ref aE), (5, .ref aR), (6, .int (iI 0))]) dL_law_465 (by decide) rfl rfl ?_
  refine xw_wid (c2 := c + 3) (n2 := 6000 + 24 * (c + 3)) (by omega) (by omega) ?_
  exact L_cues hL hLb (by omega) 0 (by omega) (by omega) hA (c := c + 3) hXl (by omega) (by exact hB)
end Y47

/-- what a split says -/
def ySF (σ σ' : ySg) (n a : Int) : Prop := σ' 0 5 = σ 0 5 + 1 ∧ σ' 0 6 = 0 ∧ σ' (cu n) 2 = σ (cu n) 1 + max 1 (min ((σ (cu n) 2 - σ (cu n) 1) * yLt (σ (cw n)) a / yLt (σ (cw n)) (σ (cu n) 6)) (σ (cu n) 2 - σ (cu n) 1 - 1)) ∧ σ' (cu n) 6 = a ∧ (σ' (cu (σ 0 5)) 0 = 1 ∧ σ' (cu (σ 0 5)) 1 = σ (cu n) 1 + max 1 (min ((σ (cu n) 2 - σ (cu n) 1) * yLt (σ (cw n)) a / yLt (σ (cw n)) (σ (cu n) 6)) (σ (cu n) 2 - σ (cu n) 1 - 1)) ∧ σ' (cu (σ 0 5)) 2 = σ (cu n) 2 ∧ σ' (cu (σ 0 5)) 3 = σ (cu n) 3 ∧ σ' (cu (σ 0 5)) 6 = σ (cu n) 6 - a) ∧ (∀ j, 0 ≤ j → j < σ (cu n) 6 - a → σ' (cw (σ 0 5)) j = σ (cw n) (a + j)) ∧ (∀ j, σ (cu n) 6 - a ≤ j → σ' (cw (σ 0 5)) j = σ (cw (σ 0 5)) j) ∧ (∀ x y, x ≠ cu (σ 0 5) → x ≠ cw (σ 0 5) → x ≠ ct (σ 0 5) → x ≠ ct n → ¬ (x = cu n ∧ (y = 2 ∨ y = 6)) → ¬ (x = 0 ∧ (y = 5 ∨ y = 6)) → σ' x y = σ x y)
/-- what a merge says -/
def ySM (σ σ' : ySg) (n m : Int) : Prop := σ' (cu n) 6 = σ (cu n) 6 + σ (cu m) 6 ∧ σ' (cu n) 1 = min (σ (cu n) 1) (σ (cu m) 1) ∧ σ' (cu n) 2 = max (σ (cu n) 2) (σ (cu m) 2) ∧ σ' (cu m) 0 = 0 ∧ σ' 0 6 = 0 ∧ (∀ j, 0 ≤ j → j < σ (cu m) 6 → σ' (cw n) (σ (cu n) 6 + j) = σ (cw m) j) ∧ (∀ x y, x ≠ ct n → ¬ (x = cu n ∧ (y = 1 ∨ y = 2 ∨ y = 6)) → ¬ (x = cw n ∧ σ (cu n) 6 ≤ y ∧ y < σ (cu n) 6 + max 0 (σ (cu m) 6 - 0)) → ¬ (x = cu m ∧ y = 0) → ¬ (x = 0 ∧ y = 6) → σ' x y = σ x y)
/-- the numbers before the law's words come: N cues, from S to E, of the regions Rg; words at the first alone -/
def yB4 (σ : ySg) (N : Int) (S E Rg : Int → Int) : Prop := yRg σ ∧ σ 0 5 = N ∧ yTh σ N ∧ (1 ≤ N ∧ N ≤ 8) ∧ yCst σ ∧ (∀ k, 0 ≤ k → k < 24 → (0 ≤ σ (cu k) 1 ∧ σ (cu k) 1 ≤ 99999) ∧ (0 ≤ σ (cu k) 3 ∧ σ (cu k) 3 < 3) ∧ (0 < k → σ (cu k) 6 = 0)) ∧ (∀ k j, 0 ≤ k → k < 24 → 0 ≤ j → j < 12 → 0 ≤ σ (cw k) j) ∧ (∀ k, 0 ≤ k → k < N → σ (cu k) 1 = S k ∧ σ (cu k) 2 = E k ∧ σ (cu k) 3 = Rg k ∧ 0 ≤ S k ∧ S k < E k ∧ E k ≤ 99999)
theorem yLtN_cong {f g : Int → Int} : ∀ n : Nat, (∀ i : Int, 0 ≤ i → i < n → f i = g i) → yLtN f n = yLtN g n
  | 0, _ => rfl
  | n + 1, h => by rw [yLtN, yLtN, yLtN_cong n (fun i a b => h i a (by omega)), h n (by omega) (by omega)]
theorem yLt_cong {f g : Int → Int} {j : Int} (h : ∀ i, 0 ≤ i → i < j → f i = g i) : yLt f j = yLt g j := yLtN_cong _ (fun i a b => h i a (by omega))
theorem cmpI_self (a : Int) : cmpI a a = 0 := by unfold cmpI; rw [if_neg (Int.lt_irrefl a), if_pos rfl]
def yWdW (σ : ySg) (b : Int) : ySg := yup (yfl (yup (yup σ (cw 0) (σ (cu 0) 6) b) (cu 0) 6 (σ (cu 0) 6 + 1)) (ct 0) 12 (-1)) 0 6 0
theorem yB4.wd {σ : ySg} {N w b : Int} {S E Rg : Int → Int} (h : yB4 σ N S E Rg) (h6 : σ (cu 0) 6 = w) (hw : 0 ≤ w ∧ w < 12) (hb : 1 ≤ b ∧ b ≤ 99) : yB4 (yWdW σ b) N S E Rg ∧ yWdW σ b (cu 0) 6 = w + 1 ∧ yWdW σ b 0 6 = 0 ∧ (∀ j, j ≤ w → yLt (yWdW σ b (cw 0)) j = yLt (σ (cw 0)) j) ∧ yLt (yWdW σ b (cw 0)) (w + 1) = yLt (σ (cw 0)) w + (b % 9 + 1) := by
  obtain ⟨h1, h2, h3, h4, h5, h7, h8, h9⟩ := h
  have hr : yRg (yWdW σ b) := yRg_up (yRg_fl (yRg_up (yRg_up h1 (by omega)) (by omega)) (by decide)) (by decide)
  have g : ∀ x y, ¬ (x = cw 0 ∧ y = w) → ¬ (x = cu 0 ∧ y = 6) → x ≠ ct 0 → ¬ (x = 0 ∧ y = 6) → yWdW σ b x y = σ x y := fun x y a1 a2 a3 a4 => by
    unfold yWdW
    rw [yup_n a4, yfl_i a3, yup_n a2, yup_n (by rw [h6]; exact a1)]
  have gw : yWdW σ b (cw 0) w = b := by
    unfold yWdW
    rw [yup_i (by decide), yfl_i (by decide), yup_i (by decide), h6, yup_s]
  have gc : ∀ k y : Int, y ≠ 6 → yWdW σ b (cu k) y = σ (cu k) y := fun k y q => g _ _ (by unfold cu cw; omega) (fun z => q z.2) (by unfold cu ct; omega) (by unfold cu; omega)
  have glt : ∀ j, j ≤ w → yLt (yWdW σ b (cw 0)) j = yLt (σ (cw 0)) j := fun j q => yLt_cong (fun i a c => g _ _ (by omega) (by unfold cu cw; omega) (by unfold cw ct; omega) (by unfold cw; omega))
  refine ⟨⟨hr, ?_, h3.cong (fun k a c => gc k 0 (by decide)), h4, fun r a c => ?_, fun k a c => ?_, fun k j a c d e => ?_, fun k a c => ?_⟩, ?_, ?_, glt, ?_⟩
  · rw [g 0 5 (by unfold cw; omega) (by unfold cu; omega) (by unfold ct; omega) (by omega)]; exact h2
  · rw [g 22 r (by unfold cw; omega) (by unfold cu; omega) (by unfold ct; omega) (by omega), g 23 r (by unfold cw; omega) (by unfold cu; omega) (by unfold ct; omega) (by omega), g 24 r (by unfold cw; omega) (by unfold cu; omega) (by unfold ct; omega) (by omega)]
    exact h5 r a c
  · have q := h7 k a c
    rw [gc k 1 (by decide), gc k 3 (by decide)]
    refine ⟨q.1, q.2.1, fun k0 => ?_⟩
    rw [g (cu k) 6 (by unfold cu cw; omega) (by unfold cu; omega) (by unfold cu ct; omega) (by unfold cu; omega)]
    exact q.2.2 k0
  · by_cases c2 : cw k = cw 0 ∧ j = w
    · rw [c2.1, c2.2, gw]; omega
    · rw [g (cw k) j c2 (by unfold cu cw; omega) (by unfold cw ct; omega) (by unfold cw; omega)]; exact h8 k j a c d e
  · rw [gc k 1 (by decide), gc k 2 (by decide), gc k 3 (by decide)]; exact h9 k a c
  · unfold yWdW; rw [yup_i (by decide), yfl_i (by decide), yup_s, h6]
  · unfold yWdW; rw [yup_s]
  · rw [yLt_s hw.1, glt w (Int.le_refl _), gw]; omega
theorem yB4.f6 {σ : ySg} {N : Int} {S E Rg : Int → Int} (h : yB4 σ N S E Rg) (h6 : 0 ≤ σ (cu 0) 6 ∧ σ (cu 0) 6 ≤ 12) (h06 : σ 0 6 = 0) : yF6 σ N := by
  obtain ⟨h1, h2, h3, h4, h5, h7, h8, h9⟩ := h
  refine ⟨h1, by omega, h3, h4, h5, fun k a b => ⟨(h7 k a b).1, (h7 k a b).2.1, ?_⟩, h8, Or.inl h06⟩
  by_cases e : k = 0
  · subst e; exact h6
  · have := (h7 k a b).2.2 (by omega)
    omega
/-- behind a split at p -/
def yB5 (σ : ySg) (N : Int) (S E Rg : Int → Int) (W a p : Int) : Prop := yRg σ ∧ σ 0 5 = N + 1 ∧ yTh σ (N + 1) ∧ (1 ≤ N ∧ N ≤ 8) ∧ yCst σ ∧ (∀ k, 0 ≤ k → k < 24 → (0 ≤ σ (cu k) 1 ∧ σ (cu k) 1 ≤ 99999) ∧ (0 ≤ σ (cu k) 3 ∧ σ (cu k) 3 < 3) ∧ (0 < k → k ≠ N → σ (cu k) 6 = 0)) ∧ (∀ k j, 0 ≤ k → k < 24 → 0 ≤ j → j < 12 → 0 ≤ σ (cw k) j) ∧ (σ (cu 0) 1 = S 0 ∧ σ (cu 0) 2 = p ∧ σ (cu 0) 3 = Rg 0 ∧ σ (cu 0) 6 = a) ∧ (σ (cu N) 1 = p ∧ σ (cu N) 2 = E 0 ∧ σ (cu N) 3 = Rg 0 ∧ σ (cu N) 6 = W - a) ∧ (0 ≤ S 0 ∧ S 0 < p ∧ p < E 0 ∧ E 0 ≤ 99999)
theorem yB4.sp {σ τ : ySg} {N W a p : Int} {S E Rg : Int → Int} (h : yB4 σ N S E Rg) (h6 : σ (cu 0) 6 = W) (hW : W ≤ 12) (ha : 1 ≤ a ∧ a < W) (hl : S 0 + 2 ≤ E 0) (hr : yRg τ) (hf : ySF σ τ 0 a) (hp : p = S 0 + max 1 (min ((E 0 - S 0) * yLt (σ (cw 0)) a / yLt (σ (cw 0)) W) (E 0 - S 0 - 1))) : yB5 τ N S E Rg W a p := by
  obtain ⟨h1, h2, h3, h4, h5, h7, h8, h9⟩ := h
  unfold ySF at hf
  rw [h2] at hf
  obtain ⟨f1, f2, f3, f4, ⟨f5, f6, f7, f8, f9⟩, f10, f12, f11⟩ := hf
  have h90 := h9 0 (by omega) (by omega)
  rw [h90.1, h90.2.1, h6, ← hp] at f3 f6
  have gc : ∀ k y : Int, 0 ≤ k → k < 24 → k ≠ N → ¬ (k = 0 ∧ (y = 2 ∨ y = 6)) → τ (cu k) y = σ (cu k) y := fun k y a1 a2 a3 a4 => f11 _ _ (fun z => a3 ((cu_inj a1 (by omega)).mp z)) (by unfold cu cw; omega) (by unfold cu ct; omega) (by unfold cu ct; omega) (fun z => a4 ⟨(cu_inj a1 (by omega)).mp z.1, z.2⟩) (by unfold cu; omega)
  have gp := h7 0 (by omega) (by omega)
  refine ⟨hr, f1, fun k a1 a2 => ?_, h4, fun r a1 a2 => ?_, fun k a1 a2 => ?_, fun k j a1 a2 a3 a4 => ?_, ⟨?_, f3, ?_, f4⟩, ⟨f6, ?_, ?_, ?_⟩, by omega⟩
  · by_cases e : k = N
    · subst e; exact Or.inl ⟨by omega, f5⟩
    · rw [gc k 0 a1 a2 e (by omega)]
      have := h3 k a1 a2
      omega
  · rw [f11 22 r (by unfold cu; omega) (by unfold cw; omega) (by unfold ct; omega) (by unfold ct; omega) (by unfold cu; omega) (by omega), f11 23 r (by unfold cu; omega) (by unfold cw; omega) (by unfold ct; omega) (by unfold ct; omega) (by unfold cu; omega) (by omega), f11 24 r (by unfold cu; omega) (by unfold cw; omega) (by unfold ct; omega) (by unfold ct; omega) (by unfold cu; omega) (by omega)]
    exact h5 r a1 a2
  · by_cases e : k = N
    · subst e
      rw [f6, f8]
      exact ⟨by omega, gp.2.1, fun _ z => absurd rfl z⟩
    · rw [gc k 1 a1 a2 e (by omega), gc k 3 a1 a2 e (by omega)]
      have q := h7 k a1 a2
      exact ⟨q.1, q.2.1, fun z1 _ => by rw [gc k 6 a1 a2 e (by omega)]; exact q.2.2 z1⟩
  · by_cases e : k = N
    · subst e
      by_cases c : j < W - a
      · rw [f10 j a3 (by omega)]; exact h8 0 _ (by omega) (by omega) (by omega) (by omega)
      · rw [f12 j (by omega)]; exact h8 _ j a1 a2 a3 a4
    · rw [f11 (cw k) j (by unfold cu cw; omega) (by unfold cw; omega) (by unfold cw ct; omega) (by unfold cw ct; omega) (by unfold cw cu; omega) (by unfold cw; omega)]
      exact h8 k j a1 a2 a3 a4
  · rw [gc 0 1 (by omega) (by omega) (by omega) (by omega)]; exact h90.1
  · rw [gc 0 3 (by omega) (by omega) (by omega) (by omega)]; exact h90.2.2.1
  · rw [f7]; exact h90.2.1
  · rw [f8]; exact h90.2.2.1
  · rw [f9, h6]
theorem yB5.mg {σ τ : ySg} {N W a p : Int} {S E Rg : Int → Int} (h : yB5 σ N S E Rg W a p) (hW : W ≤ 12) (ha : 1 ≤ a ∧ a < W) (hr : yRg τ) (hf : ySM σ τ 0 N) : yF6 τ N ∧ τ 0 5 = N + 1 ∧ τ (cu N) 0 = 0 ∧ τ (cu 0) 2 = E 0 ∧ τ (cu 0) 3 = Rg 0 := by
  obtain ⟨h1, h2, h3, h4, h5, h7, h8, ⟨p1, p2, p3, p4⟩, ⟨q1, q2, q3, q4⟩, hp⟩ := h
  unfold ySM at hf
  rw [p4, q4, p1, q1, p2, q2] at hf
  obtain ⟨f1, f2, f3, f4, f5, f6, f7⟩ := hf
  have gc : ∀ k y : Int, 0 ≤ k → k < 24 → ¬ (k = 0 ∧ (y = 1 ∨ y = 2 ∨ y = 6)) → ¬ (k = N ∧ y = 0) → τ (cu k) y = σ (cu k) y := fun k y a1 a2 a3 a4 => f7 _ _ (by unfold cu ct; omega) (fun z => a3 ⟨(cu_inj a1 (by omega)).mp z.1, z.2⟩) (by unfold cu cw; omega) (fun z => a4 ⟨(cu_inj a1 (by omega)).mp z.1, z.2⟩) (by unfold cu; omega)
  have g3 := gc 0 3 (by omega) (by omega) (by omega) (by omega)
  have e5 : τ 0 5 = N + 1 := by rw [f7 0 5 (by unfold ct; omega) (by unfold cu; omega) (by unfold cw; omega) (by unfold cu; omega) (by omega)]; exact h2
  refine ⟨⟨hr, by omega, fun k a1 a2 => ?_, h4, fun r a1 a2 => ?_, fun k a1 a2 => ?_, fun k j a1 a2 a3 a4 => ?_, Or.inl f5⟩, e5, f4, by omega, by omega⟩
  · by_cases e : k = N
    · subst e; exact Or.inr ⟨by omega, f4⟩
    · rw [gc k 0 a1 a2 (by omega) (by omega)]
      have := h3 k a1 a2
      omega
  · rw [f7 22 r (by unfold ct; omega) (by unfold cu; omega) (by unfold cw; omega) (by unfold cu; omega) (by omega), f7 23 r (by unfold ct; omega) (by unfold cu; omega) (by unfold cw; omega) (by unfold cu; omega) (by omega), f7 24 r (by unfold ct; omega) (by unfold cu; omega) (by unfold cw; omega) (by unfold cu; omega) (by omega)]
    exact h5 r a1 a2
  · have q := h7 k a1 a2
    by_cases e : k = 0
    · subst e
      rw [f1, f2, gc 0 3 a1 a2 (by omega) (by omega)]
      omega
    · rw [gc k 1 a1 a2 (by omega) (by omega), gc k 3 a1 a2 (by omega) (by omega), gc k 6 a1 a2 (by omega) (by omega)]
      refine ⟨q.1, q.2.1, ?_⟩
      by_cases e2 : k = N
      · subst e2; omega
      · have := q.2.2 (by omega) e2; omega
  · by_cases c : cw k = cw 0 ∧ a ≤ j ∧ j < W
    · have := f6 (j - a) (by omega) (by omega)
      rw [show a + (j - a) = j by omega] at this
      rw [c.1, this]
      exact h8 N _ (by omega) (by omega) (by omega) (by omega)
    · rw [f7 (cw k) j (by unfold cw ct; omega) (by unfold cw cu; omega) (fun z => c ⟨z.1, by omega, by omega⟩) (by unfold cw cu; omega) (by unfold cw; omega)]
      exact h8 k j a1 a2 a3 a4
section Y41
variable {L : Launch} {O : xWd}
theorem L_split (hL : L.stackTraces = false) {σ : ySg} {N : Int} {aS aE aR : Nat} {S E Rg : Int → Int} {W a l9 l10 : Int} {X : List xOb} (hA : yHs ((aR, iaL 24 Rg) :: (aE, iaL 24 E) :: (aS, iaL 24 S) :: []) X) {c : Nat} (hXl : X.length ≤ c) (hc : c ≤ 39000) (hB : yB4 σ N S E Rg) (h6 : σ (cu 0) 6 = W) (h06 : σ 0 6 = 0) (hW : 2 ≤ W ∧ W ≤ 12) (ha : 1 ≤ a ∧ a < W) (h9 : l9 = yLt (σ (cw 0)) W) (h10 : l10 = yLt (σ (cw 0)) a) : xWP L O mL_law (xR 13 828823 6605674) yKL 2051 [(0, .ref xBig), (1, .ref 0), (2, .int (iI N)), (3, .ref aS), (4, .ref aE), (5, .ref aR), (8, .int (iI W)), (9, .int (iI l9)), (10, .int (iI l10)), (11, .int (iI a))] [] (Wd σ X) c (6000 + 24 * c) := by
  obtain ⟨hr, d2, d3, d4, d5, d7, d8, d9⟩ := id hB
  have d30 := d3 0 (by omega) (by omega)
  have d90 := d9 0 (by omega) (by omega)
  have b9 := yLt_bd (σ (cw 0)) (j := W) (by omega)
  have b10 := yLt_bd (σ (cw 0)) (j := a) (by omega)
  rw [← h9] at b9
  rw [← h10] at b10
  have hm0 : 0 ≤ (E 0 - S 0) * l10 := Int.mul_nonneg (by omega) (by omega)
  have hm1 : (E 0 - S 0) * l10 ≤ 99999 * 108 := Int.mul_le_mul (by omega) (by omega) (by omega) (by omega)
  have hq0 : 0 ≤ (E 0 - S 0) * l10 / l9 := Int.ediv_nonneg hm0 (by omega)
  have hq1 : (E 0 - S 0) * l10 / l9 ≤ (E 0 - S 0) * l10 := Int.ediv_le_self _ hm0
  refine xw_aload 4 dL_law_2051 rfl ?_
  refine xz_iconst dL_law_2053 ?_
  refine yh_aldF 1 hA rfl dL_law_2054 (by decide) (by decide) ?_
  refine xw_aload_n 3 dL_law_2055 rfl ?_
  refine xz_iconst dL_law_2056 ?_
  refine yh_aldF 2 hA rfl dL_law_2057 (by decide) (by decide) ?_
  refine xz_isub dL_law_2058 ?_
  refine xw_istore (l2 := [(0, .ref xBig), (1, .ref 0), (2, .int (iI N)), (3, .ref aS), (4, .ref aE), (5, .ref aR), (8, .int (iI W)), (9, .int (iI l9)), (10, .int (iI l10)), (11, .int (iI a)), (12, .int (iI ((E 0) - (S 0))))]) dL_law_2059 (by decide) rfl rfl ?_
  refine xw_aload_n 1 dL_law_2061 rfl ?_
  refine xz_iconst dL_law_2062 ?_
  refine yc_V (M' := mX11_readingTime) (d := 2) (c := 0) (s := 0) (As := [.int (iI 0)]) (st := []) (v0 := some (.long (lI ((yLt (σ (cw 0)) (σ (cu 0) 6) + max 0 (σ (cu 0) 6 - 1)) * 2000 + 300 * σ (cu 0) 6)))) (G2 := Wd σ X) dL_law_2063 okX11_readingTime (Or.inl w_499) (xBig_i is_0.1) (Wd_get is_0) ⟨by decide, rfl⟩ rfl (Nat.le_of_ble_eq_true rfl) (by decide) (by decide) (by omega) (by omega) rfl rfl (s_readingTime hL hr (by omega) (by omega) (by omega) (by omega) (fun j a b => d8 0 j (by omega) (by omega) a b)) ?_
  refine xw_eq rfl rfl (s2 := [.long (lI (2000 * (l9 + W - 1) + 300 * W))]) (by rw [h6, ← h9, show (l9 + max 0 (W - 1)) * 2000 + 300 * W = 2000 * (l9 + W - 1) + 300 * W by omega]; rfl) rfl ?_
  refine xz_ldc2 (z := 2000) dL_law_2066 w_1176 (by decide) ?_
  refine xw_iload 7 dL_law_2069 rfl ?_
  refine xw_iload 6 dL_law_2071 rfl ?_
  refine xz_iadd dL_law_2073 ?_
  refine xz_iconst dL_law_2074 ?_
  refine xz_isub dL_law_2075 ?_
  refine xz_i2l dL_law_2076 (by omega) ?_
  refine xz_lmul dL_law_2077 ?_
  refine xz_ldc2 (z := 300) dL_law_2078 w_1177 (by decide) ?_
  refine xw_iload 6 dL_law_2081 rfl ?_
  refine xz_i2l dL_law_2083 (by omega) ?_
  refine xz_lmul dL_law_2084 ?_
  refine xz_ladd dL_law_2085 ?_
  refine xz_lcmp dL_law_2086 (by omega) (by omega) ?_
  refine xw_eq rfl rfl (s2 := [.int (iI 0)]) (by rw [cmpI_self]) rfl ?_
  refine xz_if_ne (tgt := 2156) dL_law_2087 (by decide) (by omega) (fun c1 => ?_) (fun c1 => ?_)
  · exact absurd rfl c1
  · refine xw_aload_n 1 dL_law_2090 rfl ?_
    refine xz_iconst dL_law_2091 ?_
    refine yc_V (M' := mX11_speed) (d := 2) (c := 0) (s := 0) (As := [.int (iI 0)]) (st := []) (v0 := some (.float (FP.fmul (FP.fdiv (FP.i2f (iI (yLt (σ (cw 0)) (σ (cu 0) 6)))) (FP.i2f (iI (σ (cu 0) 2 - σ (cu 0) 1)))) 1106247680))) (G2 := Wd σ X) dL_law_2092 okX11_speed (Or.inl w_586) (xBig_i is_0.1) (Wd_get is_0) ⟨by decide, rfl⟩ rfl (Nat.le_of_ble_eq_true rfl) (by decide) (by decide) (by omega) (by omega) rfl rfl (s_speed hL hr (by omega) (by omega) (by omega) (by omega) (fun j a b => d8 0 j (by omega) (by omega) a b) (by omega)) ?_
    refine xw_eq rfl rfl (s2 := [.float (FP.fmul (FP.fdiv (FP.i2f (iI l9)) (FP.i2f (iI (E 0 - S 0)))) 1106247680)]) (by rw [h6, ← h9, d90.1, d90.2.1]; rfl) rfl ?_
    refine xw_iload 7 dL_law_2095 rfl ?_
    refine xw_i2f dL_law_2097 ?_
    refine xw_iload 10 dL_law_2098 rfl ?_
    refine xw_i2f dL_law_2100 ?_
    refine xw_fdiv dL_law_2101 (f_div (a := l9) (b := E 0 - S 0) (by omega) (by omega)) ?_
    refine xw_ldcf dL_law_2102 w_1178 ?_
    refine xw_fmul dL_law_2104 (f_mul30 (f_div (a := l9) (b := E 0 - S 0) (by omega) (by omega))) ?_
    refine xw_fcmp dL_law_2105 ?_
    refine xw_eq rfl rfl (s2 := [.int (iI 0)]) (by rw [f_cmp (f_mul30 (f_div (a := l9) (b := E 0 - S 0) (by omega) (by omega)))]; rfl) rfl ?_
    refine xz_if_ne (tgt := 2156) dL_law_2106 (by decide) (by omega) (fun c2 => ?_) (fun c2 => ?_)
    · exact absurd rfl c2
    · refine xw_aload_n 1 dL_law_2109 rfl ?_
      refine xz_bipush dL_law_2110 (by decide) ?_
      refine xz_iconst dL_law_2112 ?_
      refine yv_new (N := 2) (L := [.int (iI 0), .int (iI 0)]) hXl (by omega) dL_law_2113 rfl (by decide) rfl (by omega) (by omega) ?_
      refine xw_dup dL_law_2115 rfl ?_
      refine xz_iconst dL_law_2116 ?_
      refine xz_iconst dL_law_2117 ?_
      refine yv_put (k := 0) (L2 := [.int (iI 0), .int (iI 0)]) dL_law_2118 rfl (by show _ < 2; decide) (by show 2 ≤ _; decide) rfl ?_
      refine xw_dup dL_law_2119 rfl ?_
      refine xz_iconst dL_law_2120 ?_
      refine xz_iconst dL_law_2121 ?_
      refine yv_put (k := 1) (L2 := [.int (iI 0), .int (iI 0)]) dL_law_2122 rfl (by show _ < 2; decide) (by show 2 ≤ _; decide) rfl ?_
      refine yc_S (M' := mL_cue) (d := 8) (c := 1) (s := 24) (As := [.ref 0, .int (iI 112), .ref (193 + X.length)]) (st := []) (v0 := some (.int (iI (-1002)))) (G2 := Wd σ ((X ++ [(64, [.int (iI 0), .int (iI 0)])]) ++ [(127, [])])) dL_law_2123 okL_cue (Or.inl w_971) rfl (Nat.le_of_ble_eq_true rfl) (by decide) (by decide) (by omega) (by omega) rfl rfl (a_split (d := 2) (c := 1) (s := 6) hL (by decide) (by decide) (by decide) (by omega) yv_last (t_split hL (yv_len hXl (by omega)) hr (by omega) (by omega) (by omega) (by omega) (by omega)) (fun w9 G9 h => by cases h.1) (fun E9 G9 h => Or.inr (Or.inl ⟨Sum.inr.inj h.1, rfl, h.2⟩))) ?_
      refine yl_g (m2 := c + 2) (Y := [(64, [.int (iI 0), .int (iI 0)]), (127, [])]) hA hXl (by simp only [List.append_assoc, List.cons_append, List.nil_append]) (by show _ + 2 ≤ _; omega) (fun X hA hXl => ?_)
      refine xw_eq (pc2 := 2126) rfl rfl rfl rfl (xw_wid (c2 := c + 2) (n2 := 6000 + 24 * c + 26) (by omega) (by omega) ?_)
      refine xz_sipush dL_law_2126 (by omega) ?_
      refine xz_icmp_ne (tgt := 2156) dL_law_2129 (by decide) (by omega) (by omega) (fun c3 => ?_) (fun c3 => ?_)
      · exact absurd rfl c3
      · refine xw_aload_n 1 dL_law_2132 rfl ?_
        refine xz_bipush dL_law_2133 (by decide) ?_
        refine xz_iconst dL_law_2135 ?_
        refine yv_new (N := 2) (L := [.int (iI 0), .int (iI 0)]) hXl (by omega) dL_law_2136 rfl (by decide) rfl (by omega) (by omega) ?_
        refine xw_dup dL_law_2138 rfl ?_
        refine xz_iconst dL_law_2139 ?_
        refine xz_iconst dL_law_2140 ?_
        refine yv_put (k := 0) (L2 := [.int (iI 0), .int (iI 0)]) dL_law_2141 rfl (by show _ < 2; decide) (by show 2 ≤ _; decide) rfl ?_
        refine xw_dup dL_law_2142 rfl ?_
        refine xz_iconst dL_law_2143 ?_
        refine xw_iload 6 dL_law_2144 rfl ?_
        refine yv_put (k := 1) (L2 := [.int (iI 0), .int (iI W)]) dL_law_2146 rfl (by show _ < 2; decide) (by show 2 ≤ _; decide) rfl ?_
        refine yc_S (M' := mL_cue) (d := 8) (c := 1) (s := 24) (As := [.ref 0, .int (iI 112), .ref (193 + X.length)]) (st := []) (v0 := some (.int (iI (-1002)))) (G2 := Wd σ ((X ++ [(64, [.int (iI 0), .int (iI W)])]) ++ [(127, [])])) dL_law_2147 okL_cue (Or.inl w_971) rfl (Nat.le_of_ble_eq_true rfl) (by decide) (by decide) (by omega) (by omega) rfl rfl (a_split (d := 2) (c := 1) (s := 6) hL (by decide) (by decide) (by decide) (by omega) yv_last (t_split hL (yv_len hXl (by omega)) hr (by omega) (by omega) (by omega) (by omega) (by omega)) (fun w9 G9 h => by cases h.1) (fun E9 G9 h => Or.inr (Or.inl ⟨Sum.inr.inj h.1, rfl, h.2⟩))) ?_
        refine yl_g (m2 := c + 4) (Y := [(64, [.int (iI 0), .int (iI W)]), (127, [])]) hA hXl (by simp only [List.append_assoc, List.cons_append, List.nil_append]) (by show _ + 2 ≤ _; omega) (fun X hA hXl => ?_)
        refine xw_eq (pc2 := 2150) rfl rfl rfl rfl (xw_wid (c2 := c + 4) (n2 := 6000 + 24 * c + 52) (by omega) (by omega) ?_)
        refine xz_sipush dL_law_2150 (by omega) ?_
        refine xz_icmp_eq (tgt := 2158) dL_law_2153 (by decide) (by omega) (by omega) (fun c4 => ?_) (fun c4 => ?_)
        · refine xw_aload_n 3 dL_law_2158 rfl ?_
          refine xz_iconst dL_law_2159 ?_
          refine yh_aldF 2 hA rfl dL_law_2160 (by decide) (by decide) ?_
          refine xz_iconst dL_law_2161 ?_
          refine xz_iadd dL_law_2162 ?_
          refine xw_aload 4 dL_law_2163 rfl ?_
          refine xz_iconst dL_law_2165 ?_
          refine yh_aldF 1 hA rfl dL_law_2166 (by decide) (by decide) ?_
          refine xz_iconst dL_law_2167 ?_
          refine xz_isub dL_law_2168 ?_
          refine xw_aload_n 3 dL_law_2169 rfl ?_
          refine xz_iconst dL_law_2170 ?_
          refine yh_aldF 2 hA rfl dL_law_2171 (by decide) (by decide) ?_
          refine xw_iload 10 dL_law_2172 rfl ?_
          refine xw_iload 8 dL_law_2174 rfl ?_
          refine xz_imul dL_law_2176 ?_
          refine xw_iload 7 dL_law_2177 rfl ?_
          refine xz_idiv dL_law_2179 (by omega) (by omega) ?_
          refine xz_iadd dL_law_2180 ?_
          refine xz_mmin dL_law_2181 w_1160 (Nat.le_of_ble_eq_true rfl) (by first | omega | (simp only [xR]; omega)) (by first | omega | (simp only [xR]; omega)) (by omega) (by omega) ?_
          refine xz_mmax dL_law_2184 w_1158 (Nat.le_of_ble_eq_true rfl) (by first | omega | (simp only [xR]; omega)) (by first | omega | (simp only [xR]; omega)) (by omega) (by omega) ?_
          refine xw_istore (l2 := [(0, .ref xBig), (1, .ref 0), (2, .int (iI N)), (3, .ref aS), (4, .ref aE), (5, .ref aR), (8, .int (iI W)), (9, .int (iI l9)), (10, .int (iI l10)), (11, .int (iI a)), (12, .int (iI ((E 0) - (S 0)))), (13, .int (iI (max ((S 0) + 1) (min ((E 0) - 1) ((S 0) + ((((E 0) - (S 0)) * l10) / l9))))))]) dL_law_2187 (by decide) rfl rfl ?_
          refine xw_aload_n 1 dL_law_2189 rfl ?_
          refine xz_bipush dL_law_2190 (by decide) ?_
          refine xz_iconst dL_law_2192 ?_
          refine yv_new (N := 2) (L := [.int (iI 0), .int (iI 0)]) hXl (by omega) dL_law_2193 rfl (by decide) rfl (by omega) (by omega) ?_
          refine xw_dup dL_law_2195 rfl ?_
          refine xz_iconst dL_law_2196 ?_
          refine xz_iconst dL_law_2197 ?_
          refine yv_put (k := 0) (L2 := [.int (iI 0), .int (iI 0)]) dL_law_2198 rfl (by show _ < 2; decide) (by show 2 ≤ _; decide) rfl ?_
          refine xw_dup dL_law_2199 rfl ?_
          refine xz_iconst dL_law_2200 ?_
          refine xw_iload 9 dL_law_2201 rfl ?_
          refine yv_put (k := 1) (L2 := [.int (iI 0), .int (iI a)]) dL_law_2203 rfl (by show _ < 2; decide) (by show 2 ≤ _; decide) rfl ?_
          by_cases hl2 : E 0 - S 0 < 2
          · refine yc_S (M' := mL_cue) (d := 8) (c := 1) (s := 24) (As := [.ref 0, .int (iI 112), .ref (193 + X.length)]) (st := []) (v0 := some (.int (iI (-1004)))) (G2 := Wd σ ((X ++ [(64, [.int (iI 0), .int (iI a)])]) ++ [(127, [])])) dL_law_2204 okL_cue (Or.inl w_971) rfl (Nat.le_of_ble_eq_true rfl) (by decide) (by decide) (by omega) (by omega) rfl rfl (a_split (d := 2) (c := 1) (s := 6) hL (by decide) (by decide) (by decide) (by omega) yv_last (u_split hL (yv_len hXl (by omega)) hr (by omega) (by omega) (by omega) (by omega) (by omega) (by omega) (by omega)) (fun w9 G9 h => by cases h.1) (fun E9 G9 h => Or.inr (Or.inr (Or.inr (Or.inl ⟨Sum.inr.inj h.1, rfl, h.2⟩))))) ?_
            refine yl_g (m2 := c + 6) (Y := [(64, [.int (iI 0), .int (iI a)]), (127, [])]) hA hXl (by simp only [List.append_assoc, List.cons_append, List.nil_append]) (by show _ + 2 ≤ _; omega) (fun X hA hXl => ?_)
            refine xw_eq (pc2 := 2207) rfl rfl rfl rfl (xw_wid (c2 := c + 6) (n2 := 6000 + 24 * c + 78) (by omega) (by omega) ?_)
            refine xw_istore (l2 := [(0, .ref xBig), (1, .ref 0), (2, .int (iI N)), (3, .ref aS), (4, .ref aE), (5, .ref aR), (8, .int (iI W)), (9, .int (iI l9)), (10, .int (iI l10)), (11, .int (iI a)), (12, .int (iI ((E 0) - (S 0)))), (13, .int (iI (max ((S 0) + 1) (min ((E 0) - 1) ((S 0) + ((((E 0) - (S 0)) * l10) / l9)))))), (14, .int (iI ((-1004))))]) dL_law_2207 (by decide) rfl rfl ?_
            refine xw_iload 12 dL_law_2209 rfl ?_
            refine xw_iload 10 dL_law_2211 rfl ?_
            refine xz_iconst dL_law_2213 ?_
            refine xz_icmp_ge (tgt := 2223) dL_law_2214 (by decide) (by omega) (by omega) (fun c5 => ?_) (fun c5 => ?_)
            · exact absurd c5 (by omega)
            · refine xz_sipush dL_law_2217 (by omega) ?_
              refine xw_goto (tgt := 2224) dL_law_2220 (by decide) ?_
              refine xz_icmp_eq (tgt := 2229) dL_law_2224 (by decide) (by omega) (by omega) (fun c6 => ?_) (fun c6 => ?_)
              · refine xw_iload 12 dL_law_2229 rfl ?_
                refine xz_if_lt (tgt := 2450) dL_law_2231 (by decide) (by omega) (fun c7 => ?_) (fun c7 => ?_)
                · have hF6 := hB.f6 (by omega) h06
                  have hFR := d90.2.2.1
                  refine xw_loc [(1, .ref 0), (2, .int (iI N)), (5, .ref aR)] (fun q9 hq9 => by simp only [List.mem_cons, List.not_mem_nil, or_false] at hq9 ⊢; rcases hq9 with h | h | h <;> subst h <;> simp) ?_
                  refine xw_wid (c2 := c + 6) (n2 := 6000 + 24 * (c + 6)) (by omega) (by omega) ?_
                  exact L_ref1 hL d4 (hA.sub [0] rfl (by decide)) (c := c + 6) hXl (by omega) hF6 hFR
                · exact absurd c7 (by omega)
              · exact absurd rfl c6
          · refine yc_SE (K' := fun o9 G9 => ∃ σ9 : ySg, o9 = .inl (some (.int (iI (σ 0 5)))) ∧ yRg σ9 ∧ ySF σ σ9 0 a ∧ G9 = Wd σ9 (X ++ [(64, [.int (iI 0), .int (iI a)])])) (M' := mL_cue) (d := 8) (c := 1) (s := 24) (As := [.ref 0, .int (iI 112), .ref (193 + X.length)]) (st := []) dL_law_2204 okL_cue (Or.inl w_971) rfl (Nat.le_of_ble_eq_true rfl) (by decide) (by decide) (by omega) (by omega) (a_split (d := 3) (c := 0) (s := 0) hL (by decide) (by decide) (by decide) (by omega) yv_last (s2_split hL hr (by omega) (by omega) (by omega) (by omega) (by omega) (by omega) (by omega) (by rw [d2]; exact (d7 N (by omega) (by omega)).2.2 (by omega)) (fun j a b => d8 0 j (by omega) (by omega) a b)) (fun w9 G9 h => by obtain ⟨σ9, q1, q2⟩ := h; exact ⟨_, Sum.inl.inj q1, σ9, rfl, q2⟩) (fun E9 G9 h => by obtain ⟨σ9, q1, q2⟩ := h; cases q1)) (fun w9 G9 h9 => ?_) (fun E9 G9 h9 => by obtain ⟨_, h, _⟩ := h9; cases h)
            obtain ⟨τ, e9, hr5, hf5, rfl⟩ := h9
            cases e9
            refine yl_g (m2 := c + 6) (Y := [(64, [.int (iI 0), .int (iI a)])]) hA hXl (by simp only [List.append_assoc, List.cons_append, List.nil_append]) (by show _ + 1 ≤ _; omega) (fun X hA hXl => ?_)
            refine xw_eq (pc2 := 2207) rfl rfl rfl rfl (xw_wid (c2 := c + 6) (n2 := 6000 + 24 * c + 78) (by omega) (by omega) ?_)
            have h5 := hB.sp h6 (by omega) ha (by omega) hr5 hf5 rfl
            have hpl : S 0 + max 1 (min ((E 0 - S 0) * yLt (σ (cw 0)) a / yLt (σ (cw 0)) W) (E 0 - S 0 - 1)) = max (S 0 + 1) (min (E 0 - 1) (S 0 + (E 0 - S 0) * l10 / l9)) := by rw [← h9, ← h10]; omega
            rw [hpl] at h5
            obtain ⟨k1, k2, k3, k4, k5, k7, k8, ⟨m1, m2, m3, m4⟩, ⟨n1, n2, n3, n4⟩, hp⟩ := id h5
            have k30 := k3 0 (by omega) (by omega)
            have k3N := k3 N (by omega) (by omega)
            refine xw_istore (l2 := [(0, .ref xBig), (1, .ref 0), (2, .int (iI N)), (3, .ref aS), (4, .ref aE), (5, .ref aR), (8, .int (iI W)), (9, .int (iI l9)), (10, .int (iI l10)), (11, .int (iI a)), (12, .int (iI ((E 0) - (S 0)))), (13, .int (iI (max ((S 0) + 1) (min ((E 0) - 1) ((S 0) + ((((E 0) - (S 0)) * l10) / l9)))))), (14, .int (iI (σ 0 5)))]) dL_law_2207 (by decide) rfl rfl ?_
            refine xw_iload 12 dL_law_2209 rfl ?_
            refine xw_iload 10 dL_law_2211 rfl ?_
            refine xz_iconst dL_law_2213 ?_
            refine xz_icmp_ge (tgt := 2223) dL_law_2214 (by decide) (by omega) (by omega) (fun c8 => ?_) (fun c8 => ?_)
            · refine xw_iload_n 2 dL_law_2223 rfl ?_
              refine xz_icmp_eq (tgt := 2229) dL_law_2224 (by decide) (by omega) (by omega) (fun c9 => ?_) (fun c9 => ?_)
              · refine xw_iload 12 dL_law_2229 rfl ?_
                refine xz_if_lt (tgt := 2450) dL_law_2231 (by decide) (by omega) (fun c10 => ?_) (fun c10 => ?_)
                · exact absurd c10 (by omega)
                · refine xw_aload_n 1 dL_law_2234 rfl ?_
                  refine xz_bipush dL_law_2235 (by decide) ?_
                  refine xz_iconst dL_law_2237 ?_
                  refine yv_new (N := 1) (L := [.int (iI 0)]) hXl (by omega) dL_law_2238 rfl (by decide) rfl (by omega) (by omega) ?_
                  refine xw_dup dL_law_2240 rfl ?_
                  refine xz_iconst dL_law_2241 ?_
                  refine xz_iconst dL_law_2242 ?_
                  refine yv_put (k := 0) (L2 := [.int (iI 0)]) dL_law_2243 rfl (by show _ < 1; decide) (by show 1 ≤ _; decide) rfl ?_
                  refine yc_S (M' := mL_cue) (d := 8) (c := 1) (s := 24) (As := [.ref 0, .int (iI 101), .ref (193 + X.length)]) (st := []) (v0 := some (.int (iI (τ (cu 0) 2)))) (G2 := Wd τ (X ++ [(64, [.int (iI 0)])])) dL_law_2244 okL_cue (Or.inl w_971) rfl (Nat.le_of_ble_eq_true rfl) (by decide) (by decide) (by omega) (by omega) rfl rfl (a_endOf (d := 1) (c := 0) (s := 0) hL (by decide) (by decide) (by decide) (by omega) yv_last (s_endOf hL k1 (by omega) (by omega) (by omega)) (fun w9 G9 h => ⟨_, Sum.inl.inj h.1, rfl, h.2⟩) (fun E9 G9 h => by cases h.1)) ?_
                  refine yl_g (m2 := c + 8) (Y := [(64, [.int (iI 0)])]) hA hXl (by simp only [List.append_assoc, List.cons_append, List.nil_append]) (by show _ + 1 ≤ _; omega) (fun X hA hXl => ?_)
                  refine xw_eq (pc2 := 2247) rfl rfl rfl rfl (xw_wid (c2 := c + 8) (n2 := 6000 + 24 * c + 103) (by omega) (by omega) ?_)
                  refine xw_iload 11 dL_law_2247 rfl ?_
                  refine xz_icmp_ne (tgt := 2448) dL_law_2249 (by decide) (by omega) (by omega) (fun c11 => ?_) (fun c11 => ?_)
                  · exact absurd (by omega) c11
                  · refine xw_aload_n 1 dL_law_2252 rfl ?_
                    refine xz_bipush dL_law_2253 (by decide) ?_
                    refine xz_iconst dL_law_2255 ?_
                    refine yv_new (N := 1) (L := [.int (iI 0)]) hXl (by omega) dL_law_2256 rfl (by decide) rfl (by omega) (by omega) ?_
                    refine xw_dup dL_law_2258 rfl ?_
                    refine xz_iconst dL_law_2259 ?_
                    refine xw_iload_n 2 dL_law_2260 rfl ?_
                    refine yv_put (k := 0) (L2 := [.int (iI N)]) dL_law_2261 rfl (by show _ < 1; decide) (by show 1 ≤ _; decide) rfl ?_
                    refine yc_S (M' := mL_cue) (d := 8) (c := 1) (s := 24) (As := [.ref 0, .int (iI 115), .ref (193 + X.length)]) (st := []) (v0 := some (.int (iI (τ (cu N) 1)))) (G2 := Wd τ (X ++ [(64, [.int (iI N)])])) dL_law_2262 okL_cue (Or.inl w_971) rfl (Nat.le_of_ble_eq_true rfl) (by decide) (by decide) (by omega) (by omega) rfl rfl (a_startOf (d := 1) (c := 0) (s := 0) hL (by decide) (by decide) (by decide) (by omega) yv_last (s_startOf hL k1 (by omega) (by omega) (by omega)) (fun w9 G9 h => ⟨_, Sum.inl.inj h.1, rfl, h.2⟩) (fun E9 G9 h => by cases h.1)) ?_
                    refine yl_g (m2 := c + 10) (Y := [(64, [.int (iI N)])]) hA hXl (by simp only [List.append_assoc, List.cons_append, List.nil_append]) (by show _ + 1 ≤ _; omega) (fun X hA hXl => ?_)
                    refine xw_eq (pc2 := 2265) rfl rfl rfl rfl (xw_wid (c2 := c + 10) (n2 := 6000 + 24 * c + 128) (by omega) (by omega) ?_)
                    refine xw_iload 11 dL_law_2265 rfl ?_
                    refine xz_icmp_ne (tgt := 2448) dL_law_2267 (by decide) (by omega) (by omega) (fun c12 => ?_) (fun c12 => ?_)
                    · exact absurd (by omega) c12
                    · refine xw_aload_n 1 dL_law_2270 rfl ?_
                      refine xz_bipush dL_law_2271 (by decide) ?_
                      refine xz_iconst dL_law_2273 ?_
                      refine yv_new (N := 1) (L := [.int (iI 0)]) hXl (by omega) dL_law_2274 rfl (by decide) rfl (by omega) (by omega) ?_
                      refine xw_dup dL_law_2276 rfl ?_
                      refine xz_iconst dL_law_2277 ?_
                      refine xw_iload_n 2 dL_law_2278 rfl ?_
                      refine yv_put (k := 0) (L2 := [.int (iI N)]) dL_law_2279 rfl (by show _ < 1; decide) (by show 1 ≤ _; decide) rfl ?_
                      refine yc_S (M' := mL_cue) (d := 8) (c := 1) (s := 24) (As := [.ref 0, .int (iI 101), .ref (193 + X.length)]) (st := []) (v0 := some (.int (iI (τ (cu N) 2)))) (G2 := Wd τ (X ++ [(64, [.int (iI N)])])) dL_law_2280 okL_cue (Or.inl w_971) rfl (Nat.le_of_ble_eq_true rfl) (by decide) (by decide) (by omega) (by omega) rfl rfl (a_endOf (d := 1) (c := 0) (s := 0) hL (by decide) (by decide) (by decide) (by omega) yv_last (s_endOf hL k1 (by omega) (by omega) (by omega)) (fun w9 G9 h => ⟨_, Sum.inl.inj h.1, rfl, h.2⟩) (fun E9 G9 h => by cases h.1)) ?_
                      refine yl_g (m2 := c + 12) (Y := [(64, [.int (iI N)])]) hA hXl (by simp only [List.append_assoc, List.cons_append, List.nil_append]) (by show _ + 1 ≤ _; omega) (fun X hA hXl => ?_)
                      refine xw_eq (pc2 := 2283) rfl rfl rfl rfl (xw_wid (c2 := c + 12) (n2 := 6000 + 24 * c + 153) (by omega) (by omega) ?_)
                      refine xw_aload 4 dL_law_2283 rfl ?_
                      refine xz_iconst dL_law_2285 ?_
                      refine yh_aldF 1 hA rfl dL_law_2286 (by decide) (by decide) ?_
                      refine xz_icmp_ne (tgt := 2448) dL_law_2287 (by decide) (by omega) (by omega) (fun c13 => ?_) (fun c13 => ?_)
                      · exact absurd (by omega) c13
                      · refine xw_aload_n 1 dL_law_2290 rfl ?_
                        refine xz_bipush dL_law_2291 (by decide) ?_
                        refine xz_iconst dL_law_2293 ?_
                        refine yv_new (N := 2) (L := [.int (iI 0), .int (iI 0)]) hXl (by omega) dL_law_2294 rfl (by decide) rfl (by omega) (by omega) ?_
                        refine xw_dup dL_law_2296 rfl ?_
                        refine xz_iconst dL_law_2297 ?_
                        refine xz_iconst dL_law_2298 ?_
                        refine yv_put (k := 0) (L2 := [.int (iI 0), .int (iI 0)]) dL_law_2299 rfl (by show _ < 2; decide) (by show 2 ≤ _; decide) rfl ?_
                        refine xw_dup dL_law_2300 rfl ?_
                        refine xz_iconst dL_law_2301 ?_
                        refine xw_iload 9 dL_law_2302 rfl ?_
                        refine yv_put (k := 1) (L2 := [.int (iI 0), .int (iI a)]) dL_law_2304 rfl (by show _ < 2; decide) (by show 2 ≤ _; decide) rfl ?_
                        refine yc_S (M' := mL_cue) (d := 8) (c := 1) (s := 24) (As := [.ref 0, .int (iI 116), .ref (193 + X.length)]) (st := []) (v0 := some (.int (iI (-1001)))) (G2 := Wd τ ((X ++ [(64, [.int (iI 0), .int (iI a)])]) ++ [(127, [])])) dL_law_2305 okL_cue (Or.inl w_971) rfl (Nat.le_of_ble_eq_true rfl) (by decide) (by decide) (by omega) (by omega) rfl rfl (a_timeOf (d := 2) (c := 1) (s := 6) hL (by decide) (by decide) (by decide) (by omega) yv_last (t_timeOf hL (yv_len hXl (by omega)) k1 (by omega) (by omega) (by omega) (by omega) (by omega)) (fun w9 G9 h => by cases h.1) (fun E9 G9 h => Or.inl ⟨Sum.inr.inj h.1, rfl, h.2⟩)) ?_
                        refine yl_g (m2 := c + 14) (Y := [(64, [.int (iI 0), .int (iI a)]), (127, [])]) hA hXl (by simp only [List.append_assoc, List.cons_append, List.nil_append]) (by show _ + 2 ≤ _; omega) (fun X hA hXl => ?_)
                        refine xw_eq (pc2 := 2308) rfl rfl rfl rfl (xw_wid (c2 := c + 14) (n2 := 6000 + 24 * c + 179) (by omega) (by omega) ?_)
                        refine xz_sipush dL_law_2308 (by omega) ?_
                        refine xz_icmp_ne (tgt := 2448) dL_law_2311 (by decide) (by omega) (by omega) (fun c14 => ?_) (fun c14 => ?_)
                        · exact absurd rfl c14
                        · refine xw_aload_n 1 dL_law_2314 rfl ?_
                          refine xz_bipush dL_law_2315 (by decide) ?_
                          refine xz_iconst dL_law_2317 ?_
                          refine yv_new (N := 2) (L := [.int (iI 0), .int (iI 0)]) hXl (by omega) dL_law_2318 rfl (by decide) rfl (by omega) (by omega) ?_
                          refine xw_dup dL_law_2320 rfl ?_
                          refine xz_iconst dL_law_2321 ?_
                          refine xw_iload_n 2 dL_law_2322 rfl ?_
                          refine yv_put (k := 0) (L2 := [.int (iI N), .int (iI 0)]) dL_law_2323 rfl (by show _ < 2; decide) (by show 2 ≤ _; decide) rfl ?_
                          refine xw_dup dL_law_2324 rfl ?_
                          refine xz_iconst dL_law_2325 ?_
                          refine xw_iload 6 dL_law_2326 rfl ?_
                          refine xw_iload 9 dL_law_2328 rfl ?_
                          refine xz_isub dL_law_2330 ?_
                          refine yv_put (k := 1) (L2 := [.int (iI N), .int (iI (W - a))]) dL_law_2331 rfl (by show _ < 2; decide) (by show 2 ≤ _; decide) rfl ?_
                          refine yc_S (M' := mL_cue) (d := 8) (c := 1) (s := 24) (As := [.ref 0, .int (iI 116), .ref (193 + X.length)]) (st := []) (v0 := some (.int (iI (-1001)))) (G2 := Wd τ ((X ++ [(64, [.int (iI N), .int (iI (W - a))])]) ++ [(127, [])])) dL_law_2332 okL_cue (Or.inl w_971) rfl (Nat.le_of_ble_eq_true rfl) (by decide) (by decide) (by omega) (by omega) rfl rfl (a_timeOf (d := 2) (c := 1) (s := 6) hL (by decide) (by decide) (by decide) (by omega) yv_last (t_timeOf hL (yv_len hXl (by omega)) k1 (by omega) (by omega) (by omega) (by omega) (by omega)) (fun w9 G9 h => by cases h.1) (fun E9 G9 h => Or.inl ⟨Sum.inr.inj h.1, rfl, h.2⟩)) ?_
                          refine yl_g (m2 := c + 16) (Y := [(64, [.int (iI N), .int (iI (W - a))]), (127, [])]) hA hXl (by simp only [List.append_assoc, List.cons_append, List.nil_append]) (by show _ + 2 ≤ _; omega) (fun X hA hXl => ?_)
                          refine xw_eq (pc2 := 2335) rfl rfl rfl rfl (xw_wid (c2 := c + 16) (n2 := 6000 + 24 * c + 205) (by omega) (by omega) ?_)
                          refine xz_sipush dL_law_2335 (by omega) ?_
                          refine xz_icmp_ne (tgt := 2448) dL_law_2338 (by decide) (by omega) (by omega) (fun c15 => ?_) (fun c15 => ?_)
                          · exact absurd rfl c15
                          · refine xw_aload_n 1 dL_law_2341 rfl ?_
                            refine xz_bipush dL_law_2342 (by decide) ?_
                            refine xz_iconst dL_law_2344 ?_
                            refine yv_new (N := 2) (L := [.int (iI 0), .int (iI 0)]) hXl (by omega) dL_law_2345 rfl (by decide) rfl (by omega) (by omega) ?_
                            refine xw_dup dL_law_2347 rfl ?_
                            refine xz_iconst dL_law_2348 ?_
                            refine xz_iconst dL_law_2349 ?_
                            refine yv_put (k := 0) (L2 := [.int (iI 0), .int (iI 0)]) dL_law_2350 rfl (by show _ < 2; decide) (by show 2 ≤ _; decide) rfl ?_
                            refine xw_dup dL_law_2351 rfl ?_
                            refine xz_iconst dL_law_2352 ?_
                            refine xz_iconst dL_law_2353 ?_
                            refine yv_put (k := 1) (L2 := [.int (iI 0), .int (iI 0)]) dL_law_2354 rfl (by show _ < 2; decide) (by show 2 ≤ _; decide) rfl ?_
                            refine yc_S (M' := mL_cue) (d := 8) (c := 1) (s := 24) (As := [.ref 0, .int (iI 109), .ref (193 + X.length)]) (st := []) (v0 := some (.int (iI (-1002)))) (G2 := Wd τ ((X ++ [(64, [.int (iI 0), .int (iI 0)])]) ++ [(127, [])])) dL_law_2355 okL_cue (Or.inl w_971) rfl (Nat.le_of_ble_eq_true rfl) (by decide) (by decide) (by omega) (by omega) rfl rfl (a_merge (d := 3) (c := 1) (s := 6) hL (by decide) (by decide) (by decide) (by omega) yv_last (t_merge hL (yv_len hXl (by omega)) k1 (by omega) (by omega) (by omega)) (fun w9 G9 h => by cases h.1) (fun E9 G9 h => Or.inr (Or.inl ⟨Sum.inr.inj h.1, rfl, h.2⟩))) ?_
                            refine yl_g (m2 := c + 18) (Y := [(64, [.int (iI 0), .int (iI 0)]), (127, [])]) hA hXl (by simp only [List.append_assoc, List.cons_append, List.nil_append]) (by show _ + 2 ≤ _; omega) (fun X hA hXl => ?_)
                            refine xw_eq (pc2 := 2358) rfl rfl rfl rfl (xw_wid (c2 := c + 18) (n2 := 6000 + 24 * c + 231) (by omega) (by omega) ?_)
                            refine xz_sipush dL_law_2358 (by omega) ?_
                            refine xz_icmp_ne (tgt := 2448) dL_law_2361 (by decide) (by omega) (by omega) (fun c16 => ?_) (fun c16 => ?_)
                            · exact absurd rfl c16
                            · refine xw_aload_n 1 dL_law_2364 rfl ?_
                              refine xz_bipush dL_law_2365 (by decide) ?_
                              refine xz_iconst dL_law_2367 ?_
                              refine yv_new (N := 2) (L := [.int (iI 0), .int (iI 0)]) hXl (by omega) dL_law_2368 rfl (by decide) rfl (by omega) (by omega) ?_
                              refine xw_dup dL_law_2370 rfl ?_
                              refine xz_iconst dL_law_2371 ?_
                              refine xz_iconst dL_law_2372 ?_
                              refine yv_put (k := 0) (L2 := [.int (iI 0), .int (iI 0)]) dL_law_2373 rfl (by show _ < 2; decide) (by show 2 ≤ _; decide) rfl ?_
                              refine xw_dup dL_law_2374 rfl ?_
                              refine xz_iconst dL_law_2375 ?_
                              refine xw_iload_n 2 dL_law_2376 rfl ?_
                              refine yv_put (k := 1) (L2 := [.int (iI 0), .int (iI N)]) dL_law_2377 rfl (by show _ < 2; decide) (by show 2 ≤ _; decide) rfl ?_
                              refine yc_SE (K' := fun o9 G9 => ∃ σ9 : ySg, o9 = .inl (some (.int (iI (τ (cu 0) 6 + τ (cu N) 6)))) ∧ yRg σ9 ∧ ySM τ σ9 0 N ∧ G9 = Wd σ9 (X ++ [(64, [.int (iI 0), .int (iI N)])])) (M' := mL_cue) (d := 8) (c := 1) (s := 24) (As := [.ref 0, .int (iI 109), .ref (193 + X.length)]) (st := []) dL_law_2378 okL_cue (Or.inl w_971) rfl (Nat.le_of_ble_eq_true rfl) (by decide) (by decide) (by omega) (by omega) (a_merge (d := 3) (c := 0) (s := 0) hL (by decide) (by decide) (by decide) (by omega) yv_last (s2_merge hL k1 (by omega) (by omega) (by omega) (by omega) (by omega) (by omega) (by omega) (by omega) (by omega) (by omega) (by omega)) (fun w9 G9 h => by obtain ⟨σ9, q1, q2⟩ := h; exact ⟨_, Sum.inl.inj q1, σ9, rfl, q2⟩) (fun E9 G9 h => by obtain ⟨σ9, q1, q2⟩ := h; cases q1)) (fun w9 G9 h9 => ?_) (fun E9 G9 h9 => by obtain ⟨_, h, _⟩ := h9; cases h)
                              obtain ⟨υ, e9, hr6, hf6, rfl⟩ := h9
                              cases e9
                              refine yl_g (m2 := c + 20) (Y := [(64, [.int (iI 0), .int (iI N)])]) hA hXl (by simp only [List.append_assoc, List.cons_append, List.nil_append]) (by show _ + 1 ≤ _; omega) (fun X hA hXl => ?_)
                              refine xw_eq (pc2 := 2381) rfl rfl rfl rfl (xw_wid (c2 := c + 20) (n2 := 6000 + 24 * c + 257) (by omega) (by omega) ?_)
                              obtain ⟨hF6, j1, j2, j3, hFR⟩ := h5.mg (by omega) ha hr6 hf6
                              have j4 := hF6.2.2.1 0 (by omega) (by omega)
                              refine xw_iload 6 dL_law_2381 rfl ?_
                              refine xz_icmp_ne (tgt := 2448) dL_law_2383 (by decide) (by omega) (by omega) (fun c17 => ?_) (fun c17 => ?_)
                              · exact absurd (by omega) c17
                              · refine xw_aload_n 1 dL_law_2386 rfl ?_
                                refine xz_bipush dL_law_2387 (by decide) ?_
                                refine xz_iconst dL_law_2389 ?_
                                refine yv_new (N := 1) (L := [.int (iI 0)]) hXl (by omega) dL_law_2390 rfl (by decide) rfl (by omega) (by omega) ?_
                                refine xw_dup dL_law_2392 rfl ?_
                                refine xz_iconst dL_law_2393 ?_
                                refine xz_iconst dL_law_2394 ?_
                                refine yv_put (k := 0) (L2 := [.int (iI 0)]) dL_law_2395 rfl (by show _ < 1; decide) (by show 1 ≤ _; decide) rfl ?_
                                refine yc_S (M' := mL_cue) (d := 8) (c := 1) (s := 24) (As := [.ref 0, .int (iI 101), .ref (193 + X.length)]) (st := []) (v0 := some (.int (iI (υ (cu 0) 2)))) (G2 := Wd υ (X ++ [(64, [.int (iI 0)])])) dL_law_2396 okL_cue (Or.inl w_971) rfl (Nat.le_of_ble_eq_true rfl) (by decide) (by decide) (by omega) (by omega) rfl rfl (a_endOf (d := 1) (c := 0) (s := 0) hL (by decide) (by decide) (by decide) (by omega) yv_last (s_endOf hL hr6 (by omega) (by omega) (by omega)) (fun w9 G9 h => ⟨_, Sum.inl.inj h.1, rfl, h.2⟩) (fun E9 G9 h => by cases h.1)) ?_
                                refine yl_g (m2 := c + 22) (Y := [(64, [.int (iI 0)])]) hA hXl (by simp only [List.append_assoc, List.cons_append, List.nil_append]) (by show _ + 1 ≤ _; omega) (fun X hA hXl => ?_)
                                refine xw_eq (pc2 := 2399) rfl rfl rfl rfl (xw_wid (c2 := c + 22) (n2 := 6000 + 24 * c + 282) (by omega) (by omega) ?_)
                                refine xw_aload 4 dL_law_2399 rfl ?_
                                refine xz_iconst dL_law_2401 ?_
                                refine yh_aldF 1 hA rfl dL_law_2402 (by decide) (by decide) ?_
                                refine xz_icmp_ne (tgt := 2448) dL_law_2403 (by decide) (by omega) (by omega) (fun c18 => ?_) (fun c18 => ?_)
                                · exact absurd (by omega) c18
                                · refine xw_aload_n 1 dL_law_2406 rfl ?_
                                  refine xz_bipush dL_law_2407 (by decide) ?_
                                  refine xz_iconst dL_law_2409 ?_
                                  refine yv_new (N := 1) (L := [.int (iI 0)]) hXl (by omega) dL_law_2410 rfl (by decide) rfl (by omega) (by omega) ?_
                                  refine xw_dup dL_law_2412 rfl ?_
                                  refine xz_iconst dL_law_2413 ?_
                                  refine xw_iload_n 2 dL_law_2414 rfl ?_
                                  refine yv_put (k := 0) (L2 := [.int (iI N)]) dL_law_2415 rfl (by show _ < 1; decide) (by show 1 ≤ _; decide) rfl ?_
                                  refine yc_S (M' := mL_cue) (d := 8) (c := 1) (s := 24) (As := [.ref 0, .int (iI 115), .ref (193 + X.length)]) (st := []) (v0 := some (.int (iI (-1005)))) (G2 := Wd υ ((X ++ [(64, [.int (iI N)])]) ++ [(127, [])])) dL_law_2416 okL_cue (Or.inl w_971) rfl (Nat.le_of_ble_eq_true rfl) (by decide) (by decide) (by omega) (by omega) rfl rfl (a_startOf (d := 7) (c := 1) (s := 6) hL (by decide) (by decide) (by decide) (by omega) yv_last (n_startOf (a := 0) hL (yv_len hXl (by omega)) hr6 (by omega) (by omega)) (fun w9 G9 h => by cases h.1) (fun E9 G9 h => Or.inr (Or.inr (Or.inr (Or.inr (⟨Sum.inr.inj h.1, rfl, h.2⟩)))))) ?_
                                  refine yl_g (m2 := c + 24) (Y := [(64, [.int (iI N)]), (127, [])]) hA hXl (by simp only [List.append_assoc, List.cons_append, List.nil_append]) (by show _ + 2 ≤ _; omega) (fun X hA hXl => ?_)
                                  refine xw_eq (pc2 := 2419) rfl rfl rfl rfl (xw_wid (c2 := c + 24) (n2 := 6000 + 24 * c + 307) (by omega) (by omega) ?_)
                                  refine xz_sipush dL_law_2419 (by omega) ?_
                                  refine xz_icmp_ne (tgt := 2448) dL_law_2422 (by decide) (by omega) (by omega) (fun c19 => ?_) (fun c19 => ?_)
                                  · exact absurd rfl c19
                                  · refine xw_aload_n 1 dL_law_2425 rfl ?_
                                    refine xz_bipush dL_law_2426 (by decide) ?_
                                    refine xz_iconst dL_law_2428 ?_
                                    refine yv_new (N := 2) (L := [.int (iI 0), .int (iI 0)]) hXl (by omega) dL_law_2429 rfl (by decide) rfl (by omega) (by omega) ?_
                                    refine xw_dup dL_law_2431 rfl ?_
                                    refine xz_iconst dL_law_2432 ?_
                                    refine xz_iconst dL_law_2433 ?_
                                    refine yv_put (k := 0) (L2 := [.int (iI 0), .int (iI 0)]) dL_law_2434 rfl (by show _ < 2; decide) (by show 2 ≤ _; decide) rfl ?_
                                    refine xw_dup dL_law_2435 rfl ?_
                                    refine xz_iconst dL_law_2436 ?_
                                    refine xw_iload_n 2 dL_law_2437 rfl ?_
                                    refine yv_put (k := 1) (L2 := [.int (iI 0), .int (iI N)]) dL_law_2438 rfl (by show _ < 2; decide) (by show 2 ≤ _; decide) rfl ?_
                                    refine yc_S (M' := mL_cue) (d := 8) (c := 1) (s := 24) (As := [.ref 0, .int (iI 109), .ref (193 + X.length)]) (st := []) (v0 := some (.int (iI (-1005)))) (G2 := Wd υ ((X ++ [(64, [.int (iI 0), .int (iI N)])]) ++ [(127, [])])) dL_law_2439 okL_cue (Or.inl w_971) rfl (Nat.le_of_ble_eq_true rfl) (by decide) (by decide) (by omega) (by omega) rfl rfl (a_merge (d := 7) (c := 1) (s := 6) hL (by decide) (by decide) (by decide) (by omega) yv_last (n_merge hL (yv_len hXl (by omega)) hr6 (by omega) (by omega) (by omega) (by omega) (by omega)) (fun w9 G9 h => by cases h.1) (fun E9 G9 h => Or.inr (Or.inr (Or.inr (Or.inr (⟨Sum.inr.inj h.1, rfl, h.2⟩)))))) ?_
                                    refine yl_g (m2 := c + 26) (Y := [(64, [.int (iI 0), .int (iI N)]), (127, [])]) hA hXl (by simp only [List.append_assoc, List.cons_append, List.nil_append]) (by show _ + 2 ≤ _; omega) (fun X hA hXl => ?_)
                                    refine xw_eq (pc2 := 2442) rfl rfl rfl rfl (xw_wid (c2 := c + 26) (n2 := 6000 + 24 * c + 333) (by omega) (by omega) ?_)
                                    refine xz_sipush dL_law_2442 (by omega) ?_
                                    refine xz_icmp_eq (tgt := 2450) dL_law_2445 (by decide) (by omega) (by omega) (fun c20 => ?_) (fun c20 => ?_)
                                    · refine xw_loc [(1, .ref 0), (2, .int (iI N)), (5, .ref aR)] (fun q9 hq9 => by simp only [List.mem_cons, List.not_mem_nil, or_false] at hq9 ⊢; rcases hq9 with h | h | h <;> subst h <;> simp) ?_
                                      refine xw_wid (c2 := c + 26) (n2 := 6000 + 24 * (c + 26)) (by omega) (by omega) ?_
                                      exact L_ref1 hL d4 (hA.sub [0] rfl (by decide)) (c := c + 26) hXl (by omega) hF6 hFR
                                    · exact absurd rfl c20
              · exact absurd (by omega) c9
            · exact absurd c8 (by omega)
        · exact absurd rfl c4
theorem L_words (hL : L.stackTraces = false) {σ : ySg} (hLb : O.2.2.2.2.1 < 2147483648) {N : Int} {aS aE aR : Nat} {S E Rg : Int → Int} {W a l9 l10 : Int} (w : Int) (h0 : 0 ≤ w) (h1 : w ≤ W) {X : List xOb} (hA : yHs ((aR, iaL 24 Rg) :: (aE, iaL 24 E) :: (aS, iaL 24 S) :: []) X) {c : Nat} (hXl : X.length ≤ c) (hc : (c : Int) ≤ 30000 + 10 * w) (hW : 2 ≤ W ∧ W ≤ 12) (ha : 1 ≤ a ∧ a < W) (hB : yB4 σ N S E Rg) (h6 : σ (cu 0) 6 = w) (h06 : w = 0 ∨ σ 0 6 = 0) (h9 : l9 = yLt (σ (cw 0)) w) (h10 : l10 = yLt (σ (cw 0)) (min w a)) : xWP L O mL_law (xR 13 828823 6605674) yKL 1955 [(0, .ref xBig), (1, .ref 0), (2, .int (iI N)), (3, .ref aS), (4, .ref aE), (5, .ref aR), (8, .int (iI W)), (9, .int (iI l9)), (10, .int (iI l10)), (11, .int (iI a)), (12, .int (iI w))] [] (Wd σ X) c (6000 + 24 * c) := by
  obtain ⟨hr, d2, d3, d4, d5, d7, d8, d9⟩ := id hB
  have d30 := d3 0 (by omega) (by omega)
  have b9 := yLt_bd (σ (cw 0)) (j := w) (by omega)
  have b10 := yLt_bd (σ (cw 0)) (j := min w a) (by omega)
  rw [← h9] at b9
  rw [← h10] at b10
  refine xw_iload 10 dL_law_1955 rfl ?_
  refine xw_iload 6 dL_law_1957 rfl ?_
  refine xz_icmp_ge (tgt := 2051) dL_law_1959 (by decide) (by omega) (by omega) (fun c1 => ?_) (fun c1 => ?_)
  · refine xw_loc [(0, .ref xBig), (1, .ref 0), (2, .int (iI N)), (3, .ref aS), (4, .ref aE), (5, .ref aR), (8, .int (iI W)), (9, .int (iI l9)), (10, .int (iI l10)), (11, .int (iI a))] (fun q9 hq9 => by simp only [List.mem_cons, List.not_mem_nil, or_false] at hq9 ⊢; rcases hq9 with h | h | h | h | h | h | h | h | h | h <;> subst h <;> simp) ?_
    refine xw_wid (c2 := c) (n2 := 6000 + 24 * (c)) (by omega) (by omega) ?_
    exact L_split hL hA (c := c) hXl (by omega) hB (W := W) (by omega) (by omega) hW ha (by rw [h9, show w = W by omega]) (by rw [h10, show min w a = a by omega])
  · refine xz_iconst dL_law_1962 ?_
    refine xw_aload_n 0 dL_law_1963 rfl ?_
    refine xz_bipush dL_law_1964 (by decide) ?_
    refine xw_iload 10 dL_law_1966 rfl ?_
    refine xz_iadd dL_law_1968 ?_
    refine yc_SE (M' := mL_at) (d := 0) (c := 0) (s := 0) (As := [.ref xBig, .int (iI (42 + w))]) (st := [.int (iI 1)]) dL_law_1969 okL_at (Or.inl w_709) rfl (Nat.le_of_ble_eq_true rfl) (by decide) (by decide) (by omega) (by omega) (s_at hL hLb (by omega)) (fun w9 G9 h9 => ?_) (fun E9 G9 h9 => by obtain ⟨_, h, _⟩ := h9; cases h)
    obtain ⟨x2, e9, rfl⟩ := h9
    cases e9
    refine xz_bipush dL_law_1972 (by decide) ?_
    refine yc_SE (M' := mL_some) (d := 0) (c := 0) (s := 0) (As := [.int x2, .int (iI 99)]) (st := [.int (iI 1)]) dL_law_1974 okL_some (Or.inl w_712) rfl (Nat.le_of_ble_eq_true rfl) (by decide) (by decide) (by omega) (by omega) (s_some hL (by omega)) (fun w9 G9 h9 => ?_) (fun E9 G9 h9 => by obtain ⟨_, h, _⟩ := h9; cases h)
    obtain ⟨z3, e9, hz3, rfl⟩ := h9
    cases e9
    refine xz_bipush dL_law_1977 (by decide) ?_
    refine xz_irem dL_law_1979 (by omega) (by decide) ?_
    refine xz_iadd dL_law_1980 ?_
    refine xw_istore (l2 := [(0, .ref xBig), (1, .ref 0), (2, .int (iI N)), (3, .ref aS), (4, .ref aE), (5, .ref aR), (8, .int (iI W)), (9, .int (iI l9)), (10, .int (iI l10)), (11, .int (iI a)), (12, .int (iI w)), (13, .int (iI (1 + (z3 % 99))))]) dL_law_1981 (by decide) rfl rfl ?_
    refine xw_iload 7 dL_law_1983 rfl ?_
    refine xw_iload 11 dL_law_1985 rfl ?_
    refine xz_bipush dL_law_1987 (by decide) ?_
    refine xz_irem dL_law_1989 (by omega) (by decide) ?_
    refine xz_iconst dL_law_1990 ?_
    refine xz_iadd dL_law_1991 ?_
    refine xz_iadd dL_law_1992 ?_
    refine xw_istore (l2 := [(0, .ref xBig), (1, .ref 0), (2, .int (iI N)), (3, .ref aS), (4, .ref aE), (5, .ref aR), (8, .int (iI W)), (9, .int (iI (l9 + (((1 + (z3 % 99)) % 9) + 1)))), (10, .int (iI l10)), (11, .int (iI a)), (12, .int (iI w)), (13, .int (iI (1 + (z3 % 99))))]) dL_law_1993 (by decide) rfl rfl ?_
    refine xw_iload 8 dL_law_1995 rfl ?_
    refine xw_iload 10 dL_law_1997 rfl ?_
    refine xw_iload 9 dL_law_1999 rfl ?_
    refine xz_icmp_ge (tgt := 2014) dL_law_2001 (by decide) (by omega) (by omega) (fun c4 => ?_) (fun c4 => ?_)
    · refine xz_iconst dL_law_2014 ?_
      refine xz_iadd dL_law_2015 ?_
      refine xw_istore (l2 := [(0, .ref xBig), (1, .ref 0), (2, .int (iI N)), (3, .ref aS), (4, .ref aE), (5, .ref aR), (8, .int (iI W)), (9, .int (iI (l9 + (((1 + (z3 % 99)) % 9) + 1)))), (10, .int (iI (l10 + 0))), (11, .int (iI a)), (12, .int (iI w)), (13, .int (iI (1 + (z3 % 99))))]) dL_law_2016 (by decide) rfl rfl ?_
      refine xw_aload_n 1 dL_law_2018 rfl ?_
      refine xz_bipush dL_law_2019 (by decide) ?_
      refine xz_iconst dL_law_2021 ?_
      refine yv_new (N := 2) (L := [.int (iI 0), .int (iI 0)]) hXl (by omega) dL_law_2022 rfl (by decide) rfl (by omega) (by omega) ?_
      refine xw_dup dL_law_2024 rfl ?_
      refine xz_iconst dL_law_2025 ?_
      refine xz_iconst dL_law_2026 ?_
      refine yv_put (k := 0) (L2 := [.int (iI 0), .int (iI 0)]) dL_law_2027 rfl (by show _ < 2; decide) (by show 2 ≤ _; decide) rfl ?_
      refine xw_dup dL_law_2028 rfl ?_
      refine xz_iconst dL_law_2029 ?_
      refine xw_iload 11 dL_law_2030 rfl ?_
      refine yv_put (k := 1) (L2 := [.int (iI 0), .int (iI (1 + (z3 % 99)))]) dL_law_2032 rfl (by show _ < 2; decide) (by show 2 ≤ _; decide) rfl ?_
      refine yc_S (M' := mL_cue) (d := 8) (c := 1) (s := 24) (As := [.ref 0, .int (iI 119), .ref (193 + X.length)]) (st := []) (v0 := some (.int (iI (σ (cu 0) 6 + 1)))) (G2 := Wd (yup (yfl (yup (yup σ (cw 0) (σ (cu 0) 6) (1 + (z3 % 99))) (cu 0) 6 (σ (cu 0) 6 + 1)) (ct 0) 12 (-1)) 0 6 0) (X ++ [(64, [.int (iI 0), .int (iI (1 + (z3 % 99)))])])) dL_law_2033 okL_cue (Or.inl w_971) rfl (Nat.le_of_ble_eq_true rfl) (by decide) (by decide) (by omega) (by omega) rfl rfl (a_addWord (d := 2) (c := 0) (s := 0) hL (by decide) (by decide) (by decide) (by omega) yv_last (s_addWord hL hr (by omega) (by omega) (by omega) (by omega) (by omega)) (fun w9 G9 h => ⟨_, Sum.inl.inj h.1, rfl, h.2⟩) (fun E9 G9 h => by cases h.1)) ?_
      refine yl_g (m2 := c + 2) (Y := [(64, [.int (iI 0), .int (iI (1 + (z3 % 99)))])]) hA hXl (by simp only [List.append_assoc, List.cons_append, List.nil_append]) (by show _ + 1 ≤ _; omega) (fun X hA hXl => ?_)
      refine xw_eq (pc2 := 2036) rfl rfl rfl rfl (xw_wid (c2 := c + 2) (n2 := 6000 + 24 * c + 26) (by omega) (by omega) ?_)
      refine xw_iload 10 dL_law_2036 rfl ?_
      refine xz_iconst dL_law_2038 ?_
      refine xz_iadd dL_law_2039 ?_
      refine xz_icmp_eq (tgt := 2045) dL_law_2040 (by decide) (by omega) (by omega) (fun c5 => ?_) (fun c5 => ?_)
      · refine xz_iinc (l2 := [(0, .ref xBig), (1, .ref 0), (2, .int (iI N)), (3, .ref aS), (4, .ref aE), (5, .ref aR), (8, .int (iI W)), (9, .int (iI (l9 + (((1 + (z3 % 99)) % 9) + 1)))), (10, .int (iI (l10 + 0))), (11, .int (iI a)), (12, .int (iI (w + 1))), (13, .int (iI (1 + (z3 % 99))))]) 10 dL_law_2045 rfl (by decide) rfl rfl ?_
        refine xw_goto (tgt := 1955) dL_law_2048 (by decide) ?_
        obtain ⟨e1, e2, e3, e4, e5⟩ := hB.wd (b := 1 + (z3 % 99)) h6 (by omega) (by omega)
        refine xw_loc [(0, .ref xBig), (1, .ref 0), (2, .int (iI N)), (3, .ref aS), (4, .ref aE), (5, .ref aR), (8, .int (iI W)), (9, .int (iI (l9 + (((1 + (z3 % 99)) % 9) + 1)))), (10, .int (iI (l10 + 0))), (11, .int (iI a)), (12, .int (iI (w + 1)))] (fun q9 hq9 => by simp only [List.mem_cons, List.not_mem_nil, or_false] at hq9 ⊢; rcases hq9 with h | h | h | h | h | h | h | h | h | h | h <;> subst h <;> simp) ?_
        refine xw_wid (c2 := c + 2) (n2 := 6000 + 24 * (c + 2)) (by omega) (by omega) ?_
        exact L_words hL hLb (σ := yWdW σ (1 + (z3 % 99))) (w + 1) (by omega) (by omega) hA (c := c + 2) hXl (by omega) hW ha e1 e2 (Or.inr e3) (by rw [e5]; omega) (by first | (rw [e4 (min (w + 1) a) (by omega), show min (w + 1) a = min w a by omega]; omega) | (rw [show min (w + 1) a = w + 1 by omega, e5]; rw [show min w a = w by omega] at h10; omega))
      · exact absurd (by omega) c5
    · refine xw_iload 11 dL_law_2004 rfl ?_
      refine xz_bipush dL_law_2006 (by decide) ?_
      refine xz_irem dL_law_2008 (by omega) (by decide) ?_
      refine xz_iconst dL_law_2009 ?_
      refine xz_iadd dL_law_2010 ?_
      refine xw_goto (tgt := 2015) dL_law_2011 (by decide) ?_
      refine xz_iadd dL_law_2015 ?_
      refine xw_istore (l2 := [(0, .ref xBig), (1, .ref 0), (2, .int (iI N)), (3, .ref aS), (4, .ref aE), (5, .ref aR), (8, .int (iI W)), (9, .int (iI (l9 + (((1 + (z3 % 99)) % 9) + 1)))), (10, .int (iI (l10 + (((1 + (z3 % 99)) % 9) + 1)))), (11, .int (iI a)), (12, .int (iI w)), (13, .int (iI (1 + (z3 % 99))))]) dL_law_2016 (by decide) rfl rfl ?_
      refine xw_aload_n 1 dL_law_2018 rfl ?_
      refine xz_bipush dL_law_2019 (by decide) ?_
      refine xz_iconst dL_law_2021 ?_
      refine yv_new (N := 2) (L := [.int (iI 0), .int (iI 0)]) hXl (by omega) dL_law_2022 rfl (by decide) rfl (by omega) (by omega) ?_
      refine xw_dup dL_law_2024 rfl ?_
      refine xz_iconst dL_law_2025 ?_
      refine xz_iconst dL_law_2026 ?_
      refine yv_put (k := 0) (L2 := [.int (iI 0), .int (iI 0)]) dL_law_2027 rfl (by show _ < 2; decide) (by show 2 ≤ _; decide) rfl ?_
      refine xw_dup dL_law_2028 rfl ?_
      refine xz_iconst dL_law_2029 ?_
      refine xw_iload 11 dL_law_2030 rfl ?_
      refine yv_put (k := 1) (L2 := [.int (iI 0), .int (iI (1 + (z3 % 99)))]) dL_law_2032 rfl (by show _ < 2; decide) (by show 2 ≤ _; decide) rfl ?_
      refine yc_S (M' := mL_cue) (d := 8) (c := 1) (s := 24) (As := [.ref 0, .int (iI 119), .ref (193 + X.length)]) (st := []) (v0 := some (.int (iI (σ (cu 0) 6 + 1)))) (G2 := Wd (yup (yfl (yup (yup σ (cw 0) (σ (cu 0) 6) (1 + (z3 % 99))) (cu 0) 6 (σ (cu 0) 6 + 1)) (ct 0) 12 (-1)) 0 6 0) (X ++ [(64, [.int (iI 0), .int (iI (1 + (z3 % 99)))])])) dL_law_2033 okL_cue (Or.inl w_971) rfl (Nat.le_of_ble_eq_true rfl) (by decide) (by decide) (by omega) (by omega) rfl rfl (a_addWord (d := 2) (c := 0) (s := 0) hL (by decide) (by decide) (by decide) (by omega) yv_last (s_addWord hL hr (by omega) (by omega) (by omega) (by omega) (by omega)) (fun w9 G9 h => ⟨_, Sum.inl.inj h.1, rfl, h.2⟩) (fun E9 G9 h => by cases h.1)) ?_
      refine yl_g (m2 := c + 2) (Y := [(64, [.int (iI 0), .int (iI (1 + (z3 % 99)))])]) hA hXl (by simp only [List.append_assoc, List.cons_append, List.nil_append]) (by show _ + 1 ≤ _; omega) (fun X hA hXl => ?_)
      refine xw_eq (pc2 := 2036) rfl rfl rfl rfl (xw_wid (c2 := c + 2) (n2 := 6000 + 24 * c + 26) (by omega) (by omega) ?_)
      refine xw_iload 10 dL_law_2036 rfl ?_
      refine xz_iconst dL_law_2038 ?_
      refine xz_iadd dL_law_2039 ?_
      refine xz_icmp_eq (tgt := 2045) dL_law_2040 (by decide) (by omega) (by omega) (fun c6 => ?_) (fun c6 => ?_)
      · refine xz_iinc (l2 := [(0, .ref xBig), (1, .ref 0), (2, .int (iI N)), (3, .ref aS), (4, .ref aE), (5, .ref aR), (8, .int (iI W)), (9, .int (iI (l9 + (((1 + (z3 % 99)) % 9) + 1)))), (10, .int (iI (l10 + (((1 + (z3 % 99)) % 9) + 1)))), (11, .int (iI a)), (12, .int (iI (w + 1))), (13, .int (iI (1 + (z3 % 99))))]) 10 dL_law_2045 rfl (by decide) rfl rfl ?_
        refine xw_goto (tgt := 1955) dL_law_2048 (by decide) ?_
        obtain ⟨e1, e2, e3, e4, e5⟩ := hB.wd (b := 1 + (z3 % 99)) h6 (by omega) (by omega)
        refine xw_loc [(0, .ref xBig), (1, .ref 0), (2, .int (iI N)), (3, .ref aS), (4, .ref aE), (5, .ref aR), (8, .int (iI W)), (9, .int (iI (l9 + (((1 + (z3 % 99)) % 9) + 1)))), (10, .int (iI (l10 + (((1 + (z3 % 99)) % 9) + 1)))), (11, .int (iI a)), (12, .int (iI (w + 1)))] (fun q9 hq9 => by simp only [List.mem_cons, List.not_mem_nil, or_false] at hq9 ⊢; rcases hq9 with h | h | h | h | h | h | h | h | h | h | h <;> subst h <;> simp) ?_
        refine xw_wid (c2 := c + 2) (n2 := 6000 + 24 * (c + 2)) (by omega) (by omega) ?_
        exact L_words hL hLb (σ := yWdW σ (1 + (z3 % 99))) (w + 1) (by omega) (by omega) hA (c := c + 2) hXl (by omega) hW ha e1 e2 (Or.inr e3) (by rw [e5]; omega) (by first | (rw [e4 (min (w + 1) a) (by omega), show min (w + 1) a = min w a by omega]; omega) | (rw [show min (w + 1) a = w + 1 by omega, e5]; rw [show min w a = w by omega] at h10; omega))
      · exact absurd (by omega) c6
termination_by (W - w).toNat
theorem L_ws (hL : L.stackTraces = false) {σ : ySg} (hLb : O.2.2.2.2.1 < 2147483648) {N : Int} {aS aE aR : Nat} {S E Rg : Int → Int}  {X : List xOb} (hA : yHs ((aR, iaL 24 Rg) :: (aE, iaL 24 E) :: (aS, iaL 24 S) :: []) X) {c : Nat} (hXl : X.length ≤ c) (hc : c ≤ 29000) (hB : yB4 σ N S E Rg) (h6 : σ (cu 0) 6 = 0) : xWP L O mL_law (xR 13 828823 6605674) yKL 1914 [(0, .ref xBig), (1, .ref 0), (2, .int (iI N)), (3, .ref aS), (4, .ref aE), (5, .ref aR)] [] (Wd σ X) c (6000 + 24 * c) := by
  refine xz_iconst dL_law_1914 ?_
  refine xw_aload_n 0 dL_law_1915 rfl ?_
  refine xz_bipush dL_law_1916 (by decide) ?_
  refine yc_SE (M' := mL_at) (d := 0) (c := 0) (s := 0) (As := [.ref xBig, .int (iI 40)]) (st := [.int (iI 2)]) dL_law_1918 okL_at (Or.inl w_709) rfl (Nat.le_of_ble_eq_true rfl) (by decide) (by decide) (by omega) (by omega) (s_at hL hLb (by omega)) (fun w9 G9 h9 => ?_) (fun E9 G9 h9 => by obtain ⟨_, h, _⟩ := h9; cases h)
  obtain ⟨x1, e9, rfl⟩ := h9
  cases e9
  refine xz_bipush dL_law_1921 (by decide) ?_
  refine yc_SE (M' := mL_some) (d := 0) (c := 0) (s := 0) (As := [.int x1, .int (iI 10)]) (st := [.int (iI 2)]) dL_law_1923 okL_some (Or.inl w_712) rfl (Nat.le_of_ble_eq_true rfl) (by decide) (by decide) (by omega) (by omega) (s_some hL (by omega)) (fun w9 G9 h9 => ?_) (fun E9 G9 h9 => by obtain ⟨_, h, _⟩ := h9; cases h)
  obtain ⟨z2, e9, hz2, rfl⟩ := h9
  cases e9
  refine xz_iadd dL_law_1926 ?_
  refine xw_istore (l2 := [(0, .ref xBig), (1, .ref 0), (2, .int (iI N)), (3, .ref aS), (4, .ref aE), (5, .ref aR), (8, .int (iI (2 + z2)))]) dL_law_1927 (by decide) rfl rfl ?_
  refine xz_iconst dL_law_1929 ?_
  refine xw_istore (l2 := [(0, .ref xBig), (1, .ref 0), (2, .int (iI N)), (3, .ref aS), (4, .ref aE), (5, .ref aR), (8, .int (iI (2 + z2))), (9, .int (iI 0))]) dL_law_1930 (by decide) rfl rfl ?_
  refine xz_iconst dL_law_1932 ?_
  refine xw_istore (l2 := [(0, .ref xBig), (1, .ref 0), (2, .int (iI N)), (3, .ref aS), (4, .ref aE), (5, .ref aR), (8, .int (iI (2 + z2))), (9, .int (iI 0)), (10, .int (iI 0))]) dL_law_1933 (by decide) rfl rfl ?_
  refine xz_iconst dL_law_1935 ?_
  refine xw_aload_n 0 dL_law_1936 rfl ?_
  refine xz_bipush dL_law_1937 (by decide) ?_
  refine yc_SE (M' := mL_at) (d := 0) (c := 0) (s := 0) (As := [.ref xBig, .int (iI 41)]) (st := [.int (iI 1)]) dL_law_1939 okL_at (Or.inl w_709) rfl (Nat.le_of_ble_eq_true rfl) (by decide) (by decide) (by omega) (by omega) (s_at hL hLb (by omega)) (fun w9 G9 h9 => ?_) (fun E9 G9 h9 => by obtain ⟨_, h, _⟩ := h9; cases h)
  obtain ⟨x3, e9, rfl⟩ := h9
  cases e9
  refine xw_iload 6 dL_law_1942 rfl ?_
  refine xz_iconst dL_law_1944 ?_
  refine xz_isub dL_law_1945 ?_
  refine yc_SE (M' := mL_some) (d := 0) (c := 0) (s := 0) (As := [.int x3, .int (iI ((2 + z2) - 1))]) (st := [.int (iI 1)]) dL_law_1946 okL_some (Or.inl w_712) rfl (Nat.le_of_ble_eq_true rfl) (by decide) (by decide) (by omega) (by omega) (s_some hL (by omega)) (fun w9 G9 h9 => ?_) (fun E9 G9 h9 => by obtain ⟨_, h, _⟩ := h9; cases h)
  obtain ⟨z4, e9, hz4, rfl⟩ := h9
  cases e9
  refine xz_iadd dL_law_1949 ?_
  refine xw_istore (l2 := [(0, .ref xBig), (1, .ref 0), (2, .int (iI N)), (3, .ref aS), (4, .ref aE), (5, .ref aR), (8, .int (iI (2 + z2))), (9, .int (iI 0)), (10, .int (iI 0)), (11, .int (iI (1 + z4)))]) dL_law_1950 (by decide) rfl rfl ?_
  refine xz_iconst dL_law_1952 ?_
  refine xw_istore (l2 := [(0, .ref xBig), (1, .ref 0), (2, .int (iI N)), (3, .ref aS), (4, .ref aE), (5, .ref aR), (8, .int (iI (2 + z2))), (9, .int (iI 0)), (10, .int (iI 0)), (11, .int (iI (1 + z4))), (12, .int (iI 0))]) dL_law_1953 (by decide) rfl rfl ?_
  refine xw_wid (c2 := c) (n2 := 6000 + 24 * (c)) (by omega) (by omega) ?_
  exact L_words hL hLb (W := 2 + z2) (a := 1 + z4) 0 (by omega) (by omega) hA (c := c) hXl (by omega) (by omega) (by omega) hB h6 (Or.inl rfl) rfl (by rw [show min 0 (1 + z4) = 0 by omega]; rfl)
end Y41

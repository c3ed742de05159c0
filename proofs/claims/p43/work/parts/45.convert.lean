theorem hmul60 (a b : Int) (ha : 0 ≤ a ∧ a ≤ 99999) (hb : 1 ≤ b ∧ b ≤ 60) : 0 ≤ a * b ∧ a * b ≤ 5999940 := by
  refine ⟨Int.mul_nonneg (by omega) (by omega), ?_⟩
  have h : a * b ≤ 99999 * 60 := Int.mul_le_mul (by omega) (by omega) (by omega) (by omega)
  omega
theorem ycmp (a b : Int) : (cmpI a b = -1 ∧ a < b) ∨ (cmpI a b = 0 ∧ a = b) ∨ (cmpI a b = 1 ∧ b < a) := by
  unfold cmpI
  by_cases h : a < b
  · rw [if_pos h]; omega
  · by_cases h2 : a = b
    · rw [if_neg h, if_pos h2]; omega
    · rw [if_neg h, if_neg h2]; omega
theorem ycv {S E n d : Int} (hs : 0 ≤ S ∧ S < E ∧ E ≤ 99999) (hn : 1 ≤ n) (hd : 1 ≤ d) (h : E * n / d ≤ 99999) : S * n / d < 99999 := by
  refine Int.lt_of_not_ge (fun q => ?_)
  have q1 : 99999 * d ≤ S * n := (Int.le_ediv_iff_mul_le (by omega)).mp q
  have q2 : E * n < 100000 * d := (Int.ediv_lt_iff_lt_mul (by omega)).mp (by omega)
  have q3 : (S + 1) * n ≤ E * n := Int.mul_le_mul_of_nonneg_right (by omega) (by omega)
  rw [Int.add_mul] at q3
  have q4 : S * n ≤ 99998 * n := Int.mul_le_mul_of_nonneg_right (by omega) (by omega)
  omega
/-- whether the ends fit, told of the first k -/
def yFa (E : Int → Int) (n d N k f : Int) : Prop := (f = 1 ∧ ∀ i, 0 ≤ i → i < k → E i * n / d ≤ 99999) ∨ (f = 0 ∧ ∃ i, (0 ≤ i ∧ i < N) ∧ 99999 < E i * n / d)
def yFb (E C : Int → Int) (n d N cm k f : Int) : Prop := (f = 1 ∧ (∀ i, 0 ≤ i → i < N → E i * n / d ≤ 99999) ∧ ∀ i, 0 ≤ i → i < k → C i * n / d ≤ 99999) ∨ (f = 0 ∧ ((∃ i, (0 ≤ i ∧ i < N) ∧ 99999 < E i * n / d) ∨ ∃ i, (0 ≤ i ∧ i < cm) ∧ 99999 < C i * n / d))
section YFA
variable {E C : Int → Int} {n d N cm k f : Int}
theorem yFa.z (h : yFa E n d N k f) (hf : f = 0) : yFa E n d N (k + 1) 0 := by
  rcases h with ⟨h1, _⟩ | ⟨_, h2⟩
  · omega
  · exact Or.inr ⟨rfl, h2⟩
theorem yFa.no (hk : 0 ≤ k ∧ k < N) (h : 99999 < E k * n / d) : yFa E n d N (k + 1) 0 := Or.inr ⟨rfl, k, hk, h⟩
theorem yFa.y (h : yFa E n d N k f) (hf : ¬ f = 0) (q : E k * n / d ≤ 99999) : yFa E n d N (k + 1) 1 := by
  rcases h with ⟨_, h2⟩ | ⟨h1, _⟩
  · exact Or.inl ⟨rfl, fun i a b => by by_cases e : i = k; (rw [e]; exact q); exact h2 i a (by omega)⟩
  · omega
theorem yFa.b (h : yFa E n d N N f) : yFb E C n d N cm 0 f := by
  rcases h with ⟨h1, h2⟩ | ⟨h1, h2⟩
  · exact Or.inl ⟨h1, h2, fun i a b => absurd b (by omega)⟩
  · exact Or.inr ⟨h1, Or.inl h2⟩
theorem yFb.z (h : yFb E C n d N cm k f) (hf : f = 0) : yFb E C n d N cm (k + 1) 0 := by
  rcases h with ⟨h1, _⟩ | ⟨_, h2⟩
  · omega
  · exact Or.inr ⟨rfl, h2⟩
theorem yFb.no (hk : 0 ≤ k ∧ k < cm) (h : 99999 < C k * n / d) : yFb E C n d N cm (k + 1) 0 := Or.inr ⟨rfl, Or.inr ⟨k, hk, h⟩⟩
theorem yFb.y (h : yFb E C n d N cm k f) (hf : ¬ f = 0) (q : C k * n / d ≤ 99999) : yFb E C n d N cm (k + 1) 1 := by
  rcases h with ⟨_, h2, h3⟩ | ⟨h1, _⟩
  · exact Or.inl ⟨rfl, h2, fun i a b => by by_cases e : i = k; (rw [e]; exact q); exact h3 i a (by omega)⟩
  · omega
theorem yFa.r (h : yFa E n d N k f) : 0 ≤ f ∧ f ≤ 1 := by rcases h with ⟨h1, _⟩ | ⟨h1, _⟩ <;> omega
theorem yFb.r (h : yFb E C n d N cm k f) : 0 ≤ f ∧ f ≤ 1 := by rcases h with ⟨h1, _⟩ | ⟨h1, _⟩ <;> omega
end YFA
section Y45
variable {L : Launch} {O : xWd}
theorem L_cvE (hL : L.stackTraces = false) {σ : ySg} {N cm v : Int} {aS aE aR aC aP aQ : Nat} {S E Rg C C1 D S1 E1 : Int → Int} (j : Int) (hj : 0 ≤ j ∧ j < 4) (hv : 0 ≤ v ∧ v < 1000000) (hK : yK7 L O aS aE aR aC N cm Rg (j + 1)) {z n d f : Int} (k : Int) (h0 : 0 ≤ k) (h1 : k ≤ cm) {X : List xOb} (hA : yHs ((aQ, iaL 24 E) :: (aP, iaL 24 S) :: (aC, iaL 20 C1) :: (aR, iaL 24 Rg) :: (aE, iaL 24 E1) :: (aS, iaL 24 S1) :: []) X) {c : Nat} (hXl : X.length ≤ c) (hc : (c : Int) ≤ 20040 + 100 * j) (hB : yB3 σ N S1 E1 Rg cm D) (hz : -1000000 ≤ z ∧ z ≤ 1000000) (hb0 : ∀ k, 0 ≤ k → k < N → 0 ≤ S k ∧ S k < E k ∧ E k ≤ 99999) (hf1 : f = 1) (hn : 1 ≤ n ∧ n ≤ 60) (hd : 1 ≤ d ∧ d ≤ 60) (hC : ∀ i, 0 ≤ i → i < cm → 0 ≤ C i ∧ C i ≤ 99999) (hD : ∀ i, 0 ≤ i → i < cm → D i = C i * n / d) (hin1 : ∀ i, 0 ≤ i → i < cm → i < k → C1 i = D i) (hin2 : ∀ i, k ≤ i → C1 i = C i) : xWP L O mL_law (xR 13 828823 6605674) yKL 1373 [(0, .ref xBig), (1, .ref 0), (2, .int (iI N)), (3, .ref aS), (4, .ref aE), (5, .ref aR), (6, .ref aC), (7, .int (iI cm)), (8, .int (iI j)), (9, .int (iI v)), (10, .int (iI 0)), (11, .int (iI z)), (12, .ref aP), (13, .ref aQ), (14, .int (iI n)), (15, .int (iI d)), (16, .int (iI f)), (17, .int (iI k))] [] (Wd σ X) c (6000 + 24 * c) := by
  obtain ⟨hr, d2, d3, d4, d5, d6, d7, d8, ⟨d9, d10, d11⟩, d12, d13, d14, d15, d16⟩ := id hB
  refine xw_iload 17 dL_law_1373 rfl ?_
  refine xw_iload 7 dL_law_1375 rfl ?_
  refine xz_icmp_ge (tgt := 1407) dL_law_1377 (by decide) (by omega) (by omega) (fun c1 => ?_) (fun c1 => ?_)
  · refine xz_iconst dL_law_1407 ?_
    refine xw_istore (l2 := [(0, .ref xBig), (1, .ref 0), (2, .int (iI N)), (3, .ref aS), (4, .ref aE), (5, .ref aR), (6, .ref aC), (7, .int (iI cm)), (8, .int (iI j)), (9, .int (iI v)), (10, .int (iI ((-1)))), (11, .int (iI z)), (12, .ref aP), (13, .ref aQ), (14, .int (iI n)), (15, .int (iI d)), (16, .int (iI f)), (17, .int (iI k))]) dL_law_1408 (by decide) rfl rfl ?_
    refine xw_goto (tgt := 1769) dL_law_1410 (by decide) ?_
    refine xw_loc [(0, .ref xBig), (1, .ref 0), (2, .int (iI N)), (3, .ref aS), (4, .ref aE), (5, .ref aR), (6, .ref aC), (7, .int (iI cm)), (8, .int (iI j)), (10, .int (iI ((-1)))), (11, .int (iI z)), (12, .ref aP), (13, .ref aQ)] (fun q9 hq9 => by simp only [List.mem_cons, List.not_mem_nil, or_false] at hq9 ⊢; rcases hq9 with h | h | h | h | h | h | h | h | h | h | h | h | h <;> subst h <;> simp) ?_
    refine xw_wid (c2 := c) (n2 := 6000 + 24 * (c)) (by omega) (by omega) ?_
    exact L_ck hL j hj hK hA (c := c) hXl (by omega) (hB.cg (fun _ _ _ => ⟨rfl, rfl⟩) (fun i a b => hin1 i a b (by omega))) hz hb0 (Or.inl rfl)
  · have e1 := hin2 k (by omega)
    have qC := hC k h0 (by omega)
    have hm1 := hmul60 (C1 k) n (by omega) hn
    refine xw_iload 16 dL_law_1380 rfl ?_
    refine xz_if_eq (tgt := 1407) dL_law_1382 (by decide) (by omega) (fun c2 => ?_) (fun c2 => ?_)
    · exact absurd c2 (by omega)
    · refine xw_aload 6 dL_law_1385 rfl ?_
      refine xw_iload 17 dL_law_1387 rfl ?_
      refine xw_aload 6 dL_law_1389 rfl ?_
      refine xw_iload 17 dL_law_1391 rfl ?_
      refine yh_aldF 2 hA rfl dL_law_1393 (by omega) (by decide) ?_
      refine xw_iload 14 dL_law_1394 rfl ?_
      refine xz_imul dL_law_1396 ?_
      refine xw_iload 15 dL_law_1397 rfl ?_
      refine xz_idiv dL_law_1399 (by omega) (by omega) ?_
      refine yh_astF 2 (A2 := ((aQ, iaL 24 E) :: (aP, iaL 24 S) :: (aC, iaL 20 (fup C1 k (((C1 k) * n) / d))) :: (aR, iaL 24 Rg) :: (aE, iaL 24 E1) :: (aS, iaL 24 S1) :: [])) hA rfl dL_law_1400 (by omega) (by decide) rfl hXl (fun X hA hXl => ?_)
      refine xz_iinc (l2 := [(0, .ref xBig), (1, .ref 0), (2, .int (iI N)), (3, .ref aS), (4, .ref aE), (5, .ref aR), (6, .ref aC), (7, .int (iI cm)), (8, .int (iI j)), (9, .int (iI v)), (10, .int (iI 0)), (11, .int (iI z)), (12, .ref aP), (13, .ref aQ), (14, .int (iI n)), (15, .int (iI d)), (16, .int (iI f)), (17, .int (iI (k + 1)))]) 17 dL_law_1401 rfl (by decide) rfl rfl ?_
      refine xw_goto (tgt := 1373) dL_law_1404 (by decide) ?_
      refine xw_wid (c2 := c) (n2 := 6000 + 24 * (c)) (by omega) (by omega) ?_
      exact L_cvE hL j hj hv hK (k + 1) (by omega) (by omega) hA (c := c) hXl (by omega) hB hz hb0 hf1 hn hd hC hD (fun i a b c => by by_cases e : i = k; (rw [e, fup_s, e1]; exact (hD k h0 (by omega)).symm); (rw [fup_n e]; exact hin1 i a b (by omega))) (fun i a => by rw [fup_n (by omega)]; exact hin2 i (by omega))
termination_by (cm - k).toNat
theorem L_cvD (hL : L.stackTraces = false) {σ : ySg} {N cm v : Int} {aS aE aR aC aP aQ : Nat} {S E Rg C S1 E1 T U D : Int → Int} (j : Int) (hj : 0 ≤ j ∧ j < 4) (hv : 0 ≤ v ∧ v < 1000000) (hK : yK7 L O aS aE aR aC N cm Rg (j + 1)) {z n d f : Int} (k : Int) (h0 : 0 ≤ k) (h1 : k ≤ N) {X : List xOb} (hA : yHs ((aQ, iaL 24 E) :: (aP, iaL 24 S) :: (aC, iaL 20 C) :: (aR, iaL 24 Rg) :: (aE, iaL 24 E1) :: (aS, iaL 24 S1) :: []) X) {c : Nat} (hXl : X.length ≤ c) (hc : (c : Int) ≤ 20040 + 100 * j) (hB : yB3 σ N T U Rg cm D) (hz : -1000000 ≤ z ∧ z ≤ 1000000) (hb0 : ∀ k, 0 ≤ k → k < N → 0 ≤ S k ∧ S k < E k ∧ E k ≤ 99999) (hf1 : f = 1) (hn : 1 ≤ n ∧ n ≤ 60) (hd : 1 ≤ d ∧ d ≤ 60) (hC : ∀ i, 0 ≤ i → i < cm → 0 ≤ C i ∧ C i ≤ 99999) (hD : ∀ i, 0 ≤ i → i < cm → D i = C i * n / d) (hT : ∀ i, 0 ≤ i → i < N → T i = S i * n / d ∧ U i = max (E i * n / d) (S i * n / d + 1)) (hin1 : ∀ i, 0 ≤ i → i < N → i < k → S1 i = T i ∧ E1 i = U i) (hin2 : ∀ i, k ≤ i → S1 i = S i ∧ E1 i = E i) : xWP L O mL_law (xR 13 828823 6605674) yKL 1314 [(0, .ref xBig), (1, .ref 0), (2, .int (iI N)), (3, .ref aS), (4, .ref aE), (5, .ref aR), (6, .ref aC), (7, .int (iI cm)), (8, .int (iI j)), (9, .int (iI v)), (10, .int (iI 0)), (11, .int (iI z)), (12, .ref aP), (13, .ref aQ), (14, .int (iI n)), (15, .int (iI d)), (16, .int (iI f)), (17, .int (iI k))] [] (Wd σ X) c (6000 + 24 * c) := by
  obtain ⟨hr, d2, d3, d4, d5, d6, d7, d8, ⟨d9, d10, d11⟩, d12, d13, d14, d15, d16⟩ := id hB
  refine xw_iload 17 dL_law_1314 rfl ?_
  refine xw_iload_n 2 dL_law_1316 rfl ?_
  refine xz_icmp_ge (tgt := 1370) dL_law_1317 (by decide) (by omega) (by omega) (fun c1 => ?_) (fun c1 => ?_)
  · refine xz_iconst dL_law_1370 ?_
    refine xw_istore (l2 := [(0, .ref xBig), (1, .ref 0), (2, .int (iI N)), (3, .ref aS), (4, .ref aE), (5, .ref aR), (6, .ref aC), (7, .int (iI cm)), (8, .int (iI j)), (9, .int (iI v)), (10, .int (iI 0)), (11, .int (iI z)), (12, .ref aP), (13, .ref aQ), (14, .int (iI n)), (15, .int (iI d)), (16, .int (iI f)), (17, .int (iI 0))]) dL_law_1371 (by decide) rfl rfl ?_
    refine xw_wid (c2 := c) (n2 := 6000 + 24 * (c)) (by omega) (by omega) ?_
    exact L_cvE hL j hj hv hK 0 (by omega) (by omega) hA (c := c) hXl (by omega) (hB.cg (fun i a b => hin1 i a b (by omega)) (fun _ _ _ => rfl)) hz hb0 hf1 hn hd hC hD (fun i a b c => absurd c (by omega)) (fun i a => rfl)
  · have e1 := hin2 k (by omega)
    have b0k := hb0 k h0 (by omega)
    have d8k := d8 k h0 (by omega)
    have hTk := hT k h0 (by omega)
    have hm1 := hmul60 (S1 k) n (by omega) hn
    have hm2 := hmul60 (E1 k) n (by omega) hn
    have q1 : 0 ≤ S1 k * n / d := Int.ediv_nonneg hm1.1 (by omega)
    have q2 : 0 ≤ E1 k * n / d := Int.ediv_nonneg hm2.1 (by omega)
    rw [← e1.1, ← e1.2] at hTk
    refine xw_iload 16 dL_law_1320 rfl ?_
    refine xz_if_eq (tgt := 1370) dL_law_1322 (by decide) (by omega) (fun c2 => ?_) (fun c2 => ?_)
    · exact absurd c2 (by omega)
    · refine xw_aload_n 3 dL_law_1325 rfl ?_
      refine xw_iload 17 dL_law_1326 rfl ?_
      refine xw_aload_n 3 dL_law_1328 rfl ?_
      refine xw_iload 17 dL_law_1329 rfl ?_
      refine yh_aldF 5 hA rfl dL_law_1331 (by omega) (by decide) ?_
      refine xw_iload 14 dL_law_1332 rfl ?_
      refine xz_imul dL_law_1334 ?_
      refine xw_iload 15 dL_law_1335 rfl ?_
      refine xz_idiv dL_law_1337 (by omega) (by omega) ?_
      refine yh_astF 5 (A2 := ((aQ, iaL 24 E) :: (aP, iaL 24 S) :: (aC, iaL 20 C) :: (aR, iaL 24 Rg) :: (aE, iaL 24 E1) :: (aS, iaL 24 (fup S1 k (((S1 k) * n) / d))) :: [])) hA rfl dL_law_1338 (by omega) (by decide) rfl hXl (fun X hA hXl => ?_)
      have hf : (fup S1 k (((S1 k) * n) / d)) k = S1 k * n / d := fup_s
      refine xw_aload 4 dL_law_1339 rfl ?_
      refine xw_iload 17 dL_law_1341 rfl ?_
      refine xw_aload_n 3 dL_law_1343 rfl ?_
      refine xw_iload 17 dL_law_1344 rfl ?_
      refine yh_aldF 5 hA rfl dL_law_1346 (by omega) (by decide) ?_
      refine xz_iconst dL_law_1347 ?_
      refine xz_iadd dL_law_1348 ?_
      refine xw_aload 4 dL_law_1349 rfl ?_
      refine xw_iload 17 dL_law_1351 rfl ?_
      refine yh_aldF 4 hA rfl dL_law_1353 (by omega) (by decide) ?_
      refine xw_iload 14 dL_law_1354 rfl ?_
      refine xz_imul dL_law_1356 ?_
      refine xw_iload 15 dL_law_1357 rfl ?_
      refine xz_idiv dL_law_1359 (by omega) (by omega) ?_
      refine xz_mmax dL_law_1360 w_1158 (Nat.le_of_ble_eq_true rfl) (by first | omega | (simp only [xR]; omega)) (by first | omega | (simp only [xR]; omega)) (by omega) (by omega) ?_
      refine yh_astF 4 (A2 := ((aQ, iaL 24 E) :: (aP, iaL 24 S) :: (aC, iaL 20 C) :: (aR, iaL 24 Rg) :: (aE, iaL 24 (fup E1 k (max ((((fup S1 k (((S1 k) * n) / d))) k) + 1) (((E1 k) * n) / d)))) :: (aS, iaL 24 (fup S1 k (((S1 k) * n) / d))) :: [])) hA rfl dL_law_1363 (by omega) (by decide) rfl hXl (fun X hA hXl => ?_)
      refine xz_iinc (l2 := [(0, .ref xBig), (1, .ref 0), (2, .int (iI N)), (3, .ref aS), (4, .ref aE), (5, .ref aR), (6, .ref aC), (7, .int (iI cm)), (8, .int (iI j)), (9, .int (iI v)), (10, .int (iI 0)), (11, .int (iI z)), (12, .ref aP), (13, .ref aQ), (14, .int (iI n)), (15, .int (iI d)), (16, .int (iI f)), (17, .int (iI (k + 1)))]) 17 dL_law_1364 rfl (by decide) rfl rfl ?_
      refine xw_goto (tgt := 1314) dL_law_1367 (by decide) ?_
      refine xw_wid (c2 := c) (n2 := 6000 + 24 * (c)) (by omega) (by omega) ?_
      exact L_cvD hL j hj hv hK (k + 1) (by omega) (by omega) hA (c := c) hXl (by omega) hB hz hb0 hf1 hn hd hC hD hT (fun i a b c => by by_cases e : i = k; (rw [e, fup_s, fup_s]; omega); (rw [fup_n e, fup_n e]; exact hin1 i a b (by omega))) (fun i a => by rw [fup_n (by omega), fup_n (by omega)]; exact hin2 i (by omega))
termination_by (N - k).toNat
theorem L_cvC (hL : L.stackTraces = false) {σ : ySg} {N cm v : Int} {aS aE aR aC aP aQ : Nat} {S E Rg C : Int → Int} (j : Int) (hj : 0 ≤ j ∧ j < 4) (hv : 0 ≤ v ∧ v < 1000000) (hK : yK7 L O aS aE aR aC N cm Rg (j + 1)) {n d f : Int} {X : List xOb} (hA : yHs ((aQ, iaL 24 E) :: (aP, iaL 24 S) :: (aC, iaL 20 C) :: (aR, iaL 24 Rg) :: (aE, iaL 24 E) :: (aS, iaL 24 S) :: []) X) {c : Nat} (hXl : X.length ≤ c) (hc : (c : Int) ≤ 20010 + 100 * j) (hB : yB3 σ N S E Rg cm C) (hn : 1 ≤ n ∧ n ≤ 60) (hd : 1 ≤ d ∧ d ≤ 60) (hf : yFb E C n d N cm cm f) : xWP L O mL_law (xR 13 828823 6605674) yKL 1271 [(0, .ref xBig), (1, .ref 0), (2, .int (iI N)), (3, .ref aS), (4, .ref aE), (5, .ref aR), (6, .ref aC), (7, .int (iI cm)), (8, .int (iI j)), (9, .int (iI v)), (10, .int (iI 0)), (12, .ref aP), (13, .ref aQ), (14, .int (iI n)), (15, .int (iI d)), (16, .int (iI f))] [] (Wd σ X) c (6000 + 24 * c) := by
  obtain ⟨hr, d2, d3, d4, d5, d6, d7, d8, ⟨d9, d10, d11⟩, d12, d13, d14, d15, d16⟩ := id hB
  refine xw_aload_n 1 dL_law_1271 rfl ?_
  refine xz_bipush dL_law_1272 (by decide) ?_
  refine xz_iconst dL_law_1274 ?_
  refine yv_new (N := 2) (L := [.int (iI 0), .int (iI 0)]) hXl (by omega) dL_law_1275 rfl (by decide) rfl (by omega) (by omega) ?_
  refine xw_dup dL_law_1277 rfl ?_
  refine xz_iconst dL_law_1278 ?_
  refine xw_iload 13 dL_law_1279 rfl ?_
  refine yv_put (k := 0) (L2 := [.int (iI n), .int (iI 0)]) dL_law_1281 rfl (by show _ < 2; decide) (by show 2 ≤ _; decide) rfl ?_
  refine xw_dup dL_law_1282 rfl ?_
  refine xz_iconst dL_law_1283 ?_
  refine xw_iload 14 dL_law_1284 rfl ?_
  refine yv_put (k := 1) (L2 := [.int (iI n), .int (iI d)]) dL_law_1286 rfl (by show _ < 2; decide) (by show 2 ≤ _; decide) rfl ?_
  rcases hf with ⟨hf1, hE, hCn⟩ | ⟨hf0, hx⟩
  · refine yc_SE (K' := fun o9 G9 => ∃ σ9 : ySg, o9 = .inl (some (.int (iI N))) ∧ yRg σ9 ∧ (∀ k, 0 ≤ k → k < N → yCoR n d (σ (cu k) 1) (σ (cu k) 2) (σ9 (cu k) 1) (σ9 (cu k) 2)) ∧ (∀ i, 0 ≤ i → i < σ 128 1 → σ9 129 i = σ 129 i * n / d) ∧ σ9 0 6 = 0 ∧ (∀ x y, ¬ (32 ≤ x ∧ x < 32 + 4 * N.toNat ∧ x % 4 = 0 ∧ (y = 1 ∨ y = 2)) → ¬ (x = 129 ∧ 0 ≤ y ∧ y < σ 128 1) → ¬ (x = 0 ∧ y = 6) → σ9 x y = σ x y) ∧ G9 = Wd σ9 (X ++ [(64, [.int (iI n), .int (iI d)])])) (M' := mL_ask) (d := 8) (c := 1) (s := 24) (As := [.ref 0, .int (iI 86), .ref (193 + X.length)]) (st := []) dL_law_1287 okL_ask (Or.inl w_715) rfl (Nat.le_of_ble_eq_true rfl) (by decide) (by decide) (by omega) (by omega) (a_convert (d := 2) (c := 0) (s := 0) hL (by decide) (by decide) (by decide) (by omega) yv_last (s_convert hL hr (by omega) d3 (by omega) (fun i a b => by have := d11 i a (by omega); omega) (fun k a b => by have := d8 k a b; omega) d14 (by omega) (by omega) (fun k a b => by rw [(d8 k a b).2.1]; exact hE k a b) (fun k a b => by rw [(d11 k a (by omega)).1]; exact hCn k a (by omega))) (fun w9 G9 h => by obtain ⟨σ9, q1, q2⟩ := h; exact ⟨_, Sum.inl.inj q1, σ9, rfl, q2⟩) (fun E9 G9 h => by obtain ⟨σ9, q1, q2⟩ := h; cases q1)) (fun w9 G9 h9 => ?_) (fun E9 G9 h9 => by obtain ⟨_, h, _⟩ := h9; cases h)
    obtain ⟨σ1, e9, hr1, hm1, hq1, h61, hg1, rfl⟩ := h9
    cases e9
    refine yl_g (m2 := c + 2) (Y := [(64, [.int (iI n), .int (iI d)])]) hA hXl (by simp only [List.append_assoc, List.cons_append, List.nil_append]) (by show _ + 1 ≤ _; omega) (fun X hA hXl => ?_)
    refine xw_eq (pc2 := 1290) rfl rfl rfl rfl (xw_wid (c2 := c + 2) (n2 := 6000 + 24 * c + 26) (by omega) (by omega) ?_)
    have hB1 : yB3 σ1 N (fun k => S k * n / d) (fun k => max (E k * n / d) (S k * n / d + 1)) Rg cm (fun i => C i * n / d) := by
      refine hB.mv hr1 h61 (by rw [hg1 130 2 (by omega) (by omega) (by omega)]; exact d13) (fun x y a b c e => hg1 x y (by omega) (by omega) b) (fun k a b => ?_) (fun i a b => ?_)
      · have q := hm1 k a b
        have q2 := d8 k a b
        rw [q2.1, q2.2.1] at q
        have q3 := hE k a b
        have q4 := ycv q2.2.2.2 hn.1 hd.1 q3
        have q5 : 0 ≤ S k * n / d := Int.ediv_nonneg (hmul60 (S k) n (by omega) hn).1 (by omega)
        refine ⟨q.1, by rw [q.2, q.1], q5, ?_⟩
        show S k * n / d < max (E k * n / d) (S k * n / d + 1) ∧ max (E k * n / d) (S k * n / d + 1) ≤ 99999
        omega
      · have q := hq1 i a (by omega)
        have q2 := d11 i a b
        rw [q2.1] at q
        exact ⟨q, Int.ediv_nonneg (hmul60 (C i) n q2.2 hn).1 (by omega), hCn i a b⟩
    refine xw_istore (l2 := [(0, .ref xBig), (1, .ref 0), (2, .int (iI N)), (3, .ref aS), (4, .ref aE), (5, .ref aR), (6, .ref aC), (7, .int (iI cm)), (8, .int (iI j)), (9, .int (iI v)), (10, .int (iI 0)), (12, .ref aP), (13, .ref aQ), (14, .int (iI n)), (15, .int (iI d)), (16, .int (iI f)), (11, .int (iI N))]) dL_law_1290 (by decide) rfl rfl ?_
    refine xw_iload 16 dL_law_1292 rfl ?_
    refine xw_iload 15 dL_law_1294 rfl ?_
    refine xz_if_eq (tgt := 1303) dL_law_1296 (by decide) (by omega) (fun c1 => ?_) (fun c1 => ?_)
    · exact absurd c1 (by omega)
    · refine xw_iload_n 2 dL_law_1299 rfl ?_
      refine xw_goto (tgt := 1306) dL_law_1300 (by decide) ?_
      refine xz_icmp_eq (tgt := 1311) dL_law_1306 (by decide) (by omega) (by omega) (fun c2 => ?_) (fun c2 => ?_)
      · refine xz_iconst dL_law_1311 ?_
        refine xw_istore (l2 := [(0, .ref xBig), (1, .ref 0), (2, .int (iI N)), (3, .ref aS), (4, .ref aE), (5, .ref aR), (6, .ref aC), (7, .int (iI cm)), (8, .int (iI j)), (9, .int (iI v)), (10, .int (iI 0)), (12, .ref aP), (13, .ref aQ), (14, .int (iI n)), (15, .int (iI d)), (16, .int (iI f)), (11, .int (iI N)), (17, .int (iI 0))]) dL_law_1312 (by decide) rfl rfl ?_
        refine xw_loc [(0, .ref xBig), (1, .ref 0), (2, .int (iI N)), (3, .ref aS), (4, .ref aE), (5, .ref aR), (6, .ref aC), (7, .int (iI cm)), (8, .int (iI j)), (9, .int (iI v)), (10, .int (iI 0)), (11, .int (iI N)), (12, .ref aP), (13, .ref aQ), (14, .int (iI n)), (15, .int (iI d)), (16, .int (iI f)), (17, .int (iI 0))] (fun q9 hq9 => by simp only [List.mem_cons, List.not_mem_nil, or_false] at hq9 ⊢; rcases hq9 with h | h | h | h | h | h | h | h | h | h | h | h | h | h | h | h | h | h <;> subst h <;> simp) ?_
        refine xw_wid (c2 := c + 2) (n2 := 6000 + 24 * (c + 2)) (by omega) (by omega) ?_
        exact L_cvD hL j hj hv hK 0 (by omega) (by omega) hA (c := c + 2) hXl (by omega) hB1 (by omega) (fun k a b => (d8 k a b).2.2.2) hf1 hn hd (fun i a b => (d11 i a b).2) (fun i a b => rfl) (fun i a b => ⟨rfl, rfl⟩) (fun i a b c => absurd c (by omega)) (fun i a => ⟨rfl, rfl⟩)
      · exact absurd rfl c2
  · refine yc_S (M' := mL_ask) (d := 8) (c := 1) (s := 24) (As := [.ref 0, .int (iI 86), .ref (193 + X.length)]) (st := []) (v0 := some (.int (iI (-1004)))) (G2 := Wd σ ((X ++ [(64, [.int (iI n), .int (iI d)])]) ++ [(127, [])])) dL_law_1287 okL_ask (Or.inl w_715) rfl (Nat.le_of_ble_eq_true rfl) (by decide) (by decide) (by omega) (by omega) rfl rfl (a_convert (d := 2) (c := 1) (s := 6) hL (by decide) (by decide) (by decide) (by omega) yv_last (u_convert hL (yv_len hXl (by omega)) hr (by omega) d3 (by omega) (fun i a b => by have := d11 i a (by omega); omega) (fun k a b => by have := d8 k a b; omega) d14 (by omega) (by omega) (by rcases hx with ⟨i, a, b⟩ | ⟨i, a, b⟩; exact Or.inl ⟨i, a.1, a.2, by rw [(d8 i a.1 a.2).2.1]; exact b⟩; exact Or.inr ⟨i, a.1, by omega, by rw [(d11 i a.1 a.2).1]; exact b⟩)) (fun w9 G9 h => by cases h.1) (fun E9 G9 h => Or.inr (Or.inr (⟨Sum.inr.inj h.1, rfl, h.2⟩)))) ?_
    refine yl_g (m2 := c + 2) (Y := [(64, [.int (iI n), .int (iI d)]), (127, [])]) hA hXl (by simp only [List.append_assoc, List.cons_append, List.nil_append]) (by show _ + 2 ≤ _; omega) (fun X hA hXl => ?_)
    refine xw_eq (pc2 := 1290) rfl rfl rfl rfl (xw_wid (c2 := c + 2) (n2 := 6000 + 24 * c + 26) (by omega) (by omega) ?_)
    refine xw_istore (l2 := [(0, .ref xBig), (1, .ref 0), (2, .int (iI N)), (3, .ref aS), (4, .ref aE), (5, .ref aR), (6, .ref aC), (7, .int (iI cm)), (8, .int (iI j)), (9, .int (iI v)), (10, .int (iI 0)), (12, .ref aP), (13, .ref aQ), (14, .int (iI n)), (15, .int (iI d)), (16, .int (iI f)), (11, .int (iI ((-1004))))]) dL_law_1290 (by decide) rfl rfl ?_
    refine xw_iload 16 dL_law_1292 rfl ?_
    refine xw_iload 15 dL_law_1294 rfl ?_
    refine xz_if_eq (tgt := 1303) dL_law_1296 (by decide) (by omega) (fun c3 => ?_) (fun c3 => ?_)
    · refine xz_sipush dL_law_1303 (by omega) ?_
      refine xz_icmp_eq (tgt := 1311) dL_law_1306 (by decide) (by omega) (by omega) (fun c4 => ?_) (fun c4 => ?_)
      · refine xz_iconst dL_law_1311 ?_
        refine xw_istore (l2 := [(0, .ref xBig), (1, .ref 0), (2, .int (iI N)), (3, .ref aS), (4, .ref aE), (5, .ref aR), (6, .ref aC), (7, .int (iI cm)), (8, .int (iI j)), (9, .int (iI v)), (10, .int (iI 0)), (12, .ref aP), (13, .ref aQ), (14, .int (iI n)), (15, .int (iI d)), (16, .int (iI f)), (11, .int (iI ((-1004)))), (17, .int (iI 0))]) dL_law_1312 (by decide) rfl rfl ?_
        refine xw_iload 17 dL_law_1314 rfl ?_
        refine xw_iload_n 2 dL_law_1316 rfl ?_
        refine xz_icmp_ge (tgt := 1370) dL_law_1317 (by decide) (by omega) (by omega) (fun c5 => ?_) (fun c5 => ?_)
        · exact absurd c5 (by omega)
        · refine xw_iload 15 dL_law_1320 rfl ?_
          refine xz_if_eq (tgt := 1370) dL_law_1322 (by decide) (by omega) (fun c6 => ?_) (fun c6 => ?_)
          · refine xz_iconst dL_law_1370 ?_
            refine xw_istore (l2 := [(0, .ref xBig), (1, .ref 0), (2, .int (iI N)), (3, .ref aS), (4, .ref aE), (5, .ref aR), (6, .ref aC), (7, .int (iI cm)), (8, .int (iI j)), (9, .int (iI v)), (10, .int (iI 0)), (12, .ref aP), (13, .ref aQ), (14, .int (iI n)), (15, .int (iI d)), (16, .int (iI f)), (11, .int (iI ((-1004)))), (17, .int (iI 0))]) dL_law_1371 (by decide) rfl rfl ?_
            refine xw_iload 17 dL_law_1373 rfl ?_
            refine xw_iload 7 dL_law_1375 rfl ?_
            refine xz_icmp_ge (tgt := 1407) dL_law_1377 (by decide) (by omega) (by omega) (fun c7 => ?_) (fun c7 => ?_)
            · refine xz_iconst dL_law_1407 ?_
              refine xw_istore (l2 := [(0, .ref xBig), (1, .ref 0), (2, .int (iI N)), (3, .ref aS), (4, .ref aE), (5, .ref aR), (6, .ref aC), (7, .int (iI cm)), (8, .int (iI j)), (9, .int (iI v)), (10, .int (iI ((-1)))), (12, .ref aP), (13, .ref aQ), (14, .int (iI n)), (15, .int (iI d)), (16, .int (iI f)), (11, .int (iI ((-1004)))), (17, .int (iI 0))]) dL_law_1408 (by decide) rfl rfl ?_
              refine xw_goto (tgt := 1769) dL_law_1410 (by decide) ?_
              refine xw_loc [(0, .ref xBig), (1, .ref 0), (2, .int (iI N)), (3, .ref aS), (4, .ref aE), (5, .ref aR), (6, .ref aC), (7, .int (iI cm)), (8, .int (iI j)), (10, .int (iI ((-1)))), (11, .int (iI ((-1004)))), (12, .ref aP), (13, .ref aQ)] (fun q9 hq9 => by simp only [List.mem_cons, List.not_mem_nil, or_false] at hq9 ⊢; rcases hq9 with h | h | h | h | h | h | h | h | h | h | h | h | h <;> subst h <;> simp) ?_
              refine xw_wid (c2 := c + 2) (n2 := 6000 + 24 * (c + 2)) (by omega) (by omega) ?_
              exact L_ck hL j hj hK hA (c := c + 2) hXl (by omega) hB (by omega) (fun k a b => (d8 k a b).2.2.2) (Or.inl rfl)
            · refine xw_iload 15 dL_law_1380 rfl ?_
              refine xz_if_eq (tgt := 1407) dL_law_1382 (by decide) (by omega) (fun c8 => ?_) (fun c8 => ?_)
              · refine xz_iconst dL_law_1407 ?_
                refine xw_istore (l2 := [(0, .ref xBig), (1, .ref 0), (2, .int (iI N)), (3, .ref aS), (4, .ref aE), (5, .ref aR), (6, .ref aC), (7, .int (iI cm)), (8, .int (iI j)), (9, .int (iI v)), (10, .int (iI ((-1)))), (12, .ref aP), (13, .ref aQ), (14, .int (iI n)), (15, .int (iI d)), (16, .int (iI f)), (11, .int (iI ((-1004)))), (17, .int (iI 0))]) dL_law_1408 (by decide) rfl rfl ?_
                refine xw_goto (tgt := 1769) dL_law_1410 (by decide) ?_
                refine xw_loc [(0, .ref xBig), (1, .ref 0), (2, .int (iI N)), (3, .ref aS), (4, .ref aE), (5, .ref aR), (6, .ref aC), (7, .int (iI cm)), (8, .int (iI j)), (10, .int (iI ((-1)))), (11, .int (iI ((-1004)))), (12, .ref aP), (13, .ref aQ)] (fun q9 hq9 => by simp only [List.mem_cons, List.not_mem_nil, or_false] at hq9 ⊢; rcases hq9 with h | h | h | h | h | h | h | h | h | h | h | h | h <;> subst h <;> simp) ?_
                refine xw_wid (c2 := c + 2) (n2 := 6000 + 24 * (c + 2)) (by omega) (by omega) ?_
                exact L_ck hL j hj hK hA (c := c + 2) hXl (by omega) hB (by omega) (fun k a b => (d8 k a b).2.2.2) (Or.inl rfl)
              · exact absurd hf0 c8
          · exact absurd hf0 c6
      · exact absurd rfl c4
    · exact absurd hf0 c3
theorem L_cvB (hL : L.stackTraces = false) {σ : ySg} {N cm v : Int} {aS aE aR aC aP aQ : Nat} {S E Rg C : Int → Int} (j : Int) (hj : 0 ≤ j ∧ j < 4) (hv : 0 ≤ v ∧ v < 1000000) (hK : yK7 L O aS aE aR aC N cm Rg (j + 1)) {n d f : Int} (k : Int) (h0 : 0 ≤ k) (h1 : k ≤ cm) {X : List xOb} (hA : yHs ((aQ, iaL 24 E) :: (aP, iaL 24 S) :: (aC, iaL 20 C) :: (aR, iaL 24 Rg) :: (aE, iaL 24 E) :: (aS, iaL 24 S) :: []) X) {c : Nat} (hXl : X.length ≤ c) (hc : (c : Int) ≤ 20010 + 100 * j) (hB : yB3 σ N S E Rg cm C) (hn : 1 ≤ n ∧ n ≤ 60) (hd : 1 ≤ d ∧ d ≤ 60) (hf : yFb E C n d N cm k f) : xWP L O mL_law (xR 13 828823 6605674) yKL 1225 [(0, .ref xBig), (1, .ref 0), (2, .int (iI N)), (3, .ref aS), (4, .ref aE), (5, .ref aR), (6, .ref aC), (7, .int (iI cm)), (8, .int (iI j)), (9, .int (iI v)), (10, .int (iI 0)), (12, .ref aP), (13, .ref aQ), (14, .int (iI n)), (15, .int (iI d)), (16, .int (iI f)), (17, .int (iI k))] [] (Wd σ X) c (6000 + 24 * c) := by
  obtain ⟨hr, d2, d3, d4, d5, d6, d7, d8, ⟨d9, d10, d11⟩, d12, d13, d14, d15, d16⟩ := id hB
  have hfr := hf.r
  refine xw_iload 16 dL_law_1225 rfl ?_
  refine xw_iload 7 dL_law_1227 rfl ?_
  refine xz_icmp_ge (tgt := 1271) dL_law_1229 (by decide) (by omega) (by omega) (fun c1 => ?_) (fun c1 => ?_)
  · refine xw_loc [(0, .ref xBig), (1, .ref 0), (2, .int (iI N)), (3, .ref aS), (4, .ref aE), (5, .ref aR), (6, .ref aC), (7, .int (iI cm)), (8, .int (iI j)), (9, .int (iI v)), (10, .int (iI 0)), (12, .ref aP), (13, .ref aQ), (14, .int (iI n)), (15, .int (iI d)), (16, .int (iI f))] (fun q9 hq9 => by simp only [List.mem_cons, List.not_mem_nil, or_false] at hq9 ⊢; rcases hq9 with h | h | h | h | h | h | h | h | h | h | h | h | h | h | h | h <;> subst h <;> simp) ?_
    refine xw_wid (c2 := c) (n2 := 6000 + 24 * (c)) (by omega) (by omega) ?_
    exact L_cvC hL j hj hv hK hA (c := c) hXl (by omega) hB hn hd (by rw [show k = cm by omega] at hf; exact hf)
  · have qC := (d11 k h0 (by omega)).2
    have hm1 := hmul60 (C k) n (by omega) hn
    have hdd := hdiv (C k) n d (by omega) (by omega) (by omega)
    have hcm := ycmp (C k * n / d) 99999
    refine xw_iload 15 dL_law_1232 rfl ?_
    refine xw_join (J := 1263) (c1 := c) (n1 := 6000 + 24 * c) (P := fun y2 => yFb E C n d N cm (k + 1) y2) (ls' := fun _ => [(0, .ref xBig), (1, .ref 0), (2, .int (iI N)), (3, .ref aS), (4, .ref aE), (5, .ref aR), (6, .ref aC), (7, .int (iI cm)), (8, .int (iI j)), (9, .int (iI v)), (10, .int (iI 0)), (12, .ref aP), (13, .ref aQ), (14, .int (iI n)), (15, .int (iI d)), (16, .int (iI f)), (17, .int (iI k))]) (st' := fun y2 => [.int (iI y2)]) (G' := fun _ => Wd σ X) (fun y2 hz4 => ?_) (fun j3 => ?_)
    · refine xw_istore (l2 := [(0, .ref xBig), (1, .ref 0), (2, .int (iI N)), (3, .ref aS), (4, .ref aE), (5, .ref aR), (6, .ref aC), (7, .int (iI cm)), (8, .int (iI j)), (9, .int (iI v)), (10, .int (iI 0)), (12, .ref aP), (13, .ref aQ), (14, .int (iI n)), (15, .int (iI d)), (16, .int (iI y2)), (17, .int (iI k))]) dL_law_1263 (by decide) rfl rfl ?_
      refine xz_iinc (l2 := [(0, .ref xBig), (1, .ref 0), (2, .int (iI N)), (3, .ref aS), (4, .ref aE), (5, .ref aR), (6, .ref aC), (7, .int (iI cm)), (8, .int (iI j)), (9, .int (iI v)), (10, .int (iI 0)), (12, .ref aP), (13, .ref aQ), (14, .int (iI n)), (15, .int (iI d)), (16, .int (iI y2)), (17, .int (iI (k + 1)))]) 16 dL_law_1265 rfl (by decide) rfl rfl ?_
      refine xw_goto (tgt := 1225) dL_law_1268 (by decide) ?_
      refine xw_wid (c2 := c) (n2 := 6000 + 24 * (c)) (by omega) (by omega) ?_
      exact L_cvB hL j hj hv hK (k + 1) (by omega) (by omega) hA (c := c) hXl (by omega) hB hn hd (by assumption)
    · refine xz_if_eq (tgt := 1262) dL_law_1234 (by decide) (by omega) (fun c5 => ?_) (fun c5 => ?_)
      · refine xz_iconst dL_law_1262 ?_
        exact j3 _ (by first | exact hf.z (by omega) | exact yFb.no ⟨h0, by omega⟩ (by omega) | exact hf.y (by omega) (by omega))
      · refine xw_aload 6 dL_law_1237 rfl ?_
        refine xw_iload 16 dL_law_1239 rfl ?_
        refine yh_aldF 2 hA rfl dL_law_1241 (by omega) (by decide) ?_
        refine xz_i2l dL_law_1242 (by omega) ?_
        refine xw_iload 13 dL_law_1243 rfl ?_
        refine xz_i2l dL_law_1245 (by omega) ?_
        refine xz_lmul dL_law_1246 ?_
        refine xw_iload 14 dL_law_1247 rfl ?_
        refine xz_i2l dL_law_1249 (by omega) ?_
        refine xz_ldiv dL_law_1250 (by omega) (by omega) ?_
        refine xz_ldc2 (z := 99999) dL_law_1251 w_1174 (by decide) ?_
        refine xz_lcmp dL_law_1254 (by omega) (by omega) ?_
        refine xz_if_gt (tgt := 1262) dL_law_1255 (by decide) (by omega) (fun c6 => ?_) (fun c6 => ?_)
        · refine xz_iconst dL_law_1262 ?_
          exact j3 _ (by first | exact hf.z (by omega) | exact yFb.no ⟨h0, by omega⟩ (by omega) | exact hf.y (by omega) (by omega))
        · refine xz_iconst dL_law_1258 ?_
          refine xw_goto (tgt := 1263) dL_law_1259 (by decide) ?_
          exact j3 _ (by first | exact hf.z (by omega) | exact yFb.no ⟨h0, by omega⟩ (by omega) | exact hf.y (by omega) (by omega))
termination_by (cm - k).toNat
theorem L_cvA (hL : L.stackTraces = false) {σ : ySg} {N cm v : Int} {aS aE aR aC aP aQ : Nat} {S E Rg C : Int → Int} (j : Int) (hj : 0 ≤ j ∧ j < 4) (hv : 0 ≤ v ∧ v < 1000000) (hK : yK7 L O aS aE aR aC N cm Rg (j + 1)) {n d f : Int} (k : Int) (h0 : 0 ≤ k) (h1 : k ≤ N) {X : List xOb} (hA : yHs ((aQ, iaL 24 E) :: (aP, iaL 24 S) :: (aC, iaL 20 C) :: (aR, iaL 24 Rg) :: (aE, iaL 24 E) :: (aS, iaL 24 S) :: []) X) {c : Nat} (hXl : X.length ≤ c) (hc : (c : Int) ≤ 20010 + 100 * j) (hB : yB3 σ N S E Rg cm C) (hn : 1 ≤ n ∧ n ≤ 60) (hd : 1 ≤ d ∧ d ≤ 60) (hf : yFa E n d N k f) : xWP L O mL_law (xR 13 828823 6605674) yKL 1157 [(0, .ref xBig), (1, .ref 0), (2, .int (iI N)), (3, .ref aS), (4, .ref aE), (5, .ref aR), (6, .ref aC), (7, .int (iI cm)), (8, .int (iI j)), (9, .int (iI v)), (10, .int (iI 0)), (12, .ref aP), (13, .ref aQ), (14, .int (iI n)), (15, .int (iI d)), (16, .int (iI f)), (17, .int (iI k))] [] (Wd σ X) c (6000 + 24 * c) := by
  obtain ⟨hr, d2, d3, d4, d5, d6, d7, d8, ⟨d9, d10, d11⟩, d12, d13, d14, d15, d16⟩ := id hB
  have hfr := hf.r
  refine xw_iload 16 dL_law_1157 rfl ?_
  refine xw_iload_n 2 dL_law_1159 rfl ?_
  refine xz_icmp_ge (tgt := 1222) dL_law_1160 (by decide) (by omega) (by omega) (fun c1 => ?_) (fun c1 => ?_)
  · refine xz_iconst dL_law_1222 ?_
    refine xw_istore (l2 := [(0, .ref xBig), (1, .ref 0), (2, .int (iI N)), (3, .ref aS), (4, .ref aE), (5, .ref aR), (6, .ref aC), (7, .int (iI cm)), (8, .int (iI j)), (9, .int (iI v)), (10, .int (iI 0)), (12, .ref aP), (13, .ref aQ), (14, .int (iI n)), (15, .int (iI d)), (16, .int (iI f)), (17, .int (iI 0))]) dL_law_1223 (by decide) rfl rfl ?_
    refine xw_wid (c2 := c) (n2 := 6000 + 24 * (c)) (by omega) (by omega) ?_
    exact L_cvB hL j hj hv hK 0 (by omega) (by omega) hA (c := c) hXl (by omega) hB hn hd (yFa.b (by rw [show k = N by omega] at hf; exact hf))
  · have d8k := (d8 k h0 (by omega)).2.2.2
    have hm1 := hmul60 (E k) n (by omega) hn
    have hm2 := hmul60 (S k) n (by omega) hn
    have hd1 := hdiv (E k) n d (by omega) (by omega) (by omega)
    have hd2 := hdiv (S k) n d (by omega) (by omega) (by omega)
    have hc1 := ycmp (E k * n / d) 99999
    have hc2 := ycmp (S k * n / d) 99999
    refine xw_iload 15 dL_law_1163 rfl ?_
    refine xw_join (J := 1214) (c1 := c) (n1 := 6000 + 24 * c) (P := fun y2 => yFa E n d N (k + 1) y2) (ls' := fun _ => [(0, .ref xBig), (1, .ref 0), (2, .int (iI N)), (3, .ref aS), (4, .ref aE), (5, .ref aR), (6, .ref aC), (7, .int (iI cm)), (8, .int (iI j)), (9, .int (iI v)), (10, .int (iI 0)), (12, .ref aP), (13, .ref aQ), (14, .int (iI n)), (15, .int (iI d)), (16, .int (iI f)), (17, .int (iI k))]) (st' := fun y2 => [.int (iI y2)]) (G' := fun _ => Wd σ X) (fun y2 hz4 => ?_) (fun j3 => ?_)
    · refine xw_istore (l2 := [(0, .ref xBig), (1, .ref 0), (2, .int (iI N)), (3, .ref aS), (4, .ref aE), (5, .ref aR), (6, .ref aC), (7, .int (iI cm)), (8, .int (iI j)), (9, .int (iI v)), (10, .int (iI 0)), (12, .ref aP), (13, .ref aQ), (14, .int (iI n)), (15, .int (iI d)), (16, .int (iI y2)), (17, .int (iI k))]) dL_law_1214 (by decide) rfl rfl ?_
      refine xz_iinc (l2 := [(0, .ref xBig), (1, .ref 0), (2, .int (iI N)), (3, .ref aS), (4, .ref aE), (5, .ref aR), (6, .ref aC), (7, .int (iI cm)), (8, .int (iI j)), (9, .int (iI v)), (10, .int (iI 0)), (12, .ref aP), (13, .ref aQ), (14, .int (iI n)), (15, .int (iI d)), (16, .int (iI y2)), (17, .int (iI (k + 1)))]) 16 dL_law_1216 rfl (by decide) rfl rfl ?_
      refine xw_goto (tgt := 1157) dL_law_1219 (by decide) ?_
      refine xw_wid (c2 := c) (n2 := 6000 + 24 * (c)) (by omega) (by omega) ?_
      exact L_cvA hL j hj hv hK (k + 1) (by omega) (by omega) hA (c := c) hXl (by omega) hB hn hd (by assumption)
    · refine xz_if_eq (tgt := 1213) dL_law_1165 (by decide) (by omega) (fun c5 => ?_) (fun c5 => ?_)
      · refine xz_iconst dL_law_1213 ?_
        exact j3 _ (by first | exact hf.z (by omega) | exact yFa.no ⟨h0, by omega⟩ (by omega) | exact hf.y (by omega) (by omega))
      · refine xw_aload 4 dL_law_1168 rfl ?_
        refine xw_iload 16 dL_law_1170 rfl ?_
        refine yh_aldF 4 hA rfl dL_law_1172 (by omega) (by decide) ?_
        refine xz_i2l dL_law_1173 (by omega) ?_
        refine xw_iload 13 dL_law_1174 rfl ?_
        refine xz_i2l dL_law_1176 (by omega) ?_
        refine xz_lmul dL_law_1177 ?_
        refine xw_iload 14 dL_law_1178 rfl ?_
        refine xz_i2l dL_law_1180 (by omega) ?_
        refine xz_ldiv dL_law_1181 (by omega) (by omega) ?_
        refine xz_ldc2 (z := 99999) dL_law_1182 w_1174 (by decide) ?_
        refine xz_lcmp dL_law_1185 (by omega) (by omega) ?_
        refine xz_if_gt (tgt := 1213) dL_law_1186 (by decide) (by omega) (fun c6 => ?_) (fun c6 => ?_)
        · refine xz_iconst dL_law_1213 ?_
          exact j3 _ (by first | exact hf.z (by omega) | exact yFa.no ⟨h0, by omega⟩ (by omega) | exact hf.y (by omega) (by omega))
        · refine xw_aload_n 3 dL_law_1189 rfl ?_
          refine xw_iload 16 dL_law_1190 rfl ?_
          refine yh_aldF 5 hA rfl dL_law_1192 (by omega) (by decide) ?_
          refine xz_i2l dL_law_1193 (by omega) ?_
          refine xw_iload 13 dL_law_1194 rfl ?_
          refine xz_i2l dL_law_1196 (by omega) ?_
          refine xz_lmul dL_law_1197 ?_
          refine xw_iload 14 dL_law_1198 rfl ?_
          refine xz_i2l dL_law_1200 (by omega) ?_
          refine xz_ldiv dL_law_1201 (by omega) (by omega) ?_
          refine xz_ldc2 (z := 99999) dL_law_1202 w_1174 (by decide) ?_
          refine xz_lcmp dL_law_1205 (by omega) (by omega) ?_
          refine xz_if_ge (tgt := 1213) dL_law_1206 (by decide) (by omega) (fun c7 => ?_) (fun c7 => ?_)
          · exact absurd (ycv d8k hn.1 hd.1 (by omega)) (by omega)
          · refine xz_iconst dL_law_1209 ?_
            refine xw_goto (tgt := 1214) dL_law_1210 (by decide) ?_
            exact j3 _ (by first | exact hf.z (by omega) | exact yFa.no ⟨h0, by omega⟩ (by omega) | exact hf.y (by omega) (by omega))
termination_by (N - k).toNat
theorem L_cv (hL : L.stackTraces = false) {σ : ySg} {N cm v : Int} {aS aE aR aC aP aQ : Nat} {S E Rg C : Int → Int} (j : Int) (hj : 0 ≤ j ∧ j < 4) (hv : 0 ≤ v ∧ v < 1000000) (hK : yK7 L O aS aE aR aC N cm Rg (j + 1))  {X : List xOb} (hA : yHs ((aQ, iaL 24 E) :: (aP, iaL 24 S) :: (aC, iaL 20 C) :: (aR, iaL 24 Rg) :: (aE, iaL 24 E) :: (aS, iaL 24 S) :: []) X) {c : Nat} (hXl : X.length ≤ c) (hc : (c : Int) ≤ 20010 + 100 * j) (hB : yB3 σ N S E Rg cm C) : xWP L O mL_law (xR 13 828823 6605674) yKL 1127 [(0, .ref xBig), (1, .ref 0), (2, .int (iI N)), (3, .ref aS), (4, .ref aE), (5, .ref aR), (6, .ref aC), (7, .int (iI cm)), (8, .int (iI j)), (9, .int (iI v)), (10, .int (iI 0)), (12, .ref aP), (13, .ref aQ)] [] (Wd σ X) c (6000 + 24 * c) := by
  obtain ⟨hr, d2, d3, d4, d5, d6, d7, d8, ⟨d9, d10, d11⟩, d12, d13, d14, d15, d16⟩ := id hB
  refine xz_iconst dL_law_1127 ?_
  refine xw_iload 9 dL_law_1128 rfl ?_
  refine xz_iconst dL_law_1130 ?_
  refine xz_idiv dL_law_1131 (by omega) (by decide) ?_
  refine xz_bipush dL_law_1132 (by decide) ?_
  refine xz_irem dL_law_1134 (by omega) (by decide) ?_
  refine xz_iadd dL_law_1135 ?_
  refine xw_istore (l2 := [(0, .ref xBig), (1, .ref 0), (2, .int (iI N)), (3, .ref aS), (4, .ref aE), (5, .ref aR), (6, .ref aC), (7, .int (iI cm)), (8, .int (iI j)), (9, .int (iI v)), (10, .int (iI 0)), (12, .ref aP), (13, .ref aQ), (14, .int (iI (1 + ((v / 4) % 60))))]) dL_law_1136 (by decide) rfl rfl ?_
  refine xz_iconst dL_law_1138 ?_
  refine xw_iload 9 dL_law_1139 rfl ?_
  refine xz_sipush dL_law_1141 (by decide) ?_
  refine xz_idiv dL_law_1144 (by omega) (by decide) ?_
  refine xz_bipush dL_law_1145 (by decide) ?_
  refine xz_irem dL_law_1147 (by omega) (by decide) ?_
  refine xz_iadd dL_law_1148 ?_
  refine xw_istore (l2 := [(0, .ref xBig), (1, .ref 0), (2, .int (iI N)), (3, .ref aS), (4, .ref aE), (5, .ref aR), (6, .ref aC), (7, .int (iI cm)), (8, .int (iI j)), (9, .int (iI v)), (10, .int (iI 0)), (12, .ref aP), (13, .ref aQ), (14, .int (iI (1 + ((v / 4) % 60)))), (15, .int (iI (1 + ((v / 240) % 60))))]) dL_law_1149 (by decide) rfl rfl ?_
  refine xz_iconst dL_law_1151 ?_
  refine xw_istore (l2 := [(0, .ref xBig), (1, .ref 0), (2, .int (iI N)), (3, .ref aS), (4, .ref aE), (5, .ref aR), (6, .ref aC), (7, .int (iI cm)), (8, .int (iI j)), (9, .int (iI v)), (10, .int (iI 0)), (12, .ref aP), (13, .ref aQ), (14, .int (iI (1 + ((v / 4) % 60)))), (15, .int (iI (1 + ((v / 240) % 60)))), (16, .int (iI 1))]) dL_law_1152 (by decide) rfl rfl ?_
  refine xz_iconst dL_law_1154 ?_
  refine xw_istore (l2 := [(0, .ref xBig), (1, .ref 0), (2, .int (iI N)), (3, .ref aS), (4, .ref aE), (5, .ref aR), (6, .ref aC), (7, .int (iI cm)), (8, .int (iI j)), (9, .int (iI v)), (10, .int (iI 0)), (12, .ref aP), (13, .ref aQ), (14, .int (iI (1 + ((v / 4) % 60)))), (15, .int (iI (1 + ((v / 240) % 60)))), (16, .int (iI 1)), (17, .int (iI 0))]) dL_law_1155 (by decide) rfl rfl ?_
  refine xw_wid (c2 := c) (n2 := 6000 + 24 * (c)) (by omega) (by omega) ?_
  exact L_cvA hL j hj hv hK 0 (by omega) (by omega) hA (c := c) hXl (by omega) hB (by omega) (by omega) (Or.inl ⟨rfl, fun i a b => absurd b (by omega)⟩)
end Y45

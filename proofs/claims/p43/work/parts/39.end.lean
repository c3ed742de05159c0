def yKL : xOc → List xOb → Prop := fun o _ => o = .inl (some (.int (iI 1)))
def yJa (σ : ySg) (N : Int) : Prop := σ 0 6 = 0 ∨ (σ 0 6 = 1 ∧ yArd σ N)
/-- the numbers near the law's end: N cues are there -/
def yF6 (σ : ySg) (N : Int) : Prop := yRg σ ∧ (N ≤ σ 0 5 ∧ σ 0 5 ≤ N + 1) ∧ yTh σ N ∧ (1 ≤ N ∧ N ≤ 8) ∧ yCst σ ∧ (∀ k, 0 ≤ k → k < 24 → (0 ≤ σ (cu k) 1 ∧ σ (cu k) 1 ≤ 99999) ∧ (0 ≤ σ (cu k) 3 ∧ σ (cu k) 3 < 3) ∧ (0 ≤ σ (cu k) 6 ∧ σ (cu k) 6 ≤ 12)) ∧ (∀ k j, 0 ≤ k → k < 24 → 0 ≤ j → j < 12 → 0 ≤ σ (cw k) j) ∧ yJa σ N
theorem yF6.cus {σ : ySg} {N : Int} (h : yF6 σ N) : yCus σ N := by
  obtain ⟨h1, h2, h3, h4, h5, h6, h7, h8⟩ := h
  exact fun k a b => ⟨(h6 k a (by omega)).2.1, (h6 k a (by omega)).2.2, fun j c d => h7 k j a (by omega) c d⟩
theorem yTh.cong {σ σ' : ySg} {N : Int} (h : yTh σ N) (g : ∀ k : Int, 0 ≤ k → k < 24 → σ' (cu k) 0 = σ (cu k) 0) : yTh σ' N := fun k a b => by rw [g k a b]; exact h k a b
theorem yF6.pr {σ σ' : ySg} {N : Int} (h : yF6 σ N) (hr : yRg σ') (g : ∀ x y, ¬ yScA x y → ¬ (x = 0 ∧ y = 6) → (x < 135 ∨ (185 < x ∧ x < 190)) → σ' x y = σ x y) (ha : σ' 0 6 = 1 ∧ yArd σ' N) : yF6 σ' N := by
  obtain ⟨h1, h2, h3, h4, h5, h6, h7, h8⟩ := h
  have gc : ∀ k y : Int, 0 ≤ k → k < 24 → y < 8 → σ' (cu k) y = σ (cu k) y := fun k y a b c => g _ _ (by unfold yScA cu; omega) (by unfold cu; omega) (by unfold cu; omega)
  refine ⟨hr, by rw [g 0 5 (by unfold yScA; omega) (by omega) (by omega)]; exact h2, h3.cong (fun k a b => gc k 0 a b (by omega)), h4, fun r a b => ?_, fun k a b => ?_, fun k j a b c d => ?_, Or.inr ha⟩
  · rw [g 22 r (by unfold yScA; omega) (by omega) (by omega), g 23 r (by unfold yScA; omega) (by omega) (by omega), g 24 r (by unfold yScA; omega) (by omega) (by omega)]
    exact h5 r a b
  · rw [gc k 1 a b (by omega), gc k 3 a b (by omega), gc k 6 a b (by omega)]
    exact h6 k a b
  · rw [g (cw k) j (by unfold yScA cw; omega) (by unfold cw; omega) (by unfold cw; omega)]
    exact h7 k j a b c d
/-- the cues below j are taken away -/
def yD8 (σ : ySg) (N j : Int) : Prop := yRg σ ∧ N ≤ σ 0 5 ∧ (∀ k, 0 ≤ k → k < 24 → (k < j ∧ σ (cu k) 0 = 0) ∨ (j ≤ k ∧ k < N ∧ σ (cu k) 0 = 1) ∨ (N ≤ k ∧ σ (cu k) 0 = 0)) ∧ yCst σ ∧ (∀ k, 0 ≤ k → k < 24 → (0 ≤ σ (cu k) 1 ∧ σ (cu k) 1 ≤ 99999) ∧ (0 ≤ σ (cu k) 6 ∧ σ (cu k) 6 ≤ 12)) ∧ (j = 0 ∨ σ 0 6 = 0)
theorem yF6.d8 {σ : ySg} {N : Int} (h : yF6 σ N) : yD8 σ N 0 := by
  obtain ⟨h1, h2, h3, h4, h5, h6, h7, h8⟩ := h
  exact ⟨h1, h2.1, fun k a b => Or.inr (by have := h3 k a b; omega), h5, fun k a b => ⟨(h6 k a b).1, (h6 k a b).2.2⟩, Or.inl rfl⟩
theorem yD8.s {σ : ySg} {N j : Int} (h : yD8 σ N j) (hj : 0 ≤ j ∧ j < N) (hN : N ≤ 8) : yD8 (yup (yup σ (cu j) 0 0) 0 6 0) N (j + 1) := by
  obtain ⟨h1, h2, h3, h4, h5, h6⟩ := h
  have g : ∀ x y, ¬ (x = cu j ∧ y = 0) → ¬ (x = 0 ∧ y = 6) → (yup (yup σ (cu j) 0 0) 0 6 0) x y = σ x y := fun x y a b => by rw [yup_n b, yup_n a]
  refine ⟨yRg_up (yRg_up h1 (by decide)) (by decide), by rw [g 0 5 (by unfold cu; omega) (by omega)]; exact h2, fun k a b => ?_, fun r a b => ?_, fun k a b => ?_, Or.inr yup_s⟩
  · by_cases e : k = j
    · subst e
      rw [yup_i (by unfold cu; omega), yup_s]
      omega
    · rw [g (cu k) 0 (fun q => e ((cu_inj a hj.1).mp q.1)) (by unfold cu; omega)]
      have := h3 k a b
      omega
  · rw [g 22 r (by unfold cu; omega) (by omega), g 23 r (by unfold cu; omega) (by omega), g 24 r (by unfold cu; omega) (by omega)]
    exact h4 r a b
  · rw [g (cu k) 1 (by omega) (by unfold cu; omega), g (cu k) 6 (by omega) (by unfold cu; omega)]
    exact h5 k a b
theorem yD8.e {σ : ySg} {N : Int} (h : yD8 σ N N) (hN : N ≤ 8) : yTh σ 0 := fun k a b => by
  obtain ⟨h1, h2, h3, h4, h5, h6⟩ := h
  have := h3 k a b
  omega
theorem yGl_cong {o R R' : Int → Int} {reg N : Int} (ho : ∀ p, 0 ≤ p → p < N → 0 ≤ o p ∧ o p < 24) (hR : ∀ k, 0 ≤ k → k < 24 → R k = R' k) : ∀ n : Nat, (n : Int) ≤ N → yGl o R reg n = yGl o R' reg n
  | 0, _ => rfl
  | n + 1, hn => by
    have h := ho n (by omega) (by omega)
    rw [yGl_s, yGl_s, yGl_cong ho hR n (by omega), hR _ h.1 h.2]
theorem yPo_cong {N : Int} {o R S W R' S' W' : Int → Int} {x r : Int} (hN : 0 ≤ N) (ho : ∀ p, 0 ≤ p → p < N → 0 ≤ o p ∧ o p < 24) (hR : ∀ k, 0 ≤ k → k < 24 → R k = R' k) (hS : ∀ k, 0 ≤ k → k < 24 → S k = S' k) (hW : ∀ k, 0 ≤ k → k < 24 → W k = W' k) : yPo N o R S W x r = yPo N o R' S' W' x r := by
  have g1 := yGl_cong (reg := 1) ho hR N.toNat (by omega)
  have g2 := yGl_cong (reg := 2) ho hR N.toNat (by omega)
  have i1 := yGl_in o R' 1 N ho N.toNat (by omega)
  have i2 := yGl_in o R' 2 N ho N.toNat (by omega)
  have hP : yPx S W (yGl o R' 1 N.toNat) (yGl o R' 2 N.toNat) = yPx S' W' (yGl o R' 1 N.toNat) (yGl o R' 2 N.toNat) := funext fun i => funext fun j => by
    have a := yGt_in i1 i
    have b := yGt_in i2 j
    unfold yPx
    rw [hS _ a.1 a.2, hS _ b.1 b.2, hW _ a.1 a.2, hW _ b.1 b.2]
  unfold yPo
  rw [g1, g2, hP]
section Y39
variable {L : Launch} {O : xWd}
theorem L_end (hL : L.stackTraces = false) {σ : ySg}  {X : List xOb} (hA : yHs ([]) X) {c : Nat} (hXl : X.length ≤ c) (hc : c ≤ 200000) (hr : yRg σ) (ht : yTh σ 0) (hcs : yCst σ) (h6 : σ 0 6 = 0) (hb : ∀ k, 0 ≤ k → k < 24 → (0 ≤ σ (cu k) 1 ∧ σ (cu k) 1 ≤ 99999) ∧ (0 ≤ σ (cu k) 6 ∧ σ (cu k) 6 ≤ 12)) : xWP L O mL_law (xR 13 828823 6605674) yKL 3386 [(1, .ref 0)] [] (Wd σ X) c (6000 + 24 * c) := by
  refine xw_aload_n 0 dL_law_3386 rfl ?_
  refine yc_V (M' := mX11_cues) (d := 0) (c := 0) (s := 0) (As := []) (st := []) (v0 := some (.int (iI 0))) (G2 := Wd σ X) dL_law_3387 okX11_cues (Or.inl w_398) (xBig_i is_0.1) (Wd_get is_0) ⟨by decide, rfl⟩ rfl (Nat.le_of_ble_eq_true rfl) (by decide) (by decide) (by omega) (by omega) rfl rfl (s_cues hL hr (by omega) ht) ?_
  refine xz_if_ne (tgt := 3404) dL_law_3390 (by decide) (by omega) (fun c1 => ?_) (fun c1 => ?_)
  · exact absurd rfl c1
  · refine xw_aload_n 0 dL_law_3393 rfl ?_
    refine yc_VE (M' := mX11_pairCost) (d := 7) (c := 0) (s := 0) (As := []) (st := []) dL_law_3394 okX11_pairCost (Or.inl w_402) (xBig_i is_0.1) (Wd_get is_0) ⟨by decide, rfl⟩ rfl (Nat.le_of_ble_eq_true rfl) (by decide) (by decide) (by omega) (by omega) (s_pairCost0 hL hr (by omega) ht hcs (fun k a b => absurd b (by omega)) (Or.inl h6) (fun k a b => (hb k a b).1) (fun k a b => (hb k a b).2)) (fun w9 G9 h9 => ?_) (fun E9 G9 h9 => by obtain ⟨_, h, _⟩ := h9; cases h)
    obtain ⟨σ2, e9, rfl⟩ := h9
    cases e9
    refine xz_if_ne (tgt := 3404) dL_law_3397 (by decide) (by omega) (fun c2 => ?_) (fun c2 => ?_)
    · exact absurd rfl c2
    · refine xz_iconst dL_law_3400 ?_
      refine xw_goto (tgt := 3405) dL_law_3401 (by decide) ?_
      exact xz_zret dL_law_3405 rfl (Or.inr rfl) (by simp only [xR]; omega) (by simp only [xR]; omega) rfl
theorem L_drop (hL : L.stackTraces = false) {σ : ySg} {N : Int} (hN : 1 ≤ N ∧ N ≤ 8) (j : Int) (h0 : 0 ≤ j) (h1 : j ≤ N) {X : List xOb} (hA : yHs ([]) X) {c : Nat} (hXl : X.length ≤ c) (hc : (c : Int) ≤ 100000 + 10 * j) (hd : yD8 σ N j) : xWP L O mL_law (xR 13 828823 6605674) yKL 3335 [(1, .ref 0), (2, .int (iI N)), (16, .int (iI j))] [] (Wd σ X) c (6000 + 24 * c) := by
  obtain ⟨hr, d2, d3, d4, d5, d6⟩ := id hd
  refine xw_iload 2 dL_law_3335 rfl ?_
  refine xw_iload_n 1 dL_law_3337 rfl ?_
  refine xz_icmp_ge (tgt := 3386) dL_law_3338 (by decide) (by omega) (by omega) (fun c1 => ?_) (fun c1 => ?_)
  · have e : j = N := by omega
    subst e
    refine xw_loc [(1, .ref 0)] (fun q hq => by rw [List.mem_singleton.mp hq]; simp) ?_
    exact L_end hL (yHs_nil X) hXl (by omega) hr (hd.e hN.2) d4 (by omega) d5
  · refine xw_aload_n 0 dL_law_3341 rfl ?_
    refine xz_bipush dL_law_3342 (by decide) ?_
    refine xz_iconst dL_law_3344 ?_
    refine yv_new (N := 1) (L := [.int (iI 0)]) hXl (by omega) dL_law_3345 rfl (by decide) rfl (by omega) (by omega) ?_
    refine xw_dup dL_law_3347 rfl ?_
    refine xz_iconst dL_law_3348 ?_
    refine xw_iload 2 dL_law_3349 rfl ?_
    refine yv_put (k := 0) (L2 := [.int (iI j)]) dL_law_3351 rfl (by show _ < 1; decide) (by show 1 ≤ _; decide) rfl ?_
    have d3j := d3 j h0 (by omega)
    have d5j := d5 j h0 (by omega)
    refine yc_S (M' := mL_cue) (d := 8) (c := 1) (s := 24) (As := [.ref 0, .int (iI 100), .ref (193 + X.length)]) (st := []) (v0 := some (.int (iI (σ (cu j) 6)))) (G2 := Wd (yup (yup σ (cu j) 0 0) 0 6 0) (X ++ [(64, [.int (iI j)])])) dL_law_3352 okL_cue (Or.inl w_971) rfl (Nat.le_of_ble_eq_true rfl) (by decide) (by decide) (by omega) (by omega) rfl rfl (a_dropCue (d := 1) (c := 0) (s := 0) hL (by decide) (by decide) (by decide) (by omega) yv_last (s_dropCue hL hr (by omega) (by omega) (by omega)) (fun w9 G9 h => ⟨_, Sum.inl.inj h.1, rfl, h.2⟩) (fun E9 G9 h => by cases h.1)) ?_
    refine yl_g (m2 := c + 2) (Y := [(64, [.int (iI j)])]) hA hXl (by simp only [List.append_assoc, List.cons_append, List.nil_append]) (by show _ + 1 ≤ _; omega) (fun X hA hXl => ?_)
    refine xw_eq (pc2 := 3355) rfl rfl rfl rfl (xw_wid (c2 := c + 2) (n2 := 6000 + 24 * c + 25) (by omega) (by omega) ?_)
    refine xz_if_lt (tgt := 3378) dL_law_3355 (by decide) (by omega) (fun c2 => ?_) (fun c2 => ?_)
    · exact absurd c2 (by omega)
    · refine xw_aload_n 0 dL_law_3358 rfl ?_
      refine xz_bipush dL_law_3359 (by decide) ?_
      refine xz_iconst dL_law_3361 ?_
      refine yv_new (N := 1) (L := [.int (iI 0)]) hXl (by omega) dL_law_3362 rfl (by decide) rfl (by omega) (by omega) ?_
      refine xw_dup dL_law_3364 rfl ?_
      refine xz_iconst dL_law_3365 ?_
      refine xw_iload 2 dL_law_3366 rfl ?_
      refine yv_put (k := 0) (L2 := [.int (iI j)]) dL_law_3368 rfl (by show _ < 1; decide) (by show 1 ≤ _; decide) rfl ?_
      have hd2 := hd.s ⟨h0, by omega⟩ hN.2
      obtain ⟨q1, q2, q3, q4, q5, q6⟩ := id hd2
      have q3j := q3 j h0 (by omega)
      refine yc_S (M' := mL_cue) (d := 8) (c := 1) (s := 24) (As := [.ref 0, .int (iI 100), .ref (193 + X.length)]) (st := []) (v0 := some (.int (iI (-1005)))) (G2 := Wd (yup (yup σ (cu j) 0 0) 0 6 0) ((X ++ [(64, [.int (iI j)])]) ++ [(127, [])])) dL_law_3369 okL_cue (Or.inl w_971) rfl (Nat.le_of_ble_eq_true rfl) (by decide) (by decide) (by omega) (by omega) rfl rfl (a_dropCue (d := 7) (c := 1) (s := 6) hL (by decide) (by decide) (by decide) (by omega) yv_last (n_dropCue (a := 0) hL (yv_len hXl (by omega)) q1 (by omega) (by omega)) (fun w9 G9 h => by cases h.1) (fun E9 G9 h => Or.inr (Or.inr (Or.inr (Or.inr (⟨Sum.inr.inj h.1, rfl, h.2⟩)))))) ?_
      refine yl_g (m2 := c + 4) (Y := [(64, [.int (iI j)]), (127, [])]) hA hXl (by simp only [List.append_assoc, List.cons_append, List.nil_append]) (by show _ + 2 ≤ _; omega) (fun X hA hXl => ?_)
      refine xw_eq (pc2 := 3372) rfl rfl rfl rfl (xw_wid (c2 := c + 4) (n2 := 6000 + 24 * c + 50) (by omega) (by omega) ?_)
      refine xz_sipush dL_law_3372 (by omega) ?_
      refine xz_icmp_eq (tgt := 3380) dL_law_3375 (by decide) (by omega) (by omega) (fun c3 => ?_) (fun c3 => ?_)
      · refine xz_iinc (l2 := [(1, .ref 0), (2, .int (iI N)), (16, .int (iI (j + 1)))]) 2 dL_law_3380 rfl (by decide) rfl rfl ?_
        refine xw_goto (tgt := 3335) dL_law_3383 (by decide) ?_
        refine xw_wid (c2 := c + 4) (n2 := 6000 + 24 * (c + 4)) (by omega) (by omega) ?_
        exact L_drop hL hN (j + 1) (by omega) (by omega) hA (c := c + 4) hXl (by omega) hd2
      · exact absurd rfl c3
termination_by (N - j).toNat
theorem L_ref2 (hL : L.stackTraces = false) {σ : ySg} {N : Int} (hN : 1 ≤ N ∧ N ≤ 8) {X : List xOb} (hA : yHs ([]) X) {c : Nat} (hXl : X.length ≤ c) (hc : c ≤ 50000) (h6 : yF6 σ N) : xWP L O mL_law (xR 13 828823 6605674) yKL 2915 [(1, .ref 0), (2, .int (iI N))] [] (Wd σ X) c (6000 + 24 * c) := by
  refine xw_aload_n 0 dL_law_2915 rfl ?_
  refine xz_bipush dL_law_2916 (by decide) ?_
  refine xz_iconst dL_law_2918 ?_
  refine yv_new (N := 4) (L := [.int (iI 0), .int (iI 0), .int (iI 0), .int (iI 0)]) hXl (by omega) dL_law_2919 rfl (by decide) rfl (by omega) (by omega) ?_
  refine xw_dup dL_law_2921 rfl ?_
  refine xz_iconst dL_law_2922 ?_
  refine xz_iconst dL_law_2923 ?_
  refine yv_put (k := 0) (L2 := [.int (iI 3), .int (iI 0), .int (iI 0), .int (iI 0)]) dL_law_2924 rfl (by show _ < 4; decide) (by show 4 ≤ _; decide) rfl ?_
  refine xw_dup dL_law_2925 rfl ?_
  refine xz_iconst dL_law_2926 ?_
  refine xz_iconst dL_law_2927 ?_
  refine yv_put (k := 1) (L2 := [.int (iI 3), .int (iI 0), .int (iI 0), .int (iI 0)]) dL_law_2928 rfl (by show _ < 4; decide) (by show 4 ≤ _; decide) rfl ?_
  refine xw_dup dL_law_2929 rfl ?_
  refine xz_iconst dL_law_2930 ?_
  refine xz_iconst dL_law_2931 ?_
  refine yv_put (k := 2) (L2 := [.int (iI 3), .int (iI 0), .int (iI 1), .int (iI 0)]) dL_law_2932 rfl (by show _ < 4; decide) (by show 4 ≤ _; decide) rfl ?_
  refine xw_dup dL_law_2933 rfl ?_
  refine xz_iconst dL_law_2934 ?_
  refine xz_bipush dL_law_2935 (by decide) ?_
  refine yv_put (k := 3) (L2 := [.int (iI 3), .int (iI 0), .int (iI 1), .int (iI 20)]) dL_law_2937 rfl (by show _ < 4; decide) (by show 4 ≤ _; decide) rfl ?_
  refine yc_S (M' := mL_ask) (d := 8) (c := 1) (s := 24) (As := [.ref 0, .int (iI 114), .ref (193 + X.length)]) (st := []) (v0 := some (.int (iI (-1002)))) (G2 := Wd σ ((X ++ [(64, [.int (iI 3), .int (iI 0), .int (iI 1), .int (iI 20)])]) ++ [(127, [])])) dL_law_2938 okL_ask (Or.inl w_715) rfl (Nat.le_of_ble_eq_true rfl) (by decide) (by decide) (by omega) (by omega) rfl rfl (a_setRegion (d := 2) (c := 1) (s := 6) hL (by decide) (by decide) (by decide) (by omega) yv_last (r_setRegion_3_0_1_20 hL (yv_len hXl (by omega))) (fun w9 G9 h => by cases h.1) (fun E9 G9 h => Or.inl ⟨Sum.inr.inj h.1, rfl, h.2⟩)) ?_
  refine yl_g (m2 := c + 2) (Y := [(64, [.int (iI 3), .int (iI 0), .int (iI 1), .int (iI 20)]), (127, [])]) hA hXl (by simp only [List.append_assoc, List.cons_append, List.nil_append]) (by show _ + 2 ≤ _; omega) (fun X hA hXl => ?_)
  refine xw_eq (pc2 := 2941) rfl rfl rfl rfl (xw_wid (c2 := c + 2) (n2 := 6000 + 24 * c + 28) (by omega) (by omega) ?_)
  refine xz_sipush dL_law_2941 (by omega) ?_
  refine xz_icmp_ne (tgt := 3330) dL_law_2944 (by decide) (by omega) (by omega) (fun c1 => ?_) (fun c1 => ?_)
  · exact absurd rfl c1
  · refine xw_aload_n 0 dL_law_2947 rfl ?_
    refine xz_bipush dL_law_2948 (by decide) ?_
    refine xz_iconst dL_law_2950 ?_
    refine yv_new (N := 4) (L := [.int (iI 0), .int (iI 0), .int (iI 0), .int (iI 0)]) hXl (by omega) dL_law_2951 rfl (by decide) rfl (by omega) (by omega) ?_
    refine xw_dup dL_law_2953 rfl ?_
    refine xz_iconst dL_law_2954 ?_
    refine xz_iconst dL_law_2955 ?_
    refine yv_put (k := 0) (L2 := [.int (iI 0), .int (iI 0), .int (iI 0), .int (iI 0)]) dL_law_2956 rfl (by show _ < 4; decide) (by show 4 ≤ _; decide) rfl ?_
    refine xw_dup dL_law_2957 rfl ?_
    refine xz_iconst dL_law_2958 ?_
    refine xz_bipush dL_law_2959 (by decide) ?_
    refine yv_put (k := 1) (L2 := [.int (iI 0), .int (iI 7), .int (iI 0), .int (iI 0)]) dL_law_2961 rfl (by show _ < 4; decide) (by show 4 ≤ _; decide) rfl ?_
    refine xw_dup dL_law_2962 rfl ?_
    refine xz_iconst dL_law_2963 ?_
    refine xz_iconst dL_law_2964 ?_
    refine yv_put (k := 2) (L2 := [.int (iI 0), .int (iI 7), .int (iI 2), .int (iI 0)]) dL_law_2965 rfl (by show _ < 4; decide) (by show 4 ≤ _; decide) rfl ?_
    refine xw_dup dL_law_2966 rfl ?_
    refine xz_iconst dL_law_2967 ?_
    refine xz_bipush dL_law_2968 (by decide) ?_
    refine yv_put (k := 3) (L2 := [.int (iI 0), .int (iI 7), .int (iI 2), .int (iI 20)]) dL_law_2970 rfl (by show _ < 4; decide) (by show 4 ≤ _; decide) rfl ?_
    refine yc_S (M' := mL_ask) (d := 8) (c := 1) (s := 24) (As := [.ref 0, .int (iI 114), .ref (193 + X.length)]) (st := []) (v0 := some (.int (iI (-1002)))) (G2 := Wd σ ((X ++ [(64, [.int (iI 0), .int (iI 7), .int (iI 2), .int (iI 20)])]) ++ [(127, [])])) dL_law_2971 okL_ask (Or.inl w_715) rfl (Nat.le_of_ble_eq_true rfl) (by decide) (by decide) (by omega) (by omega) rfl rfl (a_setRegion (d := 2) (c := 1) (s := 6) hL (by decide) (by decide) (by decide) (by omega) yv_last (r_setRegion_0_7_2_20 hL (yv_len hXl (by omega))) (fun w9 G9 h => by cases h.1) (fun E9 G9 h => Or.inl ⟨Sum.inr.inj h.1, rfl, h.2⟩)) ?_
    refine yl_g (m2 := c + 4) (Y := [(64, [.int (iI 0), .int (iI 7), .int (iI 2), .int (iI 20)]), (127, [])]) hA hXl (by simp only [List.append_assoc, List.cons_append, List.nil_append]) (by show _ + 2 ≤ _; omega) (fun X hA hXl => ?_)
    refine xw_eq (pc2 := 2974) rfl rfl rfl rfl (xw_wid (c2 := c + 4) (n2 := 6000 + 24 * c + 56) (by omega) (by omega) ?_)
    refine xz_sipush dL_law_2974 (by omega) ?_
    refine xz_icmp_ne (tgt := 3330) dL_law_2977 (by decide) (by omega) (by omega) (fun c2 => ?_) (fun c2 => ?_)
    · exact absurd rfl c2
    · refine xw_aload_n 0 dL_law_2980 rfl ?_
      refine xz_bipush dL_law_2981 (by decide) ?_
      refine xz_iconst dL_law_2983 ?_
      refine yv_new (N := 4) (L := [.int (iI 0), .int (iI 0), .int (iI 0), .int (iI 0)]) hXl (by omega) dL_law_2984 rfl (by decide) rfl (by omega) (by omega) ?_
      refine xw_dup dL_law_2986 rfl ?_
      refine xz_iconst dL_law_2987 ?_
      refine xz_iconst dL_law_2988 ?_
      refine yv_put (k := 0) (L2 := [.int (iI 0), .int (iI 0), .int (iI 0), .int (iI 0)]) dL_law_2989 rfl (by show _ < 4; decide) (by show 4 ≤ _; decide) rfl ?_
      refine xw_dup dL_law_2990 rfl ?_
      refine xz_iconst dL_law_2991 ?_
      refine xz_iconst dL_law_2992 ?_
      refine yv_put (k := 1) (L2 := [.int (iI 0), .int (iI 0), .int (iI 0), .int (iI 0)]) dL_law_2993 rfl (by show _ < 4; decide) (by show 4 ≤ _; decide) rfl ?_
      refine xw_dup dL_law_2994 rfl ?_
      refine xz_iconst dL_law_2995 ?_
      refine xz_iconst dL_law_2996 ?_
      refine yv_put (k := 2) (L2 := [.int (iI 0), .int (iI 0), .int (iI 0), .int (iI 0)]) dL_law_2997 rfl (by show _ < 4; decide) (by show 4 ≤ _; decide) rfl ?_
      refine xw_dup dL_law_2998 rfl ?_
      refine xz_iconst dL_law_2999 ?_
      refine xz_bipush dL_law_3000 (by decide) ?_
      refine yv_put (k := 3) (L2 := [.int (iI 0), .int (iI 0), .int (iI 0), .int (iI 20)]) dL_law_3002 rfl (by show _ < 4; decide) (by show 4 ≤ _; decide) rfl ?_
      refine yc_S (M' := mL_ask) (d := 8) (c := 1) (s := 24) (As := [.ref 0, .int (iI 114), .ref (193 + X.length)]) (st := []) (v0 := some (.int (iI (-1002)))) (G2 := Wd σ ((X ++ [(64, [.int (iI 0), .int (iI 0), .int (iI 0), .int (iI 20)])]) ++ [(127, [])])) dL_law_3003 okL_ask (Or.inl w_715) rfl (Nat.le_of_ble_eq_true rfl) (by decide) (by decide) (by omega) (by omega) rfl rfl (a_setRegion (d := 2) (c := 1) (s := 6) hL (by decide) (by decide) (by decide) (by omega) yv_last (r_setRegion_0_0_0_20 hL (yv_len hXl (by omega))) (fun w9 G9 h => by cases h.1) (fun E9 G9 h => Or.inl ⟨Sum.inr.inj h.1, rfl, h.2⟩)) ?_
      refine yl_g (m2 := c + 6) (Y := [(64, [.int (iI 0), .int (iI 0), .int (iI 0), .int (iI 20)]), (127, [])]) hA hXl (by simp only [List.append_assoc, List.cons_append, List.nil_append]) (by show _ + 2 ≤ _; omega) (fun X hA hXl => ?_)
      refine xw_eq (pc2 := 3006) rfl rfl rfl rfl (xw_wid (c2 := c + 6) (n2 := 6000 + 24 * c + 84) (by omega) (by omega) ?_)
      refine xz_sipush dL_law_3006 (by omega) ?_
      refine xz_icmp_ne (tgt := 3330) dL_law_3009 (by decide) (by omega) (by omega) (fun c3 => ?_) (fun c3 => ?_)
      · exact absurd rfl c3
      · refine xw_aload_n 0 dL_law_3012 rfl ?_
        refine xz_bipush dL_law_3013 (by decide) ?_
        refine xz_iconst dL_law_3015 ?_
        refine yv_new (N := 4) (L := [.int (iI 0), .int (iI 0), .int (iI 0), .int (iI 0)]) hXl (by omega) dL_law_3016 rfl (by decide) rfl (by omega) (by omega) ?_
        refine xw_dup dL_law_3018 rfl ?_
        refine xz_iconst dL_law_3019 ?_
        refine xz_iconst dL_law_3020 ?_
        refine yv_put (k := 0) (L2 := [.int (iI 0), .int (iI 0), .int (iI 0), .int (iI 0)]) dL_law_3021 rfl (by show _ < 4; decide) (by show 4 ≤ _; decide) rfl ?_
        refine xw_dup dL_law_3022 rfl ?_
        refine xz_iconst dL_law_3023 ?_
        refine xz_iconst dL_law_3024 ?_
        refine yv_put (k := 1) (L2 := [.int (iI 0), .int (iI 0), .int (iI 0), .int (iI 0)]) dL_law_3025 rfl (by show _ < 4; decide) (by show 4 ≤ _; decide) rfl ?_
        refine xw_dup dL_law_3026 rfl ?_
        refine xz_iconst dL_law_3027 ?_
        refine xz_bipush dL_law_3028 (by decide) ?_
        refine yv_put (k := 2) (L2 := [.int (iI 0), .int (iI 0), .int (iI 8), .int (iI 0)]) dL_law_3030 rfl (by show _ < 4; decide) (by show 4 ≤ _; decide) rfl ?_
        refine xw_dup dL_law_3031 rfl ?_
        refine xz_iconst dL_law_3032 ?_
        refine xz_iconst dL_law_3033 ?_
        refine yv_put (k := 3) (L2 := [.int (iI 0), .int (iI 0), .int (iI 8), .int (iI 4)]) dL_law_3034 rfl (by show _ < 4; decide) (by show 4 ≤ _; decide) rfl ?_
        refine yc_S (M' := mL_ask) (d := 8) (c := 1) (s := 24) (As := [.ref 0, .int (iI 114), .ref (193 + X.length)]) (st := []) (v0 := some (.int (iI (-1002)))) (G2 := Wd σ ((X ++ [(64, [.int (iI 0), .int (iI 0), .int (iI 8), .int (iI 4)])]) ++ [(127, [])])) dL_law_3035 okL_ask (Or.inl w_715) rfl (Nat.le_of_ble_eq_true rfl) (by decide) (by decide) (by omega) (by omega) rfl rfl (a_setRegion (d := 2) (c := 1) (s := 6) hL (by decide) (by decide) (by decide) (by omega) yv_last (r_setRegion_0_0_8_4 hL (yv_len hXl (by omega))) (fun w9 G9 h => by cases h.1) (fun E9 G9 h => Or.inl ⟨Sum.inr.inj h.1, rfl, h.2⟩)) ?_
        refine yl_g (m2 := c + 8) (Y := [(64, [.int (iI 0), .int (iI 0), .int (iI 8), .int (iI 4)]), (127, [])]) hA hXl (by simp only [List.append_assoc, List.cons_append, List.nil_append]) (by show _ + 2 ≤ _; omega) (fun X hA hXl => ?_)
        refine xw_eq (pc2 := 3038) rfl rfl rfl rfl (xw_wid (c2 := c + 8) (n2 := 6000 + 24 * c + 112) (by omega) (by omega) ?_)
        refine xz_sipush dL_law_3038 (by omega) ?_
        refine xz_icmp_ne (tgt := 3330) dL_law_3041 (by decide) (by omega) (by omega) (fun c4 => ?_) (fun c4 => ?_)
        · exact absurd rfl c4
        · refine xw_aload_n 0 dL_law_3044 rfl ?_
          refine xz_bipush dL_law_3045 (by decide) ?_
          refine xz_iconst dL_law_3047 ?_
          refine yv_new (N := 4) (L := [.int (iI 0), .int (iI 0), .int (iI 0), .int (iI 0)]) hXl (by omega) dL_law_3048 rfl (by decide) rfl (by omega) (by omega) ?_
          refine xw_dup dL_law_3050 rfl ?_
          refine xz_iconst dL_law_3051 ?_
          refine xz_iconst dL_law_3052 ?_
          refine yv_put (k := 0) (L2 := [.int (iI 0), .int (iI 0), .int (iI 0), .int (iI 0)]) dL_law_3053 rfl (by show _ < 4; decide) (by show 4 ≤ _; decide) rfl ?_
          refine xw_dup dL_law_3054 rfl ?_
          refine xz_iconst dL_law_3055 ?_
          refine xz_iconst dL_law_3056 ?_
          refine yv_put (k := 1) (L2 := [.int (iI 0), .int (iI 0), .int (iI 0), .int (iI 0)]) dL_law_3057 rfl (by show _ < 4; decide) (by show 4 ≤ _; decide) rfl ?_
          refine xw_dup dL_law_3058 rfl ?_
          refine xz_iconst dL_law_3059 ?_
          refine xz_bipush dL_law_3060 (by decide) ?_
          refine yv_put (k := 2) (L2 := [.int (iI 0), .int (iI 0), .int (iI 8), .int (iI 0)]) dL_law_3062 rfl (by show _ < 4; decide) (by show 4 ≤ _; decide) rfl ?_
          refine xw_dup dL_law_3063 rfl ?_
          refine xz_iconst dL_law_3064 ?_
          refine xz_bipush dL_law_3065 (by decide) ?_
          refine yv_put (k := 3) (L2 := [.int (iI 0), .int (iI 0), .int (iI 8), .int (iI 41)]) dL_law_3067 rfl (by show _ < 4; decide) (by show 4 ≤ _; decide) rfl ?_
          refine yc_S (M' := mL_ask) (d := 8) (c := 1) (s := 24) (As := [.ref 0, .int (iI 114), .ref (193 + X.length)]) (st := []) (v0 := some (.int (iI (-1002)))) (G2 := Wd σ ((X ++ [(64, [.int (iI 0), .int (iI 0), .int (iI 8), .int (iI 41)])]) ++ [(127, [])])) dL_law_3068 okL_ask (Or.inl w_715) rfl (Nat.le_of_ble_eq_true rfl) (by decide) (by decide) (by omega) (by omega) rfl rfl (a_setRegion (d := 2) (c := 1) (s := 6) hL (by decide) (by decide) (by decide) (by omega) yv_last (r_setRegion_0_0_8_41 hL (yv_len hXl (by omega))) (fun w9 G9 h => by cases h.1) (fun E9 G9 h => Or.inl ⟨Sum.inr.inj h.1, rfl, h.2⟩)) ?_
          refine yl_g (m2 := c + 10) (Y := [(64, [.int (iI 0), .int (iI 0), .int (iI 8), .int (iI 41)]), (127, [])]) hA hXl (by simp only [List.append_assoc, List.cons_append, List.nil_append]) (by show _ + 2 ≤ _; omega) (fun X hA hXl => ?_)
          refine xw_eq (pc2 := 3071) rfl rfl rfl rfl (xw_wid (c2 := c + 10) (n2 := 6000 + 24 * c + 140) (by omega) (by omega) ?_)
          refine xz_sipush dL_law_3071 (by omega) ?_
          refine xz_icmp_ne (tgt := 3330) dL_law_3074 (by decide) (by omega) (by omega) (fun c5 => ?_) (fun c5 => ?_)
          · exact absurd rfl c5
          · refine xw_aload_n 0 dL_law_3077 rfl ?_
            refine xz_bipush dL_law_3078 (by decide) ?_
            refine xz_iconst dL_law_3080 ?_
            refine yv_new (N := 2) (L := [.int (iI 0), .int (iI 0)]) hXl (by omega) dL_law_3081 rfl (by decide) rfl (by omega) (by omega) ?_
            refine xw_dup dL_law_3083 rfl ?_
            refine xz_iconst dL_law_3084 ?_
            refine xz_ldc (z := 100000) dL_law_3085 w_1169 (by decide) ?_
            refine yv_put (k := 0) (L2 := [.int (iI 100000), .int (iI 0)]) dL_law_3087 rfl (by show _ < 2; decide) (by show 2 ≤ _; decide) rfl ?_
            refine xw_dup dL_law_3088 rfl ?_
            refine xz_iconst dL_law_3089 ?_
            refine xz_iconst dL_law_3090 ?_
            refine yv_put (k := 1) (L2 := [.int (iI 100000), .int (iI 0)]) dL_law_3091 rfl (by show _ < 2; decide) (by show 2 ≤ _; decide) rfl ?_
            refine yc_S (M' := mL_ask) (d := 8) (c := 1) (s := 24) (As := [.ref 0, .int (iI 81), .ref (193 + X.length)]) (st := []) (v0 := some (.int (iI (-1002)))) (G2 := Wd σ ((X ++ [(64, [.int (iI 100000), .int (iI 0)])]) ++ [(127, [])])) dL_law_3092 okL_ask (Or.inl w_715) rfl (Nat.le_of_ble_eq_true rfl) (by decide) (by decide) (by omega) (by omega) rfl rfl (a_cueAt (d := 2) (c := 1) (s := 6) hL (by decide) (by decide) (by decide) (by omega) yv_last (r_cueAt_100000_0 hL (yv_len hXl (by omega))) (fun w9 G9 h => by cases h.1) (fun E9 G9 h => Or.inl ⟨Sum.inr.inj h.1, rfl, h.2⟩)) ?_
            refine yl_g (m2 := c + 12) (Y := [(64, [.int (iI 100000), .int (iI 0)]), (127, [])]) hA hXl (by simp only [List.append_assoc, List.cons_append, List.nil_append]) (by show _ + 2 ≤ _; omega) (fun X hA hXl => ?_)
            refine xw_eq (pc2 := 3095) rfl rfl rfl rfl (xw_wid (c2 := c + 12) (n2 := 6000 + 24 * c + 166) (by omega) (by omega) ?_)
            refine xz_sipush dL_law_3095 (by omega) ?_
            refine xz_icmp_ne (tgt := 3330) dL_law_3098 (by decide) (by omega) (by omega) (fun c6 => ?_) (fun c6 => ?_)
            · exact absurd rfl c6
            · refine xw_aload_n 0 dL_law_3101 rfl ?_
              refine xz_bipush dL_law_3102 (by decide) ?_
              refine xz_iconst dL_law_3104 ?_
              refine yv_new (N := 2) (L := [.int (iI 0), .int (iI 0)]) hXl (by omega) dL_law_3105 rfl (by decide) rfl (by omega) (by omega) ?_
              refine xw_dup dL_law_3107 rfl ?_
              refine xz_iconst dL_law_3108 ?_
              refine xz_iconst dL_law_3109 ?_
              refine yv_put (k := 0) (L2 := [.int (iI 0), .int (iI 0)]) dL_law_3110 rfl (by show _ < 2; decide) (by show 2 ≤ _; decide) rfl ?_
              refine xw_dup dL_law_3111 rfl ?_
              refine xz_iconst dL_law_3112 ?_
              refine xz_bipush dL_law_3113 (by decide) ?_
              refine yv_put (k := 1) (L2 := [.int (iI 0), .int (iI 8)]) dL_law_3115 rfl (by show _ < 2; decide) (by show 2 ≤ _; decide) rfl ?_
              refine yc_S (M' := mL_ask) (d := 8) (c := 1) (s := 24) (As := [.ref 0, .int (iI 113), .ref (193 + X.length)]) (st := []) (v0 := some (.int (iI (-1002)))) (G2 := Wd σ ((X ++ [(64, [.int (iI 0), .int (iI 8)])]) ++ [(127, [])])) dL_law_3116 okL_ask (Or.inl w_715) rfl (Nat.le_of_ble_eq_true rfl) (by decide) (by decide) (by omega) (by omega) rfl rfl (a_cueAnew (d := 2) (c := 1) (s := 6) hL (by decide) (by decide) (by decide) (by omega) yv_last (r_cueAnew_0_8 hL (yv_len hXl (by omega))) (fun w9 G9 h => by cases h.1) (fun E9 G9 h => Or.inl ⟨Sum.inr.inj h.1, rfl, h.2⟩)) ?_
              refine yl_g (m2 := c + 14) (Y := [(64, [.int (iI 0), .int (iI 8)]), (127, [])]) hA hXl (by simp only [List.append_assoc, List.cons_append, List.nil_append]) (by show _ + 2 ≤ _; omega) (fun X hA hXl => ?_)
              refine xw_eq (pc2 := 3119) rfl rfl rfl rfl (xw_wid (c2 := c + 14) (n2 := 6000 + 24 * c + 192) (by omega) (by omega) ?_)
              refine xz_sipush dL_law_3119 (by omega) ?_
              refine xz_icmp_ne (tgt := 3330) dL_law_3122 (by decide) (by omega) (by omega) (fun c7 => ?_) (fun c7 => ?_)
              · exact absurd rfl c7
              · refine xw_aload_n 0 dL_law_3125 rfl ?_
                refine xz_bipush dL_law_3126 (by decide) ?_
                refine xz_iconst dL_law_3128 ?_
                refine yv_new (N := 1) (L := [.int (iI 0)]) hXl (by omega) dL_law_3129 rfl (by decide) rfl (by omega) (by omega) ?_
                refine xw_dup dL_law_3131 rfl ?_
                refine xz_iconst dL_law_3132 ?_
                refine xz_iconst dL_law_3133 ?_
                refine yv_put (k := 0) (L2 := [.int (iI (-1))]) dL_law_3134 rfl (by show _ < 1; decide) (by show 1 ≤ _; decide) rfl ?_
                refine yc_S (M' := mL_ask) (d := 8) (c := 1) (s := 24) (As := [.ref 0, .int (iI 67), .ref (193 + X.length)]) (st := []) (v0 := some (.int (iI (-1002)))) (G2 := Wd σ ((X ++ [(64, [.int (iI (-1))])]) ++ [(127, [])])) dL_law_3135 okL_ask (Or.inl w_715) rfl (Nat.le_of_ble_eq_true rfl) (by decide) (by decide) (by omega) (by omega) rfl rfl (a_addCut (d := 2) (c := 1) (s := 6) hL (by decide) (by decide) (by decide) (by omega) yv_last (r_addCut_m1 hL (yv_len hXl (by omega))) (fun w9 G9 h => by cases h.1) (fun E9 G9 h => Or.inl ⟨Sum.inr.inj h.1, rfl, h.2⟩)) ?_
                refine yl_g (m2 := c + 16) (Y := [(64, [.int (iI (-1))]), (127, [])]) hA hXl (by simp only [List.append_assoc, List.cons_append, List.nil_append]) (by show _ + 2 ≤ _; omega) (fun X hA hXl => ?_)
                refine xw_eq (pc2 := 3138) rfl rfl rfl rfl (xw_wid (c2 := c + 16) (n2 := 6000 + 24 * c + 217) (by omega) (by omega) ?_)
                refine xz_sipush dL_law_3138 (by omega) ?_
                refine xz_icmp_ne (tgt := 3330) dL_law_3141 (by decide) (by omega) (by omega) (fun c8 => ?_) (fun c8 => ?_)
                · exact absurd rfl c8
                · refine xw_aload_n 0 dL_law_3144 rfl ?_
                  refine xz_bipush dL_law_3145 (by decide) ?_
                  refine xz_iconst dL_law_3147 ?_
                  refine yv_new (N := 1) (L := [.int (iI 0)]) hXl (by omega) dL_law_3148 rfl (by decide) rfl (by omega) (by omega) ?_
                  refine xw_dup dL_law_3150 rfl ?_
                  refine xz_iconst dL_law_3151 ?_
                  refine xz_bipush dL_law_3152 (by decide) ?_
                  refine yv_put (k := 0) (L2 := [.int (iI 100)]) dL_law_3154 rfl (by show _ < 1; decide) (by show 1 ≤ _; decide) rfl ?_
                  refine yc_S (M' := mL_ask) (d := 8) (c := 1) (s := 24) (As := [.ref 0, .int (iI 83), .ref (193 + X.length)]) (st := []) (v0 := some (.int (iI (-1002)))) (G2 := Wd σ ((X ++ [(64, [.int (iI 100)])]) ++ [(127, [])])) dL_law_3155 okL_ask (Or.inl w_715) rfl (Nat.le_of_ble_eq_true rfl) (by decide) (by decide) (by omega) (by omega) rfl rfl (a_snap (d := 2) (c := 1) (s := 6) hL (by decide) (by decide) (by decide) (by omega) yv_last (r_snap_100 hL (yv_len hXl (by omega))) (fun w9 G9 h => by cases h.1) (fun E9 G9 h => Or.inl ⟨Sum.inr.inj h.1, rfl, h.2⟩)) ?_
                  refine yl_g (m2 := c + 18) (Y := [(64, [.int (iI 100)]), (127, [])]) hA hXl (by simp only [List.append_assoc, List.cons_append, List.nil_append]) (by show _ + 2 ≤ _; omega) (fun X hA hXl => ?_)
                  refine xw_eq (pc2 := 3158) rfl rfl rfl rfl (xw_wid (c2 := c + 18) (n2 := 6000 + 24 * c + 242) (by omega) (by omega) ?_)
                  refine xz_sipush dL_law_3158 (by omega) ?_
                  refine xz_icmp_ne (tgt := 3330) dL_law_3161 (by decide) (by omega) (by omega) (fun c9 => ?_) (fun c9 => ?_)
                  · exact absurd rfl c9
                  · refine xw_aload_n 0 dL_law_3164 rfl ?_
                    refine xz_bipush dL_law_3165 (by decide) ?_
                    refine xz_iconst dL_law_3167 ?_
                    refine yv_new (N := 2) (L := [.int (iI 0), .int (iI 0)]) hXl (by omega) dL_law_3168 rfl (by decide) rfl (by omega) (by omega) ?_
                    refine xw_dup dL_law_3170 rfl ?_
                    refine xz_iconst dL_law_3171 ?_
                    refine xz_iconst dL_law_3172 ?_
                    refine yv_put (k := 0) (L2 := [.int (iI 0), .int (iI 0)]) dL_law_3173 rfl (by show _ < 2; decide) (by show 2 ≤ _; decide) rfl ?_
                    refine xw_dup dL_law_3174 rfl ?_
                    refine xz_iconst dL_law_3175 ?_
                    refine xz_iconst dL_law_3176 ?_
                    refine yv_put (k := 1) (L2 := [.int (iI 0), .int (iI 0)]) dL_law_3177 rfl (by show _ < 2; decide) (by show 2 ≤ _; decide) rfl ?_
                    refine yc_S (M' := mL_ask) (d := 8) (c := 1) (s := 24) (As := [.ref 0, .int (iI 84), .ref (193 + X.length)]) (st := []) (v0 := some (.int (iI (-1002)))) (G2 := Wd σ ((X ++ [(64, [.int (iI 0), .int (iI 0)])]) ++ [(127, [])])) dL_law_3178 okL_ask (Or.inl w_715) rfl (Nat.le_of_ble_eq_true rfl) (by decide) (by decide) (by omega) (by omega) rfl rfl (a_stretch (d := 2) (c := 1) (s := 6) hL (by decide) (by decide) (by decide) (by omega) yv_last (r_stretch_0_0 hL (yv_len hXl (by omega))) (fun w9 G9 h => by cases h.1) (fun E9 G9 h => Or.inl ⟨Sum.inr.inj h.1, rfl, h.2⟩)) ?_
                    refine yl_g (m2 := c + 20) (Y := [(64, [.int (iI 0), .int (iI 0)]), (127, [])]) hA hXl (by simp only [List.append_assoc, List.cons_append, List.nil_append]) (by show _ + 2 ≤ _; omega) (fun X hA hXl => ?_)
                    refine xw_eq (pc2 := 3181) rfl rfl rfl rfl (xw_wid (c2 := c + 20) (n2 := 6000 + 24 * c + 268) (by omega) (by omega) ?_)
                    refine xz_sipush dL_law_3181 (by omega) ?_
                    refine xz_icmp_ne (tgt := 3330) dL_law_3184 (by decide) (by omega) (by omega) (fun c10 => ?_) (fun c10 => ?_)
                    · exact absurd rfl c10
                    · refine xw_aload_n 0 dL_law_3187 rfl ?_
                      refine xz_bipush dL_law_3188 (by decide) ?_
                      refine xz_iconst dL_law_3190 ?_
                      refine yv_new (N := 2) (L := [.int (iI 0), .int (iI 0)]) hXl (by omega) dL_law_3191 rfl (by decide) rfl (by omega) (by omega) ?_
                      refine xw_dup dL_law_3193 rfl ?_
                      refine xz_iconst dL_law_3194 ?_
                      refine xz_iconst dL_law_3195 ?_
                      refine yv_put (k := 0) (L2 := [.int (iI 1), .int (iI 0)]) dL_law_3196 rfl (by show _ < 2; decide) (by show 2 ≤ _; decide) rfl ?_
                      refine xw_dup dL_law_3197 rfl ?_
                      refine xz_iconst dL_law_3198 ?_
                      refine xz_bipush dL_law_3199 (by decide) ?_
                      refine yv_put (k := 1) (L2 := [.int (iI 1), .int (iI 100)]) dL_law_3201 rfl (by show _ < 2; decide) (by show 2 ≤ _; decide) rfl ?_
                      refine yc_S (M' := mL_ask) (d := 8) (c := 1) (s := 24) (As := [.ref 0, .int (iI 84), .ref (193 + X.length)]) (st := []) (v0 := some (.int (iI (-1002)))) (G2 := Wd σ ((X ++ [(64, [.int (iI 1), .int (iI 100)])]) ++ [(127, [])])) dL_law_3202 okL_ask (Or.inl w_715) rfl (Nat.le_of_ble_eq_true rfl) (by decide) (by decide) (by omega) (by omega) rfl rfl (a_stretch (d := 2) (c := 1) (s := 6) hL (by decide) (by decide) (by decide) (by omega) yv_last (r_stretch_1_100 hL (yv_len hXl (by omega))) (fun w9 G9 h => by cases h.1) (fun E9 G9 h => Or.inl ⟨Sum.inr.inj h.1, rfl, h.2⟩)) ?_
                      refine yl_g (m2 := c + 22) (Y := [(64, [.int (iI 1), .int (iI 100)]), (127, [])]) hA hXl (by simp only [List.append_assoc, List.cons_append, List.nil_append]) (by show _ + 2 ≤ _; omega) (fun X hA hXl => ?_)
                      refine xw_eq (pc2 := 3205) rfl rfl rfl rfl (xw_wid (c2 := c + 22) (n2 := 6000 + 24 * c + 294) (by omega) (by omega) ?_)
                      refine xz_sipush dL_law_3205 (by omega) ?_
                      refine xz_icmp_ne (tgt := 3330) dL_law_3208 (by decide) (by omega) (by omega) (fun c11 => ?_) (fun c11 => ?_)
                      · exact absurd rfl c11
                      · refine xw_aload_n 0 dL_law_3211 rfl ?_
                        refine xz_bipush dL_law_3212 (by decide) ?_
                        refine xz_iconst dL_law_3214 ?_
                        refine yv_new (N := 2) (L := [.int (iI 0), .int (iI 0)]) hXl (by omega) dL_law_3215 rfl (by decide) rfl (by omega) (by omega) ?_
                        refine xw_dup dL_law_3217 rfl ?_
                        refine xz_iconst dL_law_3218 ?_
                        refine xz_iconst dL_law_3219 ?_
                        refine yv_put (k := 0) (L2 := [.int (iI 0), .int (iI 0)]) dL_law_3220 rfl (by show _ < 2; decide) (by show 2 ≤ _; decide) rfl ?_
                        refine xw_dup dL_law_3221 rfl ?_
                        refine xz_iconst dL_law_3222 ?_
                        refine xz_iconst dL_law_3223 ?_
                        refine yv_put (k := 1) (L2 := [.int (iI 0), .int (iI 1)]) dL_law_3224 rfl (by show _ < 2; decide) (by show 2 ≤ _; decide) rfl ?_
                        refine yc_S (M' := mL_ask) (d := 8) (c := 1) (s := 24) (As := [.ref 0, .int (iI 86), .ref (193 + X.length)]) (st := []) (v0 := some (.int (iI (-1002)))) (G2 := Wd σ ((X ++ [(64, [.int (iI 0), .int (iI 1)])]) ++ [(127, [])])) dL_law_3225 okL_ask (Or.inl w_715) rfl (Nat.le_of_ble_eq_true rfl) (by decide) (by decide) (by omega) (by omega) rfl rfl (a_convert (d := 2) (c := 1) (s := 6) hL (by decide) (by decide) (by decide) (by omega) yv_last (r_convert_0_1 hL (yv_len hXl (by omega))) (fun w9 G9 h => by cases h.1) (fun E9 G9 h => Or.inl ⟨Sum.inr.inj h.1, rfl, h.2⟩)) ?_
                        refine yl_g (m2 := c + 24) (Y := [(64, [.int (iI 0), .int (iI 1)]), (127, [])]) hA hXl (by simp only [List.append_assoc, List.cons_append, List.nil_append]) (by show _ + 2 ≤ _; omega) (fun X hA hXl => ?_)
                        refine xw_eq (pc2 := 3228) rfl rfl rfl rfl (xw_wid (c2 := c + 24) (n2 := 6000 + 24 * c + 320) (by omega) (by omega) ?_)
                        refine xz_sipush dL_law_3228 (by omega) ?_
                        refine xz_icmp_ne (tgt := 3330) dL_law_3231 (by decide) (by omega) (by omega) (fun c12 => ?_) (fun c12 => ?_)
                        · exact absurd rfl c12
                        · refine xw_aload_n 0 dL_law_3234 rfl ?_
                          refine xz_bipush dL_law_3235 (by decide) ?_
                          refine xz_iconst dL_law_3237 ?_
                          refine yv_new (N := 2) (L := [.int (iI 0), .int (iI 0)]) hXl (by omega) dL_law_3238 rfl (by decide) rfl (by omega) (by omega) ?_
                          refine xw_dup dL_law_3240 rfl ?_
                          refine xz_iconst dL_law_3241 ?_
                          refine xz_iconst dL_law_3242 ?_
                          refine yv_put (k := 0) (L2 := [.int (iI 1), .int (iI 0)]) dL_law_3243 rfl (by show _ < 2; decide) (by show 2 ≤ _; decide) rfl ?_
                          refine xw_dup dL_law_3244 rfl ?_
                          refine xz_iconst dL_law_3245 ?_
                          refine xz_sipush dL_law_3246 (by decide) ?_
                          refine yv_put (k := 1) (L2 := [.int (iI 1), .int (iI 1002)]) dL_law_3249 rfl (by show _ < 2; decide) (by show 2 ≤ _; decide) rfl ?_
                          refine yc_S (M' := mL_ask) (d := 8) (c := 1) (s := 24) (As := [.ref 0, .int (iI 86), .ref (193 + X.length)]) (st := []) (v0 := some (.int (iI (-1002)))) (G2 := Wd σ ((X ++ [(64, [.int (iI 1), .int (iI 1002)])]) ++ [(127, [])])) dL_law_3250 okL_ask (Or.inl w_715) rfl (Nat.le_of_ble_eq_true rfl) (by decide) (by decide) (by omega) (by omega) rfl rfl (a_convert (d := 2) (c := 1) (s := 6) hL (by decide) (by decide) (by decide) (by omega) yv_last (r_convert_1_1002 hL (yv_len hXl (by omega))) (fun w9 G9 h => by cases h.1) (fun E9 G9 h => Or.inl ⟨Sum.inr.inj h.1, rfl, h.2⟩)) ?_
                          refine yl_g (m2 := c + 26) (Y := [(64, [.int (iI 1), .int (iI 1002)]), (127, [])]) hA hXl (by simp only [List.append_assoc, List.cons_append, List.nil_append]) (by show _ + 2 ≤ _; omega) (fun X hA hXl => ?_)
                          refine xw_eq (pc2 := 3253) rfl rfl rfl rfl (xw_wid (c2 := c + 26) (n2 := 6000 + 24 * c + 346) (by omega) (by omega) ?_)
                          refine xz_sipush dL_law_3253 (by omega) ?_
                          refine xz_icmp_ne (tgt := 3330) dL_law_3256 (by decide) (by omega) (by omega) (fun c13 => ?_) (fun c13 => ?_)
                          · exact absurd rfl c13
                          · refine xw_aload_n 0 dL_law_3259 rfl ?_
                            refine xz_bipush dL_law_3260 (by decide) ?_
                            refine xz_iconst dL_law_3262 ?_
                            refine yv_new (N := 2) (L := [.int (iI 0), .int (iI 0)]) hXl (by omega) dL_law_3263 rfl (by decide) rfl (by omega) (by omega) ?_
                            refine xw_dup dL_law_3265 rfl ?_
                            refine xz_iconst dL_law_3266 ?_
                            refine xz_ldc (z := 100000) dL_law_3267 w_1169 (by decide) ?_
                            refine yv_put (k := 0) (L2 := [.int (iI 100000), .int (iI 0)]) dL_law_3269 rfl (by show _ < 2; decide) (by show 2 ≤ _; decide) rfl ?_
                            refine xw_dup dL_law_3270 rfl ?_
                            refine xz_iconst dL_law_3271 ?_
                            refine xz_iconst dL_law_3272 ?_
                            refine yv_put (k := 1) (L2 := [.int (iI 100000), .int (iI 0)]) dL_law_3273 rfl (by show _ < 2; decide) (by show 2 ≤ _; decide) rfl ?_
                            refine yc_S (M' := mL_ask) (d := 8) (c := 1) (s := 24) (As := [.ref 0, .int (iI 65), .ref (193 + X.length)]) (st := []) (v0 := some (.int (iI (-1002)))) (G2 := Wd σ ((X ++ [(64, [.int (iI 100000), .int (iI 0)])]) ++ [(127, [])])) dL_law_3274 okL_ask (Or.inl w_715) rfl (Nat.le_of_ble_eq_true rfl) (by decide) (by decide) (by omega) (by omega) rfl rfl (a_addAnchor (d := 2) (c := 1) (s := 6) hL (by decide) (by decide) (by decide) (by omega) yv_last (r_addAnchor_100000_0 hL (yv_len hXl (by omega))) (fun w9 G9 h => by cases h.1) (fun E9 G9 h => Or.inl ⟨Sum.inr.inj h.1, rfl, h.2⟩)) ?_
                            refine yl_g (m2 := c + 28) (Y := [(64, [.int (iI 100000), .int (iI 0)]), (127, [])]) hA hXl (by simp only [List.append_assoc, List.cons_append, List.nil_append]) (by show _ + 2 ≤ _; omega) (fun X hA hXl => ?_)
                            refine xw_eq (pc2 := 3277) rfl rfl rfl rfl (xw_wid (c2 := c + 28) (n2 := 6000 + 24 * c + 372) (by omega) (by omega) ?_)
                            refine xz_sipush dL_law_3277 (by omega) ?_
                            refine xz_icmp_ne (tgt := 3330) dL_law_3280 (by decide) (by omega) (by omega) (fun c14 => ?_) (fun c14 => ?_)
                            · exact absurd rfl c14
                            · refine xw_aload_n 0 dL_law_3283 rfl ?_
                              refine xz_bipush dL_law_3284 (by decide) ?_
                              refine xz_iconst dL_law_3286 ?_
                              refine yv_new (N := 2) (L := [.int (iI 0), .int (iI 0)]) hXl (by omega) dL_law_3287 rfl (by decide) rfl (by omega) (by omega) ?_
                              refine xw_dup dL_law_3289 rfl ?_
                              refine xz_iconst dL_law_3290 ?_
                              refine xz_iconst dL_law_3291 ?_
                              refine yv_put (k := 0) (L2 := [.int (iI 0), .int (iI 0)]) dL_law_3292 rfl (by show _ < 2; decide) (by show 2 ≤ _; decide) rfl ?_
                              refine xw_dup dL_law_3293 rfl ?_
                              refine xz_iconst dL_law_3294 ?_
                              refine xz_iconst dL_law_3295 ?_
                              refine yv_put (k := 1) (L2 := [.int (iI 0), .int (iI 0)]) dL_law_3296 rfl (by show _ < 2; decide) (by show 2 ≤ _; decide) rfl ?_
                              refine yc_S (M' := mL_ask) (d := 8) (c := 1) (s := 24) (As := [.ref 0, .int (iI 72), .ref (193 + X.length)]) (st := []) (v0 := some (.int (iI (-1002)))) (G2 := Wd σ ((X ++ [(64, [.int (iI 0), .int (iI 0)])]) ++ [(127, [])])) dL_law_3297 okL_ask (Or.inl w_715) rfl (Nat.le_of_ble_eq_true rfl) (by decide) (by decide) (by omega) (by omega) rfl rfl (a_addHeard (d := 2) (c := 1) (s := 6) hL (by decide) (by decide) (by decide) (by omega) yv_last (r_addHeard_0_0 hL (yv_len hXl (by omega))) (fun w9 G9 h => by cases h.1) (fun E9 G9 h => Or.inl ⟨Sum.inr.inj h.1, rfl, h.2⟩)) ?_
                              refine yl_g (m2 := c + 30) (Y := [(64, [.int (iI 0), .int (iI 0)]), (127, [])]) hA hXl (by simp only [List.append_assoc, List.cons_append, List.nil_append]) (by show _ + 2 ≤ _; omega) (fun X hA hXl => ?_)
                              refine xw_eq (pc2 := 3300) rfl rfl rfl rfl (xw_wid (c2 := c + 30) (n2 := 6000 + 24 * c + 398) (by omega) (by omega) ?_)
                              refine xz_sipush dL_law_3300 (by omega) ?_
                              refine xz_icmp_ne (tgt := 3330) dL_law_3303 (by decide) (by omega) (by omega) (fun c15 => ?_) (fun c15 => ?_)
                              · exact absurd rfl c15
                              · refine xw_aload_n 0 dL_law_3306 rfl ?_
                                refine xz_bipush dL_law_3307 (by decide) ?_
                                refine xz_iconst dL_law_3309 ?_
                                refine yv_new (N := 2) (L := [.int (iI 0), .int (iI 0)]) hXl (by omega) dL_law_3310 rfl (by decide) rfl (by omega) (by omega) ?_
                                refine xw_dup dL_law_3312 rfl ?_
                                refine xz_iconst dL_law_3313 ?_
                                refine xz_ldc (z := 100000) dL_law_3314 w_1169 (by decide) ?_
                                refine yv_put (k := 0) (L2 := [.int (iI 100000), .int (iI 0)]) dL_law_3316 rfl (by show _ < 2; decide) (by show 2 ≤ _; decide) rfl ?_
                                refine xw_dup dL_law_3317 rfl ?_
                                refine xz_iconst dL_law_3318 ?_
                                refine xz_iconst dL_law_3319 ?_
                                refine yv_put (k := 1) (L2 := [.int (iI 100000), .int (iI 1)]) dL_law_3320 rfl (by show _ < 2; decide) (by show 2 ≤ _; decide) rfl ?_
                                refine yc_S (M' := mL_ask) (d := 8) (c := 1) (s := 24) (As := [.ref 0, .int (iI 72), .ref (193 + X.length)]) (st := []) (v0 := some (.int (iI (-1002)))) (G2 := Wd σ ((X ++ [(64, [.int (iI 100000), .int (iI 1)])]) ++ [(127, [])])) dL_law_3321 okL_ask (Or.inl w_715) rfl (Nat.le_of_ble_eq_true rfl) (by decide) (by decide) (by omega) (by omega) rfl rfl (a_addHeard (d := 2) (c := 1) (s := 6) hL (by decide) (by decide) (by decide) (by omega) yv_last (r_addHeard_100000_1 hL (yv_len hXl (by omega))) (fun w9 G9 h => by cases h.1) (fun E9 G9 h => Or.inl ⟨Sum.inr.inj h.1, rfl, h.2⟩)) ?_
                                refine yl_g (m2 := c + 32) (Y := [(64, [.int (iI 100000), .int (iI 1)]), (127, [])]) hA hXl (by simp only [List.append_assoc, List.cons_append, List.nil_append]) (by show _ + 2 ≤ _; omega) (fun X hA hXl => ?_)
                                refine xw_eq (pc2 := 3324) rfl rfl rfl rfl (xw_wid (c2 := c + 32) (n2 := 6000 + 24 * c + 424) (by omega) (by omega) ?_)
                                refine xz_sipush dL_law_3324 (by omega) ?_
                                refine xz_icmp_eq (tgt := 3332) dL_law_3327 (by decide) (by omega) (by omega) (fun c16 => ?_) (fun c16 => ?_)
                                · refine xz_iconst dL_law_3332 ?_
                                  refine xw_istore (l2 := [(1, .ref 0), (2, .int (iI N)), (16, .int (iI 0))]) dL_law_3333 (by decide) rfl rfl ?_
                                  refine xw_wid (c2 := c + 32) (n2 := 6000 + 24 * (c + 32)) (by omega) (by omega) ?_
                                  exact L_drop hL hN 0 (by omega) (by omega) hA (c := c + 32) hXl (by omega) h6.d8
                                · exact absurd rfl c16
theorem L_ref1 (hL : L.stackTraces = false) {σ : ySg} {N : Int} {aR : Nat} {Rg : Int → Int} (hN : 1 ≤ N ∧ N ≤ 8) {X : List xOb} (hA : yHs ((aR, iaL 24 Rg) :: []) X) {c : Nat} (hXl : X.length ≤ c) (hc : c ≤ 40000) (h6 : yF6 σ N) (hRg : σ (cu 0) 3 = Rg 0) : xWP L O mL_law (xR 13 828823 6605674) yKL 2450 [(1, .ref 0), (2, .int (iI N)), (5, .ref aR)] [] (Wd σ X) c (6000 + 24 * c) := by
  have hf6 := h6
  obtain ⟨hr, d2, d3, d4, d5, d6, d7, d8⟩ := id h6
  have d30 := d3 0 (by omega) (by omega)
  have d60 := d6 0 (by omega) (by omega)
  refine xw_iload_n 1 dL_law_2450 rfl ?_
  refine xz_iconst dL_law_2451 ?_
  refine xz_iadd dL_law_2452 ?_
  refine xw_istore (l2 := [(1, .ref 0), (2, .int (iI N)), (5, .ref aR), (15, .int (iI (N + 1)))]) dL_law_2453 (by decide) rfl rfl ?_
  refine xw_aload_n 0 dL_law_2455 rfl ?_
  refine xz_bipush dL_law_2456 (by decide) ?_
  refine xz_iconst dL_law_2458 ?_
  refine yv_new (N := 3) (L := [.int (iI 0), .int (iI 0), .int (iI 0)]) hXl (by omega) dL_law_2459 rfl (by decide) rfl (by omega) (by omega) ?_
  refine xw_dup dL_law_2461 rfl ?_
  refine xz_iconst dL_law_2462 ?_
  refine xz_iconst dL_law_2463 ?_
  refine yv_put (k := 0) (L2 := [.int (iI 5), .int (iI 0), .int (iI 0)]) dL_law_2464 rfl (by show _ < 3; decide) (by show 3 ≤ _; decide) rfl ?_
  refine xw_dup dL_law_2465 rfl ?_
  refine xz_iconst dL_law_2466 ?_
  refine xz_iconst dL_law_2467 ?_
  refine yv_put (k := 1) (L2 := [.int (iI 5), .int (iI 5), .int (iI 0)]) dL_law_2468 rfl (by show _ < 3; decide) (by show 3 ≤ _; decide) rfl ?_
  refine xw_dup dL_law_2469 rfl ?_
  refine xz_iconst dL_law_2470 ?_
  refine xz_iconst dL_law_2471 ?_
  refine yv_put (k := 2) (L2 := [.int (iI 5), .int (iI 5), .int (iI 0)]) dL_law_2472 rfl (by show _ < 3; decide) (by show 3 ≤ _; decide) rfl ?_
  refine yc_S (M' := mL_cue) (d := 8) (c := 1) (s := 24) (As := [.ref 0, .int (iI 97), .ref (193 + X.length)]) (st := []) (v0 := some (.int (iI (-1002)))) (G2 := Wd σ ((X ++ [(64, [.int (iI 5), .int (iI 5), .int (iI 0)])]) ++ [(127, [])])) dL_law_2473 okL_cue (Or.inl w_971) rfl (Nat.le_of_ble_eq_true rfl) (by decide) (by decide) (by omega) (by omega) rfl rfl (a_addCue (d := 2) (c := 1) (s := 6) hL (by decide) (by decide) (by decide) (by omega) yv_last (r_addCue_5_5_0 hL (yv_len hXl (by omega))) (fun w9 G9 h => by cases h.1) (fun E9 G9 h => Or.inr (Or.inl ⟨Sum.inr.inj h.1, rfl, h.2⟩))) ?_
  refine yl_g (m2 := c + 2) (Y := [(64, [.int (iI 5), .int (iI 5), .int (iI 0)]), (127, [])]) hA hXl (by simp only [List.append_assoc, List.cons_append, List.nil_append]) (by show _ + 2 ≤ _; omega) (fun X hA hXl => ?_)
  refine xw_eq (pc2 := 2476) rfl rfl rfl rfl (xw_wid (c2 := c + 2) (n2 := 6000 + 24 * c + 27) (by omega) (by omega) ?_)
  refine xz_sipush dL_law_2476 (by omega) ?_
  refine xz_icmp_ne (tgt := 2913) dL_law_2479 (by decide) (by omega) (by omega) (fun c1 => ?_) (fun c1 => ?_)
  · exact absurd rfl c1
  · refine xw_aload_n 0 dL_law_2482 rfl ?_
    refine xz_bipush dL_law_2483 (by decide) ?_
    refine xz_iconst dL_law_2485 ?_
    refine yv_new (N := 3) (L := [.int (iI 0), .int (iI 0), .int (iI 0)]) hXl (by omega) dL_law_2486 rfl (by decide) rfl (by omega) (by omega) ?_
    refine xw_dup dL_law_2488 rfl ?_
    refine xz_iconst dL_law_2489 ?_
    refine xz_iconst dL_law_2490 ?_
    refine yv_put (k := 0) (L2 := [.int (iI (-1)), .int (iI 0), .int (iI 0)]) dL_law_2491 rfl (by show _ < 3; decide) (by show 3 ≤ _; decide) rfl ?_
    refine xw_dup dL_law_2492 rfl ?_
    refine xz_iconst dL_law_2493 ?_
    refine xz_iconst dL_law_2494 ?_
    refine yv_put (k := 1) (L2 := [.int (iI (-1)), .int (iI 5), .int (iI 0)]) dL_law_2495 rfl (by show _ < 3; decide) (by show 3 ≤ _; decide) rfl ?_
    refine xw_dup dL_law_2496 rfl ?_
    refine xz_iconst dL_law_2497 ?_
    refine xz_iconst dL_law_2498 ?_
    refine yv_put (k := 2) (L2 := [.int (iI (-1)), .int (iI 5), .int (iI 0)]) dL_law_2499 rfl (by show _ < 3; decide) (by show 3 ≤ _; decide) rfl ?_
    refine yc_S (M' := mL_cue) (d := 8) (c := 1) (s := 24) (As := [.ref 0, .int (iI 97), .ref (193 + X.length)]) (st := []) (v0 := some (.int (iI (-1002)))) (G2 := Wd σ ((X ++ [(64, [.int (iI (-1)), .int (iI 5), .int (iI 0)])]) ++ [(127, [])])) dL_law_2500 okL_cue (Or.inl w_971) rfl (Nat.le_of_ble_eq_true rfl) (by decide) (by decide) (by omega) (by omega) rfl rfl (a_addCue (d := 2) (c := 1) (s := 6) hL (by decide) (by decide) (by decide) (by omega) yv_last (r_addCue_m1_5_0 hL (yv_len hXl (by omega))) (fun w9 G9 h => by cases h.1) (fun E9 G9 h => Or.inr (Or.inl ⟨Sum.inr.inj h.1, rfl, h.2⟩))) ?_
    refine yl_g (m2 := c + 4) (Y := [(64, [.int (iI (-1)), .int (iI 5), .int (iI 0)]), (127, [])]) hA hXl (by simp only [List.append_assoc, List.cons_append, List.nil_append]) (by show _ + 2 ≤ _; omega) (fun X hA hXl => ?_)
    refine xw_eq (pc2 := 2503) rfl rfl rfl rfl (xw_wid (c2 := c + 4) (n2 := 6000 + 24 * c + 54) (by omega) (by omega) ?_)
    refine xz_sipush dL_law_2503 (by omega) ?_
    refine xz_icmp_ne (tgt := 2913) dL_law_2506 (by decide) (by omega) (by omega) (fun c2 => ?_) (fun c2 => ?_)
    · exact absurd rfl c2
    · refine xw_aload_n 0 dL_law_2509 rfl ?_
      refine xz_bipush dL_law_2510 (by decide) ?_
      refine xz_iconst dL_law_2512 ?_
      refine yv_new (N := 3) (L := [.int (iI 0), .int (iI 0), .int (iI 0)]) hXl (by omega) dL_law_2513 rfl (by decide) rfl (by omega) (by omega) ?_
      refine xw_dup dL_law_2515 rfl ?_
      refine xz_iconst dL_law_2516 ?_
      refine xz_iconst dL_law_2517 ?_
      refine yv_put (k := 0) (L2 := [.int (iI 5), .int (iI 0), .int (iI 0)]) dL_law_2518 rfl (by show _ < 3; decide) (by show 3 ≤ _; decide) rfl ?_
      refine xw_dup dL_law_2519 rfl ?_
      refine xz_iconst dL_law_2520 ?_
      refine xz_ldc (z := 100000) dL_law_2521 w_1169 (by decide) ?_
      refine yv_put (k := 1) (L2 := [.int (iI 5), .int (iI 100000), .int (iI 0)]) dL_law_2523 rfl (by show _ < 3; decide) (by show 3 ≤ _; decide) rfl ?_
      refine xw_dup dL_law_2524 rfl ?_
      refine xz_iconst dL_law_2525 ?_
      refine xz_iconst dL_law_2526 ?_
      refine yv_put (k := 2) (L2 := [.int (iI 5), .int (iI 100000), .int (iI 0)]) dL_law_2527 rfl (by show _ < 3; decide) (by show 3 ≤ _; decide) rfl ?_
      refine yc_S (M' := mL_cue) (d := 8) (c := 1) (s := 24) (As := [.ref 0, .int (iI 97), .ref (193 + X.length)]) (st := []) (v0 := some (.int (iI (-1002)))) (G2 := Wd σ ((X ++ [(64, [.int (iI 5), .int (iI 100000), .int (iI 0)])]) ++ [(127, [])])) dL_law_2528 okL_cue (Or.inl w_971) rfl (Nat.le_of_ble_eq_true rfl) (by decide) (by decide) (by omega) (by omega) rfl rfl (a_addCue (d := 2) (c := 1) (s := 6) hL (by decide) (by decide) (by decide) (by omega) yv_last (r_addCue_5_100000_0 hL (yv_len hXl (by omega))) (fun w9 G9 h => by cases h.1) (fun E9 G9 h => Or.inr (Or.inl ⟨Sum.inr.inj h.1, rfl, h.2⟩))) ?_
      refine yl_g (m2 := c + 6) (Y := [(64, [.int (iI 5), .int (iI 100000), .int (iI 0)]), (127, [])]) hA hXl (by simp only [List.append_assoc, List.cons_append, List.nil_append]) (by show _ + 2 ≤ _; omega) (fun X hA hXl => ?_)
      refine xw_eq (pc2 := 2531) rfl rfl rfl rfl (xw_wid (c2 := c + 6) (n2 := 6000 + 24 * c + 81) (by omega) (by omega) ?_)
      refine xz_sipush dL_law_2531 (by omega) ?_
      refine xz_icmp_ne (tgt := 2913) dL_law_2534 (by decide) (by omega) (by omega) (fun c3 => ?_) (fun c3 => ?_)
      · exact absurd rfl c3
      · refine xw_aload_n 0 dL_law_2537 rfl ?_
        refine xz_bipush dL_law_2538 (by decide) ?_
        refine xz_iconst dL_law_2540 ?_
        refine yv_new (N := 3) (L := [.int (iI 0), .int (iI 0), .int (iI 0)]) hXl (by omega) dL_law_2541 rfl (by decide) rfl (by omega) (by omega) ?_
        refine xw_dup dL_law_2543 rfl ?_
        refine xz_iconst dL_law_2544 ?_
        refine xz_iconst dL_law_2545 ?_
        refine yv_put (k := 0) (L2 := [.int (iI 5), .int (iI 0), .int (iI 0)]) dL_law_2546 rfl (by show _ < 3; decide) (by show 3 ≤ _; decide) rfl ?_
        refine xw_dup dL_law_2547 rfl ?_
        refine xz_iconst dL_law_2548 ?_
        refine xz_bipush dL_law_2549 (by decide) ?_
        refine yv_put (k := 1) (L2 := [.int (iI 5), .int (iI 6), .int (iI 0)]) dL_law_2551 rfl (by show _ < 3; decide) (by show 3 ≤ _; decide) rfl ?_
        refine xw_dup dL_law_2552 rfl ?_
        refine xz_iconst dL_law_2553 ?_
        refine xz_iconst dL_law_2554 ?_
        refine yv_put (k := 2) (L2 := [.int (iI 5), .int (iI 6), .int (iI 3)]) dL_law_2555 rfl (by show _ < 3; decide) (by show 3 ≤ _; decide) rfl ?_
        refine yc_S (M' := mL_cue) (d := 8) (c := 1) (s := 24) (As := [.ref 0, .int (iI 97), .ref (193 + X.length)]) (st := []) (v0 := some (.int (iI (-1002)))) (G2 := Wd σ ((X ++ [(64, [.int (iI 5), .int (iI 6), .int (iI 3)])]) ++ [(127, [])])) dL_law_2556 okL_cue (Or.inl w_971) rfl (Nat.le_of_ble_eq_true rfl) (by decide) (by decide) (by omega) (by omega) rfl rfl (a_addCue (d := 2) (c := 1) (s := 6) hL (by decide) (by decide) (by decide) (by omega) yv_last (r_addCue_5_6_3 hL (yv_len hXl (by omega))) (fun w9 G9 h => by cases h.1) (fun E9 G9 h => Or.inr (Or.inl ⟨Sum.inr.inj h.1, rfl, h.2⟩))) ?_
        refine yl_g (m2 := c + 8) (Y := [(64, [.int (iI 5), .int (iI 6), .int (iI 3)]), (127, [])]) hA hXl (by simp only [List.append_assoc, List.cons_append, List.nil_append]) (by show _ + 2 ≤ _; omega) (fun X hA hXl => ?_)
        refine xw_eq (pc2 := 2559) rfl rfl rfl rfl (xw_wid (c2 := c + 8) (n2 := 6000 + 24 * c + 108) (by omega) (by omega) ?_)
        refine xz_sipush dL_law_2559 (by omega) ?_
        refine xz_icmp_ne (tgt := 2913) dL_law_2562 (by decide) (by omega) (by omega) (fun c4 => ?_) (fun c4 => ?_)
        · exact absurd rfl c4
        · refine xw_aload_n 0 dL_law_2565 rfl ?_
          refine xz_bipush dL_law_2566 (by decide) ?_
          refine xz_iconst dL_law_2568 ?_
          refine yv_new (N := 2) (L := [.int (iI 0), .int (iI 0)]) hXl (by omega) dL_law_2569 rfl (by decide) rfl (by omega) (by omega) ?_
          refine xw_dup dL_law_2571 rfl ?_
          refine xz_iconst dL_law_2572 ?_
          refine xw_iload 3 dL_law_2573 rfl ?_
          refine yv_put (k := 0) (L2 := [.int (iI (N + 1)), .int (iI 0)]) dL_law_2575 rfl (by show _ < 2; decide) (by show 2 ≤ _; decide) rfl ?_
          refine xw_dup dL_law_2576 rfl ?_
          refine xz_iconst dL_law_2577 ?_
          refine xz_iconst dL_law_2578 ?_
          refine yv_put (k := 1) (L2 := [.int (iI (N + 1)), .int (iI 1)]) dL_law_2579 rfl (by show _ < 2; decide) (by show 2 ≤ _; decide) rfl ?_
          refine yc_S (M' := mL_cue) (d := 8) (c := 1) (s := 24) (As := [.ref 0, .int (iI 119), .ref (193 + X.length)]) (st := []) (v0 := some (.int (iI (-1005)))) (G2 := Wd σ ((X ++ [(64, [.int (iI (N + 1)), .int (iI 1)])]) ++ [(127, [])])) dL_law_2580 okL_cue (Or.inl w_971) rfl (Nat.le_of_ble_eq_true rfl) (by decide) (by decide) (by omega) (by omega) rfl rfl (a_addWord (d := 7) (c := 1) (s := 6) hL (by decide) (by decide) (by decide) (by omega) yv_last (n_addWord hL (yv_len hXl (by omega)) hr (by omega) (by omega)) (fun w9 G9 h => by cases h.1) (fun E9 G9 h => Or.inr (Or.inr (Or.inr (Or.inr (⟨Sum.inr.inj h.1, rfl, h.2⟩)))))) ?_
          refine yl_g (m2 := c + 10) (Y := [(64, [.int (iI (N + 1)), .int (iI 1)]), (127, [])]) hA hXl (by simp only [List.append_assoc, List.cons_append, List.nil_append]) (by show _ + 2 ≤ _; omega) (fun X hA hXl => ?_)
          refine xw_eq (pc2 := 2583) rfl rfl rfl rfl (xw_wid (c2 := c + 10) (n2 := 6000 + 24 * c + 134) (by omega) (by omega) ?_)
          refine xz_sipush dL_law_2583 (by omega) ?_
          refine xz_icmp_ne (tgt := 2913) dL_law_2586 (by decide) (by omega) (by omega) (fun c5 => ?_) (fun c5 => ?_)
          · exact absurd rfl c5
          · refine xw_aload_n 0 dL_law_2589 rfl ?_
            refine xz_bipush dL_law_2590 (by decide) ?_
            refine xz_iconst dL_law_2592 ?_
            refine yv_new (N := 2) (L := [.int (iI 0), .int (iI 0)]) hXl (by omega) dL_law_2593 rfl (by decide) rfl (by omega) (by omega) ?_
            refine xw_dup dL_law_2595 rfl ?_
            refine xz_iconst dL_law_2596 ?_
            refine xz_iconst dL_law_2597 ?_
            refine yv_put (k := 0) (L2 := [.int (iI 0), .int (iI 0)]) dL_law_2598 rfl (by show _ < 2; decide) (by show 2 ≤ _; decide) rfl ?_
            refine xw_dup dL_law_2599 rfl ?_
            refine xz_iconst dL_law_2600 ?_
            refine xz_iconst dL_law_2601 ?_
            refine yv_put (k := 1) (L2 := [.int (iI 0), .int (iI 0)]) dL_law_2602 rfl (by show _ < 2; decide) (by show 2 ≤ _; decide) rfl ?_
            refine yc_S (M' := mL_cue) (d := 8) (c := 1) (s := 24) (As := [.ref 0, .int (iI 119), .ref (193 + X.length)]) (st := []) (v0 := some (.int (iI (-1002)))) (G2 := Wd σ ((X ++ [(64, [.int (iI 0), .int (iI 0)])]) ++ [(127, [])])) dL_law_2603 okL_cue (Or.inl w_971) rfl (Nat.le_of_ble_eq_true rfl) (by decide) (by decide) (by omega) (by omega) rfl rfl (a_addWord (d := 2) (c := 1) (s := 6) hL (by decide) (by decide) (by decide) (by omega) yv_last (r_addWord_0_0 hL (yv_len hXl (by omega)) hr (by omega) (by omega)) (fun w9 G9 h => by cases h.1) (fun E9 G9 h => Or.inr (Or.inl ⟨Sum.inr.inj h.1, rfl, h.2⟩))) ?_
            refine yl_g (m2 := c + 12) (Y := [(64, [.int (iI 0), .int (iI 0)]), (127, [])]) hA hXl (by simp only [List.append_assoc, List.cons_append, List.nil_append]) (by show _ + 2 ≤ _; omega) (fun X hA hXl => ?_)
            refine xw_eq (pc2 := 2606) rfl rfl rfl rfl (xw_wid (c2 := c + 12) (n2 := 6000 + 24 * c + 160) (by omega) (by omega) ?_)
            refine xz_sipush dL_law_2606 (by omega) ?_
            refine xz_icmp_ne (tgt := 2913) dL_law_2609 (by decide) (by omega) (by omega) (fun c6 => ?_) (fun c6 => ?_)
            · exact absurd rfl c6
            · refine xw_aload_n 0 dL_law_2612 rfl ?_
              refine xz_bipush dL_law_2613 (by decide) ?_
              refine xz_iconst dL_law_2615 ?_
              refine yv_new (N := 2) (L := [.int (iI 0), .int (iI 0)]) hXl (by omega) dL_law_2616 rfl (by decide) rfl (by omega) (by omega) ?_
              refine xw_dup dL_law_2618 rfl ?_
              refine xz_iconst dL_law_2619 ?_
              refine xz_iconst dL_law_2620 ?_
              refine yv_put (k := 0) (L2 := [.int (iI 0), .int (iI 0)]) dL_law_2621 rfl (by show _ < 2; decide) (by show 2 ≤ _; decide) rfl ?_
              refine xw_dup dL_law_2622 rfl ?_
              refine xz_iconst dL_law_2623 ?_
              refine xz_bipush dL_law_2624 (by decide) ?_
              refine yv_put (k := 1) (L2 := [.int (iI 0), .int (iI 100)]) dL_law_2626 rfl (by show _ < 2; decide) (by show 2 ≤ _; decide) rfl ?_
              refine yc_S (M' := mL_cue) (d := 8) (c := 1) (s := 24) (As := [.ref 0, .int (iI 119), .ref (193 + X.length)]) (st := []) (v0 := some (.int (iI (-1002)))) (G2 := Wd σ ((X ++ [(64, [.int (iI 0), .int (iI 100)])]) ++ [(127, [])])) dL_law_2627 okL_cue (Or.inl w_971) rfl (Nat.le_of_ble_eq_true rfl) (by decide) (by decide) (by omega) (by omega) rfl rfl (a_addWord (d := 2) (c := 1) (s := 6) hL (by decide) (by decide) (by decide) (by omega) yv_last (r_addWord_0_100 hL (yv_len hXl (by omega)) hr (by omega) (by omega)) (fun w9 G9 h => by cases h.1) (fun E9 G9 h => Or.inr (Or.inl ⟨Sum.inr.inj h.1, rfl, h.2⟩))) ?_
              refine yl_g (m2 := c + 14) (Y := [(64, [.int (iI 0), .int (iI 100)]), (127, [])]) hA hXl (by simp only [List.append_assoc, List.cons_append, List.nil_append]) (by show _ + 2 ≤ _; omega) (fun X hA hXl => ?_)
              refine xw_eq (pc2 := 2630) rfl rfl rfl rfl (xw_wid (c2 := c + 14) (n2 := 6000 + 24 * c + 186) (by omega) (by omega) ?_)
              refine xz_sipush dL_law_2630 (by omega) ?_
              refine xz_icmp_ne (tgt := 2913) dL_law_2633 (by decide) (by omega) (by omega) (fun c7 => ?_) (fun c7 => ?_)
              · exact absurd rfl c7
              · refine xw_aload_n 0 dL_law_2636 rfl ?_
                refine xz_bipush dL_law_2637 (by decide) ?_
                refine xz_iconst dL_law_2639 ?_
                refine yv_new (N := 1) (L := [.int (iI 0)]) hXl (by omega) dL_law_2640 rfl (by decide) rfl (by omega) (by omega) ?_
                refine xw_dup dL_law_2642 rfl ?_
                refine xz_iconst dL_law_2643 ?_
                refine xw_iload 3 dL_law_2644 rfl ?_
                refine yv_put (k := 0) (L2 := [.int (iI (N + 1))]) dL_law_2646 rfl (by show _ < 1; decide) (by show 1 ≤ _; decide) rfl ?_
                refine yc_S (M' := mL_cue) (d := 8) (c := 1) (s := 24) (As := [.ref 0, .int (iI 100), .ref (193 + X.length)]) (st := []) (v0 := some (.int (iI (-1005)))) (G2 := Wd σ ((X ++ [(64, [.int (iI (N + 1))])]) ++ [(127, [])])) dL_law_2647 okL_cue (Or.inl w_971) rfl (Nat.le_of_ble_eq_true rfl) (by decide) (by decide) (by omega) (by omega) rfl rfl (a_dropCue (d := 7) (c := 1) (s := 6) hL (by decide) (by decide) (by decide) (by omega) yv_last (n_dropCue (a := 0) hL (yv_len hXl (by omega)) hr (by omega) (by omega)) (fun w9 G9 h => by cases h.1) (fun E9 G9 h => Or.inr (Or.inr (Or.inr (Or.inr (⟨Sum.inr.inj h.1, rfl, h.2⟩)))))) ?_
                refine yl_g (m2 := c + 16) (Y := [(64, [.int (iI (N + 1))]), (127, [])]) hA hXl (by simp only [List.append_assoc, List.cons_append, List.nil_append]) (by show _ + 2 ≤ _; omega) (fun X hA hXl => ?_)
                refine xw_eq (pc2 := 2650) rfl rfl rfl rfl (xw_wid (c2 := c + 16) (n2 := 6000 + 24 * c + 211) (by omega) (by omega) ?_)
                refine xz_sipush dL_law_2650 (by omega) ?_
                refine xz_icmp_ne (tgt := 2913) dL_law_2653 (by decide) (by omega) (by omega) (fun c8 => ?_) (fun c8 => ?_)
                · exact absurd rfl c8
                · refine xw_aload_n 0 dL_law_2656 rfl ?_
                  refine xz_bipush dL_law_2657 (by decide) ?_
                  refine xz_iconst dL_law_2659 ?_
                  refine yv_new (N := 1) (L := [.int (iI 0)]) hXl (by omega) dL_law_2660 rfl (by decide) rfl (by omega) (by omega) ?_
                  refine xw_dup dL_law_2662 rfl ?_
                  refine xz_iconst dL_law_2663 ?_
                  refine xz_iconst dL_law_2664 ?_
                  refine yv_put (k := 0) (L2 := [.int (iI (-1))]) dL_law_2665 rfl (by show _ < 1; decide) (by show 1 ≤ _; decide) rfl ?_
                  refine yc_S (M' := mL_cue) (d := 8) (c := 1) (s := 24) (As := [.ref 0, .int (iI 115), .ref (193 + X.length)]) (st := []) (v0 := some (.int (iI (-1005)))) (G2 := Wd σ ((X ++ [(64, [.int (iI (-1))])]) ++ [(127, [])])) dL_law_2666 okL_cue (Or.inl w_971) rfl (Nat.le_of_ble_eq_true rfl) (by decide) (by decide) (by omega) (by omega) rfl rfl (a_startOf (d := 7) (c := 1) (s := 6) hL (by decide) (by decide) (by decide) (by omega) yv_last (n_startOf (a := 0) hL (yv_len hXl (by omega)) hr (by omega) (by omega)) (fun w9 G9 h => by cases h.1) (fun E9 G9 h => Or.inr (Or.inr (Or.inr (Or.inr (⟨Sum.inr.inj h.1, rfl, h.2⟩)))))) ?_
                  refine yl_g (m2 := c + 18) (Y := [(64, [.int (iI (-1))]), (127, [])]) hA hXl (by simp only [List.append_assoc, List.cons_append, List.nil_append]) (by show _ + 2 ≤ _; omega) (fun X hA hXl => ?_)
                  refine xw_eq (pc2 := 2669) rfl rfl rfl rfl (xw_wid (c2 := c + 18) (n2 := 6000 + 24 * c + 236) (by omega) (by omega) ?_)
                  refine xz_sipush dL_law_2669 (by omega) ?_
                  refine xz_icmp_ne (tgt := 2913) dL_law_2672 (by decide) (by omega) (by omega) (fun c9 => ?_) (fun c9 => ?_)
                  · exact absurd rfl c9
                  · refine xw_aload_n 0 dL_law_2675 rfl ?_
                    refine xz_bipush dL_law_2676 (by decide) ?_
                    refine xz_iconst dL_law_2678 ?_
                    refine yv_new (N := 1) (L := [.int (iI 0)]) hXl (by omega) dL_law_2679 rfl (by decide) rfl (by omega) (by omega) ?_
                    refine xw_dup dL_law_2681 rfl ?_
                    refine xz_iconst dL_law_2682 ?_
                    refine xw_iload 3 dL_law_2683 rfl ?_
                    refine yv_put (k := 0) (L2 := [.int (iI (N + 1))]) dL_law_2685 rfl (by show _ < 1; decide) (by show 1 ≤ _; decide) rfl ?_
                    refine yc_S (M' := mL_cue) (d := 8) (c := 1) (s := 24) (As := [.ref 0, .int (iI 101), .ref (193 + X.length)]) (st := []) (v0 := some (.int (iI (-1005)))) (G2 := Wd σ ((X ++ [(64, [.int (iI (N + 1))])]) ++ [(127, [])])) dL_law_2686 okL_cue (Or.inl w_971) rfl (Nat.le_of_ble_eq_true rfl) (by decide) (by decide) (by omega) (by omega) rfl rfl (a_endOf (d := 7) (c := 1) (s := 6) hL (by decide) (by decide) (by decide) (by omega) yv_last (n_endOf (a := 0) hL (yv_len hXl (by omega)) hr (by omega) (by omega)) (fun w9 G9 h => by cases h.1) (fun E9 G9 h => Or.inr (Or.inr (Or.inr (Or.inr (⟨Sum.inr.inj h.1, rfl, h.2⟩)))))) ?_
                    refine yl_g (m2 := c + 20) (Y := [(64, [.int (iI (N + 1))]), (127, [])]) hA hXl (by simp only [List.append_assoc, List.cons_append, List.nil_append]) (by show _ + 2 ≤ _; omega) (fun X hA hXl => ?_)
                    refine xw_eq (pc2 := 2689) rfl rfl rfl rfl (xw_wid (c2 := c + 20) (n2 := 6000 + 24 * c + 261) (by omega) (by omega) ?_)
                    refine xz_sipush dL_law_2689 (by omega) ?_
                    refine xz_icmp_ne (tgt := 2913) dL_law_2692 (by decide) (by omega) (by omega) (fun c10 => ?_) (fun c10 => ?_)
                    · exact absurd rfl c10
                    · refine xw_aload_n 0 dL_law_2695 rfl ?_
                      refine xz_bipush dL_law_2696 (by decide) ?_
                      refine xz_iconst dL_law_2698 ?_
                      refine yv_new (N := 1) (L := [.int (iI 0)]) hXl (by omega) dL_law_2699 rfl (by decide) rfl (by omega) (by omega) ?_
                      refine xw_dup dL_law_2701 rfl ?_
                      refine xz_iconst dL_law_2702 ?_
                      refine xw_iload 3 dL_law_2703 rfl ?_
                      refine yv_put (k := 0) (L2 := [.int (iI (N + 1))]) dL_law_2705 rfl (by show _ < 1; decide) (by show 1 ≤ _; decide) rfl ?_
                      refine yc_S (M' := mL_cue) (d := 8) (c := 1) (s := 24) (As := [.ref 0, .int (iI 108), .ref (193 + X.length)]) (st := []) (v0 := some (.int (iI (-1005)))) (G2 := Wd σ ((X ++ [(64, [.int (iI (N + 1))])]) ++ [(127, [])])) dL_law_2706 okL_cue (Or.inl w_971) rfl (Nat.le_of_ble_eq_true rfl) (by decide) (by decide) (by omega) (by omega) rfl rfl (a_lines (d := 7) (c := 1) (s := 6) hL (by decide) (by decide) (by decide) (by omega) yv_last (n_lines (a := 0) hL (yv_len hXl (by omega)) hr (by omega) (by omega)) (fun w9 G9 h => by cases h.1) (fun E9 G9 h => Or.inr (Or.inr (Or.inr (Or.inr (⟨Sum.inr.inj h.1, rfl, h.2⟩)))))) ?_
                      refine yl_g (m2 := c + 22) (Y := [(64, [.int (iI (N + 1))]), (127, [])]) hA hXl (by simp only [List.append_assoc, List.cons_append, List.nil_append]) (by show _ + 2 ≤ _; omega) (fun X hA hXl => ?_)
                      refine xw_eq (pc2 := 2709) rfl rfl rfl rfl (xw_wid (c2 := c + 22) (n2 := 6000 + 24 * c + 286) (by omega) (by omega) ?_)
                      refine xz_sipush dL_law_2709 (by omega) ?_
                      refine xz_icmp_ne (tgt := 2913) dL_law_2712 (by decide) (by omega) (by omega) (fun c11 => ?_) (fun c11 => ?_)
                      · exact absurd rfl c11
                      · refine xw_aload_n 0 dL_law_2715 rfl ?_
                        refine xz_bipush dL_law_2716 (by decide) ?_
                        refine xz_iconst dL_law_2718 ?_
                        refine yv_new (N := 2) (L := [.int (iI 0), .int (iI 0)]) hXl (by omega) dL_law_2719 rfl (by decide) rfl (by omega) (by omega) ?_
                        refine xw_dup dL_law_2721 rfl ?_
                        refine xz_iconst dL_law_2722 ?_
                        refine xw_iload 3 dL_law_2723 rfl ?_
                        refine yv_put (k := 0) (L2 := [.int (iI (N + 1)), .int (iI 0)]) dL_law_2725 rfl (by show _ < 2; decide) (by show 2 ≤ _; decide) rfl ?_
                        refine xw_dup dL_law_2726 rfl ?_
                        refine xz_iconst dL_law_2727 ?_
                        refine xz_iconst dL_law_2728 ?_
                        refine yv_put (k := 1) (L2 := [.int (iI (N + 1)), .int (iI 0)]) dL_law_2729 rfl (by show _ < 2; decide) (by show 2 ≤ _; decide) rfl ?_
                        refine yc_S (M' := mL_cue) (d := 8) (c := 1) (s := 24) (As := [.ref 0, .int (iI 105), .ref (193 + X.length)]) (st := []) (v0 := some (.int (iI (-1005)))) (G2 := Wd σ ((X ++ [(64, [.int (iI (N + 1)), .int (iI 0)])]) ++ [(127, [])])) dL_law_2730 okL_cue (Or.inl w_971) rfl (Nat.le_of_ble_eq_true rfl) (by decide) (by decide) (by omega) (by omega) rfl rfl (a_wordsIn (d := 7) (c := 1) (s := 6) hL (by decide) (by decide) (by decide) (by omega) yv_last (n_wordsIn hL (yv_len hXl (by omega)) hr (by omega) (by omega)) (fun w9 G9 h => by cases h.1) (fun E9 G9 h => Or.inr (Or.inr (Or.inr (Or.inr (⟨Sum.inr.inj h.1, rfl, h.2⟩)))))) ?_
                        refine yl_g (m2 := c + 24) (Y := [(64, [.int (iI (N + 1)), .int (iI 0)]), (127, [])]) hA hXl (by simp only [List.append_assoc, List.cons_append, List.nil_append]) (by show _ + 2 ≤ _; omega) (fun X hA hXl => ?_)
                        refine xw_eq (pc2 := 2733) rfl rfl rfl rfl (xw_wid (c2 := c + 24) (n2 := 6000 + 24 * c + 312) (by omega) (by omega) ?_)
                        refine xz_sipush dL_law_2733 (by omega) ?_
                        refine xz_icmp_ne (tgt := 2913) dL_law_2736 (by decide) (by omega) (by omega) (fun c12 => ?_) (fun c12 => ?_)
                        · exact absurd rfl c12
                        · refine xw_aload_n 0 dL_law_2739 rfl ?_
                          refine xz_bipush dL_law_2740 (by decide) ?_
                          refine xz_iconst dL_law_2742 ?_
                          refine yv_new (N := 1) (L := [.int (iI 0)]) hXl (by omega) dL_law_2743 rfl (by decide) rfl (by omega) (by omega) ?_
                          refine xw_dup dL_law_2745 rfl ?_
                          refine xz_iconst dL_law_2746 ?_
                          refine xw_iload 3 dL_law_2747 rfl ?_
                          refine yv_put (k := 0) (L2 := [.int (iI (N + 1))]) dL_law_2749 rfl (by show _ < 1; decide) (by show 1 ≤ _; decide) rfl ?_
                          refine yc_S (M' := mL_cue) (d := 8) (c := 1) (s := 24) (As := [.ref 0, .int (iI 114), .ref (193 + X.length)]) (st := []) (v0 := some (.int (iI (-1005)))) (G2 := Wd σ ((X ++ [(64, [.int (iI (N + 1))])]) ++ [(127, [])])) dL_law_2750 okL_cue (Or.inl w_971) rfl (Nat.le_of_ble_eq_true rfl) (by decide) (by decide) (by omega) (by omega) rfl rfl (a_rowOf (d := 7) (c := 1) (s := 6) hL (by decide) (by decide) (by decide) (by omega) yv_last (n_rowOf (a := 0) hL (yv_len hXl (by omega)) hr (by omega) (by omega)) (fun w9 G9 h => by cases h.1) (fun E9 G9 h => Or.inr (Or.inr (Or.inr (Or.inr (⟨Sum.inr.inj h.1, rfl, h.2⟩)))))) ?_
                          refine yl_g (m2 := c + 26) (Y := [(64, [.int (iI (N + 1))]), (127, [])]) hA hXl (by simp only [List.append_assoc, List.cons_append, List.nil_append]) (by show _ + 2 ≤ _; omega) (fun X hA hXl => ?_)
                          refine xw_eq (pc2 := 2753) rfl rfl rfl rfl (xw_wid (c2 := c + 26) (n2 := 6000 + 24 * c + 337) (by omega) (by omega) ?_)
                          refine xz_sipush dL_law_2753 (by omega) ?_
                          refine xz_icmp_ne (tgt := 2913) dL_law_2756 (by decide) (by omega) (by omega) (fun c13 => ?_) (fun c13 => ?_)
                          · exact absurd rfl c13
                          · refine xw_aload_n 0 dL_law_2759 rfl ?_
                            refine xz_bipush dL_law_2760 (by decide) ?_
                            refine xz_iconst dL_law_2762 ?_
                            refine yv_new (N := 2) (L := [.int (iI 0), .int (iI 0)]) hXl (by omega) dL_law_2763 rfl (by decide) rfl (by omega) (by omega) ?_
                            refine xw_dup dL_law_2765 rfl ?_
                            refine xz_iconst dL_law_2766 ?_
                            refine xw_iload 3 dL_law_2767 rfl ?_
                            refine yv_put (k := 0) (L2 := [.int (iI (N + 1)), .int (iI 0)]) dL_law_2769 rfl (by show _ < 2; decide) (by show 2 ≤ _; decide) rfl ?_
                            refine xw_dup dL_law_2770 rfl ?_
                            refine xz_iconst dL_law_2771 ?_
                            refine xz_iconst dL_law_2772 ?_
                            refine yv_put (k := 1) (L2 := [.int (iI (N + 1)), .int (iI 1)]) dL_law_2773 rfl (by show _ < 2; decide) (by show 2 ≤ _; decide) rfl ?_
                            refine yc_S (M' := mL_cue) (d := 8) (c := 1) (s := 24) (As := [.ref 0, .int (iI 112), .ref (193 + X.length)]) (st := []) (v0 := some (.int (iI (-1005)))) (G2 := Wd σ ((X ++ [(64, [.int (iI (N + 1)), .int (iI 1)])]) ++ [(127, [])])) dL_law_2774 okL_cue (Or.inl w_971) rfl (Nat.le_of_ble_eq_true rfl) (by decide) (by decide) (by omega) (by omega) rfl rfl (a_split (d := 7) (c := 1) (s := 6) hL (by decide) (by decide) (by decide) (by omega) yv_last (n_split hL (yv_len hXl (by omega)) hr (by omega) (by omega)) (fun w9 G9 h => by cases h.1) (fun E9 G9 h => Or.inr (Or.inr (Or.inr (Or.inr (⟨Sum.inr.inj h.1, rfl, h.2⟩)))))) ?_
                            refine yl_g (m2 := c + 28) (Y := [(64, [.int (iI (N + 1)), .int (iI 1)]), (127, [])]) hA hXl (by simp only [List.append_assoc, List.cons_append, List.nil_append]) (by show _ + 2 ≤ _; omega) (fun X hA hXl => ?_)
                            refine xw_eq (pc2 := 2777) rfl rfl rfl rfl (xw_wid (c2 := c + 28) (n2 := 6000 + 24 * c + 363) (by omega) (by omega) ?_)
                            refine xz_sipush dL_law_2777 (by omega) ?_
                            refine xz_icmp_ne (tgt := 2913) dL_law_2780 (by decide) (by omega) (by omega) (fun c14 => ?_) (fun c14 => ?_)
                            · exact absurd rfl c14
                            · refine xw_aload_n 0 dL_law_2783 rfl ?_
                              refine xz_bipush dL_law_2784 (by decide) ?_
                              refine xz_iconst dL_law_2786 ?_
                              refine yv_new (N := 1) (L := [.int (iI 0)]) hXl (by omega) dL_law_2787 rfl (by decide) rfl (by omega) (by omega) ?_
                              refine xw_dup dL_law_2789 rfl ?_
                              refine xz_iconst dL_law_2790 ?_
                              refine xw_iload 3 dL_law_2791 rfl ?_
                              refine yv_put (k := 0) (L2 := [.int (iI (N + 1))]) dL_law_2793 rfl (by show _ < 1; decide) (by show 1 ≤ _; decide) rfl ?_
                              refine yc_S (M' := mL_cue) (d := 8) (c := 1) (s := 24) (As := [.ref 0, .int (iI 104), .ref (193 + X.length)]) (st := []) (v0 := some (.int (iI (-1005)))) (G2 := Wd σ ((X ++ [(64, [.int (iI (N + 1))])]) ++ [(127, [])])) dL_law_2794 okL_cue (Or.inl w_971) rfl (Nat.le_of_ble_eq_true rfl) (by decide) (by decide) (by omega) (by omega) rfl rfl (a_hear (d := 7) (c := 1) (s := 6) hL (by decide) (by decide) (by decide) (by omega) yv_last (n_hear (a := 0) hL (yv_len hXl (by omega)) hr (by omega) (by omega)) (fun w9 G9 h => by cases h.1) (fun E9 G9 h => Or.inr (Or.inr (Or.inr (Or.inr (⟨Sum.inr.inj h.1, rfl, h.2⟩)))))) ?_
                              refine yl_g (m2 := c + 30) (Y := [(64, [.int (iI (N + 1))]), (127, [])]) hA hXl (by simp only [List.append_assoc, List.cons_append, List.nil_append]) (by show _ + 2 ≤ _; omega) (fun X hA hXl => ?_)
                              refine xw_eq (pc2 := 2797) rfl rfl rfl rfl (xw_wid (c2 := c + 30) (n2 := 6000 + 24 * c + 388) (by omega) (by omega) ?_)
                              refine xz_sipush dL_law_2797 (by omega) ?_
                              refine xz_icmp_ne (tgt := 2913) dL_law_2800 (by decide) (by omega) (by omega) (fun c15 => ?_) (fun c15 => ?_)
                              · exact absurd rfl c15
                              · refine xw_aload_n 0 dL_law_2803 rfl ?_
                                refine xz_bipush dL_law_2804 (by decide) ?_
                                refine xz_iconst dL_law_2806 ?_
                                refine yv_new (N := 2) (L := [.int (iI 0), .int (iI 0)]) hXl (by omega) dL_law_2807 rfl (by decide) rfl (by omega) (by omega) ?_
                                refine xw_dup dL_law_2809 rfl ?_
                                refine xz_iconst dL_law_2810 ?_
                                refine xw_iload 3 dL_law_2811 rfl ?_
                                refine yv_put (k := 0) (L2 := [.int (iI (N + 1)), .int (iI 0)]) dL_law_2813 rfl (by show _ < 2; decide) (by show 2 ≤ _; decide) rfl ?_
                                refine xw_dup dL_law_2814 rfl ?_
                                refine xz_iconst dL_law_2815 ?_
                                refine xz_iconst dL_law_2816 ?_
                                refine yv_put (k := 1) (L2 := [.int (iI (N + 1)), .int (iI 0)]) dL_law_2817 rfl (by show _ < 2; decide) (by show 2 ≤ _; decide) rfl ?_
                                refine yc_S (M' := mL_cue) (d := 8) (c := 1) (s := 24) (As := [.ref 0, .int (iI 116), .ref (193 + X.length)]) (st := []) (v0 := some (.int (iI (-1005)))) (G2 := Wd σ ((X ++ [(64, [.int (iI (N + 1)), .int (iI 0)])]) ++ [(127, [])])) dL_law_2818 okL_cue (Or.inl w_971) rfl (Nat.le_of_ble_eq_true rfl) (by decide) (by decide) (by omega) (by omega) rfl rfl (a_timeOf (d := 7) (c := 1) (s := 6) hL (by decide) (by decide) (by decide) (by omega) yv_last (n_timeOf hL (yv_len hXl (by omega)) hr (by omega) (by omega)) (fun w9 G9 h => by cases h.1) (fun E9 G9 h => Or.inr (Or.inr (Or.inr (Or.inr (⟨Sum.inr.inj h.1, rfl, h.2⟩)))))) ?_
                                refine yl_g (m2 := c + 32) (Y := [(64, [.int (iI (N + 1)), .int (iI 0)]), (127, [])]) hA hXl (by simp only [List.append_assoc, List.cons_append, List.nil_append]) (by show _ + 2 ≤ _; omega) (fun X hA hXl => ?_)
                                refine xw_eq (pc2 := 2821) rfl rfl rfl rfl (xw_wid (c2 := c + 32) (n2 := 6000 + 24 * c + 414) (by omega) (by omega) ?_)
                                refine xz_sipush dL_law_2821 (by omega) ?_
                                refine xz_icmp_ne (tgt := 2913) dL_law_2824 (by decide) (by omega) (by omega) (fun c16 => ?_) (fun c16 => ?_)
                                · exact absurd rfl c16
                                · refine xw_aload_n 0 dL_law_2827 rfl ?_
                                  refine xz_bipush dL_law_2828 (by decide) ?_
                                  refine xz_iconst dL_law_2830 ?_
                                  refine yv_new (N := 2) (L := [.int (iI 0), .int (iI 0)]) hXl (by omega) dL_law_2831 rfl (by decide) rfl (by omega) (by omega) ?_
                                  refine xw_dup dL_law_2833 rfl ?_
                                  refine xz_iconst dL_law_2834 ?_
                                  refine xz_iconst dL_law_2835 ?_
                                  refine yv_put (k := 0) (L2 := [.int (iI 0), .int (iI 0)]) dL_law_2836 rfl (by show _ < 2; decide) (by show 2 ≤ _; decide) rfl ?_
                                  refine xw_dup dL_law_2837 rfl ?_
                                  refine xz_iconst dL_law_2838 ?_
                                  refine xz_ldc (z := 100000) dL_law_2839 w_1169 (by decide) ?_
                                  refine yv_put (k := 1) (L2 := [.int (iI 0), .int (iI 100000)]) dL_law_2841 rfl (by show _ < 2; decide) (by show 2 ≤ _; decide) rfl ?_
                                  refine yc_S (M' := mL_cue) (d := 8) (c := 1) (s := 24) (As := [.ref 0, .int (iI 103), .ref (193 + X.length)]) (st := []) (v0 := some (.int (iI (-1002)))) (G2 := Wd σ ((X ++ [(64, [.int (iI 0), .int (iI 100000)])]) ++ [(127, [])])) dL_law_2842 okL_cue (Or.inl w_971) rfl (Nat.le_of_ble_eq_true rfl) (by decide) (by decide) (by omega) (by omega) rfl rfl (a_sung (d := 2) (c := 1) (s := 6) hL (by decide) (by decide) (by decide) (by omega) yv_last (r_sung_0_100000 hL (yv_len hXl (by omega)) hr (by omega) (by omega)) (fun w9 G9 h => by cases h.1) (fun E9 G9 h => Or.inr (Or.inl ⟨Sum.inr.inj h.1, rfl, h.2⟩))) ?_
                                  refine yl_g (m2 := c + 34) (Y := [(64, [.int (iI 0), .int (iI 100000)]), (127, [])]) hA hXl (by simp only [List.append_assoc, List.cons_append, List.nil_append]) (by show _ + 2 ≤ _; omega) (fun X hA hXl => ?_)
                                  refine xw_eq (pc2 := 2845) rfl rfl rfl rfl (xw_wid (c2 := c + 34) (n2 := 6000 + 24 * c + 440) (by omega) (by omega) ?_)
                                  refine xz_sipush dL_law_2845 (by omega) ?_
                                  refine xz_icmp_ne (tgt := 2913) dL_law_2848 (by decide) (by omega) (by omega) (fun c17 => ?_) (fun c17 => ?_)
                                  · exact absurd rfl c17
                                  · refine xw_aload_n 0 dL_law_2851 rfl ?_
                                    refine xz_bipush dL_law_2852 (by decide) ?_
                                    refine xz_iconst dL_law_2854 ?_
                                    refine yv_new (N := 1) (L := [.int (iI 0)]) hXl (by omega) dL_law_2855 rfl (by decide) rfl (by omega) (by omega) ?_
                                    refine xw_dup dL_law_2857 rfl ?_
                                    refine xz_iconst dL_law_2858 ?_
                                    refine xw_iload 3 dL_law_2859 rfl ?_
                                    refine yv_put (k := 0) (L2 := [.int (iI (N + 1))]) dL_law_2861 rfl (by show _ < 1; decide) (by show 1 ≤ _; decide) rfl ?_
                                    refine yc_S (M' := mL_cue) (d := 8) (c := 1) (s := 24) (As := [.ref 0, .int (iI 99), .ref (193 + X.length)]) (st := []) (v0 := some (.int (iI (-1005)))) (G2 := Wd σ ((X ++ [(64, [.int (iI (N + 1))])]) ++ [(127, [])])) dL_law_2862 okL_cue (Or.inl w_971) rfl (Nat.le_of_ble_eq_true rfl) (by decide) (by decide) (by omega) (by omega) rfl rfl (a_pairOf (d := 7) (c := 1) (s := 6) hL (by decide) (by decide) (by decide) (by omega) yv_last (n_pairOf (a := 0) hL (yv_len hXl (by omega)) hr (by omega) (by omega)) (fun w9 G9 h => by cases h.1) (fun E9 G9 h => Or.inr (Or.inr (Or.inr (Or.inr (⟨Sum.inr.inj h.1, rfl, h.2⟩)))))) ?_
                                    refine yl_g (m2 := c + 36) (Y := [(64, [.int (iI (N + 1))]), (127, [])]) hA hXl (by simp only [List.append_assoc, List.cons_append, List.nil_append]) (by show _ + 2 ≤ _; omega) (fun X hA hXl => ?_)
                                    refine xw_eq (pc2 := 2865) rfl rfl rfl rfl (xw_wid (c2 := c + 36) (n2 := 6000 + 24 * c + 465) (by omega) (by omega) ?_)
                                    refine xz_sipush dL_law_2865 (by omega) ?_
                                    refine xz_icmp_ne (tgt := 2913) dL_law_2868 (by decide) (by omega) (by omega) (fun c18 => ?_) (fun c18 => ?_)
                                    · exact absurd rfl c18
                                    · refine xw_aload_n 0 dL_law_2871 rfl ?_
                                      refine xz_bipush dL_law_2872 (by decide) ?_
                                      refine xz_iconst dL_law_2874 ?_
                                      refine yv_new (N := 1) (L := [.int (iI 0)]) hXl (by omega) dL_law_2875 rfl (by decide) rfl (by omega) (by omega) ?_
                                      refine xw_dup dL_law_2877 rfl ?_
                                      refine xz_iconst dL_law_2878 ?_
                                      refine xz_iconst dL_law_2879 ?_
                                      refine yv_put (k := 0) (L2 := [.int (iI 0)]) dL_law_2880 rfl (by show _ < 1; decide) (by show 1 ≤ _; decide) rfl ?_
                                      by_cases h0r : σ (cu 0) 3 = 0
                                      · refine yc_S (M' := mL_cue) (d := 8) (c := 1) (s := 24) (As := [.ref 0, .int (iI 99), .ref (193 + X.length)]) (st := []) (v0 := some (.int (iI (-1004)))) (G2 := Wd σ ((X ++ [(64, [.int (iI 0)])]) ++ [(127, [])])) dL_law_2881 okL_cue (Or.inl w_971) rfl (Nat.le_of_ble_eq_true rfl) (by decide) (by decide) (by omega) (by omega) rfl rfl (a_pairOf (d := 7) (c := 1) (s := 6) hL (by decide) (by decide) (by decide) (by omega) yv_last (u_pairOf hL (yv_len hXl (by omega)) hr (by omega) (by omega) (by omega) h0r) (fun w9 G9 h => by cases h.1) (fun E9 G9 h => Or.inr (Or.inr (Or.inr (Or.inl ⟨Sum.inr.inj h.1, rfl, h.2⟩))))) ?_
                                        refine yl_g (m2 := c + 38) (Y := [(64, [.int (iI 0)]), (127, [])]) hA hXl (by simp only [List.append_assoc, List.cons_append, List.nil_append]) (by show _ + 2 ≤ _; omega) (fun X hA hXl => ?_)
                                        refine xw_eq (pc2 := 2884) rfl rfl rfl rfl (xw_wid (c2 := c + 38) (n2 := 6000 + 24 * c + 490) (by omega) (by omega) ?_)
                                        refine xw_aload 2 dL_law_2884 rfl ?_
                                        refine xz_iconst dL_law_2886 ?_
                                        refine yh_aldF 0 hA rfl dL_law_2887 (by decide) (by decide) ?_
                                        refine xz_if_ne (tgt := 2897) dL_law_2888 (by decide) (by omega) (fun c19 => ?_) (fun c19 => ?_)
                                        · exact absurd (hRg.symm.trans h0r) c19
                                        · refine xz_sipush dL_law_2891 (by omega) ?_
                                          refine xw_goto (tgt := 2910) dL_law_2894 (by decide) ?_
                                          refine xz_icmp_eq (tgt := 2915) dL_law_2910 (by decide) (by omega) (by omega) (fun c20 => ?_) (fun c20 => ?_)
                                          · refine xw_loc [(1, .ref 0), (2, .int (iI N))] (fun q9 hq9 => List.mem_append_left ([(5, .ref aR), (15, .int (iI (N + 1)))] : List (Nat × Value)) hq9) ?_
                                            refine xw_wid (c2 := c + 38) (n2 := 6000 + 24 * (c + 38)) (by omega) (by omega) ?_
                                            exact L_ref2 hL hN (yHs_nil X) (c := c + 38) hXl (by omega) h6
                                          · exact absurd rfl c20
                                      · obtain ⟨p1, p2, p3, p4, p5, p6, p7, p8⟩ := id hf6
                                        have pr0 := p6 0 (by omega) (by omega)
                                        have pt0 := p3 0 (by omega) (by omega)
                                        refine yc_SE (K' := fun o9 G9 => ∃ (σ9 : ySg) (z : Int), o9 = .inl (some (.int (iI z))) ∧ yRg σ9 ∧ σ9 0 6 = 1 ∧ yArd σ9 N ∧ (∀ x y, ¬ yScA x y → ¬ (x = 0 ∧ y = 6) → (x < 135 ∨ (185 < x ∧ x < 190)) → σ9 x y = σ x y) ∧ (σ 0 6 = 1 → ∀ p, σ9 29 p = σ 29 p) ∧ z = yPo N (σ9 29) (fun k => σ (cu k) 3) (fun k => σ (cu k) 1) (fun k => σ (cu k) 6) 0 (σ (cu 0) 3) ∧ G9 = Wd σ9 (X ++ [(64, [.int (iI 0)])])) (M' := mL_cue) (d := 8) (c := 1) (s := 24) (As := [.ref 0, .int (iI 99), .ref (193 + X.length)]) (st := []) dL_law_2881 okL_cue (Or.inl w_971) rfl (Nat.le_of_ble_eq_true rfl) (by decide) (by decide) (by omega) (by omega) (a_pairOf (d := 7) (c := 0) (s := 0) hL (by decide) (by decide) (by decide) (by omega) yv_last (s_pairOf hL p1 (n := 0) (by omega) (by omega) (by omega) (by omega) (N := N) (by omega) p3 p5 hf6.cus p8 (fun k a b => (p6 k a b).1) (fun k a b => (p6 k a b).2.2)) (fun w9 G9 h => by obtain ⟨σ9, z9, q1, q2⟩ := h; exact ⟨_, Sum.inl.inj q1, σ9, z9, rfl, q2⟩) (fun E9 G9 h => by obtain ⟨σ9, z9, q1, q2⟩ := h; cases q1)) (fun w9 G9 h9 => ?_) (fun E9 G9 h9 => by obtain ⟨_, _, h, _⟩ := h9; cases h)
                                        obtain ⟨τ1, z1, e9, u1_1, u2_1, u3_1, u4_1, u5_1, u6_1, rfl⟩ := h9
                                        cases e9
                                        have hg6 := hf6.pr u1_1 u4_1 ⟨u2_1, u3_1⟩
                                        obtain ⟨w1, hw1, hwr1⟩ : ∃ q : Int, iI z1 = iI q ∧ (-2147483648 ≤ q ∧ q < 2147483648) := ⟨(iI z1).toInt, iI_of _, iI_bd _⟩
                                        show xWP L O mL_law (xR 13 828823 6605674) yKL _ _ (.int (iI z1) :: _) _ _ _
                                        rw [hw1]
                                        refine yl_g (m2 := c + 38) (Y := [(64, [.int (iI 0)])]) hA hXl (by simp only [List.append_assoc, List.cons_append, List.nil_append]) (by show _ + 1 ≤ _; omega) (fun X hA hXl => ?_)
                                        refine xw_eq (pc2 := 2884) rfl rfl rfl rfl (xw_wid (c2 := c + 38) (n2 := 6000 + 24 * c + 490) (by omega) (by omega) ?_)
                                        refine xw_aload 2 dL_law_2884 rfl ?_
                                        refine xz_iconst dL_law_2886 ?_
                                        refine yh_aldF 0 hA rfl dL_law_2887 (by decide) (by decide) ?_
                                        refine xz_if_ne (tgt := 2897) dL_law_2888 (by decide) (by omega) (fun c21 => ?_) (fun c21 => ?_)
                                        · refine xw_aload_n 0 dL_law_2897 rfl ?_
                                          refine xz_bipush dL_law_2898 (by decide) ?_
                                          refine xz_iconst dL_law_2900 ?_
                                          refine yv_new (N := 1) (L := [.int (iI 0)]) hXl (by omega) dL_law_2901 rfl (by decide) rfl (by omega) (by omega) ?_
                                          refine xw_dup dL_law_2903 rfl ?_
                                          refine xz_iconst dL_law_2904 ?_
                                          refine xz_iconst dL_law_2905 ?_
                                          refine yv_put (k := 0) (L2 := [.int (iI 0)]) dL_law_2906 rfl (by show _ < 1; decide) (by show 1 ≤ _; decide) rfl ?_
                                          obtain ⟨p1, p2, p3, p4, p5, p6, p7, p8⟩ := id hg6
                                          have pr0 := p6 0 (by omega) (by omega)
                                          have e03 : τ1 (cu 0) 3 = σ (cu 0) 3 := u4_1 _ _ (by unfold yScA cu; omega) (by unfold cu; omega) (by unfold cu; omega)
                                          have pt0 := p3 0 (by omega) (by omega)
                                          refine yc_SE (K' := fun o9 G9 => ∃ (σ9 : ySg) (z : Int), o9 = .inl (some (.int (iI z))) ∧ yRg σ9 ∧ σ9 0 6 = 1 ∧ yArd σ9 N ∧ (∀ x y, ¬ yScA x y → ¬ (x = 0 ∧ y = 6) → (x < 135 ∨ (185 < x ∧ x < 190)) → σ9 x y = τ1 x y) ∧ (τ1 0 6 = 1 → ∀ p, σ9 29 p = τ1 29 p) ∧ z = yPo N (σ9 29) (fun k => τ1 (cu k) 3) (fun k => τ1 (cu k) 1) (fun k => τ1 (cu k) 6) 0 (τ1 (cu 0) 3) ∧ G9 = Wd σ9 (X ++ [(64, [.int (iI 0)])])) (M' := mL_cue) (d := 8) (c := 1) (s := 24) (As := [.ref 0, .int (iI 99), .ref (193 + X.length)]) (st := [.int (iI w1)]) dL_law_2907 okL_cue (Or.inl w_971) rfl (Nat.le_of_ble_eq_true rfl) (by decide) (by decide) (by omega) (by omega) (a_pairOf (d := 7) (c := 0) (s := 0) hL (by decide) (by decide) (by decide) (by omega) yv_last (s_pairOf hL p1 (n := 0) (by omega) (by omega) (by omega) (by omega) (N := N) (by omega) p3 p5 hg6.cus p8 (fun k a b => (p6 k a b).1) (fun k a b => (p6 k a b).2.2)) (fun w9 G9 h => by obtain ⟨σ9, z9, q1, q2⟩ := h; exact ⟨_, Sum.inl.inj q1, σ9, z9, rfl, q2⟩) (fun E9 G9 h => by obtain ⟨σ9, z9, q1, q2⟩ := h; cases q1)) (fun w9 G9 h9 => ?_) (fun E9 G9 h9 => by obtain ⟨_, _, h, _⟩ := h9; cases h)
                                          obtain ⟨τ2, z2, e9, u1_2, u2_2, u3_2, u4_2, u5_2, u6_2, rfl⟩ := h9
                                          cases e9
                                          have hh6 := hg6.pr u1_2 u4_2 ⟨u2_2, u3_2⟩
                                          refine yl_g (m2 := c + 40) (Y := [(64, [.int (iI 0)])]) hA hXl (by simp only [List.append_assoc, List.cons_append, List.nil_append]) (by show _ + 1 ≤ _; omega) (fun X hA hXl => ?_)
                                          refine xw_eq (pc2 := 2910) rfl rfl rfl rfl (xw_wid (c2 := c + 40) (n2 := 6000 + 24 * c + 515) (by omega) (by omega) ?_)
                                          have eF : ∀ k y : Int, 0 ≤ k → k < 24 → y < 8 → σ (cu k) y = τ1 (cu k) y := fun k y a b c => (u4_1 _ _ (by unfold yScA cu; omega) (by unfold cu; omega) (by unfold cu; omega)).symm
                                          have e12 : z1 = z2 := by
                                            rw [u6_1, u6_2, show τ2 29 = τ1 29 from funext (u5_2 u2_1), ← eF 0 3 (by omega) (by omega) (by omega)]
                                            exact yPo_cong (by omega) (fun p a b => by have := u3_1.2.1.1 p a b; omega) (fun k a b => eF k 3 a b (by omega)) (fun k a b => eF k 1 a b (by omega)) (fun k a b => eF k 6 a b (by omega))
                                          rw [← e12, hw1]
                                          refine xz_icmp_eq (tgt := 2915) dL_law_2910 (by decide) (by omega) (by omega) (fun c22 => ?_) (fun c22 => ?_)
                                          · refine xw_loc [(1, .ref 0), (2, .int (iI N))] (fun q9 hq9 => List.mem_append_left ([(5, .ref aR), (15, .int (iI (N + 1)))] : List (Nat × Value)) hq9) ?_
                                            refine xw_wid (c2 := c + 40) (n2 := 6000 + 24 * (c + 40)) (by omega) (by omega) ?_
                                            exact L_ref2 hL hN (yHs_nil X) (c := c + 40) hXl (by omega) hh6
                                          · exact absurd rfl c22
                                        · exact absurd (hRg.trans c21) h0r
end Y39

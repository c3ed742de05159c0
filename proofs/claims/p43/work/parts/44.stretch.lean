/-- the next of the region behind n, among the first b -/
def yNs (S R : Int → Int) (N n x b : Int) : Prop := (x = -1 ∧ ∀ i, 0 ≤ i → i < b → ¬ yBeh S R n i) ∨ ((0 ≤ x ∧ x < N) ∧ yBeh S R n x ∧ ∀ i, 0 ≤ i → i < b → yBeh S R n i → S x ≤ S i)
section YNS
variable {S R : Int → Int} {N n x b : Int}
theorem yNs.skip (h : yNs S R N n x b) (q : ¬ yBeh S R n b) : yNs S R N n x (b + 1) := by
  rcases h with ⟨h1, h2⟩ | ⟨h1, h2, h3⟩
  · exact Or.inl ⟨h1, fun i a c => by by_cases e : i = b; (rw [e]; exact q); exact h2 i a (by omega)⟩
  · exact Or.inr ⟨h1, h2, fun i a c d => by by_cases e : i = b; (rw [e] at d; exact absurd d q); exact h3 i a (by omega) d⟩
theorem yNs.fst (h : yNs S R N n x b) (hx : x < 0) (q : yBeh S R n b) (hb : 0 ≤ b ∧ b < N) : yNs S R N n b (b + 1) := by
  rcases h with ⟨h1, h2⟩ | ⟨h1, h2, h3⟩
  · exact Or.inr ⟨hb, q, fun i a c d => by by_cases e : i = b; (rw [e]; exact Int.le_refl _); exact absurd d (h2 i a (by omega))⟩
  · omega
theorem yNs.keep (h : yNs S R N n x b) (hx : 0 ≤ x) (hs : S x ≤ S b) : yNs S R N n x (b + 1) := by
  rcases h with ⟨h1, h2⟩ | ⟨h1, h2, h3⟩
  · omega
  · exact Or.inr ⟨h1, h2, fun i a c d => by by_cases e : i = b; (rw [e]; exact hs); exact h3 i a (by omega) d⟩
theorem yNs.less (h : yNs S R N n x b) (hx : 0 ≤ x) (hs : S b < S x) (q : yBeh S R n b) (hb : 0 ≤ b ∧ b < N) : yNs S R N n b (b + 1) := by
  rcases h with ⟨h1, h2⟩ | ⟨h1, h2, h3⟩
  · omega
  · exact Or.inr ⟨hb, q, fun i a c d => by by_cases e : i = b; (rw [e]; exact Int.le_refl _); (have := h3 i a (by omega) d; omega)⟩
theorem yNs.u {l g e u : Int} (h : yNs S R N n x N) (hT : yStR S R N l g n e u) (he : e ≤ 99999) : (x < 0 → u = max (max e (min 99999 (S n + l))) (S n + 1)) ∧ (0 ≤ x → u = max (min (max e (min 99999 (S n + l))) (S x - g)) (S n + 1)) := by
  rcases h with ⟨h1, h2⟩ | ⟨h1, h2, h3⟩
  · rcases hT with ⟨_, q⟩ | ⟨m, m1, m2, _⟩
    · omega
    · exact absurd m2 (h2 m m1.1 m1.2)
  · rcases hT with ⟨q, _⟩ | ⟨m, m1, m2, m3, q⟩
    · exact absurd h2 (q x h1.1 h1.2)
    · have a1 := m3 x h1.1 h1.2 h2
      have a2 := h3 m m1.1 m1.2 m2
      have a3 : S m = S x := by omega
      rw [a3] at q
      omega
theorem yStR_to {S' R' : Int → Int} {l g e u : Int} (h : yStR S R N l g n e u) (hn : 0 ≤ n ∧ n < N) (hS : ∀ i, 0 ≤ i → i < N → S i = S' i ∧ R i = R' i) : yStR S' R' N l g n e u := by
  have hb : ∀ i, 0 ≤ i → i < N → (yBeh S R n i ↔ yBeh S' R' n i) := fun i a b => by unfold yBeh; rw [(hS i a b).1, (hS i a b).2, (hS n hn.1 hn.2).1, (hS n hn.1 hn.2).2]
  rcases h with ⟨h1, h2⟩ | ⟨m, m1, m2, m3, m4⟩
  · exact Or.inl ⟨fun i a b q => h1 i a b ((hb i a b).mpr q), by rw [← (hS n hn.1 hn.2).1]; exact h2⟩
  · refine Or.inr ⟨m, m1, (hb m m1.1 m1.2).mp m2, fun i a b q => ?_, ?_⟩
    · rw [← (hS m m1.1 m1.2).1, ← (hS i a b).1]; exact m3 i a b ((hb i a b).mpr q)
    · rw [← (hS m m1.1 m1.2).1, ← (hS n hn.1 hn.2).1]; exact m4
theorem yStR_bd {l g e u : Int} (h : yStR S R N l g n e u) (hs : 0 ≤ S n ∧ S n < e ∧ e ≤ 99999) : S n < u ∧ u ≤ 99999 := by
  rcases h with ⟨h1, h2⟩ | ⟨m, m1, m2, m3, m4⟩ <;> omega
end YNS
section Y44
variable {L : Launch} {O : xWd}
theorem L_strI (hL : L.stackTraces = false) {σ : ySg} {N cm v : Int} {aS aE aR aC aP aQ : Nat} {S E E1 Rg C : Int → Int} {j z l g k x : Int} (hK0 : 1 ≤ N ∧ N ≤ 8) (m : Int) (m0 : 0 ≤ m) (m1 : m ≤ N) {X : List xOb} (hA : yHs ((aQ, iaL 24 E) :: (aP, iaL 24 S) :: (aC, iaL 20 C) :: (aR, iaL 24 Rg) :: (aE, iaL 24 E1) :: (aS, iaL 24 S) :: []) X) {c : Nat} (hXl : X.length ≤ c) (hc : c ≤ 30000) (hB : True) (hR8 : ∀ i, 0 ≤ i → i < N → (0 ≤ S i ∧ S i ≤ 99999) ∧ (0 ≤ Rg i ∧ Rg i < 3)) (hk : 0 ≤ k ∧ k < N) (hn : yNs S Rg N k x m) (hKi : ∀ x, yNs S Rg N k x N → xWP L O mL_law (xR 13 828823 6605674) yKL 1048 [(0, .ref xBig), (1, .ref 0), (2, .int (iI N)), (3, .ref aS), (4, .ref aE), (5, .ref aR), (6, .ref aC), (7, .int (iI cm)), (8, .int (iI j)), (9, .int (iI v)), (10, .int (iI 0)), (11, .int (iI z)), (12, .ref aP), (13, .ref aQ), (14, .int (iI l)), (15, .int (iI g)), (16, .int (iI k)), (17, .int (iI x))] [] (Wd σ X) c (6000 + 24 * c)) : xWP L O mL_law (xR 13 828823 6605674) yKL 957 [(0, .ref xBig), (1, .ref 0), (2, .int (iI N)), (3, .ref aS), (4, .ref aE), (5, .ref aR), (6, .ref aC), (7, .int (iI cm)), (8, .int (iI j)), (9, .int (iI v)), (10, .int (iI 0)), (11, .int (iI z)), (12, .ref aP), (13, .ref aQ), (14, .int (iI l)), (15, .int (iI g)), (16, .int (iI k)), (17, .int (iI x)), (18, .int (iI m))] [] (Wd σ X) c (6000 + 24 * c) := by
  have r8k := hR8 k hk.1 hk.2
  have hxr : -1 ≤ x ∧ x < N := by
    rcases hn with ⟨h, _⟩ | ⟨h, _⟩ <;> omega
  refine xw_iload 18 dL_law_957 rfl ?_
  refine xw_iload_n 2 dL_law_959 rfl ?_
  refine xz_icmp_ge (tgt := 1048) dL_law_960 (by decide) (by omega) (by omega) (fun c1 => ?_) (fun c1 => ?_)
  · refine xw_loc [(0, .ref xBig), (1, .ref 0), (2, .int (iI N)), (3, .ref aS), (4, .ref aE), (5, .ref aR), (6, .ref aC), (7, .int (iI cm)), (8, .int (iI j)), (9, .int (iI v)), (10, .int (iI 0)), (11, .int (iI z)), (12, .ref aP), (13, .ref aQ), (14, .int (iI l)), (15, .int (iI g)), (16, .int (iI k)), (17, .int (iI x))] (fun q9 hq9 => by simp only [List.mem_cons, List.not_mem_nil, or_false] at hq9 ⊢; rcases hq9 with h | h | h | h | h | h | h | h | h | h | h | h | h | h | h | h | h | h <;> subst h <;> simp) ?_
    exact hKi x (by rw [show m = N by omega] at hn; exact hn)
  · have r8m := hR8 m m0 (by omega)
    refine xw_aload 5 dL_law_963 rfl ?_
    refine xw_iload 18 dL_law_965 rfl ?_
    refine yh_aldF 3 hA rfl dL_law_967 (by omega) (by decide) ?_
    refine xw_aload 5 dL_law_968 rfl ?_
    refine xw_iload 16 dL_law_970 rfl ?_
    refine yh_aldF 3 hA rfl dL_law_972 (by omega) (by decide) ?_
    refine xw_join (J := 1010) (c1 := c) (n1 := 6000 + 24 * c) (P := fun y2 => (y2 = 1 ∧ yBeh S Rg k m) ∨ (y2 = 0 ∧ ¬ yBeh S Rg k m)) (ls' := fun _ => [(0, .ref xBig), (1, .ref 0), (2, .int (iI N)), (3, .ref aS), (4, .ref aE), (5, .ref aR), (6, .ref aC), (7, .int (iI cm)), (8, .int (iI j)), (9, .int (iI v)), (10, .int (iI 0)), (11, .int (iI z)), (12, .ref aP), (13, .ref aQ), (14, .int (iI l)), (15, .int (iI g)), (16, .int (iI k)), (17, .int (iI x)), (18, .int (iI m))]) (st' := fun y2 => [.int (iI y2)]) (G' := fun _ => Wd σ X) (fun y2 hz4 => ?_) (fun j3 => ?_)
    · refine xw_istore (l2 := [(0, .ref xBig), (1, .ref 0), (2, .int (iI N)), (3, .ref aS), (4, .ref aE), (5, .ref aR), (6, .ref aC), (7, .int (iI cm)), (8, .int (iI j)), (9, .int (iI v)), (10, .int (iI 0)), (11, .int (iI z)), (12, .ref aP), (13, .ref aQ), (14, .int (iI l)), (15, .int (iI g)), (16, .int (iI k)), (17, .int (iI x)), (18, .int (iI m)), (19, .int (iI y2))]) dL_law_1010 (by decide) rfl rfl ?_
      refine xw_iload 19 dL_law_1012 rfl ?_
      refine xw_join (J := 1040) (c1 := c) (n1 := 6000 + 24 * c) (P := fun y5 => yNs S Rg N k y5 (m + 1)) (ls' := fun _ => [(0, .ref xBig), (1, .ref 0), (2, .int (iI N)), (3, .ref aS), (4, .ref aE), (5, .ref aR), (6, .ref aC), (7, .int (iI cm)), (8, .int (iI j)), (9, .int (iI v)), (10, .int (iI 0)), (11, .int (iI z)), (12, .ref aP), (13, .ref aQ), (14, .int (iI l)), (15, .int (iI g)), (16, .int (iI k)), (17, .int (iI x)), (18, .int (iI m)), (19, .int (iI y2))]) (st' := fun y5 => [.int (iI y5)]) (G' := fun _ => Wd σ X) (fun y5 hz7 => ?_) (fun j6 => ?_)
      · refine xw_istore (l2 := [(0, .ref xBig), (1, .ref 0), (2, .int (iI N)), (3, .ref aS), (4, .ref aE), (5, .ref aR), (6, .ref aC), (7, .int (iI cm)), (8, .int (iI j)), (9, .int (iI v)), (10, .int (iI 0)), (11, .int (iI z)), (12, .ref aP), (13, .ref aQ), (14, .int (iI l)), (15, .int (iI g)), (16, .int (iI k)), (17, .int (iI y5)), (18, .int (iI m)), (19, .int (iI y2))]) dL_law_1040 (by decide) rfl rfl ?_
        refine xz_iinc (l2 := [(0, .ref xBig), (1, .ref 0), (2, .int (iI N)), (3, .ref aS), (4, .ref aE), (5, .ref aR), (6, .ref aC), (7, .int (iI cm)), (8, .int (iI j)), (9, .int (iI v)), (10, .int (iI 0)), (11, .int (iI z)), (12, .ref aP), (13, .ref aQ), (14, .int (iI l)), (15, .int (iI g)), (16, .int (iI k)), (17, .int (iI y5)), (18, .int (iI (m + 1))), (19, .int (iI y2))]) 18 dL_law_1042 rfl (by decide) rfl rfl ?_
        refine xw_goto (tgt := 957) dL_law_1045 (by decide) ?_
        refine xw_loc [(0, .ref xBig), (1, .ref 0), (2, .int (iI N)), (3, .ref aS), (4, .ref aE), (5, .ref aR), (6, .ref aC), (7, .int (iI cm)), (8, .int (iI j)), (9, .int (iI v)), (10, .int (iI 0)), (11, .int (iI z)), (12, .ref aP), (13, .ref aQ), (14, .int (iI l)), (15, .int (iI g)), (16, .int (iI k)), (17, .int (iI y5)), (18, .int (iI (m + 1)))] (fun q9 hq9 => by simp only [List.mem_cons, List.not_mem_nil, or_false] at hq9 ⊢; rcases hq9 with h | h | h | h | h | h | h | h | h | h | h | h | h | h | h | h | h | h | h <;> subst h <;> simp) ?_
        exact L_strI hL hK0 (m + 1) (by omega) (by omega) hA hXl hc hB hR8 hk hz7 hKi
      · refine xz_if_eq (tgt := 1038) dL_law_1014 (by decide) (by omega) (fun c8 => ?_) (fun c8 => ?_)
        · refine xw_iload 17 dL_law_1038 rfl ?_
          exact j6 _ (by rcases hz4 with ⟨q1, q2⟩ | ⟨q1, q2⟩ <;> first | exact hn.skip q2 | exact absurd q1 (by omega) | exact hn.fst (by omega) q2 ⟨by omega, by omega⟩ | exact hn.keep (by omega) (by omega) | exact hn.less (by omega) (by omega) q2 ⟨by omega, by omega⟩)
        · refine xw_iload 17 dL_law_1017 rfl ?_
          refine xz_if_lt (tgt := 1033) dL_law_1019 (by decide) (by omega) (fun c9 => ?_) (fun c9 => ?_)
          · refine xw_iload 18 dL_law_1033 rfl ?_
            refine xw_goto (tgt := 1040) dL_law_1035 (by decide) ?_
            exact j6 _ (by rcases hz4 with ⟨q1, q2⟩ | ⟨q1, q2⟩ <;> first | exact hn.skip q2 | exact absurd q1 (by omega) | exact hn.fst (by omega) q2 ⟨by omega, by omega⟩ | exact hn.keep (by omega) (by omega) | exact hn.less (by omega) (by omega) q2 ⟨by omega, by omega⟩)
          · have r8x := hR8 x (by omega) (by omega)
            refine xw_aload_n 3 dL_law_1022 rfl ?_
            refine xw_iload 18 dL_law_1023 rfl ?_
            refine yh_aldF 5 hA rfl dL_law_1025 (by omega) (by decide) ?_
            refine xw_aload_n 3 dL_law_1026 rfl ?_
            refine xw_iload 17 dL_law_1027 rfl ?_
            refine yh_aldF 5 hA rfl dL_law_1029 (by omega) (by decide) ?_
            refine xz_icmp_ge (tgt := 1038) dL_law_1030 (by decide) (by omega) (by omega) (fun c10 => ?_) (fun c10 => ?_)
            · refine xw_iload 17 dL_law_1038 rfl ?_
              exact j6 _ (by rcases hz4 with ⟨q1, q2⟩ | ⟨q1, q2⟩ <;> first | exact hn.skip q2 | exact absurd q1 (by omega) | exact hn.fst (by omega) q2 ⟨by omega, by omega⟩ | exact hn.keep (by omega) (by omega) | exact hn.less (by omega) (by omega) q2 ⟨by omega, by omega⟩)
            · refine xw_iload 18 dL_law_1033 rfl ?_
              refine xw_goto (tgt := 1040) dL_law_1035 (by decide) ?_
              exact j6 _ (by rcases hz4 with ⟨q1, q2⟩ | ⟨q1, q2⟩ <;> first | exact hn.skip q2 | exact absurd q1 (by omega) | exact hn.fst (by omega) q2 ⟨by omega, by omega⟩ | exact hn.keep (by omega) (by omega) | exact hn.less (by omega) (by omega) q2 ⟨by omega, by omega⟩)
    · refine xz_icmp_ne (tgt := 1009) dL_law_973 (by decide) (by omega) (by omega) (fun c11 => ?_) (fun c11 => ?_)
      · refine xz_iconst dL_law_1009 ?_
        exact j3 _ (by first | exact Or.inl ⟨rfl, by unfold yBeh; omega⟩ | exact Or.inr ⟨rfl, by unfold yBeh; omega⟩)
      · refine xw_aload_n 3 dL_law_976 rfl ?_
        refine xw_iload 18 dL_law_977 rfl ?_
        refine yh_aldF 5 hA rfl dL_law_979 (by omega) (by decide) ?_
        refine xw_aload_n 3 dL_law_980 rfl ?_
        refine xw_iload 16 dL_law_981 rfl ?_
        refine yh_aldF 5 hA rfl dL_law_983 (by omega) (by decide) ?_
        refine xz_icmp_gt (tgt := 1005) dL_law_984 (by decide) (by omega) (by omega) (fun c12 => ?_) (fun c12 => ?_)
        · refine xz_iconst dL_law_1005 ?_
          refine xw_goto (tgt := 1010) dL_law_1006 (by decide) ?_
          exact j3 _ (by first | exact Or.inl ⟨rfl, by unfold yBeh; omega⟩ | exact Or.inr ⟨rfl, by unfold yBeh; omega⟩)
        · refine xw_aload_n 3 dL_law_987 rfl ?_
          refine xw_iload 18 dL_law_988 rfl ?_
          refine yh_aldF 5 hA rfl dL_law_990 (by omega) (by decide) ?_
          refine xw_aload_n 3 dL_law_991 rfl ?_
          refine xw_iload 16 dL_law_992 rfl ?_
          refine yh_aldF 5 hA rfl dL_law_994 (by omega) (by decide) ?_
          refine xz_icmp_ne (tgt := 1009) dL_law_995 (by decide) (by omega) (by omega) (fun c13 => ?_) (fun c13 => ?_)
          · refine xz_iconst dL_law_1009 ?_
            exact j3 _ (by first | exact Or.inl ⟨rfl, by unfold yBeh; omega⟩ | exact Or.inr ⟨rfl, by unfold yBeh; omega⟩)
          · refine xw_iload 18 dL_law_998 rfl ?_
            refine xw_iload 16 dL_law_1000 rfl ?_
            refine xz_icmp_le (tgt := 1009) dL_law_1002 (by decide) (by omega) (by omega) (fun c14 => ?_) (fun c14 => ?_)
            · refine xz_iconst dL_law_1009 ?_
              exact j3 _ (by first | exact Or.inl ⟨rfl, by unfold yBeh; omega⟩ | exact Or.inr ⟨rfl, by unfold yBeh; omega⟩)
            · refine xz_iconst dL_law_1005 ?_
              refine xw_goto (tgt := 1010) dL_law_1006 (by decide) ?_
              exact j3 _ (by first | exact Or.inl ⟨rfl, by unfold yBeh; omega⟩ | exact Or.inr ⟨rfl, by unfold yBeh; omega⟩)
termination_by (N - m).toNat
theorem L_strL (hL : L.stackTraces = false) {σ : ySg} {N cm v : Int} {aS aE aR aC aP aQ : Nat} {S E Rg C E1 U : Int → Int} (j : Int) (hj : 0 ≤ j ∧ j < 4) (hv : 0 ≤ v ∧ v < 1000000) (hK : yK7 L O aS aE aR aC N cm Rg (j + 1)) {z l g : Int} (k : Int) (h0 : 0 ≤ k) (h1 : k ≤ N) {X : List xOb} (hA : yHs ((aQ, iaL 24 E) :: (aP, iaL 24 S) :: (aC, iaL 20 C) :: (aR, iaL 24 Rg) :: (aE, iaL 24 E1) :: (aS, iaL 24 S) :: []) X) {c : Nat} (hXl : X.length ≤ c) (hc : (c : Int) ≤ 20040 + 100 * j) (hB : yB3 σ N S U Rg cm C) (hz : -1000000 ≤ z ∧ z ≤ 1000000) (hb0 : ∀ k, 0 ≤ k → k < N → 0 ≤ S k ∧ S k < E k ∧ E k ≤ 99999) (hlg : (1 ≤ l ∧ l ≤ 200) ∧ (0 ≤ g ∧ g ≤ 99)) (hT : ∀ k, 0 ≤ k → k < N → yStR S Rg N l g k (E k) (U k)) (hin1 : ∀ i, 0 ≤ i → i < N → i < k → E1 i = U i) (hzd : z = yPs (yDd S S U E) N.toNat) : xWP L O mL_law (xR 13 828823 6605674) yKL 945 [(0, .ref xBig), (1, .ref 0), (2, .int (iI N)), (3, .ref aS), (4, .ref aE), (5, .ref aR), (6, .ref aC), (7, .int (iI cm)), (8, .int (iI j)), (9, .int (iI v)), (10, .int (iI 0)), (11, .int (iI z)), (12, .ref aP), (13, .ref aQ), (14, .int (iI l)), (15, .int (iI g)), (16, .int (iI k))] [] (Wd σ X) c (6000 + 24 * c) := by
  obtain ⟨hr, d2, d3, d4, d5, d6, d7, d8, ⟨d9, d10, d11⟩, d12, d13, d14, d15, d16⟩ := id hB
  refine xw_iload 16 dL_law_945 rfl ?_
  refine xw_iload_n 2 dL_law_947 rfl ?_
  refine xz_icmp_ge (tgt := 1116) dL_law_948 (by decide) (by omega) (by omega) (fun c1 => ?_) (fun c1 => ?_)
  · refine xw_goto (tgt := 1769) dL_law_1116 (by decide) ?_
    refine xw_loc [(0, .ref xBig), (1, .ref 0), (2, .int (iI N)), (3, .ref aS), (4, .ref aE), (5, .ref aR), (6, .ref aC), (7, .int (iI cm)), (8, .int (iI j)), (10, .int (iI 0)), (11, .int (iI z)), (12, .ref aP), (13, .ref aQ)] (fun q9 hq9 => by simp only [List.mem_cons, List.not_mem_nil, or_false] at hq9 ⊢; rcases hq9 with h | h | h | h | h | h | h | h | h | h | h | h | h <;> subst h <;> simp) ?_
    refine xw_wid (c2 := c) (n2 := 6000 + 24 * (c)) (by omega) (by omega) ?_
    exact L_ck hL j hj hK hA (c := c) hXl (by omega) (hB.cg (fun i a b => ⟨rfl, hin1 i a b (by omega)⟩) (fun _ _ _ => rfl)) hz hb0 (Or.inr ⟨rfl, by rw [hzd]; exact (yDd_cg (fun i a b => ⟨rfl, hin1 i a b (by omega)⟩)).symm⟩)
  · have d8k := d8 k h0 (by omega)
    have b0k := hb0 k h0 (by omega)
    have hTk := hT k h0 (by omega)
    refine xz_iconst dL_law_951 ?_
    refine xw_istore (l2 := [(0, .ref xBig), (1, .ref 0), (2, .int (iI N)), (3, .ref aS), (4, .ref aE), (5, .ref aR), (6, .ref aC), (7, .int (iI cm)), (8, .int (iI j)), (9, .int (iI v)), (10, .int (iI 0)), (11, .int (iI z)), (12, .ref aP), (13, .ref aQ), (14, .int (iI l)), (15, .int (iI g)), (16, .int (iI k)), (17, .int (iI ((-1))))]) dL_law_952 (by decide) rfl rfl ?_
    refine xz_iconst dL_law_954 ?_
    refine xw_istore (l2 := [(0, .ref xBig), (1, .ref 0), (2, .int (iI N)), (3, .ref aS), (4, .ref aE), (5, .ref aR), (6, .ref aC), (7, .int (iI cm)), (8, .int (iI j)), (9, .int (iI v)), (10, .int (iI 0)), (11, .int (iI z)), (12, .ref aP), (13, .ref aQ), (14, .int (iI l)), (15, .int (iI g)), (16, .int (iI k)), (17, .int (iI ((-1)))), (18, .int (iI 0))]) dL_law_955 (by decide) rfl rfl ?_
    refine L_strI hL (k := k) d4 0 (by omega) (by omega) hA hXl (by omega) trivial (fun i a b => by have q1 := d8 i a b; have q2 := d6 i a (by omega); have q3 := hb0 i a b; rw [q1.2.2.1] at q2; omega) ⟨h0, by omega⟩ (Or.inl ⟨rfl, fun i a b => absurd b (by omega)⟩) (fun x hn => ?_)
    have hu := hn.u hTk (by omega)
    have hxr : -1 ≤ x ∧ x < N := by
      rcases hn with ⟨h, _⟩ | ⟨h, _⟩ <;> omega
    refine xw_aload 13 dL_law_1048 rfl ?_
    refine xw_iload 16 dL_law_1050 rfl ?_
    refine yh_aldF 0 hA rfl dL_law_1052 (by omega) (by decide) ?_
    refine xz_ldc (z := 99999) dL_law_1053 w_1168 (by decide) ?_
    refine xw_aload_n 3 dL_law_1055 rfl ?_
    refine xw_iload 16 dL_law_1056 rfl ?_
    refine yh_aldF 5 hA rfl dL_law_1058 (by omega) (by decide) ?_
    refine xw_iload 14 dL_law_1059 rfl ?_
    refine xz_iadd dL_law_1061 ?_
    refine xz_mmin dL_law_1062 w_1160 (Nat.le_of_ble_eq_true rfl) (by first | omega | (simp only [xR]; omega)) (by first | omega | (simp only [xR]; omega)) (by omega) (by omega) ?_
    refine xz_mmax dL_law_1065 w_1158 (Nat.le_of_ble_eq_true rfl) (by first | omega | (simp only [xR]; omega)) (by first | omega | (simp only [xR]; omega)) (by omega) (by omega) ?_
    refine xw_istore (l2 := [(0, .ref xBig), (1, .ref 0), (2, .int (iI N)), (3, .ref aS), (4, .ref aE), (5, .ref aR), (6, .ref aC), (7, .int (iI cm)), (8, .int (iI j)), (9, .int (iI v)), (10, .int (iI 0)), (11, .int (iI z)), (12, .ref aP), (13, .ref aQ), (14, .int (iI l)), (15, .int (iI g)), (16, .int (iI k)), (17, .int (iI x)), (18, .int (iI (max (E k) (min 99999 ((S k) + l)))))]) dL_law_1068 (by decide) rfl rfl ?_
    refine xw_iload 17 dL_law_1070 rfl ?_
    refine xw_join (J := 1092) (c1 := c) (n1 := 6000 + 24 * c) (P := fun y2 => max y2 (S k + 1) = U k ∧ (-1000000 ≤ y2 ∧ y2 ≤ 1000000)) (ls' := fun _ => [(0, .ref xBig), (1, .ref 0), (2, .int (iI N)), (3, .ref aS), (4, .ref aE), (5, .ref aR), (6, .ref aC), (7, .int (iI cm)), (8, .int (iI j)), (9, .int (iI v)), (10, .int (iI 0)), (11, .int (iI z)), (12, .ref aP), (13, .ref aQ), (14, .int (iI l)), (15, .int (iI g)), (16, .int (iI k)), (17, .int (iI x)), (18, .int (iI (max (E k) (min 99999 ((S k) + l)))))]) (st' := fun y2 => [.int (iI y2)]) (G' := fun _ => Wd σ X) (fun y2 hz4 => ?_) (fun j3 => ?_)
    · refine xw_istore (l2 := [(0, .ref xBig), (1, .ref 0), (2, .int (iI N)), (3, .ref aS), (4, .ref aE), (5, .ref aR), (6, .ref aC), (7, .int (iI cm)), (8, .int (iI j)), (9, .int (iI v)), (10, .int (iI 0)), (11, .int (iI z)), (12, .ref aP), (13, .ref aQ), (14, .int (iI l)), (15, .int (iI g)), (16, .int (iI k)), (17, .int (iI x)), (18, .int (iI y2))]) dL_law_1092 (by decide) rfl rfl ?_
      refine xw_aload 4 dL_law_1094 rfl ?_
      refine xw_iload 16 dL_law_1096 rfl ?_
      refine xw_iload 18 dL_law_1098 rfl ?_
      refine xw_aload_n 3 dL_law_1100 rfl ?_
      refine xw_iload 16 dL_law_1101 rfl ?_
      refine yh_aldF 5 hA rfl dL_law_1103 (by omega) (by decide) ?_
      refine xz_iconst dL_law_1104 ?_
      refine xz_iadd dL_law_1105 ?_
      refine xz_mmax dL_law_1106 w_1158 (Nat.le_of_ble_eq_true rfl) (by first | omega | (simp only [xR]; omega)) (by first | omega | (simp only [xR]; omega)) (by omega) (by omega) ?_
      refine yh_astF 4 (A2 := ((aQ, iaL 24 E) :: (aP, iaL 24 S) :: (aC, iaL 20 C) :: (aR, iaL 24 Rg) :: (aE, iaL 24 (fup E1 k (max y2 ((S k) + 1)))) :: (aS, iaL 24 S) :: [])) hA rfl dL_law_1109 (by omega) (by decide) rfl hXl (fun X hA hXl => ?_)
      refine xz_iinc (l2 := [(0, .ref xBig), (1, .ref 0), (2, .int (iI N)), (3, .ref aS), (4, .ref aE), (5, .ref aR), (6, .ref aC), (7, .int (iI cm)), (8, .int (iI j)), (9, .int (iI v)), (10, .int (iI 0)), (11, .int (iI z)), (12, .ref aP), (13, .ref aQ), (14, .int (iI l)), (15, .int (iI g)), (16, .int (iI (k + 1))), (17, .int (iI x)), (18, .int (iI y2))]) 16 dL_law_1110 rfl (by decide) rfl rfl ?_
      refine xw_goto (tgt := 945) dL_law_1113 (by decide) ?_
      refine xw_loc [(0, .ref xBig), (1, .ref 0), (2, .int (iI N)), (3, .ref aS), (4, .ref aE), (5, .ref aR), (6, .ref aC), (7, .int (iI cm)), (8, .int (iI j)), (9, .int (iI v)), (10, .int (iI 0)), (11, .int (iI z)), (12, .ref aP), (13, .ref aQ), (14, .int (iI l)), (15, .int (iI g)), (16, .int (iI (k + 1)))] (fun q9 hq9 => by simp only [List.mem_cons, List.not_mem_nil, or_false] at hq9 ⊢; rcases hq9 with h | h | h | h | h | h | h | h | h | h | h | h | h | h | h | h | h <;> subst h <;> simp) ?_
      refine xw_wid (c2 := c) (n2 := 6000 + 24 * (c)) (by omega) (by omega) ?_
      exact L_strL hL j hj hv hK (k + 1) (by omega) (by omega) hA (c := c) hXl (by omega) hB hz hb0 hlg hT (fun i a b c => by by_cases e : i = k; (rw [e, fup_s]; omega); (rw [fup_n e]; exact hin1 i a b (by omega))) hzd
    · refine xz_if_ge (tgt := 1080) dL_law_1072 (by decide) (by omega) (fun c5 => ?_) (fun c5 => ?_)
      · have r8x := hb0 x (by omega) (by omega)
        refine xw_iload 18 dL_law_1080 rfl ?_
        refine xw_aload_n 3 dL_law_1082 rfl ?_
        refine xw_iload 17 dL_law_1083 rfl ?_
        refine yh_aldF 5 hA rfl dL_law_1085 (by omega) (by decide) ?_
        refine xw_iload 15 dL_law_1086 rfl ?_
        refine xz_isub dL_law_1088 ?_
        refine xz_mmin dL_law_1089 w_1160 (Nat.le_of_ble_eq_true rfl) (by first | omega | (simp only [xR]; omega)) (by first | omega | (simp only [xR]; omega)) (by omega) (by omega) ?_
        exact j3 _ (by omega)
      · refine xw_iload 18 dL_law_1075 rfl ?_
        refine xw_goto (tgt := 1092) dL_law_1077 (by decide) ?_
        exact j3 _ (by omega)
termination_by (N - k).toNat
theorem L_str (hL : L.stackTraces = false) {σ : ySg} {N cm v : Int} {aS aE aR aC aP aQ : Nat} {S E Rg C : Int → Int} (j : Int) (hj : 0 ≤ j ∧ j < 4) (hv : 0 ≤ v ∧ v < 1000000) (hK : yK7 L O aS aE aR aC N cm Rg (j + 1))  {X : List xOb} (hA : yHs ((aQ, iaL 24 E) :: (aP, iaL 24 S) :: (aC, iaL 20 C) :: (aR, iaL 24 Rg) :: (aE, iaL 24 E) :: (aS, iaL 24 S) :: []) X) {c : Nat} (hXl : X.length ≤ c) (hc : (c : Int) ≤ 20010 + 100 * j) (hB : yB3 σ N S E Rg cm C) : xWP L O mL_law (xR 13 828823 6605674) yKL 898 [(0, .ref xBig), (1, .ref 0), (2, .int (iI N)), (3, .ref aS), (4, .ref aE), (5, .ref aR), (6, .ref aC), (7, .int (iI cm)), (8, .int (iI j)), (9, .int (iI v)), (10, .int (iI 0)), (12, .ref aP), (13, .ref aQ)] [] (Wd σ X) c (6000 + 24 * c) := by
  obtain ⟨hr, d2, d3, d4, d5, d6, d7, d8, ⟨d9, d10, d11⟩, d12, d13, d14, d15, d16⟩ := id hB
  refine xz_iconst dL_law_898 ?_
  refine xw_iload 9 dL_law_899 rfl ?_
  refine xz_iconst dL_law_901 ?_
  refine xz_idiv dL_law_902 (by omega) (by decide) ?_
  refine xz_sipush dL_law_903 (by decide) ?_
  refine xz_irem dL_law_906 (by omega) (by decide) ?_
  refine xz_iadd dL_law_907 ?_
  refine xw_istore (l2 := [(0, .ref xBig), (1, .ref 0), (2, .int (iI N)), (3, .ref aS), (4, .ref aE), (5, .ref aR), (6, .ref aC), (7, .int (iI cm)), (8, .int (iI j)), (9, .int (iI v)), (10, .int (iI 0)), (12, .ref aP), (13, .ref aQ), (14, .int (iI (1 + ((v / 4) % 200))))]) dL_law_908 (by decide) rfl rfl ?_
  refine xw_iload 9 dL_law_910 rfl ?_
  refine xz_sipush dL_law_912 (by decide) ?_
  refine xz_idiv dL_law_915 (by omega) (by decide) ?_
  refine xz_bipush dL_law_916 (by decide) ?_
  refine xz_irem dL_law_918 (by omega) (by decide) ?_
  refine xw_istore (l2 := [(0, .ref xBig), (1, .ref 0), (2, .int (iI N)), (3, .ref aS), (4, .ref aE), (5, .ref aR), (6, .ref aC), (7, .int (iI cm)), (8, .int (iI j)), (9, .int (iI v)), (10, .int (iI 0)), (12, .ref aP), (13, .ref aQ), (14, .int (iI (1 + ((v / 4) % 200)))), (15, .int (iI ((v / 800) % 100)))]) dL_law_919 (by decide) rfl rfl ?_
  refine xw_aload_n 1 dL_law_921 rfl ?_
  refine xz_bipush dL_law_922 (by decide) ?_
  refine xz_iconst dL_law_924 ?_
  refine yv_new (N := 2) (L := [.int (iI 0), .int (iI 0)]) hXl (by omega) dL_law_925 rfl (by decide) rfl (by omega) (by omega) ?_
  refine xw_dup dL_law_927 rfl ?_
  refine xz_iconst dL_law_928 ?_
  refine xw_iload 13 dL_law_929 rfl ?_
  refine yv_put (k := 0) (L2 := [.int (iI (1 + ((v / 4) % 200))), .int (iI 0)]) dL_law_931 rfl (by show _ < 2; decide) (by show 2 ≤ _; decide) rfl ?_
  refine xw_dup dL_law_932 rfl ?_
  refine xz_iconst dL_law_933 ?_
  refine xw_iload 14 dL_law_934 rfl ?_
  refine yv_put (k := 1) (L2 := [.int (iI (1 + ((v / 4) % 200))), .int (iI ((v / 800) % 100))]) dL_law_936 rfl (by show _ < 2; decide) (by show 2 ≤ _; decide) rfl ?_
  refine yc_SE (K' := fun o9 G9 => ∃ σ9 : ySg, o9 = .inl (some (.int (iI (yDf σ σ9 N)))) ∧ yRg σ9 ∧ (∀ k, 0 ≤ k → k < N → yStR (fun k => σ (cu k) 1) (fun k => σ (cu k) 3) N (1 + ((v / 4) % 200)) ((v / 800) % 100) k (σ (cu k) 2) (σ9 (cu k) 2)) ∧ (∀ x y, ¬ yScA x y → ¬ (x = 0 ∧ y = 6) → ¬ (32 ≤ x ∧ x < 128 ∧ x % 4 = 0 ∧ y = 2) → σ9 x y = σ x y) ∧ G9 = Wd (yup σ9 0 6 0) (X ++ [(64, [.int (iI (1 + ((v / 4) % 200))), .int (iI ((v / 800) % 100))])])) (M' := mL_ask) (d := 8) (c := 1) (s := 24) (As := [.ref 0, .int (iI 84), .ref (193 + X.length)]) (st := []) dL_law_937 okL_ask (Or.inl w_715) rfl (Nat.le_of_ble_eq_true rfl) (by decide) (by decide) (by omega) (by omega) (a_stretch (d := 6) (c := 0) (s := 0) hL (by decide) (by decide) (by decide) (by omega) yv_last (s_stretch hL hr (by omega) d3 d5 hB.cus d12 (by omega) (by omega) (fun k a b => by have := d8 k a b; omega)) (fun w9 G9 h => by obtain ⟨σ9, q1, q2⟩ := h; exact ⟨_, Sum.inl.inj q1, σ9, rfl, q2⟩) (fun E9 G9 h => by obtain ⟨σ9, q1, q2⟩ := h; cases q1)) (fun w9 G9 h9 => ?_) (fun E9 G9 h9 => by obtain ⟨_, h, _⟩ := h9; cases h)
  obtain ⟨σ1, e9, hr1, hm1, hg1, rfl⟩ := h9
  cases e9
  refine yl_g (m2 := c + 2) (Y := [(64, [.int (iI (1 + ((v / 4) % 200))), .int (iI ((v / 800) % 100))])]) hA hXl (by simp only [List.append_assoc, List.cons_append, List.nil_append]) (by show _ + 1 ≤ _; omega) (fun X hA hXl => ?_)
  refine xw_eq (pc2 := 940) rfl rfl rfl rfl (xw_wid (c2 := c + 2) (n2 := 6000 + 24 * c + 26) (by omega) (by omega) ?_)
  have hT : ∀ k, 0 ≤ k → k < N → yStR S Rg N (1 + ((v / 4) % 200)) ((v / 800) % 100) k (E k) (σ1 (cu k) 2) := fun k a b => by
    have q := hm1 k a b
    rw [(d8 k a b).2.1] at q
    exact yStR_to q ⟨a, b⟩ (fun i c d => ⟨(d8 i c d).1, (d8 i c d).2.2.1⟩)
  have hB1 : yB3 (yup σ1 0 6 0) N S (fun k => σ1 (cu k) 2) Rg cm C := by
    have g : ∀ x y, ¬ yScA x y → ¬ (x = 0 ∧ y = 6) → ¬ (32 ≤ x ∧ x < 128 ∧ x % 4 = 0 ∧ y = 2) → (yup σ1 0 6 0) x y = σ x y := fun x y a b c => by rw [yup_n b]; exact hg1 x y a b c
    refine hB.mv (yRg_up hr1 (by decide)) yup_s (by rw [g 130 2 (by unfold yScA; omega) (by omega) (by omega)]; exact d13) (fun x y a b c _ => g x y a b (by omega)) (fun k a b => ?_) (fun i a b => by rw [g 129 i (by unfold yScA; omega) (by omega) (by omega)]; exact d11 i a b)
    have q := yStR_bd (hT k a b) (d8 k a b).2.2.2
    have q2 := d8 k a b
    rw [g (cu k) 1 (by unfold yScA cu; omega) (by unfold cu; omega) (by omega), yup_i (by unfold cu; omega)]
    exact ⟨q2.1, rfl, q2.2.2.2.1, q⟩
  have hdb := yDf_bd σ σ1 N (by omega)
  refine xw_istore (l2 := [(0, .ref xBig), (1, .ref 0), (2, .int (iI N)), (3, .ref aS), (4, .ref aE), (5, .ref aR), (6, .ref aC), (7, .int (iI cm)), (8, .int (iI j)), (9, .int (iI v)), (10, .int (iI 0)), (12, .ref aP), (13, .ref aQ), (14, .int (iI (1 + ((v / 4) % 200)))), (15, .int (iI ((v / 800) % 100))), (11, .int (iI (yDf σ σ1 N)))]) dL_law_940 (by decide) rfl rfl ?_
  refine xz_iconst dL_law_942 ?_
  refine xw_istore (l2 := [(0, .ref xBig), (1, .ref 0), (2, .int (iI N)), (3, .ref aS), (4, .ref aE), (5, .ref aR), (6, .ref aC), (7, .int (iI cm)), (8, .int (iI j)), (9, .int (iI v)), (10, .int (iI 0)), (12, .ref aP), (13, .ref aQ), (14, .int (iI (1 + ((v / 4) % 200)))), (15, .int (iI ((v / 800) % 100))), (11, .int (iI (yDf σ σ1 N))), (16, .int (iI 0))]) dL_law_943 (by decide) rfl rfl ?_
  refine xw_loc [(0, .ref xBig), (1, .ref 0), (2, .int (iI N)), (3, .ref aS), (4, .ref aE), (5, .ref aR), (6, .ref aC), (7, .int (iI cm)), (8, .int (iI j)), (9, .int (iI v)), (10, .int (iI 0)), (11, .int (iI (yDf σ σ1 N))), (12, .ref aP), (13, .ref aQ), (14, .int (iI (1 + ((v / 4) % 200)))), (15, .int (iI ((v / 800) % 100))), (16, .int (iI 0))] (fun q9 hq9 => by simp only [List.mem_cons, List.not_mem_nil, or_false] at hq9 ⊢; rcases hq9 with h | h | h | h | h | h | h | h | h | h | h | h | h | h | h | h | h <;> subst h <;> simp) ?_
  refine xw_wid (c2 := c + 2) (n2 := 6000 + 24 * (c + 2)) (by omega) (by omega) ?_
  exact L_strL hL j hj hv hK 0 (by omega) (by omega) hA (c := c + 2) hXl (by omega) hB1 (by omega) (fun k a b => (d8 k a b).2.2.2) (by omega) hT (fun i a b c => absurd c (by omega)) (yDf_dd (by omega) (fun k a b => ⟨(d8 k a b).1, (d8 k a b).2.1⟩) (fun k a b => ⟨by have q := hg1 (cu k) 1 (by unfold yScA cu; omega) (by unfold cu; omega) (by omega); rw [q]; exact (d8 k a b).1, rfl⟩))
end Y44

section Y17
variable {L : Launch} {O : xWd} {K : xOc → List xOb → Prop} {σ : ySg} {X : List xOb} {G : List xOb}
/-- g is the greatest of the ends of N cues and of cc cuts, or 0 -/
def yGr (σ : ySg) (N cc g : Int) : Prop := 0 ≤ g ∧ (∀ k, 0 ≤ k → k < N → σ (cu k) 2 ≤ g) ∧ (∀ k, 0 ≤ k → k < cc → σ 129 k ≤ g) ∧ (g = 0 ∨ (∃ k, 0 ≤ k ∧ k < N ∧ g = σ (cu k) 2) ∨ ∃ k, 0 ≤ k ∧ k < cc ∧ g = σ 129 k)
theorem yGr_0 : yGr σ 0 0 0 := ⟨by omega, fun k h1 h2 => absurd h2 (by omega), fun k h1 h2 => absurd h2 (by omega), Or.inl rfl⟩
theorem yGr_n {N g : Int} (h : yGr σ N 0 g) (hN : 0 ≤ N) : yGr σ (N + 1) 0 (max g (σ (cu N) 2)) := by
  obtain ⟨h1, h2, h3, h4⟩ := h
  refine ⟨by omega, fun k a1 a2 => ?_, fun k a1 a2 => absurd a2 (by omega), ?_⟩
  · by_cases e : k = N
    · subst e; omega
    · have := h2 k a1 (by omega); omega
  · by_cases c : σ (cu N) 2 ≤ g
    · rw [show max g (σ (cu N) 2) = g by omega]
      rcases h4 with q | ⟨k, q1, q2, q3⟩ | ⟨k, q1, q2, q3⟩
      · exact Or.inl q
      · exact Or.inr (Or.inl ⟨k, q1, by omega, q3⟩)
      · exact absurd q2 (by omega)
    · rw [show max g (σ (cu N) 2) = σ (cu N) 2 by omega]
      exact Or.inr (Or.inl ⟨N, hN, by omega, rfl⟩)
theorem yGr_c {N c g : Int} (h : yGr σ N c g) (hc : 0 ≤ c) : yGr σ N (c + 1) (max g (σ 129 c)) := by
  obtain ⟨h1, h2, h3, h4⟩ := h
  refine ⟨by omega, fun k a1 a2 => ?_, fun k a1 a2 => ?_, ?_⟩
  · have := h2 k a1 a2; omega
  · by_cases e : k = c
    · subst e; omega
    · have := h3 k a1 (by omega); omega
  · by_cases q0 : σ 129 c ≤ g
    · rw [show max g (σ 129 c) = g by omega]
      rcases h4 with q | ⟨k, q1, q2, q3⟩ | ⟨k, q1, q2, q3⟩
      · exact Or.inl q
      · exact Or.inr (Or.inl ⟨k, q1, q2, q3⟩)
      · exact Or.inr (Or.inr ⟨k, q1, by omega, q3⟩)
    · rw [show max g (σ 129 c) = σ 129 c by omega]
      exact Or.inr (Or.inr ⟨c, hc, by omega, rfl⟩)
theorem yGr_rg {N cc g : Int} (hr : yRg σ) (h : yGr σ N cc g) : -2147483648 ≤ g ∧ g < 2147483648 := by
  rcases h.2.2.2 with q | ⟨k, q1, q2, q3⟩ | ⟨k, q1, q2, q3⟩
  · omega
  · rw [q3]; exact hr _ _
  · rw [q3]; exact hr _ _
theorem l_gf2 (hL : L.stackTraces = false) {N : Int} (hr : yRg σ) (hN : 0 ≤ N ∧ N ≤ 24) (hc : 0 ≤ σ 128 1 ∧ σ 128 1 ≤ 20) (hh : σ 186 2 = 0) (hK : ∀ g, yGr σ N (σ 128 1) g → K (.inl (some (.int (iI g)))) (Wd σ X)) (j : Int) (h0 : 0 ≤ j) (h1 : j ≤ σ 128 1) (g : Int) (hg : yGr σ N j g) : xWP L O mX11_greatestFrame (xR 0 0 0) K 44 [(0, .ref 0), (1, .int (iI g)), (2, .int (iI j))] [] (Wd σ X) 0 0 := by
  have hgr := yGr_rg hr hg
  refine xw_iload_n 2 dX11_greatestFrame_44 rfl ?_
  refine xw_aload_n 0 dX11_greatestFrame_45 rfl ?_
  refine yz_getr (fo_X11_43 rfl) dX11_greatestFrame_46 is_0 rfl ?_
  have r1 := hr 128 1
  refine yz_geti (z := 1) (v := σ 128 1) (fo_X11_251 rfl) dX11_greatestFrame_49 is_128 rfl rfl rfl ?_
  refine xz_icmp_ge (tgt := 81) dX11_greatestFrame_52 (by decide) (by omega) (by omega) (fun c2 => ?_) (fun c2 => ?_)
  · refine xz_iconst dX11_greatestFrame_81 ?_
    refine xw_istore_n (l2 := [(0, .ref 0), (1, .int (iI g)), (2, .int (iI 0))]) dX11_greatestFrame_82 (by decide) rfl rfl ?_
    refine xw_iload_n 2 dX11_greatestFrame_83 rfl ?_
    refine xw_aload_n 0 dX11_greatestFrame_84 rfl ?_
    refine yz_getr (fo_X11_64 rfl) dX11_greatestFrame_85 is_0 rfl ?_
    have r3 := hr 186 2
    refine yz_geti (z := 2) (v := σ 186 2) (fo_X11_327 rfl) dX11_greatestFrame_88 is_186 rfl rfl rfl ?_
    refine xz_icmp_ge (tgt := 120) dX11_greatestFrame_91 (by decide) (by omega) (by omega) (fun c4 => ?_) (fun c4 => ?_)
    · refine xw_iload_n 1 dX11_greatestFrame_120 rfl ?_
      exact xz_iret dX11_greatestFrame_121 rfl (Nat.zero_le _) (Nat.zero_le _) (hK g (by rw [show σ 128 1 = j by omega]; exact hg))
    · exact absurd c4 (by omega)
  · refine xw_iload_n 2 dX11_greatestFrame_55 rfl ?_
    refine xz_bipush dX11_greatestFrame_56 (by decide) ?_
    refine xz_icmp_ge (tgt := 81) dX11_greatestFrame_58 (by decide) (by omega) (by omega) (fun c5 => ?_) (fun c5 => ?_)
    · exact absurd c5 (by omega)
    · refine xw_iload_n 1 dX11_greatestFrame_61 rfl ?_
      refine xw_aload_n 0 dX11_greatestFrame_62 rfl ?_
      refine yz_getr (fo_X11_43 rfl) dX11_greatestFrame_63 is_0 rfl ?_
      refine yz_getr (fo_X11_319 rfl) dX11_greatestFrame_66 is_128 rfl ?_
      refine xw_iload_n 2 dX11_greatestFrame_69 rfl ?_
      have r6 := hr 129 j
      refine yz_iald (v := σ 129 j) dX11_greatestFrame_70 is_129 (by omega) (by decide) rfl ?_
      refine xz_mmax dX11_greatestFrame_71 w_578 (Nat.le_of_ble_eq_true rfl) (Nat.zero_le _) (Nat.zero_le _) (by omega) (by omega) ?_
      refine xw_istore_n (l2 := [(0, .ref 0), (1, .int (iI (max g (σ 129 j)))), (2, .int (iI j))]) dX11_greatestFrame_74 (by decide) rfl rfl ?_
      refine xz_iinc (l2 := [(0, .ref 0), (1, .int (iI (max g (σ 129 j)))), (2, .int (iI (j + 1)))]) 2 dX11_greatestFrame_75 rfl (by decide) rfl rfl ?_
      refine xw_goto (tgt := 44) dX11_greatestFrame_78 (by decide) ?_
      exact l_gf2 hL hr hN hc hh hK (j + 1) (by omega) (by omega) _ (yGr_c hg h0)
termination_by (σ 128 1 - j).toNat
theorem l_gf1 (hL : L.stackTraces = false) {N : Int} (hr : yRg σ) (hN : 0 ≤ N ∧ N ≤ 24) (hc : 0 ≤ σ 128 1 ∧ σ 128 1 ≤ 20) (hh : σ 186 2 = 0) (hK : ∀ g, yGr σ N (σ 128 1) g → K (.inl (some (.int (iI g)))) (Wd σ X)) (ht : yTh σ N) (j : Int) (h0 : 0 ≤ j) (h1 : j ≤ 24) (g : Int) (hg : yGr σ (min j N) 0 g) : xWP L O mX11_greatestFrame (xR 0 0 0) K 4 [(0, .ref 0), (1, .int (iI g)), (2, .int (iI j))] [] (Wd σ X) 0 0 := by
  have hgr := yGr_rg hr hg
  refine xw_iload_n 2 dX11_greatestFrame_4 rfl ?_
  refine xz_bipush dX11_greatestFrame_5 (by decide) ?_
  refine xz_icmp_ge (tgt := 42) dX11_greatestFrame_7 (by decide) (by omega) (by omega) (fun c1 => ?_) (fun c1 => ?_)
  · refine xz_iconst dX11_greatestFrame_42 ?_
    refine xw_istore_n (l2 := [(0, .ref 0), (1, .int (iI g)), (2, .int (iI 0))]) dX11_greatestFrame_43 (by decide) rfl rfl ?_
    exact l_gf2 hL hr hN hc hh hK 0 (by omega) (by omega) g (by rw [show min j N = N by omega] at hg; exact hg)
  · have ht1 := ht j h0 (by omega)
    refine xw_aload_n 0 dX11_greatestFrame_10 rfl ?_
    refine yz_getr (fo_X11_37 rfl) dX11_greatestFrame_11 is_0 rfl ?_
    refine xw_iload_n 2 dX11_greatestFrame_14 rfl ?_
    refine yz_aald 3 dX11_greatestFrame_15 (by decide) rfl rfl is_21 (by omega) (by decide) (ks21_get (by omega)) ?_
    have r2 := hr (cu j) 0
    refine yz_geti (z := 0) (v := σ (cu j) 0) (fo_X11_218 rfl) dX11_greatestFrame_16 (is_cu (by omega)) rfl rfl rfl ?_
    refine xz_if_eq (tgt := 36) dX11_greatestFrame_19 (by decide) (by omega) (fun c3 => ?_) (fun c3 => ?_)
    · refine xz_iinc (l2 := [(0, .ref 0), (1, .int (iI g)), (2, .int (iI (j + 1)))]) 2 dX11_greatestFrame_36 rfl (by decide) rfl rfl ?_
      refine xw_goto (tgt := 4) dX11_greatestFrame_39 (by decide) ?_
      exact l_gf1 hL hr hN hc hh hK ht (j + 1) (by omega) (by omega) g (by rw [show min (j + 1) N = N by omega]; rw [show min j N = N by omega] at hg; exact hg)
    · refine xw_iload_n 1 dX11_greatestFrame_22 rfl ?_
      refine xw_aload_n 0 dX11_greatestFrame_23 rfl ?_
      refine yz_getr (fo_X11_37 rfl) dX11_greatestFrame_24 is_0 rfl ?_
      refine xw_iload_n 2 dX11_greatestFrame_27 rfl ?_
      refine yz_aald 3 dX11_greatestFrame_28 (by decide) rfl rfl is_21 (by omega) (by decide) (ks21_get (by omega)) ?_
      have r4 := hr (cu j) 2
      refine yz_geti (z := 2) (v := σ (cu j) 2) (fo_X11_224 rfl) dX11_greatestFrame_29 (is_cu (by omega)) rfl rfl rfl ?_
      refine xz_mmax dX11_greatestFrame_32 w_578 (Nat.le_of_ble_eq_true rfl) (Nat.zero_le _) (Nat.zero_le _) (by omega) (by omega) ?_
      refine xw_istore_n (l2 := [(0, .ref 0), (1, .int (iI (max g (σ (cu j) 2)))), (2, .int (iI j))]) dX11_greatestFrame_35 (by decide) rfl rfl ?_
      refine xz_iinc (l2 := [(0, .ref 0), (1, .int (iI (max g (σ (cu j) 2)))), (2, .int (iI (j + 1)))]) 2 dX11_greatestFrame_36 rfl (by decide) rfl rfl ?_
      refine xw_goto (tgt := 4) dX11_greatestFrame_39 (by decide) ?_
      exact l_gf1 hL hr hN hc hh hK ht (j + 1) (by omega) (by omega) _ (by rw [show min (j + 1) N = j + 1 by omega]; rw [show min j N = j by omega] at hg; exact yGr_n hg h0)
termination_by (24 - j).toNat
theorem s_greatestFrame (hL : L.stackTraces = false) {N : Int} (hr : yRg σ) (hN : 0 ≤ N ∧ N ≤ 24) (hc : 0 ≤ σ 128 1 ∧ σ 128 1 ≤ 20) (hh : σ 186 2 = 0) (ht : yTh σ N) : xMet L O mX11_greatestFrame (xR 0 0 0) [.ref 0] (Wd σ X) (fun o G1 => ∃ g : Int, o = .inl (some (.int (iI g))) ∧ yGr σ N (σ 128 1) g ∧ G1 = Wd σ X) := xMet_of (by decide) hL (Nat.le_of_ble_eq_true rfl) (by
  refine xw_eq rfl (l2 := [(0, .ref 0)]) rfl rfl rfl ?_
  refine xz_iconst dX11_greatestFrame_0 ?_
  refine xw_istore_n (l2 := [(0, .ref 0), (1, .int (iI 0))]) dX11_greatestFrame_1 (by decide) rfl rfl ?_
  refine xz_iconst dX11_greatestFrame_2 ?_
  refine xw_istore_n (l2 := [(0, .ref 0), (1, .int (iI 0)), (2, .int (iI 0))]) dX11_greatestFrame_3 (by decide) rfl rfl ?_
  exact l_gf1 hL hr hN hc hh (fun g hg => ⟨g, rfl, hg, rfl⟩) ht 0 (by omega) (by omega) 0 (by rw [show min 0 N = 0 by omega]; exact yGr_0))
theorem l_scaleAll (hL : L.stackTraces = false) {σ : ySg} {c n d : Int} (hr : yRg σ) (hc : 0 ≤ c ∧ c ≤ 20) (hn : 1 ≤ n ∧ n ≤ 1001) (hd : 1 ≤ d ∧ d ≤ 1001) (j : Int) (h0 : 0 ≤ j) (h1 : j ≤ c) (hv : ∀ i, j ≤ i → i < c → (0 ≤ σ 129 i * n ∧ σ 129 i * n < 9223372036854775808) ∧ 0 ≤ σ 129 i * n / d ∧ σ 129 i * n / d ≤ 99999) (hK : ∀ σ' : ySg, yRg σ' → (∀ i, j ≤ i → i < c → σ' 129 i = σ 129 i * n / d) → (∀ a b, ¬ (a = 129 ∧ j ≤ b ∧ b < c) → σ' a b = σ a b) → K (.inl none) (Wd σ' X)) : xWP L O mX11_scaleAll (xR 1 0 0) K 3 [(0, .ref 129), (1, .int (iI c)), (2, .int (iI n)), (3, .int (iI d)), (4, .int (iI j))] [] (Wd σ X) 0 0 := by
  refine xw_iload 4 dX11_scaleAll_3 rfl ?_
  refine xw_iload_n 1 dX11_scaleAll_5 rfl ?_
  refine xz_icmp_ge (tgt := 39) dX11_scaleAll_6 (by decide) (by omega) (by omega) (fun c1 => ?_) (fun c1 => ?_)
  · exact xw_vret dX11_scaleAll_39 rfl (Nat.zero_le _) (Nat.zero_le _) (hK σ hr (fun i a1 a2 => absurd a2 (by omega)) (fun a b _ => rfl))
  · refine xw_iload 4 dX11_scaleAll_9 rfl ?_
    refine xw_aload_n 0 dX11_scaleAll_11 rfl ?_
    refine yz_alen 0 (n := 20) dX11_scaleAll_12 (by decide) rfl is_129 rfl ?_
    refine xz_icmp_ge (tgt := 39) dX11_scaleAll_13 (by decide) (by omega) (by omega) (fun c2 => ?_) (fun c2 => ?_)
    · exact absurd c2 (by omega)
    · refine xw_aload_n 0 dX11_scaleAll_16 rfl ?_
      refine xw_iload 4 dX11_scaleAll_17 rfl ?_
      refine xw_aload_n 0 dX11_scaleAll_19 rfl ?_
      refine xw_iload 4 dX11_scaleAll_20 rfl ?_
      have r3 := hr 129 j
      refine yz_iald (v := σ 129 j) dX11_scaleAll_22 is_129 (by omega) (by decide) rfl ?_
      refine xz_i2l dX11_scaleAll_23 (by omega) ?_
      refine xw_iload_n 2 dX11_scaleAll_24 rfl ?_
      refine xz_i2l dX11_scaleAll_25 (by omega) ?_
      refine xw_iload_n 3 dX11_scaleAll_26 rfl ?_
      refine xz_i2l dX11_scaleAll_27 (by omega) ?_
      refine yc_S (M' := mX11_scaled) (d := 0) (c := 0) (s := 0) (As := [.long (lI (σ 129 j)), .long (lI n), .long (lI d)]) (st := [.int (iI j), .ref 129]) (v0 := some (.long (lI ((σ 129 j) * n / d)))) (G2 := Wd σ X) dX11_scaleAll_28 okX11_scaled (Or.inl w_905) rfl (Nat.le_of_ble_eq_true rfl) (by decide) (by decide) (Nat.zero_le _) (Nat.zero_le _) rfl rfl (s_scaled hL (hv j (by omega) (by omega)).1 (by omega)) ?_
      have hv1 := (hv j (by omega) (by omega)).2
      refine xz_l2i dX11_scaleAll_31 (by omega) ?_
      refine yz_iast dX11_scaleAll_32 is_129 (by omega) (by decide) ?_
      refine xz_iinc (l2 := [(0, .ref 129), (1, .int (iI c)), (2, .int (iI n)), (3, .int (iI d)), (4, .int (iI (j + 1)))]) 4 dX11_scaleAll_33 rfl (by decide) rfl rfl ?_
      refine xw_goto (tgt := 3) dX11_scaleAll_36 (by decide) ?_
      have hv1 := (hv j (by omega) (by omega)).2
      have hr1 : yRg (yup σ 129 j ((σ 129 j) * n / d)) := (yRg_up hr (by omega))
      have eo : ∀ i, i ≠ j → (yup σ 129 j ((σ 129 j) * n / d)) 129 i = σ 129 i := fun i q => yup_k q
      refine l_scaleAll hL hr1 hc hn hd (j + 1) (by omega) (by omega) (fun i a1 a2 => by rw [eo i (by omega)]; exact hv i (by omega) a2) (fun σ' b1 b2 b3 => hK σ' b1 (fun i a1 a2 => ?_) (fun a b q => ?_))
      · by_cases e : i = j
        · subst e
          rw [b3 129 i (fun q => by omega), yup_s]
        · rw [b2 i (by omega) a2, eo i e]
      · rw [b3 a b (fun w => q ⟨w.1, by omega, w.2.2⟩)]
        unfold yup
        rw [if_neg (fun w => q ⟨w.1, by omega, by omega⟩)]
termination_by (c - j).toNat
theorem s_scaleAll (hL : L.stackTraces = false) {c n d : Int} (hr : yRg σ) (hc : 0 ≤ c ∧ c ≤ 20) (hn : 1 ≤ n ∧ n ≤ 1001) (hd : 1 ≤ d ∧ d ≤ 1001) (hv : ∀ i, 0 ≤ i → i < c → (0 ≤ σ 129 i * n ∧ σ 129 i * n < 9223372036854775808) ∧ 0 ≤ σ 129 i * n / d ∧ σ 129 i * n / d ≤ 99999) : xMet L O mX11_scaleAll (xR 1 0 0) [.ref 129, .int (iI c), .int (iI n), .int (iI d)] (Wd σ X) (fun o G1 => ∃ σ' : ySg, o = .inl none ∧ yRg σ' ∧ (∀ i, 0 ≤ i → i < c → σ' 129 i = σ 129 i * n / d) ∧ (∀ a b, ¬ (a = 129 ∧ 0 ≤ b ∧ b < c) → σ' a b = σ a b) ∧ G1 = Wd σ' X) := xMet_of (by decide) hL (Nat.le_of_ble_eq_true rfl) (by
  refine xw_eq rfl (l2 := [(0, .ref 129), (1, .int (iI c)), (2, .int (iI n)), (3, .int (iI d))]) rfl rfl rfl ?_
  refine xz_iconst dX11_scaleAll_0 ?_
  refine xw_istore (l2 := [(0, .ref 129), (1, .int (iI c)), (2, .int (iI n)), (3, .int (iI d)), (4, .int (iI 0))]) dX11_scaleAll_1 (by decide) rfl rfl ?_
  exact l_scaleAll hL hr hc hn hd 0 (by omega) (by omega) hv (fun σ' b1 b2 b3 => ⟨σ', rfl, b1, b2, b3, rfl⟩))
theorem s_scaleAll0 (hL : L.stackTraces = false) {n d : Int} : xMet L O mX11_scaleAll (xR 1 0 0) [.ref 187, .int (iI 0), .int (iI n), .int (iI d)] (Wd σ X) (fun o G1 => o = .inl none ∧ G1 = Wd σ X) := xMet_of (by decide) hL (Nat.le_of_ble_eq_true rfl) (by
  refine xw_eq rfl (l2 := [(0, .ref 187), (1, .int (iI 0)), (2, .int (iI n)), (3, .int (iI d))]) rfl rfl rfl ?_
  refine xz_iconst dX11_scaleAll_0 ?_
  refine xw_istore (l2 := [(0, .ref 187), (1, .int (iI 0)), (2, .int (iI n)), (3, .int (iI d)), (4, .int (iI 0))]) dX11_scaleAll_1 (by decide) rfl rfl ?_
  refine xw_iload 4 dX11_scaleAll_3 rfl ?_
  refine xw_iload_n 1 dX11_scaleAll_5 rfl ?_
  refine xz_icmp_ge (tgt := 39) dX11_scaleAll_6 (by decide) (by omega) (by omega) (fun c1 => ?_) (fun c1 => ?_)
  · exact xw_vret dX11_scaleAll_39 rfl (Nat.zero_le _) (Nat.zero_le _) ⟨rfl, rfl⟩
  · exact absurd c1 (by omega))
/-- b is the nearest of the first j of C to f: of equally near ones the lower; -1 where there is none -/
def yNr (C : Int → Int) (f j b : Int) : Prop := (j ≤ 0 ∧ b = -1) ∨ ((∃ i, 0 ≤ i ∧ i < j ∧ b = C i) ∧ ∀ i, 0 ≤ i → i < j → max (b - f) (-(b - f)) < max (C i - f) (-(C i - f)) ∨ (max (b - f) (-(b - f)) = max (C i - f) (-(C i - f)) ∧ b ≤ C i))
theorem yNr_new {C : Int → Int} {f j b : Int} (h0 : 0 ≤ j) (h : yNr C f j b) (hc : b = -1 ∨ max (C j - f) (-(C j - f)) < max (b - f) (-(b - f)) ∨ (max (C j - f) (-(C j - f)) = max (b - f) (-(b - f)) ∧ C j < b)) (hC : ∀ i, 0 ≤ i → i < j → 0 ≤ C i) : yNr C f (j + 1) (C j) := by
  refine Or.inr ⟨⟨j, h0, by omega, rfl⟩, fun i a1 a2 => ?_⟩
  by_cases e : i = j
  · subst e; exact Or.inr ⟨rfl, by omega⟩
  · rcases h with q | ⟨⟨i0, g1, g2, g3⟩, q⟩
    · omega
    · have h1 := q i a1 (by omega)
      have h2 := hC i0 g1 g2
      omega
theorem yNr_keep {C : Int → Int} {f j b : Int} (h0 : 0 ≤ j) (h : yNr C f j b) (hb : ¬ b = -1) (hc : max (b - f) (-(b - f)) < max (C j - f) (-(C j - f)) ∨ (max (b - f) (-(b - f)) = max (C j - f) (-(C j - f)) ∧ b ≤ C j)) : yNr C f (j + 1) b := by
  rcases h with q | ⟨⟨i0, g1, g2, g3⟩, q⟩
  · omega
  · refine Or.inr ⟨⟨i0, g1, by omega, g3⟩, fun i a1 a2 => ?_⟩
    by_cases e : i = j
    · subst e; exact hc
    · exact q i a1 (by omega)
theorem yNr_bd {C : Int → Int} {f j b : Int} (h : yNr C f j b) (hC : ∀ i, 0 ≤ i → i < j → 0 ≤ C i ∧ C i ≤ 99999) : -1 ≤ b ∧ b ≤ 99999 := by
  rcases h with q | ⟨⟨i0, g1, g2, g3⟩, q⟩
  · omega
  · have := hC i0 g1 g2
    omega
/-- what a frame becomes by the cuts -/
def ySp (C : Int → Int) (c f r z : Int) : Prop := (z = f ∧ ∀ i, 0 ≤ i → i < c → r < max (C i - f) (-(C i - f))) ∨ ((∃ i, 0 ≤ i ∧ i < c ∧ z = C i) ∧ max (z - f) (-(z - f)) ≤ r ∧ ∀ i, 0 ≤ i → i < c → max (z - f) (-(z - f)) < max (C i - f) (-(C i - f)) ∨ (max (z - f) (-(z - f)) = max (C i - f) (-(C i - f)) ∧ z ≤ C i))
theorem ySp_uniq {C : Int → Int} {c f r z y : Int} (h : ySp C c f r z) (h2 : ySp C c f r y) : z = y := by
  rcases h with ⟨e1, a1⟩ | ⟨⟨i, i1, i2, i3⟩, a2, a3⟩ <;> rcases h2 with ⟨e2, b1⟩ | ⟨⟨k, k1, k2, k3⟩, b2, b3⟩
  · omega
  · have := a1 k k1 k2; rw [← k3] at this; omega
  · have := b1 i i1 i2; rw [← i3] at this; omega
  · have h3 := a3 k k1 k2
    have h4 := b3 i i1 i2
    rw [← k3] at h3
    rw [← i3] at h4
    omega
theorem ySp_near {C : Int → Int} {c f r b : Int} (h : yNr C f c b) (hC : ∀ i, 0 ≤ i → i < c → 0 ≤ C i) : (b = -1 → ySp C c f r f) ∧ (¬ b = -1 → max (b - f) (-(b - f)) ≤ r → ySp C c f r b) ∧ (¬ b = -1 → r < max (b - f) (-(b - f)) → ySp C c f r f) := by
  rcases h with ⟨q1, q2⟩ | ⟨⟨i0, g1, g2, g3⟩, q⟩
  · exact ⟨fun _ => Or.inl ⟨rfl, fun i a1 a2 => absurd a2 (by omega)⟩, fun e => absurd q2 e, fun e => absurd q2 e⟩
  · refine ⟨fun e => ?_, fun _ h => Or.inr ⟨⟨i0, g1, g2, g3⟩, h, q⟩, fun _ h => Or.inl ⟨rfl, fun i a1 a2 => ?_⟩⟩
    · have := hC i0 g1 g2; omega
    · have := q i a1 a2; omega
theorem l_X4_nearest (hL : L.stackTraces = false) {f : Int} (hr : yRg σ) (hc : 0 ≤ σ 128 1 ∧ σ 128 1 ≤ 20) (hC : ∀ i, 0 ≤ i → i < σ 128 1 → 0 ≤ σ 129 i ∧ σ 129 i ≤ 99999) (hf : 0 ≤ f ∧ f ≤ 99999) (hK : ∀ b, yNr (σ 129) f (σ 128 1) b → K (.inl (some (.int (iI b)))) (Wd σ X)) (j : Int) (h0 : 0 ≤ j) (h1 : j ≤ σ 128 1) (b : Int) (hg : yNr (σ 129) f j b) : xWP L O mX4_nearest (xR 0 0 0) K 4 [(0, .ref 128), (1, .int (iI f)), (2, .int (iI b)), (3, .int (iI j))] [] (Wd σ X) 0 0 := by
  have hb := yNr_bd hg (fun i a1 a2 => hC i a1 (by omega))
  refine xw_iload_n 3 dX4_nearest_4 rfl ?_
  refine xw_aload_n 0 dX4_nearest_5 rfl ?_
  have r1 := hr 128 1
  refine yz_geti (z := 1) (v := σ 128 1) (fo_X4_15 rfl) dX4_nearest_6 is_128 rfl rfl rfl ?_
  refine xz_icmp_ge (tgt := 81) dX4_nearest_9 (by decide) (by omega) (by omega) (fun c2 => ?_) (fun c2 => ?_)
  · refine xw_iload_n 2 dX4_nearest_81 rfl ?_
    exact xz_iret dX4_nearest_82 rfl (Nat.zero_le _) (Nat.zero_le _) (hK b (by rw [show σ 128 1 = j by omega]; exact hg))
  · refine xw_iload_n 3 dX4_nearest_12 rfl ?_
    refine xz_bipush dX4_nearest_13 (by decide) ?_
    refine xz_icmp_ge (tgt := 81) dX4_nearest_15 (by decide) (by omega) (by omega) (fun c3 => ?_) (fun c3 => ?_)
    · exact absurd c3 (by omega)
    · have hj := hC j h0 (by omega)
      refine xw_aload_n 0 dX4_nearest_18 rfl ?_
      refine yz_getr (fo_X4_9 rfl) dX4_nearest_19 is_128 rfl ?_
      refine xw_iload_n 3 dX4_nearest_22 rfl ?_
      have r4 := hr 129 j
      refine yz_iald (v := σ 129 j) dX4_nearest_23 is_129 (by omega) (by decide) rfl ?_
      refine xw_iload_n 1 dX4_nearest_24 rfl ?_
      refine xz_isub dX4_nearest_25 ?_
      refine xz_mabs dX4_nearest_26 w_869 (Nat.le_of_ble_eq_true rfl) (Nat.zero_le _) (Nat.zero_le _) (by omega) ?_
      refine xw_istore (l2 := [(0, .ref 128), (1, .int (iI f)), (2, .int (iI b)), (3, .int (iI j)), (4, .int (iI (max ((σ 129 j) - f) (-((σ 129 j) - f)))))]) dX4_nearest_29 (by decide) rfl rfl ?_
      refine xw_iload_n 2 dX4_nearest_31 rfl ?_
      refine xw_iload_n 1 dX4_nearest_32 rfl ?_
      refine xz_isub dX4_nearest_33 ?_
      refine xz_mabs dX4_nearest_34 w_869 (Nat.le_of_ble_eq_true rfl) (Nat.zero_le _) (Nat.zero_le _) (by omega) ?_
      refine xw_istore (l2 := [(0, .ref 128), (1, .int (iI f)), (2, .int (iI b)), (3, .int (iI j)), (4, .int (iI (max ((σ 129 j) - f) (-((σ 129 j) - f))))), (5, .int (iI (max (b - f) (-(b - f)))))]) dX4_nearest_37 (by decide) rfl rfl ?_
      refine xw_iload_n 2 dX4_nearest_39 rfl ?_
      refine xz_iconst dX4_nearest_40 ?_
      refine xz_icmp_eq (tgt := 68) dX4_nearest_41 (by decide) (by omega) (by omega) (fun c5 => ?_) (fun c5 => ?_)
      · refine xw_aload_n 0 dX4_nearest_68 rfl ?_
        refine yz_getr (fo_X4_9 rfl) dX4_nearest_69 is_128 rfl ?_
        refine xw_iload_n 3 dX4_nearest_72 rfl ?_
        refine yz_iald (v := σ 129 j) dX4_nearest_73 is_129 (by omega) (by decide) rfl ?_
        refine xw_istore_n (l2 := [(0, .ref 128), (1, .int (iI f)), (2, .int (iI (σ 129 j))), (3, .int (iI j)), (4, .int (iI (max ((σ 129 j) - f) (-((σ 129 j) - f))))), (5, .int (iI (max (b - f) (-(b - f)))))]) dX4_nearest_74 (by decide) rfl rfl ?_
        refine xz_iinc (l2 := [(0, .ref 128), (1, .int (iI f)), (2, .int (iI (σ 129 j))), (3, .int (iI (j + 1))), (4, .int (iI (max ((σ 129 j) - f) (-((σ 129 j) - f))))), (5, .int (iI (max (b - f) (-(b - f)))))]) 3 dX4_nearest_75 rfl (by decide) rfl rfl ?_
        refine xw_goto (tgt := 4) dX4_nearest_78 (by decide) ?_
        refine xw_loc [(0, .ref 128), (1, .int (iI f)), (2, .int (iI (σ 129 j))), (3, .int (iI (j + 1)))] (fun q hq => List.mem_append_left ([(4, .int (iI (max ((σ 129 j) - f) (-((σ 129 j) - f))))), (5, .int (iI (max (b - f) (-(b - f)))))] : List (Nat × Value)) hq) ?_
        exact l_X4_nearest hL hr hc hC hf hK (j + 1) (by omega) (by omega) _ (yNr_new h0 hg (by omega) (fun i a1 a2 => (hC i a1 (by omega)).1))
      · refine xw_iload 4 dX4_nearest_44 rfl ?_
        refine xw_iload 5 dX4_nearest_46 rfl ?_
        refine xz_icmp_lt (tgt := 68) dX4_nearest_48 (by decide) (by omega) (by omega) (fun c6 => ?_) (fun c6 => ?_)
        · refine xw_aload_n 0 dX4_nearest_68 rfl ?_
          refine yz_getr (fo_X4_9 rfl) dX4_nearest_69 is_128 rfl ?_
          refine xw_iload_n 3 dX4_nearest_72 rfl ?_
          refine yz_iald (v := σ 129 j) dX4_nearest_73 is_129 (by omega) (by decide) rfl ?_
          refine xw_istore_n (l2 := [(0, .ref 128), (1, .int (iI f)), (2, .int (iI (σ 129 j))), (3, .int (iI j)), (4, .int (iI (max ((σ 129 j) - f) (-((σ 129 j) - f))))), (5, .int (iI (max (b - f) (-(b - f)))))]) dX4_nearest_74 (by decide) rfl rfl ?_
          refine xz_iinc (l2 := [(0, .ref 128), (1, .int (iI f)), (2, .int (iI (σ 129 j))), (3, .int (iI (j + 1))), (4, .int (iI (max ((σ 129 j) - f) (-((σ 129 j) - f))))), (5, .int (iI (max (b - f) (-(b - f)))))]) 3 dX4_nearest_75 rfl (by decide) rfl rfl ?_
          refine xw_goto (tgt := 4) dX4_nearest_78 (by decide) ?_
          refine xw_loc [(0, .ref 128), (1, .int (iI f)), (2, .int (iI (σ 129 j))), (3, .int (iI (j + 1)))] (fun q hq => List.mem_append_left ([(4, .int (iI (max ((σ 129 j) - f) (-((σ 129 j) - f))))), (5, .int (iI (max (b - f) (-(b - f)))))] : List (Nat × Value)) hq) ?_
          exact l_X4_nearest hL hr hc hC hf hK (j + 1) (by omega) (by omega) _ (yNr_new h0 hg (by omega) (fun i a1 a2 => (hC i a1 (by omega)).1))
        · refine xw_iload 4 dX4_nearest_51 rfl ?_
          refine xw_iload 5 dX4_nearest_53 rfl ?_
          refine xz_icmp_ne (tgt := 75) dX4_nearest_55 (by decide) (by omega) (by omega) (fun c7 => ?_) (fun c7 => ?_)
          · refine xz_iinc (l2 := [(0, .ref 128), (1, .int (iI f)), (2, .int (iI b)), (3, .int (iI (j + 1))), (4, .int (iI (max ((σ 129 j) - f) (-((σ 129 j) - f))))), (5, .int (iI (max (b - f) (-(b - f)))))]) 3 dX4_nearest_75 rfl (by decide) rfl rfl ?_
            refine xw_goto (tgt := 4) dX4_nearest_78 (by decide) ?_
            refine xw_loc [(0, .ref 128), (1, .int (iI f)), (2, .int (iI b)), (3, .int (iI (j + 1)))] (fun q hq => List.mem_append_left ([(4, .int (iI (max ((σ 129 j) - f) (-((σ 129 j) - f))))), (5, .int (iI (max (b - f) (-(b - f)))))] : List (Nat × Value)) hq) ?_
            exact l_X4_nearest hL hr hc hC hf hK (j + 1) (by omega) (by omega) b (yNr_keep h0 hg (by omega) (by omega))
          · refine xw_aload_n 0 dX4_nearest_58 rfl ?_
            refine yz_getr (fo_X4_9 rfl) dX4_nearest_59 is_128 rfl ?_
            refine xw_iload_n 3 dX4_nearest_62 rfl ?_
            refine yz_iald (v := σ 129 j) dX4_nearest_63 is_129 (by omega) (by decide) rfl ?_
            refine xw_iload_n 2 dX4_nearest_64 rfl ?_
            refine xz_icmp_ge (tgt := 75) dX4_nearest_65 (by decide) (by omega) (by omega) (fun c8 => ?_) (fun c8 => ?_)
            · refine xz_iinc (l2 := [(0, .ref 128), (1, .int (iI f)), (2, .int (iI b)), (3, .int (iI (j + 1))), (4, .int (iI (max ((σ 129 j) - f) (-((σ 129 j) - f))))), (5, .int (iI (max (b - f) (-(b - f)))))]) 3 dX4_nearest_75 rfl (by decide) rfl rfl ?_
              refine xw_goto (tgt := 4) dX4_nearest_78 (by decide) ?_
              refine xw_loc [(0, .ref 128), (1, .int (iI f)), (2, .int (iI b)), (3, .int (iI (j + 1)))] (fun q hq => List.mem_append_left ([(4, .int (iI (max ((σ 129 j) - f) (-((σ 129 j) - f))))), (5, .int (iI (max (b - f) (-(b - f)))))] : List (Nat × Value)) hq) ?_
              exact l_X4_nearest hL hr hc hC hf hK (j + 1) (by omega) (by omega) b (yNr_keep h0 hg (by omega) (by omega))
            · refine xw_aload_n 0 dX4_nearest_68 rfl ?_
              refine yz_getr (fo_X4_9 rfl) dX4_nearest_69 is_128 rfl ?_
              refine xw_iload_n 3 dX4_nearest_72 rfl ?_
              refine yz_iald (v := σ 129 j) dX4_nearest_73 is_129 (by omega) (by decide) rfl ?_
              refine xw_istore_n (l2 := [(0, .ref 128), (1, .int (iI f)), (2, .int (iI (σ 129 j))), (3, .int (iI j)), (4, .int (iI (max ((σ 129 j) - f) (-((σ 129 j) - f))))), (5, .int (iI (max (b - f) (-(b - f)))))]) dX4_nearest_74 (by decide) rfl rfl ?_
              refine xz_iinc (l2 := [(0, .ref 128), (1, .int (iI f)), (2, .int (iI (σ 129 j))), (3, .int (iI (j + 1))), (4, .int (iI (max ((σ 129 j) - f) (-((σ 129 j) - f))))), (5, .int (iI (max (b - f) (-(b - f)))))]) 3 dX4_nearest_75 rfl (by decide) rfl rfl ?_
              refine xw_goto (tgt := 4) dX4_nearest_78 (by decide) ?_
              refine xw_loc [(0, .ref 128), (1, .int (iI f)), (2, .int (iI (σ 129 j))), (3, .int (iI (j + 1)))] (fun q hq => List.mem_append_left ([(4, .int (iI (max ((σ 129 j) - f) (-((σ 129 j) - f))))), (5, .int (iI (max (b - f) (-(b - f)))))] : List (Nat × Value)) hq) ?_
              exact l_X4_nearest hL hr hc hC hf hK (j + 1) (by omega) (by omega) _ (yNr_new h0 hg (by omega) (fun i a1 a2 => (hC i a1 (by omega)).1))
termination_by (σ 128 1 - j).toNat
theorem s_X4_nearest (hL : L.stackTraces = false) {f : Int} (hr : yRg σ) (hc : 0 ≤ σ 128 1 ∧ σ 128 1 ≤ 20) (hC : ∀ i, 0 ≤ i → i < σ 128 1 → 0 ≤ σ 129 i ∧ σ 129 i ≤ 99999) (hf : 0 ≤ f ∧ f ≤ 99999) : xMet L O mX4_nearest (xR 0 0 0) [.ref 128, .int (iI f)] (Wd σ X) (fun o G1 => ∃ b : Int, o = .inl (some (.int (iI b))) ∧ yNr (σ 129) f (σ 128 1) b ∧ G1 = Wd σ X) := xMet_of (by decide) hL (Nat.le_of_ble_eq_true rfl) (by
  refine xw_eq rfl (l2 := [(0, .ref 128), (1, .int (iI f))]) rfl rfl rfl ?_
  refine xz_iconst dX4_nearest_0 ?_
  refine xw_istore_n (l2 := [(0, .ref 128), (1, .int (iI f)), (2, .int (iI ((-1))))]) dX4_nearest_1 (by decide) rfl rfl ?_
  refine xz_iconst dX4_nearest_2 ?_
  refine xw_istore_n (l2 := [(0, .ref 128), (1, .int (iI f)), (2, .int (iI ((-1)))), (3, .int (iI 0))]) dX4_nearest_3 (by decide) rfl rfl ?_
  exact l_X4_nearest hL hr hc hC hf (fun b hb => ⟨b, rfl, hb, rfl⟩) 0 (by omega) (by omega) (-1) (Or.inl ⟨by omega, rfl⟩))
theorem s_X4_snapped (hL : L.stackTraces = false) {f : Int} (hr : yRg σ) (hc : 0 ≤ σ 128 1 ∧ σ 128 1 ≤ 20) (hC : ∀ i, 0 ≤ i → i < σ 128 1 → 0 ≤ σ 129 i ∧ σ 129 i ≤ 99999) (hf : 0 ≤ f ∧ f ≤ 99999) {r : Int} (hr2 : 0 ≤ r ∧ r ≤ 99) : xMet L O mX4_snapped (xR 1 0 0) [.ref 128, .int (iI f), .int (iI r)] (Wd σ X) (fun o G1 => ∃ z : Int, o = .inl (some (.int (iI z))) ∧ ySp (σ 129) (σ 128 1) f r z ∧ G1 = Wd σ X) := xMet_of (by decide) hL (Nat.le_of_ble_eq_true rfl) (by
  refine xw_eq rfl (l2 := [(0, .ref 128), (1, .int (iI f)), (2, .int (iI r))]) rfl rfl rfl ?_
  refine xw_aload_n 0 dX4_snapped_0 rfl ?_
  refine xw_iload_n 1 dX4_snapped_1 rfl ?_
  refine yc_VE (M' := mX4_nearest) (d := 0) (c := 0) (s := 0) (As := [.int (iI f)]) (st := []) dX4_snapped_2 okX4_nearest (Or.inl w_883) (xBig_i is_128.1) (Wd_get is_128) ⟨by decide, rfl⟩ rfl (Nat.le_of_ble_eq_true rfl) (by decide) (by decide) (Nat.zero_le _) (Nat.zero_le _) (s_X4_nearest hL hr hc hC hf) (fun v9 G9 h9 => ?_) (fun E9 G9 h9 => ?_)
  · obtain ⟨b1, e9, g2, e8⟩ := h9
    cases e9
    subst e8
    have hb := yNr_bd g2 hC
    obtain ⟨p1, p2, p3⟩ := ySp_near (r := r) g2 (fun i a1 a2 => (hC i a1 a2).1)
    refine xw_istore_n (l2 := [(0, .ref 128), (1, .int (iI f)), (2, .int (iI r)), (3, .int (iI b1))]) dX4_snapped_5 (by decide) rfl rfl ?_
    refine xw_iload_n 3 dX4_snapped_6 rfl ?_
    refine xz_iconst dX4_snapped_7 ?_
    refine xz_icmp_eq (tgt := 25) dX4_snapped_8 (by decide) (by omega) (by omega) (fun c3 => ?_) (fun c3 => ?_)
    · refine xw_iload_n 1 dX4_snapped_25 rfl ?_
      exact xz_iret dX4_snapped_26 rfl (Nat.zero_le _) (Nat.zero_le _) ⟨_, rfl, by first | exact p1 (by omega) | exact p2 (by omega) (by omega) | exact p3 (by omega) (by omega), rfl⟩
    · refine xw_iload_n 3 dX4_snapped_11 rfl ?_
      refine xw_iload_n 1 dX4_snapped_12 rfl ?_
      refine xz_isub dX4_snapped_13 ?_
      refine xz_mabs dX4_snapped_14 w_869 (Nat.le_of_ble_eq_true rfl) (Nat.zero_le _) (Nat.zero_le _) (by omega) ?_
      refine xw_iload_n 2 dX4_snapped_17 rfl ?_
      refine xz_icmp_gt (tgt := 25) dX4_snapped_18 (by decide) (by omega) (by omega) (fun c4 => ?_) (fun c4 => ?_)
      · refine xw_iload_n 1 dX4_snapped_25 rfl ?_
        exact xz_iret dX4_snapped_26 rfl (Nat.zero_le _) (Nat.zero_le _) ⟨_, rfl, by first | exact p1 (by omega) | exact p2 (by omega) (by omega) | exact p3 (by omega) (by omega), rfl⟩
      · refine xw_iload_n 3 dX4_snapped_21 rfl ?_
        refine xw_goto (tgt := 26) dX4_snapped_22 (by decide) ?_
        exact xz_iret dX4_snapped_26 rfl (Nat.zero_le _) (Nat.zero_le _) ⟨_, rfl, by first | exact p1 (by omega) | exact p2 (by omega) (by omega) | exact p3 (by omega) (by omega), rfl⟩
  · obtain ⟨_, e9, _⟩ := h9
    cases e9)
theorem s_X4_add (hL : L.stackTraces = false) {f : Int} (hr : yRg σ) (hc : 0 ≤ σ 128 1 ∧ σ 128 1 < 20) : xMet L O mX4_add (xR 0 0 0) [.ref 128, .int (iI f)] (Wd σ X) (fun o G1 => o = .inl none ∧ G1 = Wd (yup (yup σ 129 (σ 128 1) f) 128 1 (σ 128 1 + 1)) X) := xMet_of (by decide) hL (Nat.le_of_ble_eq_true rfl) (by
  refine xw_eq rfl (l2 := [(0, .ref 128), (1, .int (iI f))]) rfl rfl rfl ?_
  refine xw_aload_n 0 dX4_add_0 rfl ?_
  have r1 := hr 128 1
  refine yz_geti (z := 1) (v := σ 128 1) (fo_X4_15 rfl) dX4_add_1 is_128 rfl rfl rfl ?_
  refine xz_bipush dX4_add_4 (by decide) ?_
  refine xz_icmp_ge (tgt := 29) dX4_add_6 (by decide) (by omega) (by omega) (fun c2 => ?_) (fun c2 => ?_)
  · exact absurd c2 (by omega)
  · refine xw_aload_n 0 dX4_add_9 rfl ?_
    refine yz_getr (fo_X4_9 rfl) dX4_add_10 is_128 rfl ?_
    refine xw_aload_n 0 dX4_add_13 rfl ?_
    refine yz_geti (z := 1) (v := σ 128 1) (fo_X4_15 rfl) dX4_add_14 is_128 rfl rfl rfl ?_
    refine xw_iload_n 1 dX4_add_17 rfl ?_
    refine yz_iast dX4_add_18 is_129 (by omega) (by decide) ?_
    refine xw_aload_n 0 dX4_add_19 rfl ?_
    refine xw_dup dX4_add_20 rfl ?_
    refine yz_geti (z := 1) (v := σ 128 1) (fo_X4_15 rfl) dX4_add_21 is_128 rfl rfl (yup_i (by decide)) ?_
    refine xz_iconst dX4_add_24 ?_
    refine xz_iadd dX4_add_25 ?_
    refine yz_puti (z := 1) (fp_X4_15 rfl) dX4_add_26 is_128 rfl rfl ?_
    exact xw_vret dX4_add_29 rfl (Nat.zero_le _) (Nat.zero_le _) ⟨rfl, rfl⟩)
theorem s_X1_areBelow (hL : L.stackTraces = false) {f t : Int} (hr : yRg σ) (hc : 0 ≤ σ 130 2 ∧ σ 130 2 ≤ 8) (hf : -2147483648 ≤ f ∧ f < 2147483648) (ht : -2147483648 ≤ t ∧ t < 2147483648) : xMet L O mX1_areBelow (xR 0 0 0) [.ref 130, .int (iI f), .int (iI t)] (Wd σ X) (fun o G1 => ∃ z : Int, o = .inl (some (.int (iI z))) ∧ (((σ 130 2 = 0 ∨ (σ 131 (σ 130 2 - 1) < f ∧ σ 132 (σ 130 2 - 1) < t)) ∧ z = 1) ∨ ((0 < σ 130 2 ∧ (f ≤ σ 131 (σ 130 2 - 1) ∨ t ≤ σ 132 (σ 130 2 - 1))) ∧ z = 0)) ∧ G1 = Wd σ X) := xMet_of (by decide) hL (Nat.le_of_ble_eq_true rfl) (by
  refine xw_eq rfl (l2 := [(0, .ref 130), (1, .int (iI f)), (2, .int (iI t))]) rfl rfl rfl ?_
  refine xw_aload_n 0 dX1_areBelow_0 rfl ?_
  have r1 := hr 130 2
  refine yz_geti (z := 2) (v := σ 130 2) (fo_X1_18 rfl) dX1_areBelow_1 is_130 rfl rfl rfl ?_
  refine xz_if_le (tgt := 46) dX1_areBelow_4 (by decide) (by omega) (fun c2 => ?_) (fun c2 => ?_)
  · refine xz_iconst dX1_areBelow_46 ?_
    refine xw_goto (tgt := 51) dX1_areBelow_47 (by decide) ?_
    exact xz_zret dX1_areBelow_51 rfl (Or.inr rfl) (Nat.zero_le _) (Nat.zero_le _) ⟨_, rfl, by omega, rfl⟩
  · refine xw_aload_n 0 dX1_areBelow_7 rfl ?_
    refine yz_geti (z := 2) (v := σ 130 2) (fo_X1_18 rfl) dX1_areBelow_8 is_130 rfl rfl rfl ?_
    refine xz_bipush dX1_areBelow_11 (by decide) ?_
    refine xz_icmp_gt (tgt := 46) dX1_areBelow_13 (by decide) (by omega) (by omega) (fun c3 => ?_) (fun c3 => ?_)
    · exact absurd c3 (by omega)
    · refine xw_iload_n 1 dX1_areBelow_16 rfl ?_
      refine xw_aload_n 0 dX1_areBelow_17 rfl ?_
      refine yz_getr (fo_X1_9 rfl) dX1_areBelow_18 is_130 rfl ?_
      refine xw_aload_n 0 dX1_areBelow_21 rfl ?_
      refine yz_geti (z := 2) (v := σ 130 2) (fo_X1_18 rfl) dX1_areBelow_22 is_130 rfl rfl rfl ?_
      refine xz_iconst dX1_areBelow_25 ?_
      refine xz_isub dX1_areBelow_26 ?_
      have r4 := hr 131 ((σ 130 2) - 1)
      refine yz_iald (v := σ 131 ((σ 130 2) - 1)) dX1_areBelow_27 is_131 (by omega) (by decide) rfl ?_
      refine xz_icmp_le (tgt := 50) dX1_areBelow_28 (by decide) (by omega) (by omega) (fun c5 => ?_) (fun c5 => ?_)
      · refine xz_iconst dX1_areBelow_50 ?_
        exact xz_zret dX1_areBelow_51 rfl (Or.inl rfl) (Nat.zero_le _) (Nat.zero_le _) ⟨_, rfl, by omega, rfl⟩
      · refine xw_iload_n 2 dX1_areBelow_31 rfl ?_
        refine xw_aload_n 0 dX1_areBelow_32 rfl ?_
        refine yz_getr (fo_X1_15 rfl) dX1_areBelow_33 is_130 rfl ?_
        refine xw_aload_n 0 dX1_areBelow_36 rfl ?_
        refine yz_geti (z := 2) (v := σ 130 2) (fo_X1_18 rfl) dX1_areBelow_37 is_130 rfl rfl rfl ?_
        refine xz_iconst dX1_areBelow_40 ?_
        refine xz_isub dX1_areBelow_41 ?_
        have r6 := hr 132 ((σ 130 2) - 1)
        refine yz_iald (v := σ 132 ((σ 130 2) - 1)) dX1_areBelow_42 is_132 (by omega) (by decide) rfl ?_
        refine xz_icmp_le (tgt := 50) dX1_areBelow_43 (by decide) (by omega) (by omega) (fun c7 => ?_) (fun c7 => ?_)
        · refine xz_iconst dX1_areBelow_50 ?_
          exact xz_zret dX1_areBelow_51 rfl (Or.inl rfl) (Nat.zero_le _) (Nat.zero_le _) ⟨_, rfl, by omega, rfl⟩
        · refine xz_iconst dX1_areBelow_46 ?_
          refine xw_goto (tgt := 51) dX1_areBelow_47 (by decide) ?_
          exact xz_zret dX1_areBelow_51 rfl (Or.inr rfl) (Nat.zero_le _) (Nat.zero_le _) ⟨_, rfl, by omega, rfl⟩)
theorem s_X1_add (hL : L.stackTraces = false) {f t : Int} (hr : yRg σ) (hc : 0 ≤ σ 130 2 ∧ σ 130 2 < 8) : xMet L O mX1_add (xR 0 0 0) [.ref 130, .int (iI f), .int (iI t)] (Wd σ X) (fun o G1 => o = .inl none ∧ G1 = Wd (yup (yup (yup σ 131 (σ 130 2) f) 132 (σ 130 2) t) 130 2 (σ 130 2 + 1)) X) := xMet_of (by decide) hL (Nat.le_of_ble_eq_true rfl) (by
  refine xw_eq rfl (l2 := [(0, .ref 130), (1, .int (iI f)), (2, .int (iI t))]) rfl rfl rfl ?_
  refine xw_aload_n 0 dX1_add_0 rfl ?_
  have r1 := hr 130 2
  refine yz_geti (z := 2) (v := σ 130 2) (fo_X1_18 rfl) dX1_add_1 is_130 rfl rfl rfl ?_
  refine xz_bipush dX1_add_4 (by decide) ?_
  refine xz_icmp_ge (tgt := 39) dX1_add_6 (by decide) (by omega) (by omega) (fun c2 => ?_) (fun c2 => ?_)
  · exact absurd c2 (by omega)
  · refine xw_aload_n 0 dX1_add_9 rfl ?_
    refine yz_getr (fo_X1_9 rfl) dX1_add_10 is_130 rfl ?_
    refine xw_aload_n 0 dX1_add_13 rfl ?_
    refine yz_geti (z := 2) (v := σ 130 2) (fo_X1_18 rfl) dX1_add_14 is_130 rfl rfl rfl ?_
    refine xw_iload_n 1 dX1_add_17 rfl ?_
    refine yz_iast dX1_add_18 is_131 (by omega) (by decide) ?_
    refine xw_aload_n 0 dX1_add_19 rfl ?_
    refine yz_getr (fo_X1_15 rfl) dX1_add_20 is_130 rfl ?_
    refine xw_aload_n 0 dX1_add_23 rfl ?_
    refine yz_geti (z := 2) (v := σ 130 2) (fo_X1_18 rfl) dX1_add_24 is_130 rfl rfl (yup_i (by decide)) ?_
    refine xw_iload_n 2 dX1_add_27 rfl ?_
    refine yz_iast dX1_add_28 is_132 (by omega) (by decide) ?_
    refine xw_aload_n 0 dX1_add_29 rfl ?_
    refine xw_dup dX1_add_30 rfl ?_
    refine yz_geti (z := 2) (v := σ 130 2) (fo_X1_18 rfl) dX1_add_31 is_130 rfl rfl ((yup_i (by decide)).trans (yup_i (by decide))) ?_
    refine xz_iconst dX1_add_34 ?_
    refine xz_iadd dX1_add_35 ?_
    refine yz_puti (z := 2) (fp_X1_18 rfl) dX1_add_36 is_130 rfl rfl ?_
    exact xw_vret dX1_add_39 rfl (Nat.zero_le _) (Nat.zero_le _) ⟨rfl, rfl⟩)
theorem hmul (a b : Int) (ha : 0 ≤ a ∧ a ≤ 99999) (hb : 0 ≤ b ∧ b ≤ 99999) : 0 ≤ a * b ∧ a * b ≤ 9999800001 := by
  have h1 : 0 ≤ a * b := Int.mul_nonneg ha.1 hb.1
  have h2 : a * b ≤ 99999 * 99999 := Int.mul_le_mul ha.2 hb.2 hb.1 (by omega)
  omega
theorem hdiv (a b c : Int) (ha : 0 ≤ a ∧ a ≤ 99999) (hb : 0 ≤ b ∧ b ≤ 99999) (hc : 0 < c) : 0 ≤ a * b / c ∧ a * b / c ≤ 9999800001 := by
  have h := hmul a b ha hb
  have h1 : 0 ≤ a * b / c := Int.ediv_nonneg h.1 (by omega)
  have h2 : a * b / c ≤ a * b := Int.ediv_le_self c h.1
  omega
theorem s_X1_moved (hL : L.stackTraces = false) {f : Int} (hr : yRg σ) (h2 : σ 130 2 = 2) (hf : 0 ≤ f ∧ f ≤ 99999) (ha : 0 ≤ σ 131 0 ∧ σ 131 0 < σ 131 1 ∧ σ 131 1 ≤ 99999) (hb : 0 ≤ σ 132 0 ∧ σ 132 0 < σ 132 1 ∧ σ 132 1 ≤ 99999) : xMet L O mX1_moved (xR 1 0 0) [.ref 130, .int (iI f)] (Wd σ X) (fun o G1 => ∃ z : Int, o = .inl (some (.long (lI z))) ∧ ((f < σ 131 0 ∧ z = σ 132 0 + (f - σ 131 0)) ∨ (σ 131 1 ≤ f ∧ z = σ 132 1 + (f - σ 131 1)) ∨ (σ 131 0 ≤ f ∧ f < σ 131 1 ∧ z = σ 132 0 + (f - σ 131 0) * (σ 132 1 - σ 132 0) / (σ 131 1 - σ 131 0))) ∧ G1 = Wd σ X) := xMet_of (by decide) hL (Nat.le_of_ble_eq_true rfl) (by
  refine xw_eq rfl (l2 := [(0, .ref 130), (1, .int (iI f))]) rfl rfl rfl ?_
  refine xz_iconst dX1_moved_0 ?_
  refine xw_istore_n (l2 := [(0, .ref 130), (1, .int (iI f)), (2, .int (iI 0))]) dX1_moved_1 (by decide) rfl rfl ?_
  refine xw_iload_n 2 dX1_moved_2 rfl ?_
  refine xz_iconst dX1_moved_3 ?_
  refine xz_iadd dX1_moved_4 ?_
  refine xw_eq rfl rfl (s2 := [.int (iI 1)]) rfl rfl ?_
  refine xw_aload_n 0 dX1_moved_5 rfl ?_
  refine yz_geti (z := 2) (v := 2) (fo_X1_18 rfl) dX1_moved_6 is_130 rfl rfl h2 ?_
  refine xz_icmp_ge (tgt := 38) dX1_moved_9 (by decide) (by omega) (by omega) (fun c1 => ?_) (fun c1 => ?_)
  · exact absurd c1 (by omega)
  · refine xw_iload_n 2 dX1_moved_12 rfl ?_
    refine xz_iconst dX1_moved_13 ?_
    refine xz_iadd dX1_moved_14 ?_
    refine xw_eq rfl rfl (s2 := [.int (iI 1)]) rfl rfl ?_
    refine xz_bipush dX1_moved_15 (by decide) ?_
    refine xz_icmp_ge (tgt := 38) dX1_moved_17 (by decide) (by omega) (by omega) (fun c2 => ?_) (fun c2 => ?_)
    · exact absurd c2 (by omega)
    · refine xw_aload_n 0 dX1_moved_20 rfl ?_
      refine yz_getr (fo_X1_9 rfl) dX1_moved_21 is_130 rfl ?_
      refine xw_iload_n 2 dX1_moved_24 rfl ?_
      refine xz_iconst dX1_moved_25 ?_
      refine xz_iadd dX1_moved_26 ?_
      refine xw_eq rfl rfl (s2 := [.int (iI 1), .ref 131]) rfl rfl ?_
      have r3 := hr 131 1
      refine yz_iald (v := σ 131 1) dX1_moved_27 is_131 (by decide) (by decide) rfl ?_
      refine xw_iload_n 1 dX1_moved_28 rfl ?_
      refine xz_icmp_gt (tgt := 38) dX1_moved_29 (by decide) (by omega) (by omega) (fun c4 => ?_) (fun c4 => ?_)
      · refine xw_iload_n 1 dX1_moved_38 rfl ?_
        refine xw_aload_n 0 dX1_moved_39 rfl ?_
        refine yz_getr (fo_X1_9 rfl) dX1_moved_40 is_130 rfl ?_
        refine xw_iload_n 2 dX1_moved_43 rfl ?_
        have r5 := hr 131 0
        refine yz_iald (v := σ 131 0) dX1_moved_44 is_131 (by decide) (by decide) rfl ?_
        refine xz_isub dX1_moved_45 ?_
        refine xw_istore_n (l2 := [(0, .ref 130), (1, .int (iI f)), (2, .int (iI 0)), (3, .int (iI (f - (σ 131 0))))]) dX1_moved_46 (by decide) rfl rfl ?_
        refine xw_iload_n 3 dX1_moved_47 rfl ?_
        refine xz_if_lt (tgt := 69) dX1_moved_48 (by decide) (by omega) (fun c6 => ?_) (fun c6 => ?_)
        · refine xw_aload_n 0 dX1_moved_69 rfl ?_
          refine yz_getr (fo_X1_15 rfl) dX1_moved_70 is_130 rfl ?_
          refine xw_iload_n 2 dX1_moved_73 rfl ?_
          have r7 := hr 132 0
          refine yz_iald (v := σ 132 0) dX1_moved_74 is_132 (by decide) (by decide) rfl ?_
          refine xw_iload_n 3 dX1_moved_75 rfl ?_
          refine xz_iadd dX1_moved_76 ?_
          refine xz_i2l dX1_moved_77 (by omega) ?_
          exact xw_lret dX1_moved_78 rfl (Nat.zero_le _) (Nat.zero_le _) ⟨_, rfl, by omega, rfl⟩
        · refine xw_iload_n 2 dX1_moved_51 rfl ?_
          refine xz_iconst dX1_moved_52 ?_
          refine xz_iadd dX1_moved_53 ?_
          refine xw_eq rfl rfl (s2 := [.int (iI 1)]) rfl rfl ?_
          refine xw_aload_n 0 dX1_moved_54 rfl ?_
          refine yz_geti (z := 2) (v := 2) (fo_X1_18 rfl) dX1_moved_55 is_130 rfl rfl h2 ?_
          refine xz_icmp_ge (tgt := 69) dX1_moved_58 (by decide) (by omega) (by omega) (fun c8 => ?_) (fun c8 => ?_)
          · exact absurd c8 (by omega)
          · refine xw_iload_n 2 dX1_moved_61 rfl ?_
            refine xz_iconst dX1_moved_62 ?_
            refine xz_iadd dX1_moved_63 ?_
            refine xw_eq rfl rfl (s2 := [.int (iI 1)]) rfl rfl ?_
            refine xz_bipush dX1_moved_64 (by decide) ?_
            refine xz_icmp_lt (tgt := 79) dX1_moved_66 (by decide) (by omega) (by omega) (fun c9 => ?_) (fun c9 => ?_)
            · refine xw_aload_n 0 dX1_moved_79 rfl ?_
              refine yz_getr (fo_X1_15 rfl) dX1_moved_80 is_130 rfl ?_
              refine xw_iload_n 2 dX1_moved_83 rfl ?_
              have r10 := hr 132 0
              refine yz_iald (v := σ 132 0) dX1_moved_84 is_132 (by decide) (by decide) rfl ?_
              refine xz_i2l dX1_moved_85 (by omega) ?_
              refine xw_iload_n 3 dX1_moved_86 rfl ?_
              refine xz_i2l dX1_moved_87 (by omega) ?_
              refine xw_aload_n 0 dX1_moved_88 rfl ?_
              refine yz_getr (fo_X1_15 rfl) dX1_moved_89 is_130 rfl ?_
              refine xw_iload_n 2 dX1_moved_92 rfl ?_
              refine xz_iconst dX1_moved_93 ?_
              refine xz_iadd dX1_moved_94 ?_
              refine xw_eq rfl rfl (s2 := [.int (iI 1), .ref 132, .long (lI (f - (σ 131 0))), .long (lI (σ 132 0))]) rfl rfl ?_
              have r11 := hr 132 1
              refine yz_iald (v := σ 132 1) dX1_moved_95 is_132 (by decide) (by decide) rfl ?_
              refine xw_aload_n 0 dX1_moved_96 rfl ?_
              refine yz_getr (fo_X1_15 rfl) dX1_moved_97 is_130 rfl ?_
              refine xw_iload_n 2 dX1_moved_100 rfl ?_
              refine yz_iald (v := σ 132 0) dX1_moved_101 is_132 (by decide) (by decide) rfl ?_
              refine xz_isub dX1_moved_102 ?_
              refine xz_i2l dX1_moved_103 (by omega) ?_
              refine xw_aload_n 0 dX1_moved_104 rfl ?_
              refine yz_getr (fo_X1_9 rfl) dX1_moved_105 is_130 rfl ?_
              refine xw_iload_n 2 dX1_moved_108 rfl ?_
              refine xz_iconst dX1_moved_109 ?_
              refine xz_iadd dX1_moved_110 ?_
              refine xw_eq rfl rfl (s2 := [.int (iI 1), .ref 131, .long (lI ((σ 132 1) - (σ 132 0))), .long (lI (f - (σ 131 0))), .long (lI (σ 132 0))]) rfl rfl ?_
              refine yz_iald (v := σ 131 1) dX1_moved_111 is_131 (by decide) (by decide) rfl ?_
              refine xw_aload_n 0 dX1_moved_112 rfl ?_
              refine yz_getr (fo_X1_9 rfl) dX1_moved_113 is_130 rfl ?_
              refine xw_iload_n 2 dX1_moved_116 rfl ?_
              refine yz_iald (v := σ 131 0) dX1_moved_117 is_131 (by decide) (by decide) rfl ?_
              refine xz_isub dX1_moved_118 ?_
              refine xz_i2l dX1_moved_119 (by omega) ?_
              have hm := hmul (f - (σ 131 0)) ((σ 132 1) - (σ 132 0)) (by omega) (by omega)
              have hm2 := hdiv (f - (σ 131 0)) ((σ 132 1) - (σ 132 0)) ((σ 131 1) - (σ 131 0)) (by omega) (by omega) (by omega)
              refine yc_S (M' := mX11_scaled) (d := 0) (c := 0) (s := 0) (As := [.long (lI (f - (σ 131 0))), .long (lI ((σ 132 1) - (σ 132 0))), .long (lI ((σ 131 1) - (σ 131 0)))]) (st := [.long (lI (σ 132 0))]) (v0 := some (.long (lI ((f - (σ 131 0)) * ((σ 132 1) - (σ 132 0)) / ((σ 131 1) - (σ 131 0)))))) (G2 := Wd σ X) dX1_moved_120 okX11_scaled (Or.inr ⟨rfl, _, w_951⟩) rfl (Nat.le_of_ble_eq_true rfl) (by decide) (by decide) (Nat.zero_le _) (Nat.zero_le _) rfl rfl (s_scaled hL (by omega) (by omega)) ?_
              refine xz_ladd dX1_moved_123 ?_
              exact xw_lret dX1_moved_124 rfl (Nat.zero_le _) (Nat.zero_le _) ⟨_, rfl, by omega, rfl⟩
            · exact absurd c9 (by omega)
      · refine xz_iinc (l2 := [(0, .ref 130), (1, .int (iI f)), (2, .int (iI 1))]) 2 dX1_moved_32 rfl (by decide) rfl rfl ?_
        refine xw_goto (tgt := 2) dX1_moved_35 (by decide) ?_
        refine xw_iload_n 2 dX1_moved_2 rfl ?_
        refine xz_iconst dX1_moved_3 ?_
        refine xz_iadd dX1_moved_4 ?_
        refine xw_eq rfl rfl (s2 := [.int (iI 2)]) rfl rfl ?_
        refine xw_aload_n 0 dX1_moved_5 rfl ?_
        refine yz_geti (z := 2) (v := 2) (fo_X1_18 rfl) dX1_moved_6 is_130 rfl rfl h2 ?_
        refine xz_icmp_ge (tgt := 38) dX1_moved_9 (by decide) (by omega) (by omega) (fun c12 => ?_) (fun c12 => ?_)
        · refine xw_iload_n 1 dX1_moved_38 rfl ?_
          refine xw_aload_n 0 dX1_moved_39 rfl ?_
          refine yz_getr (fo_X1_9 rfl) dX1_moved_40 is_130 rfl ?_
          refine xw_iload_n 2 dX1_moved_43 rfl ?_
          refine yz_iald (v := σ 131 1) dX1_moved_44 is_131 (by decide) (by decide) rfl ?_
          refine xz_isub dX1_moved_45 ?_
          refine xw_istore_n (l2 := [(0, .ref 130), (1, .int (iI f)), (2, .int (iI 1)), (3, .int (iI (f - (σ 131 1))))]) dX1_moved_46 (by decide) rfl rfl ?_
          refine xw_iload_n 3 dX1_moved_47 rfl ?_
          refine xz_if_lt (tgt := 69) dX1_moved_48 (by decide) (by omega) (fun c13 => ?_) (fun c13 => ?_)
          · refine xw_aload_n 0 dX1_moved_69 rfl ?_
            refine yz_getr (fo_X1_15 rfl) dX1_moved_70 is_130 rfl ?_
            refine xw_iload_n 2 dX1_moved_73 rfl ?_
            have r14 := hr 132 1
            refine yz_iald (v := σ 132 1) dX1_moved_74 is_132 (by decide) (by decide) rfl ?_
            refine xw_iload_n 3 dX1_moved_75 rfl ?_
            refine xz_iadd dX1_moved_76 ?_
            refine xz_i2l dX1_moved_77 (by omega) ?_
            exact xw_lret dX1_moved_78 rfl (Nat.zero_le _) (Nat.zero_le _) ⟨_, rfl, by omega, rfl⟩
          · refine xw_iload_n 2 dX1_moved_51 rfl ?_
            refine xz_iconst dX1_moved_52 ?_
            refine xz_iadd dX1_moved_53 ?_
            refine xw_eq rfl rfl (s2 := [.int (iI 2)]) rfl rfl ?_
            refine xw_aload_n 0 dX1_moved_54 rfl ?_
            refine yz_geti (z := 2) (v := 2) (fo_X1_18 rfl) dX1_moved_55 is_130 rfl rfl h2 ?_
            refine xz_icmp_ge (tgt := 69) dX1_moved_58 (by decide) (by omega) (by omega) (fun c15 => ?_) (fun c15 => ?_)
            · refine xw_aload_n 0 dX1_moved_69 rfl ?_
              refine yz_getr (fo_X1_15 rfl) dX1_moved_70 is_130 rfl ?_
              refine xw_iload_n 2 dX1_moved_73 rfl ?_
              have r16 := hr 132 1
              refine yz_iald (v := σ 132 1) dX1_moved_74 is_132 (by decide) (by decide) rfl ?_
              refine xw_iload_n 3 dX1_moved_75 rfl ?_
              refine xz_iadd dX1_moved_76 ?_
              refine xz_i2l dX1_moved_77 (by omega) ?_
              exact xw_lret dX1_moved_78 rfl (Nat.zero_le _) (Nat.zero_le _) ⟨_, rfl, by omega, rfl⟩
            · exact absurd c15 (by omega)
        · exact absurd c12 (by omega))
end Y17

section Y18
variable {L : Launch} {O : xWd} {K : xOc → List xOb → Prop} {σ : ySg} {X : List xOb} {G : List xOb}
theorem s_numberIn (hL : L.stackTraces = false) {p : Int} (hr : yRg σ) (hp : 0 ≤ p ∧ p < 24) : xMet L O mX10_numberIn (xR 0 0 0) [.ref 20, .int (iI p)] (Wd σ X) (fun o G1 => o = .inl (some (.int (iI (σ 29 p)))) ∧ G1 = Wd σ X) := xMet_of (by decide) hL (Nat.le_of_ble_eq_true rfl) (by
  refine xw_eq rfl (l2 := [(0, .ref 20), (1, .int (iI p))]) rfl rfl rfl ?_
  refine xw_iload_n 1 dX10_numberIn_0 rfl ?_
  refine xz_if_lt (tgt := 19) dX10_numberIn_1 (by decide) (by omega) (fun c1 => ?_) (fun c1 => ?_)
  · exact absurd c1 (by omega)
  · refine xw_iload_n 1 dX10_numberIn_4 rfl ?_
    refine xz_bipush dX10_numberIn_5 (by decide) ?_
    refine xz_icmp_ge (tgt := 19) dX10_numberIn_7 (by decide) (by omega) (by omega) (fun c2 => ?_) (fun c2 => ?_)
    · exact absurd c2 (by omega)
    · refine xw_aload_n 0 dX10_numberIn_10 rfl ?_
      refine yz_getr (fo_X10_34 rfl) dX10_numberIn_11 is_20 rfl ?_
      refine xw_iload_n 1 dX10_numberIn_14 rfl ?_
      have r3 := hr 29 p
      refine yz_iald (v := σ 29 p) dX10_numberIn_15 is_29 (by omega) (by decide) rfl ?_
      refine xw_goto (tgt := 20) dX10_numberIn_16 (by decide) ?_
      exact xz_iret dX10_numberIn_20 rfl (Nat.zero_le _) (Nat.zero_le _) ⟨rfl, rfl⟩)
theorem s_cueIn (hL : L.stackTraces = false) {p : Int} (hr : yRg σ) (hp : 0 ≤ p ∧ p < 24) (ho : 0 ≤ σ 29 p ∧ σ 29 p < 24) : xMet L O mX10_cueIn (xR 1 0 0) [.ref 20, .int (iI p)] (Wd σ X) (fun o G1 => o = .inl (some (.ref (cu (σ 29 p)))) ∧ G1 = Wd σ X) := xMet_of (by decide) hL (Nat.le_of_ble_eq_true rfl) (by
  refine xw_eq rfl (l2 := [(0, .ref 20), (1, .int (iI p))]) rfl rfl rfl ?_
  refine xw_aload_n 0 dX10_cueIn_0 rfl ?_
  refine yz_getr (fo_X10_11 rfl) dX10_cueIn_1 is_20 rfl ?_
  refine xw_aload_n 0 dX10_cueIn_4 rfl ?_
  refine xw_iload_n 1 dX10_cueIn_5 rfl ?_
  have r1 := hr 29 p
  refine yc_V (M' := mX10_numberIn) (d := 0) (c := 0) (s := 0) (As := [.int (iI p)]) (st := [.ref 21]) (v0 := some (.int (iI (σ 29 p)))) (G2 := Wd σ X) dX10_cueIn_6 okX10_numberIn (Or.inl w_426) (xBig_i is_20.1) (Wd_get is_20) ⟨by decide, rfl⟩ rfl (Nat.le_of_ble_eq_true rfl) (by decide) (by decide) (Nat.zero_le _) (Nat.zero_le _) rfl rfl (s_numberIn hL hr (by omega)) ?_
  refine yz_aald 3 dX10_cueIn_9 (by decide) rfl rfl is_21 ho.1 (by decide) (ks21_get ho) ?_
  exact xz_aret dX10_cueIn_10 rfl (Or.inl ⟨_, rfl⟩) (Nat.zero_le _) (Nat.zero_le _) ⟨rfl, rfl⟩)
theorem l_insert (hL : L.stackTraces = false) {σ : ySg} (hr : yRg σ) {j c : Int} {w : Int → Int} (hj : 0 ≤ j ∧ j < 24) (hc : σ 20 6 = c) (hc1 : 0 ≤ c ∧ c < 24) (hw : ∀ p, 0 ≤ p → p < c → 0 ≤ w p ∧ w p < 24) (pl : Int) (h0 : 0 ≤ pl) (h1 : pl ≤ c)
    (hlo : ∀ p, 0 ≤ p → p < pl → σ 29 p = w p) (hhi : ∀ p, pl < p → p ≤ c → σ 29 p = w (p - 1)) (hS : ∀ p, pl ≤ p → p < c → σ (cu j) 1 < σ (cu (w p)) 1)
    (hK : ∀ (σ' : ySg) (q : Int), yRg σ' → (0 ≤ q ∧ q ≤ c) → (∀ p, 0 ≤ p → p < q → σ' 29 p = w p) → σ' 29 q = j → (∀ p, q < p → p ≤ c → σ' 29 p = w (p - 1)) → (∀ p, q ≤ p → p < c → σ (cu j) 1 < σ (cu (w p)) 1) → (0 < q → σ (cu (w (q - 1))) 1 ≤ σ (cu j) 1) → σ' 20 6 = c + 1 → (∀ a b, a ≠ 29 → ¬ (a = 20 ∧ b = 6) → σ' a b = σ a b) → (∀ b, (b < 0 ∨ c < b) → σ' 29 b = σ 29 b) → K (.inl none) (Wd σ' X)) : xWP L O mX10_insert (xR 2 0 0) K 5 [(0, .ref 20), (1, .int (iI j)), (2, .int (iI pl))] [] (Wd σ X) 0 0 := by
  refine xw_iload_n 2 dX10_insert_5 rfl ?_
  refine xz_if_le (tgt := 51) dX10_insert_6 (by decide) (by omega) (fun c1 => ?_) (fun c1 => ?_)
  · refine xw_aload_n 0 dX10_insert_51 rfl ?_
    refine yz_getr (fo_X10_34 rfl) dX10_insert_52 is_20 rfl ?_
    refine xw_iload_n 2 dX10_insert_55 rfl ?_
    refine xw_iload_n 1 dX10_insert_56 rfl ?_
    refine yz_iast dX10_insert_57 is_29 (by omega) (by decide) ?_
    refine xw_aload_n 0 dX10_insert_58 rfl ?_
    refine xw_dup dX10_insert_59 rfl ?_
    have r2 := hr 20 6
    refine yz_geti (z := 6) (v := σ 20 6) (fo_X10_58 rfl) dX10_insert_60 is_20 rfl rfl (yup_i (by decide)) ?_
    refine xz_iconst dX10_insert_63 ?_
    refine xz_iadd dX10_insert_64 ?_
    refine yz_puti (z := 6) (fp_X10_58 rfl) dX10_insert_65 is_20 rfl rfl ?_
    exact xw_vret dX10_insert_68 rfl (Nat.zero_le _) (Nat.zero_le _) (by
      have e1 : ∀ n : Int, (yup (yup σ 29 pl j) 20 6 ((σ 20 6) + 1)) (cu n) 1 = σ (cu n) 1 := fun n => (yup_i (by simp only [cu]; omega)).trans (yup_i (by simp only [cu]; omega))
      refine hK _ pl (yRg_up (yRg_up hr (by omega)) (by omega)) ⟨by omega, by omega⟩ (fun p a1 a2 => (yup_i (by decide)).trans ((yup_k (by omega)).trans (hlo p a1 a2))) ((yup_i (by decide)).trans yup_s) (fun p a1 a2 => (yup_i (by decide)).trans ((yup_k (by omega)).trans (hhi p a1 a2))) hS (fun a => ?_) (yup_s.trans (by omega)) (fun a b h1 h2 => ?_) (fun b h => (yup_i (by decide)).trans (yup_k (by omega)))
      · first | exact absurd a (by omega) | (rw [← hlo (pl - 1) (by omega) (by omega)]; omega)
      · exact (yup_n h2).trans (yup_i h1))
  · refine xw_aload_n 0 dX10_insert_9 rfl ?_
    refine xw_iload_n 2 dX10_insert_10 rfl ?_
    refine xz_iconst dX10_insert_11 ?_
    refine xz_isub dX10_insert_12 ?_
    have r3 := hr 29 (pl - 1)
    have ho4 : 0 ≤ σ 29 (pl - 1) ∧ σ 29 (pl - 1) < 24 := by rw [hlo _ (by omega) (by omega)]; exact hw _ (by omega) (by omega)
    refine yc_V (M' := mX10_cueIn) (d := 1) (c := 0) (s := 0) (As := [.int (iI (pl - 1))]) (st := []) (v0 := some (.ref (cu (σ 29 (pl - 1))))) (G2 := Wd σ X) dX10_insert_13 okX10_cueIn (Or.inl w_422) (xBig_i is_20.1) (Wd_get is_20) ⟨by decide, rfl⟩ rfl (Nat.le_of_ble_eq_true rfl) (by decide) (by decide) (Nat.zero_le _) (Nat.zero_le _) rfl rfl (s_cueIn hL hr (by omega) ho4) ?_
    have r5 := hr (cu (σ 29 (pl - 1))) 1
    refine yz_geti (z := 1) (v := σ (cu (σ 29 (pl - 1))) 1) (fo_X10_84 rfl) dX10_insert_16 (is_cu (by omega)) rfl rfl rfl ?_
    refine xw_aload_n 0 dX10_insert_19 rfl ?_
    refine yz_getr (fo_X10_11 rfl) dX10_insert_20 is_20 rfl ?_
    refine xw_iload_n 1 dX10_insert_23 rfl ?_
    refine yz_aald 3 dX10_insert_24 (by decide) rfl rfl is_21 (by omega) (by decide) (ks21_get (by omega)) ?_
    have r6 := hr (cu j) 1
    refine yz_geti (z := 1) (v := σ (cu j) 1) (fo_X10_84 rfl) dX10_insert_25 (is_cu (by omega)) rfl rfl rfl ?_
    refine xz_icmp_le (tgt := 51) dX10_insert_28 (by decide) (by omega) (by omega) (fun c7 => ?_) (fun c7 => ?_)
    · refine xw_aload_n 0 dX10_insert_51 rfl ?_
      refine yz_getr (fo_X10_34 rfl) dX10_insert_52 is_20 rfl ?_
      refine xw_iload_n 2 dX10_insert_55 rfl ?_
      refine xw_iload_n 1 dX10_insert_56 rfl ?_
      refine yz_iast dX10_insert_57 is_29 (by omega) (by decide) ?_
      refine xw_aload_n 0 dX10_insert_58 rfl ?_
      refine xw_dup dX10_insert_59 rfl ?_
      have r8 := hr 20 6
      refine yz_geti (z := 6) (v := σ 20 6) (fo_X10_58 rfl) dX10_insert_60 is_20 rfl rfl (yup_i (by decide)) ?_
      refine xz_iconst dX10_insert_63 ?_
      refine xz_iadd dX10_insert_64 ?_
      refine yz_puti (z := 6) (fp_X10_58 rfl) dX10_insert_65 is_20 rfl rfl ?_
      exact xw_vret dX10_insert_68 rfl (Nat.zero_le _) (Nat.zero_le _) (by
        have e1 : ∀ n : Int, (yup (yup σ 29 pl j) 20 6 ((σ 20 6) + 1)) (cu n) 1 = σ (cu n) 1 := fun n => (yup_i (by simp only [cu]; omega)).trans (yup_i (by simp only [cu]; omega))
        refine hK _ pl (yRg_up (yRg_up hr (by omega)) (by omega)) ⟨by omega, by omega⟩ (fun p a1 a2 => (yup_i (by decide)).trans ((yup_k (by omega)).trans (hlo p a1 a2))) ((yup_i (by decide)).trans yup_s) (fun p a1 a2 => (yup_i (by decide)).trans ((yup_k (by omega)).trans (hhi p a1 a2))) hS (fun a => ?_) (yup_s.trans (by omega)) (fun a b h1 h2 => ?_) (fun b h => (yup_i (by decide)).trans (yup_k (by omega)))
        · first | exact absurd a (by omega) | (rw [← hlo (pl - 1) (by omega) (by omega)]; omega)
        · exact (yup_n h2).trans (yup_i h1))
    · refine xw_aload_n 0 dX10_insert_31 rfl ?_
      refine yz_getr (fo_X10_34 rfl) dX10_insert_32 is_20 rfl ?_
      refine xw_iload_n 2 dX10_insert_35 rfl ?_
      refine xw_aload_n 0 dX10_insert_36 rfl ?_
      refine yz_getr (fo_X10_34 rfl) dX10_insert_37 is_20 rfl ?_
      refine xw_iload_n 2 dX10_insert_40 rfl ?_
      refine xz_iconst dX10_insert_41 ?_
      refine xz_isub dX10_insert_42 ?_
      refine yz_iald (v := σ 29 (pl - 1)) dX10_insert_43 is_29 (by omega) (by decide) rfl ?_
      refine yz_iast dX10_insert_44 is_29 (by omega) (by decide) ?_
      refine xz_iinc (l2 := [(0, .ref 20), (1, .int (iI j)), (2, .int (iI (pl + (-1))))]) 2 dX10_insert_45 rfl (by decide) rfl rfl ?_
      refine xw_goto (tgt := 5) dX10_insert_48 (by decide) ?_
      have hr1 : yRg (yup σ 29 pl (σ 29 (pl - 1))) := yRg_up hr (hr 29 (pl - 1))
      have e1 : ∀ n : Int, (yup σ 29 pl (σ 29 (pl - 1))) (cu n) 1 = σ (cu n) 1 := fun n => yup_i (by simp only [cu]; omega)
      have e2 : (yup σ 29 pl (σ 29 (pl - 1))) 20 6 = σ 20 6 := yup_i (by decide)
      have e3 : σ 29 (pl - 1) = w (pl - 1) := hlo _ (by omega) (by omega)
      rw [show pl + (-1) = pl - 1 by omega]
      refine l_insert hL hr1 hj (e2.trans hc) hc1 hw (pl - 1) (by omega) (by omega) (fun p a1 a2 => (yup_k (by omega)).trans (hlo p a1 (by omega))) (fun p a1 a2 => ?_) (fun p a1 a2 => ?_) (fun σ' q b1 b2 b3 b4 b5 b6 b7 b8 b9 b10 => hK σ' q b1 b2 b3 b4 b5 (fun p a1 a2 => ?_) (fun a => ?_) b8 (fun a b h1 h2 => ?_) (fun b h => ?_))
      · by_cases e : p = pl
        · subst e; exact yup_s.trans e3
        · exact (yup_k e).trans (hhi p (by omega) a2)
      · rw [e1, e1]
        by_cases e : p = pl - 1
        · subst e; rw [← e3]; omega
        · exact hS p (by omega) a2
      · have := b6 p a1 a2; rw [e1, e1] at this; exact this
      · have := b7 a; rw [e1, e1] at this; exact this
      · exact (b9 a b h1 h2).trans (yup_i h1)
      · exact (b10 b h).trans (yup_k (by omega))
termination_by pl.toNat
theorem s_insert (hL : L.stackTraces = false) {j : Int} (hr : yRg σ) (hj : 0 ≤ j ∧ j < 24) (hc1 : 0 ≤ σ 20 6 ∧ σ 20 6 < 24) (hw : ∀ p, 0 ≤ p → p < σ 20 6 → 0 ≤ σ 29 p ∧ σ 29 p < 24) : xMet L O mX10_insert (xR 2 0 0) [.ref 20, .int (iI j)] (Wd σ X) (fun o G1 => ∃ (σ' : ySg) (q : Int), o = .inl none ∧ yRg σ' ∧ (0 ≤ q ∧ q ≤ σ 20 6) ∧ (∀ p, 0 ≤ p → p < q → σ' 29 p = σ 29 p) ∧ σ' 29 q = j ∧ (∀ p, q < p → p ≤ σ 20 6 → σ' 29 p = σ 29 (p - 1)) ∧ (∀ p, q ≤ p → p < σ 20 6 → σ (cu j) 1 < σ (cu (σ 29 p)) 1) ∧ (0 < q → σ (cu (σ 29 (q - 1))) 1 ≤ σ (cu j) 1) ∧ σ' 20 6 = σ 20 6 + 1 ∧ (∀ a b, a ≠ 29 → ¬ (a = 20 ∧ b = 6) → σ' a b = σ a b) ∧ (∀ b, (b < 0 ∨ σ 20 6 < b) → σ' 29 b = σ 29 b) ∧ G1 = Wd σ' X) := xMet_of (by decide) hL (Nat.le_of_ble_eq_true rfl) (by
  refine xw_eq rfl (l2 := [(0, .ref 20), (1, .int (iI j))]) rfl rfl rfl ?_
  refine xw_aload_n 0 dX10_insert_0 rfl ?_
  have r1 := hr 20 6
  refine yz_geti (z := 6) (v := σ 20 6) (fo_X10_58 rfl) dX10_insert_1 is_20 rfl rfl rfl ?_
  refine xw_istore_n (l2 := [(0, .ref 20), (1, .int (iI j)), (2, .int (iI (σ 20 6)))]) dX10_insert_4 (by decide) rfl rfl ?_
  exact l_insert hL hr hj rfl hc1 hw (σ 20 6) (by omega) (by omega) (fun p _ _ => rfl) (fun p a1 a2 => absurd a2 (by omega)) (fun p a1 a2 => absurd a2 (by omega)) (fun σ' q b1 b2 b3 b4 b5 b6 b7 b8 b9 b10 => ⟨σ', q, rfl, b1, b2, b3, b4, b5, b6, b7, b8, b9, b10, rfl⟩))
/-- the first c places of the order: the cues 0 .. c - 1 by rising starts, of equal ones the lower number ahead -/
def yOr (σ : ySg) (c : Int) : Prop := (∀ p, 0 ≤ p → p < c → 0 ≤ σ 29 p ∧ σ 29 p < c) ∧ (∀ p q, 0 ≤ p → p < q → q < c → σ (cu (σ 29 p)) 1 < σ (cu (σ 29 q)) 1 ∨ (σ (cu (σ 29 p)) 1 = σ (cu (σ 29 q)) 1 ∧ σ 29 p < σ 29 q)) ∧ (∀ k, 0 ≤ k → k < c → ∃ p, 0 ≤ p ∧ p < c ∧ σ 29 p = k)
theorem yOr_0 : yOr σ 0 := ⟨fun p a b => absurd b (by omega), fun p q a b c => absurd c (by omega), fun p a b => absurd b (by omega)⟩
theorem yOr_ins {σ σ' : ySg} {c q : Int} (h : yOr σ c) (hq : 0 ≤ q ∧ q ≤ c) (hlo : ∀ p, 0 ≤ p → p < q → σ' 29 p = σ 29 p) (hat : σ' 29 q = c) (hhi : ∀ p, q < p → p ≤ c → σ' 29 p = σ 29 (p - 1)) (hS : ∀ p, q ≤ p → p < c → σ (cu c) 1 < σ (cu (σ 29 p)) 1) (hs : 0 < q → σ (cu (σ 29 (q - 1))) 1 ≤ σ (cu c) 1) (hst : ∀ n : Int, σ' (cu n) 1 = σ (cu n) 1) : yOr σ' (c + 1) := by
  obtain ⟨h1, h2, h3⟩ := h
  have lo : ∀ p, 0 ≤ p → p < q → σ (cu (σ 29 p)) 1 ≤ σ (cu c) 1 := fun p a1 a2 => by
    by_cases e : p = q - 1
    · subst e; exact hs (by omega)
    · have := h2 p (q - 1) a1 (by omega) (by omega)
      have := hs (by omega)
      omega
  refine ⟨fun p a1 a2 => ?_, fun p r a1 a2 a3 => ?_, fun k a1 a2 => ?_⟩
  · by_cases c1 : p < q
    · rw [hlo p a1 c1]; have := h1 p a1 (by omega); omega
    · by_cases c2 : p = q
      · subst c2; rw [hat]; omega
      · rw [hhi p (by omega) (by omega)]; have := h1 (p - 1) (by omega) (by omega); omega
  · rw [hst, hst]
    by_cases c1 : p < q
    · rw [hlo p a1 c1]
      have b1 := h1 p a1 (by omega)
      by_cases c2 : r < q
      · rw [hlo r (by omega) c2]; exact h2 p r a1 a2 (by omega)
      · by_cases c3 : r = q
        · subst c3; rw [hat]; have := lo p a1 c1; omega
        · rw [hhi r (by omega) (by omega)]; exact h2 p (r - 1) a1 (by omega) (by omega)
    · by_cases c2 : p = q
      · subst c2
        rw [hat, hhi r (by omega) (by omega)]
        exact Or.inl (hS (r - 1) (by omega) (by omega))
      · rw [hhi p (by omega) (by omega), hhi r (by omega) (by omega)]
        exact h2 (p - 1) (r - 1) (by omega) (by omega) (by omega)
  · by_cases e : k = c
    · exact ⟨q, hq.1, by omega, by rw [hat, e]⟩
    · obtain ⟨p, p1, p2, p3⟩ := h3 k a1 (by omega)
      by_cases c1 : p < q
      · exact ⟨p, p1, by omega, by rw [hlo p p1 c1]; exact p3⟩
      · exact ⟨p + 1, by omega, by omega, by rw [hhi (p + 1) (by omega) (by omega), show p + 1 - 1 = p by omega]; exact p3⟩
theorem l_sortCues (hL : L.stackTraces = false) {σ : ySg} (hr : yRg σ) {N : Int} (hN : 0 ≤ N ∧ N ≤ 24) (j : Int) (h0 : 0 ≤ j) (h1 : j ≤ 24) (ht : yTh σ N) (hc : σ 20 6 = min j N) (ho : yOr σ (min j N)) (hK : ∀ σ' : ySg, yRg σ' → σ' 20 6 = N → yOr σ' N → (∀ a b, a ≠ 29 → ¬ (a = 20 ∧ b = 6) → σ' a b = σ a b) → K (.inl none) (Wd σ' X)) : xWP L O mX10_sortCues (xR 3 0 0) K 7 [(0, .ref 20), (1, .int (iI j))] [] (Wd σ X) 0 0 := by
  refine xw_iload_n 1 dX10_sortCues_7 rfl ?_
  refine xz_bipush dX10_sortCues_8 (by decide) ?_
  refine xz_icmp_ge (tgt := 36) dX10_sortCues_10 (by decide) (by omega) (by omega) (fun c1 => ?_) (fun c1 => ?_)
  · exact xw_vret dX10_sortCues_36 rfl (Nat.zero_le _) (Nat.zero_le _) (hK σ hr (by omega) (by rw [show min j N = N by omega] at ho; exact ho) (fun a b _ _ => rfl))
  · have ht1 := ht j h0 (by omega)
    refine xw_aload_n 0 dX10_sortCues_13 rfl ?_
    refine yz_getr (fo_X10_11 rfl) dX10_sortCues_14 is_20 rfl ?_
    refine xw_iload_n 1 dX10_sortCues_17 rfl ?_
    refine yz_aald 3 dX10_sortCues_18 (by decide) rfl rfl is_21 (by omega) (by decide) (ks21_get (by omega)) ?_
    have r2 := hr (cu j) 0
    refine yz_geti (z := 0) (v := σ (cu j) 0) (fo_X10_76 rfl) dX10_sortCues_19 (is_cu (by omega)) rfl rfl rfl ?_
    refine xz_if_eq (tgt := 30) dX10_sortCues_22 (by decide) (by omega) (fun c3 => ?_) (fun c3 => ?_)
    · refine xz_iinc (l2 := [(0, .ref 20), (1, .int (iI (j + 1)))]) 1 dX10_sortCues_30 rfl (by decide) rfl rfl ?_
      refine xw_goto (tgt := 7) dX10_sortCues_33 (by decide) ?_
      exact l_sortCues hL hr hN (j + 1) (by omega) (by omega) ht (by omega) (by rw [show min (j + 1) N = N by omega]; rw [show min j N = N by omega] at ho; exact ho) hK
    · refine xw_aload_n 0 dX10_sortCues_25 rfl ?_
      refine xw_iload_n 1 dX10_sortCues_26 rfl ?_
      refine yc_VE (M' := mX10_insert) (d := 2) (c := 0) (s := 0) (As := [.int (iI j)]) (st := []) dX10_sortCues_27 okX10_insert (Or.inl w_418) (xBig_i is_20.1) (Wd_get is_20) ⟨by decide, rfl⟩ rfl (Nat.le_of_ble_eq_true rfl) (by decide) (by decide) (Nat.zero_le _) (Nat.zero_le _) (s_insert hL hr (by omega) (by omega) (fun p a1 a2 => by have := ho.1 p a1 (by omega); omega)) (fun v9 G9 h9 => ?_) (fun E9 G9 h9 => ?_)
      · obtain ⟨σ1, q1, e9, g1, g2, g3, g4, g5, g6, g7, g8, g9, g10, e8⟩ := h9
        cases e9
        subst e8
        refine xz_iinc (l2 := [(0, .ref 20), (1, .int (iI (j + 1)))]) 1 dX10_sortCues_30 rfl (by decide) rfl rfl ?_
        refine xw_goto (tgt := 7) dX10_sortCues_33 (by decide) ?_
        have ec : σ 20 6 = j := by omega
        have hst : ∀ n : Int, σ1 (cu n) 1 = σ (cu n) 1 := fun n => g9 _ _ (by simp only [cu]; omega) (by simp only [cu]; omega)
        refine l_sortCues hL g1 hN (j + 1) (by omega) (by omega) (fun k a1 a2 => by rw [g9 _ _ (by simp only [cu]; omega) (by simp only [cu]; omega)]; exact ht k a1 a2) (by omega) (by rw [show min (j + 1) N = j + 1 by omega]; rw [show min j N = j by omega] at ho; rw [ec] at g2 g5 g6; exact yOr_ins ho g2 g3 g4 g5 g6 g7 hst) (fun σ' b1 b2 b3 b4 => hK σ' b1 b2 b3 (fun a b h1 h2 => (b4 a b h1 h2).trans (g9 a b h1 h2)))
      · obtain ⟨_, _, e9, _⟩ := h9
        cases e9
termination_by (24 - j).toNat
theorem s_sortCues (hL : L.stackTraces = false) {N : Int} (hr : yRg σ) (hN : 0 ≤ N ∧ N ≤ 24) (ht : yTh σ N) : xMet L O mX10_sortCues (xR 3 0 0) [.ref 20] (Wd σ X) (fun o G1 => ∃ σ' : ySg, o = .inl none ∧ yRg σ' ∧ σ' 20 6 = N ∧ yOr σ' N ∧ (∀ a b, a ≠ 29 → ¬ (a = 20 ∧ b = 6) → σ' a b = σ a b) ∧ G1 = Wd σ' X) := xMet_of (by decide) hL (Nat.le_of_ble_eq_true rfl) (by
  refine xw_eq rfl (l2 := [(0, .ref 20)]) rfl rfl rfl ?_
  refine xw_aload_n 0 dX10_sortCues_0 rfl ?_
  refine xz_iconst dX10_sortCues_1 ?_
  refine yz_puti (z := 6) (fp_X10_58 rfl) dX10_sortCues_2 is_20 rfl rfl ?_
  refine xz_iconst dX10_sortCues_5 ?_
  refine xw_istore_n (l2 := [(0, .ref 20), (1, .int (iI 0))]) dX10_sortCues_6 (by decide) rfl rfl ?_
  refine l_sortCues hL (yRg_up hr (by decide)) hN 0 (by omega) (by omega) (fun k a1 a2 => by rw [yup_i (by simp only [cu]; omega)]; exact ht k a1 a2) (by rw [yup_s]; omega) (by rw [show min 0 N = 0 by omega]; exact yOr_0) (fun σ' b1 b2 b3 b4 => ⟨σ', rfl, b1, b2, b3, fun a b h1 h2 => (b4 a b h1 h2).trans (if_neg h2), rfl⟩))
end Y18

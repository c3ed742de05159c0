section Y25
variable {L : Launch} {O : xWd} {K : xOc → List xOb → Prop} {σ : ySg} {X : List xOb} {G : List xOb}
def yPx (S W : Int → Int) (fl sl : List Int) (i j : Int) : Int := max (S (yGt fl i) - S (yGt sl j)) (-(S (yGt fl i) - S (yGt sl j))) + 5 * max (W (yGt fl i) - W (yGt sl j)) (-(W (yGt fl i) - W (yGt sl j)))
theorem yPx_0 (S W : Int → Int) (fl sl : List Int) (i j : Int) : 0 ≤ yPx S W fl sl i j := by unfold yPx; omega
theorem yPx_1 {S W : Int → Int} {fl sl : List Int} (hf : ∀ x ∈ fl, 0 ≤ x ∧ x < 24) (hs : ∀ x ∈ sl, 0 ≤ x ∧ x < 24) (hS : ∀ k, 0 ≤ k → k < 24 → 0 ≤ S k ∧ S k ≤ 99999) (hW : ∀ k, 0 ≤ k → k < 24 → 0 ≤ W k ∧ W k ≤ 12) (i j : Int) : yPx S W fl sl i j ≤ 1000000 := by
  have h1 := yGt_in hf i
  have h2 := yGt_in hs j
  have h3 := hS _ h1.1 h1.2
  have h4 := hS _ h2.1 h2.2
  have h5 := hW _ h1.1 h1.2
  have h6 := hW _ h2.1 h2.2
  unfold yPx
  omega
/-- what the pairing holds: how many, which, and what the cues' starts and word counts are -/
def yPS (σ : ySg) (fl sl : List Int) (S W : Int → Int) : Prop := σ 190 2 = (fl.length : Int) ∧ σ 190 3 = (sl.length : Int) ∧ yHl σ 191 fl ∧ yHl σ 192 sl ∧ (∀ k : Int, k < 24 → σ (cu k) 1 = S k) ∧ (∀ k : Int, k < 24 → σ (cu k) 6 = W k)
theorem yPS.cong {σ σ' : ySg} {fl sl : List Int} {S W : Int → Int} (h : yPS σ fl sl S W) (g : ∀ a b, (a < 135 ∨ 185 < a) → σ' a b = σ a b) : yPS σ' fl sl S W := by
  obtain ⟨h1, h2, h3, h4, h5, h6⟩ := h
  exact ⟨(g _ _ (by omega)).trans h1, (g _ _ (by omega)).trans h2, fun i a b => (g _ _ (by omega)).trans (h3 i a b), fun i a b => (g _ _ (by omega)).trans (h4 i a b), fun k q => (g _ _ (by unfold cu; omega)).trans (h5 k q), fun k q => (g _ _ (by unfold cu; omega)).trans (h6 k q)⟩
theorem l_pair39 (hL : L.stackTraces = false) {σ : ySg} {fl sl : List Int} {S W : Int → Int} (hr : yRg σ) (hps : yPS σ fl sl S W) (hfl : ∀ x ∈ fl, 0 ≤ x ∧ x < 24) (hsl : ∀ x ∈ sl, 0 ≤ x ∧ x < 24) (hfn : fl.length ≤ 24) (hsn : sl.length ≤ 24) (hS : ∀ k, 0 ≤ k → k < 24 → 0 ≤ S k ∧ S k ≤ 99999) (hW : ∀ k, 0 ≤ k → k < 24 → 0 ≤ W k ∧ W k ≤ 12) {i : Int} (hi : 0 ≤ i ∧ i < (fl.length : Int)) (j : Int) (h0 : 0 ≤ j) (h1 : j ≤ (sl.length : Int)) (hP : ∀ a b, 0 ≤ a → a < (fl.length : Int) → 0 ≤ b → b < (sl.length : Int) → (a < i ∨ (a = i ∧ b < j)) → σ (pr a) b = yPx S W fl sl a b) (hK : ∀ (σ' : ySg) (q : Int), yRg σ' → (∀ a b, 0 ≤ a → a < (fl.length : Int) → 0 ≤ b → b < (sl.length : Int) → (a < (i + 1) ∨ (a = (i + 1) ∧ b < 0)) → σ' (pr a) b = yPx S W fl sl a b) → (∀ a b, (a < 135 ∨ 158 < a) → σ' a b = σ a b) → xWP L O mX8_pairAll (xR 3 0 0) K 87 [(0, .ref 190), (1, .ref 20), (2, .ref 133), (3, .int (iI i)), (4, .int (iI q))] [] (Wd σ' X) 0 0) : xWP L O mX8_pairAll (xR 3 0 0) K 39 [(0, .ref 190), (1, .ref 20), (2, .ref 133), (3, .int (iI i)), (4, .int (iI j))] [] (Wd σ X) 0 0 := by
  refine xw_iload 4 dX8_pairAll_39 rfl ?_
  refine xw_aload_n 0 dX8_pairAll_41 rfl ?_
  refine yz_geti (z := 3) (v := (sl.length : Int)) (fo_X8_26 rfl) dX8_pairAll_42 is_190 rfl rfl hps.2.1 ?_
  refine xz_icmp_ge (tgt := 87) dX8_pairAll_45 (by decide) (by omega) (by omega) (fun c1 => ?_) (fun c1 => ?_)
  · exact hK σ j hr (fun a b a1 a2 a3 a4 a5 => hP a b a1 a2 a3 a4 (by omega)) (fun a b _ => rfl)
  · refine xw_aload_n 2 dX8_pairAll_48 rfl ?_
    refine xw_iload_n 3 dX8_pairAll_49 rfl ?_
    refine xw_iload 4 dX8_pairAll_50 rfl ?_
    refine xw_aload_n 1 dX8_pairAll_52 rfl ?_
    refine yz_getr (fo_X8_29 rfl) dX8_pairAll_53 is_20 rfl ?_
    refine xw_aload_n 0 dX8_pairAll_56 rfl ?_
    refine yz_getr (fo_X8_9 rfl) dX8_pairAll_57 is_190 rfl ?_
    refine xw_iload_n 3 dX8_pairAll_60 rfl ?_
    refine yz_iald (v := yGt fl i) dX8_pairAll_61 is_191 (by omega) (by decide) (hps.2.2.1 i (by omega) (by omega)) ?_
    refine yz_aald 3 dX8_pairAll_62 (by decide) rfl rfl is_21 (yGt_in hfl i).1 (by decide) (ks21_get (yGt_in hfl i)) ?_
    refine xw_aload_n 1 dX8_pairAll_63 rfl ?_
    refine yz_getr (fo_X8_29 rfl) dX8_pairAll_64 is_20 rfl ?_
    refine xw_aload_n 0 dX8_pairAll_67 rfl ?_
    refine yz_getr (fo_X8_15 rfl) dX8_pairAll_68 is_190 rfl ?_
    refine xw_iload 4 dX8_pairAll_71 rfl ?_
    refine yz_iald (v := yGt sl j) dX8_pairAll_73 is_192 (by omega) (by decide) (hps.2.2.2.1 j (by omega) (by omega)) ?_
    refine yz_aald 3 dX8_pairAll_74 (by decide) rfl rfl is_21 (yGt_in hsl j).1 (by decide) (ks21_get (yGt_in hsl j)) ?_
    have hi2 := yGt_in hfl i
    have hj2 := yGt_in hsl j
    have hv2 := s_priceOf (O := O) (σ := σ) (X := X) hL hr hi2 hj2 (by rw [hps.2.2.2.2.1 _ hi2.2]; exact hS _ hi2.1 hi2.2) (by rw [hps.2.2.2.2.1 _ hj2.2]; exact hS _ hj2.1 hj2.2) (by rw [hps.2.2.2.2.2 _ hi2.2]; exact hW _ hi2.1 hi2.2) (by rw [hps.2.2.2.2.2 _ hj2.2]; exact hW _ hj2.1 hj2.2)
    rw [hps.2.2.2.2.1 _ hi2.2, hps.2.2.2.2.1 _ hj2.2, hps.2.2.2.2.2 _ hi2.2, hps.2.2.2.2.2 _ hj2.2] at hv2
    refine yc_S (M' := mX8_priceOf) (d := 0) (c := 0) (s := 0) (As := [.ref (cu (yGt fl i)), .ref (cu (yGt sl j))]) (st := [.int (iI j), .int (iI i), .ref 133]) (v0 := some (.int (iI (yPx S W fl sl i j)))) (G2 := Wd σ X) dX8_pairAll_75 okX8_priceOf (Or.inl w_473) rfl (Nat.le_of_ble_eq_true rfl) (by decide) (by decide) (Nat.zero_le _) (Nat.zero_le _) rfl rfl hv2 ?_
    refine yc_V (M' := mX0_setPrice) (d := 1) (c := 0) (s := 0) (As := [.int (iI i), .int (iI j), .int (iI (yPx S W fl sl i j))]) (st := []) (v0 := none) (G2 := Wd (yup σ (pr i) j (yPx S W fl sl i j)) X) dX8_pairAll_78 okX0_setPrice (Or.inl w_479) (xBig_i is_133.1) (Wd_get is_133) ⟨by decide, rfl⟩ rfl (Nat.le_of_ble_eq_true rfl) (by decide) (by decide) (Nat.zero_le _) (Nat.zero_le _) rfl rfl (s_setPrice hL (by omega) (by omega)) ?_
    refine xz_iinc (l2 := [(0, .ref 190), (1, .ref 20), (2, .ref 133), (3, .int (iI i)), (4, .int (iI (j + 1)))]) 4 dX8_pairAll_81 rfl (by decide) rfl rfl ?_
    refine xw_goto (tgt := 39) dX8_pairAll_84 (by decide) ?_
    have g1 : ∀ a b, (a < 135 ∨ 158 < a) → (yup σ (pr i) j (yPx S W fl sl i j)) a b = σ a b := fun a b q => yup_i (by unfold pr; omega)
    refine l_pair39 hL (yRg_up hr (by have h8 := yPx_0 S W fl sl i j; have h9 := yPx_1 hfl hsl hS hW i j; omega)) (hps.cong (fun a b q => g1 a b (by omega))) hfl hsl hfn hsn hS hW hi (j + 1) (by omega) (by omega) (fun a b a1 a2 a3 a4 a5 => ?_) (fun σ' q c1 c2 c3 => hK σ' q c1 c2 (fun a b z => (c3 a b z).trans (g1 a b z)))
    by_cases e : a = i ∧ b = j
    · obtain ⟨e1, e2⟩ := e; subst e1; subst e2; exact yup_s
    · rw [yup_n (fun z => e ⟨(pr_inj a1 hi.1).mp z.1, z.2⟩)]; exact hP a b a1 a2 a3 a4 (by omega)
termination_by ((sl.length : Int) - j).toNat
theorem l_pair28 (hL : L.stackTraces = false) {σ : ySg} {fl sl : List Int} {S W : Int → Int} (hr : yRg σ) (hps : yPS σ fl sl S W) (hfl : ∀ x ∈ fl, 0 ≤ x ∧ x < 24) (hsl : ∀ x ∈ sl, 0 ≤ x ∧ x < 24) (hfn : fl.length ≤ 24) (hsn : sl.length ≤ 24) (hS : ∀ k, 0 ≤ k → k < 24 → 0 ≤ S k ∧ S k ≤ 99999) (hW : ∀ k, 0 ≤ k → k < 24 → 0 ≤ W k ∧ W k ≤ 12) (i : Int) (h0 : 0 ≤ i) (h1 : i ≤ (fl.length : Int)) (hP : ∀ a b, 0 ≤ a → a < (fl.length : Int) → 0 ≤ b → b < (sl.length : Int) → (a < i ∨ (a = i ∧ b < 0)) → σ (pr a) b = yPx S W fl sl a b) (hK : ∀ (σ' : ySg), yRg σ' → yPi (yPx S W fl sl) σ' (fl.length : Int) (sl.length : Int) → (∀ a b, (a < 135 ∨ 158 < a) → σ' a b = σ a b) → xWP L O mX8_pairAll (xR 3 0 0) K 93 [(0, .ref 190), (1, .ref 20), (2, .ref 133)] [] (Wd σ' X) 0 0) : xWP L O mX8_pairAll (xR 3 0 0) K 28 [(0, .ref 190), (1, .ref 20), (2, .ref 133), (3, .int (iI i))] [] (Wd σ X) 0 0 := by
  refine xw_iload_n 3 dX8_pairAll_28 rfl ?_
  refine xw_aload_n 0 dX8_pairAll_29 rfl ?_
  refine yz_geti (z := 2) (v := (fl.length : Int)) (fo_X8_22 rfl) dX8_pairAll_30 is_190 rfl rfl hps.1 ?_
  refine xz_icmp_ge (tgt := 93) dX8_pairAll_33 (by decide) (by omega) (by omega) (fun c1 => ?_) (fun c1 => ?_)
  · refine xw_loc [(0, .ref 190), (1, .ref 20), (2, .ref 133)] (fun q9 hq9 => List.mem_append_left ([(3, .int (iI i))] : List (Nat × Value)) hq9) ?_
    exact hK σ hr (fun a b a1 a2 a3 a4 => hP a b a1 a2 a3 a4 (by omega)) (fun a b _ => rfl)
  · refine xz_iconst dX8_pairAll_36 ?_
    refine xw_istore (l2 := [(0, .ref 190), (1, .ref 20), (2, .ref 133), (3, .int (iI i)), (4, .int (iI 0))]) dX8_pairAll_37 (by decide) rfl rfl ?_
    refine l_pair39 hL hr hps hfl hsl hfn hsn hS hW ⟨h0, by omega⟩ 0 (by omega) (by omega) hP (fun σ1 q d1 d2 d3 => ?_)
    refine xz_iinc (l2 := [(0, .ref 190), (1, .ref 20), (2, .ref 133), (3, .int (iI (i + 1))), (4, .int (iI q))]) 3 dX8_pairAll_87 rfl (by decide) rfl rfl ?_
    refine xw_goto (tgt := 28) dX8_pairAll_90 (by decide) ?_
    refine xw_loc [(0, .ref 190), (1, .ref 20), (2, .ref 133), (3, .int (iI (i + 1)))] (fun q9 hq9 => List.mem_append_left ([(4, .int (iI q))] : List (Nat × Value)) hq9) ?_
    exact l_pair28 hL d1 (hps.cong (fun a b q => d3 a b (by omega))) hfl hsl hfn hsn hS hW (i + 1) (by omega) (by omega) d2 (fun σ' c1 c2 c3 => hK σ' c1 c2 (fun a b z => (c3 a b z).trans (d3 a b z)))
termination_by ((fl.length : Int) - i).toNat
/-- the first and the second ones of an order -/
abbrev yF1l (o R : Int → Int) (N : Int) : List Int := yGl o R 1 N.toNat
abbrev yF2l (o R : Int → Int) (N : Int) : List Int := yGl o R 2 N.toNat
theorem s_pairAll (hL : L.stackTraces = false) {N : Int} {o R S W : Int → Int} {fl sl : List Int} (hr : yRg σ) (hN : σ 20 6 = N) (hN2 : 0 ≤ N ∧ N ≤ 24) (ho : ∀ p, 0 ≤ p → p < N → 0 ≤ o p ∧ o p < 24) (hoo : ∀ p, σ 29 p = o p) (hRR : ∀ k : Int, k < 24 → σ (cu k) 3 = R k) (hS1 : ∀ k : Int, k < 24 → σ (cu k) 1 = S k) (hW1 : ∀ k : Int, k < 24 → σ (cu k) 6 = W k) (hS : ∀ k, 0 ≤ k → k < 24 → 0 ≤ S k ∧ S k ≤ 99999) (hW : ∀ k, 0 ≤ k → k < 24 → 0 ≤ W k ∧ W k ≤ 12) (efl : fl = yGl o R 1 N.toNat) (esl : sl = yGl o R 2 N.toNat) : xMet L O mX8_pairAll (xR 3 0 0) [.ref 190, .ref 20, .ref 133] (Wd σ X) (fun o9 G1 => ∃ σ' : ySg, o9 = .inl (some (.int (iI (yC (yPx S W fl sl) (fl.length : Int) (sl.length : Int) 0 0)))) ∧ yRg σ' ∧ yPS σ' fl sl S W ∧ (∀ p, 0 ≤ p → p < (fl.length : Int) → σ' 185 p = yPt (yPx S W fl sl) (fl.length : Int) (sl.length : Int) p) ∧ (∀ a b, (a < 135 ∨ (185 < a ∧ a < 190)) → σ' a b = σ a b) ∧ G1 = Wd σ' X) := xMet_of (by decide) hL (Nat.le_of_ble_eq_true rfl) (by
  have hfl : ∀ x ∈ fl, 0 ≤ x ∧ x < 24 := by rw [efl]; exact yGl_in o R 1 N ho N.toNat (by omega)
  have hsl : ∀ x ∈ sl, 0 ≤ x ∧ x < 24 := by rw [esl]; exact yGl_in o R 2 N ho N.toNat (by omega)
  have hfn : fl.length ≤ 24 := by rw [efl]; have := yGl_len o R 1 N.toNat; omega
  have hsn : sl.length ≤ 24 := by rw [esl]; have := yGl_len o R 2 N.toNat; omega
  refine xw_eq rfl (l2 := [(0, .ref 190), (1, .ref 20), (2, .ref 133)]) rfl rfl rfl ?_
  refine xw_aload_n 0 dX8_pairAll_0 rfl ?_
  refine xw_aload_n 1 dX8_pairAll_1 rfl ?_
  refine xz_iconst dX8_pairAll_2 ?_
  refine xw_aload_n 0 dX8_pairAll_3 rfl ?_
  refine yz_getr (fo_X8_9 rfl) dX8_pairAll_4 is_190 rfl ?_
  have hga1 := s_gather (O := O) (σ := σ) (X := X) hL (reg := 1) (o := o) (R := R) hr is_191 (by decide) hN hN2 ho hoo hRR (by decide)
  rw [← efl] at hga1
  refine yc_SE (M' := mX8_gather) (d := 2) (c := 0) (s := 0) (As := [.ref 20, .int (iI 1), .ref 191]) (st := [.ref 190]) dX8_pairAll_7 okX8_gather (Or.inl w_468) rfl (Nat.le_of_ble_eq_true rfl) (by decide) (by decide) (Nat.zero_le _) (Nat.zero_le _) hga1 (fun v9 G9 h9 => ?_) (fun E9 G9 h9 => ?_)
  · obtain ⟨σ1, e9, hr1, hl1, hf1, e8⟩ := h9
    cases e9
    subst e8
    refine yz_puti (z := 2) (fp_X8_22 rfl) dX8_pairAll_10 is_190 rfl rfl ?_
    refine xw_aload_n 0 dX8_pairAll_13 rfl ?_
    refine xw_aload_n 1 dX8_pairAll_14 rfl ?_
    refine xz_iconst dX8_pairAll_15 ?_
    refine xw_aload_n 0 dX8_pairAll_16 rfl ?_
    refine yz_getr (fo_X8_15 rfl) dX8_pairAll_17 is_190 rfl ?_
    have hga2 := s_gather (O := O) (σ := yup σ1 190 2 (fl.length : Int)) (X := X) hL (reg := 2) (o := o) (R := R) (yRg_up hr1 (by omega)) is_192 (by decide) (by rw [yup_i (by decide), hf1 _ _ (by decide)]; exact hN) hN2 ho (fun p => by rw [yup_i (by decide), hf1 _ _ (by decide)]; exact hoo p) (fun k q => by rw [yup_i (by unfold cu; omega), hf1 _ _ (by unfold cu; omega)]; exact hRR k q) (by decide)
    rw [← esl] at hga2
    refine yc_SE (M' := mX8_gather) (d := 2) (c := 0) (s := 0) (As := [.ref 20, .int (iI 2), .ref 192]) (st := [.ref 190]) dX8_pairAll_20 okX8_gather (Or.inl w_468) rfl (Nat.le_of_ble_eq_true rfl) (by decide) (by decide) (Nat.zero_le _) (Nat.zero_le _) hga2 (fun v9 G9 h9 => ?_) (fun E9 G9 h9 => ?_)
    · obtain ⟨σ2, e9, hr2, hl2, hf2, e8⟩ := h9
      cases e9
      subst e8
      refine yz_puti (z := 3) (fp_X8_26 rfl) dX8_pairAll_23 is_190 rfl rfl ?_
      refine xz_iconst dX8_pairAll_26 ?_
      refine xw_istore_n (l2 := [(0, .ref 190), (1, .ref 20), (2, .ref 133), (3, .int (iI 0))]) dX8_pairAll_27 (by decide) rfl rfl ?_
      obtain ⟨σ3, e3⟩ : ∃ z, z = yup σ2 190 3 (sl.length : Int) := ⟨_, rfl⟩
      rw [← e3]
      have hr3 : yRg σ3 := by rw [e3]; exact (yRg_up hr2 (by omega))
      have g3 : ∀ x y, x ≠ 190 → x ≠ 191 → x ≠ 192 → σ3 x y = σ x y := fun x y q1 q2 q3 => by rw [e3, yup_i q1, hf2 _ _ q3, yup_i q1, hf1 _ _ q2]
      have hps : yPS σ3 fl sl S W := by
        refine ⟨?_, ?_, fun i q1 q2 => ?_, fun i q1 q2 => ?_, fun k q => ?_, fun k q => ?_⟩
        · rw [e3, yup_k (by decide), hf2 _ _ (by decide), yup_s]
        · rw [e3, yup_s]
        · rw [e3, yup_i (by decide), hf2 _ _ (by decide), yup_i (by decide)]; exact hl1 i q1 q2
        · rw [e3, yup_i (by decide)]; exact hl2 i q1 q2
        · rw [g3 _ _ (by unfold cu; omega) (by unfold cu; omega) (by unfold cu; omega)]; exact hS1 k q
        · rw [g3 _ _ (by unfold cu; omega) (by unfold cu; omega) (by unfold cu; omega)]; exact hW1 k q
      refine l_pair28 hL hr3 hps hfl hsl hfn hsn hS hW 0 (by omega) (by omega) (fun a b a1 a2 a3 a4 a5 => absurd a5 (by omega)) (fun σ4 d1 d2 d3 => ?_)
      have hps4 := hps.cong (fun a b q => d3 a b (by omega))
      refine xw_aload_n 2 dX8_pairAll_93 rfl ?_
      refine xw_aload_n 0 dX8_pairAll_94 rfl ?_
      refine yz_geti (z := 2) (v := (fl.length : Int)) (fo_X8_22 rfl) dX8_pairAll_95 is_190 rfl rfl hps4.1 ?_
      refine xw_aload_n 0 dX8_pairAll_98 rfl ?_
      refine yz_geti (z := 3) (v := (sl.length : Int)) (fo_X8_26 rfl) dX8_pairAll_99 is_190 rfl rfl hps4.2.1 ?_
      refine xz_bipush dX8_pairAll_102 (by decide) ?_
      refine xz_bipush dX8_pairAll_104 (by decide) ?_
      refine yc_VE (M' := mX0_align) (d := 2) (c := 0) (s := 0) (As := [.int (iI ((fl.length : Int))), .int (iI ((sl.length : Int))), .int (iI 40), .int (iI 40)]) (st := []) dX8_pairAll_106 okX0_align (Or.inl w_486) (xBig_i is_133.1) (Wd_get is_133) ⟨by decide, rfl⟩ rfl (Nat.le_of_ble_eq_true rfl) (by decide) (by decide) (Nat.zero_le _) (Nat.zero_le _) (s_align hL d1 (by omega) (by omega) (yPx_0 S W fl sl) (yPx_1 hfl hsl hS hW) d2) (fun v9 G9 h9 => ?_) (fun E9 G9 h9 => ?_)
      · obtain ⟨σ3, e9, hr3, hp3, hf3, e8⟩ := h9
        cases e9
        subst e8
        exact xz_iret dX8_pairAll_109 rfl (Nat.zero_le _) (Nat.zero_le _) ⟨_, rfl, hr3, hps4.cong (fun a b q => hf3 a b (by omega)), hp3, fun a b q => (hf3 a b (by omega)).trans ((d3 a b (by omega)).trans (g3 a b (by omega) (by omega) (by omega))), rfl⟩
      · obtain ⟨_, e9, _⟩ := h9
        cases e9
    · obtain ⟨_, e9, _⟩ := h9
      cases e9
  · obtain ⟨_, e9, _⟩ := h9
    cases e9)
def ySoF (n x : Int) (f s pt : Int → Int) : Nat → Int → Int
  | 0, _ => -1
  | k + 1, i => if f i = x ∧ 0 ≤ pt i ∧ pt i ≤ n - 1 then s (pt i) else ySoF n x f s pt k (i + 1)
def yFoF (n x : Int) (f s pt : Int → Int) : Nat → Int → Int
  | 0, _ => -1
  | k + 1, i => if (0 ≤ pt i ∧ pt i ≤ n - 1) ∧ s (pt i) = x then f i else yFoF n x f s pt k (i + 1)
def ySo (m n x : Int) (f s pt : Int → Int) (i : Int) : Int := ySoF n x f s pt (m - i).toNat i
def yFo (m n x : Int) (f s pt : Int → Int) (i : Int) : Int := yFoF n x f s pt (m - i).toNat i
theorem ySo_e {m n x i : Int} {f s pt : Int → Int} (h : m ≤ i) : ySo m n x f s pt i = -1 := by unfold ySo; rw [show (m - i).toNat = 0 by omega]; rfl
theorem yFo_e {m n x i : Int} {f s pt : Int → Int} (h : m ≤ i) : yFo m n x f s pt i = -1 := by unfold yFo; rw [show (m - i).toNat = 0 by omega]; rfl
theorem ySo_y {m n x i : Int} {f s pt : Int → Int} (h : i < m) (c : f i = x ∧ 0 ≤ pt i ∧ pt i ≤ n - 1) : ySo m n x f s pt i = s (pt i) := by unfold ySo; rw [show (m - i).toNat = (m - (i + 1)).toNat + 1 by omega]; exact if_pos c
theorem ySo_n {m n x i : Int} {f s pt : Int → Int} (h : i < m) (c : ¬ (f i = x ∧ 0 ≤ pt i ∧ pt i ≤ n - 1)) : ySo m n x f s pt i = ySo m n x f s pt (i + 1) := by unfold ySo; rw [show (m - i).toNat = (m - (i + 1)).toNat + 1 by omega]; exact if_neg c
theorem yFo_y {m n x i : Int} {f s pt : Int → Int} (h : i < m) (c : (0 ≤ pt i ∧ pt i ≤ n - 1) ∧ s (pt i) = x) : yFo m n x f s pt i = f i := by unfold yFo; rw [show (m - i).toNat = (m - (i + 1)).toNat + 1 by omega]; exact if_pos c
theorem yFo_n {m n x i : Int} {f s pt : Int → Int} (h : i < m) (c : ¬ ((0 ≤ pt i ∧ pt i ≤ n - 1) ∧ s (pt i) = x)) : yFo m n x f s pt i = yFo m n x f s pt (i + 1) := by unfold yFo; rw [show (m - i).toNat = (m - (i + 1)).toNat + 1 by omega]; exact if_neg c
theorem l_secondOf (hL : L.stackTraces = false) {fl sl : List Int} {S W : Int → Int} (hr : yRg σ) (hps : yPS σ fl sl S W) (hfl : ∀ x ∈ fl, 0 ≤ x ∧ x < 24) (hsl : ∀ x ∈ sl, 0 ≤ x ∧ x < 24) (hfn : fl.length ≤ 24) (hsn : sl.length ≤ 24) {pt : Int → Int} {x : Int} (hpt : ∀ p, 0 ≤ p → p < (fl.length : Int) → σ 185 p = pt p) (hx : -2147483648 ≤ x ∧ x < 2147483648) (i : Int) (h0 : 0 ≤ i) (h1 : i ≤ (fl.length : Int)) (hK : K (.inl (some (.int (iI (ySo (fl.length : Int) (sl.length : Int) x (yGt fl) (yGt sl) pt i))))) (Wd σ X)) : xWP L O mX8_secondOf (xR 2 0 0) K 2 [(0, .ref 190), (1, .int (iI x)), (2, .ref 133), (3, .int (iI i))] [] (Wd σ X) 0 0 := by
  refine xw_iload_n 3 dX8_secondOf_2 rfl ?_
  refine xw_aload_n 0 dX8_secondOf_3 rfl ?_
  refine yz_geti (z := 2) (v := (fl.length : Int)) (fo_X8_22 rfl) dX8_secondOf_4 is_190 rfl rfl hps.1 ?_
  refine xz_icmp_ge (tgt := 56) dX8_secondOf_7 (by decide) (by omega) (by omega) (fun c1 => ?_) (fun c1 => ?_)
  · refine xz_iconst dX8_secondOf_56 ?_
    exact xz_iret dX8_secondOf_57 rfl (Nat.zero_le _) (Nat.zero_le _) (by first | (rw [ySo_e (by omega)] at hK; exact hK) | (rw [ySo_y (by omega) ⟨by omega, by omega⟩] at hK; exact hK))
  · refine xw_aload_n 2 dX8_secondOf_10 rfl ?_
    refine xw_iload_n 3 dX8_secondOf_11 rfl ?_
    have hp2 := s_partnerOf (O := O) (σ := σ) (X := X) hL hr (i := i) (by omega)
    rw [hpt i (by omega) (by omega)] at hp2
    have hq2 : -2147483648 ≤ pt i ∧ pt i < 2147483648 := by rw [← hpt i (by omega) (by omega)]; exact hr _ _
    refine yc_V (M' := mX0_partnerOf) (d := 1) (c := 0) (s := 0) (As := [.int (iI i)]) (st := []) (v0 := some (.int (iI (pt i)))) (G2 := Wd σ X) dX8_secondOf_12 okX0_partnerOf (Or.inl w_1120) (xBig_i is_133.1) (Wd_get is_133) ⟨by decide, rfl⟩ rfl (Nat.le_of_ble_eq_true rfl) (by decide) (by decide) (Nat.zero_le _) (Nat.zero_le _) rfl rfl hp2 ?_
    refine xw_istore (l2 := [(0, .ref 190), (1, .int (iI x)), (2, .ref 133), (3, .int (iI i)), (4, .int (iI (pt i)))]) dX8_secondOf_15 (by decide) rfl rfl ?_
    refine xw_aload_n 0 dX8_secondOf_17 rfl ?_
    refine yz_getr (fo_X8_9 rfl) dX8_secondOf_18 is_190 rfl ?_
    refine xw_iload_n 3 dX8_secondOf_21 rfl ?_
    have y3 := yGt_in hfl i
    refine yz_iald (v := yGt fl i) dX8_secondOf_22 is_191 (by omega) (by decide) (hps.2.2.1 i (by omega) (by omega)) ?_
    refine xw_iload_n 1 dX8_secondOf_23 rfl ?_
    refine xz_icmp_ne (tgt := 50) dX8_secondOf_24 (by decide) (by omega) (by omega) (fun c4 => ?_) (fun c4 => ?_)
    · refine xz_iinc (l2 := [(0, .ref 190), (1, .int (iI x)), (2, .ref 133), (3, .int (iI (i + 1))), (4, .int (iI (pt i)))]) 3 dX8_secondOf_50 rfl (by decide) rfl rfl ?_
      refine xw_goto (tgt := 2) dX8_secondOf_53 (by decide) ?_
      refine xw_loc [(0, .ref 190), (1, .int (iI x)), (2, .ref 133), (3, .int (iI (i + 1)))] (fun q9 hq9 => List.mem_append_left ([(4, .int (iI (pt i)))] : List (Nat × Value)) hq9) ?_
      exact l_secondOf hL hr hps hfl hsl hfn hsn hpt hx (i + 1) (by omega) (by omega) (by rw [← ySo_n (by omega) (by omega)]; exact hK)
    · refine xw_iload 4 dX8_secondOf_27 rfl ?_
      refine xz_iconst dX8_secondOf_29 ?_
      refine xw_aload_n 0 dX8_secondOf_30 rfl ?_
      refine yz_geti (z := 3) (v := (sl.length : Int)) (fo_X8_26 rfl) dX8_secondOf_31 is_190 rfl rfl hps.2.1 ?_
      refine xz_iconst dX8_secondOf_34 ?_
      refine xz_isub dX8_secondOf_35 ?_
      by_cases q5 : 0 ≤ pt i ∧ pt i ≤ (sl.length : Int) - 1
      · refine yc_S (M' := mX11_isIn) (d := 0) (c := 0) (s := 0) (As := [.int (iI (pt i)), .int (iI 0), .int (iI ((sl.length : Int) - 1))]) (st := []) (v0 := some (.int (iI 1))) (G2 := Wd σ X) dX8_secondOf_36 okX11_isIn (Or.inr ⟨rfl, _, w_1121⟩) rfl (Nat.le_of_ble_eq_true rfl) (by decide) (by decide) (Nat.zero_le _) (Nat.zero_le _) rfl rfl (s_isIn1 hL (by omega) (by decide) (by omega) (by omega)) ?_
        refine xz_if_eq (tgt := 50) dX8_secondOf_39 (by decide) (by omega) (fun c6 => ?_) (fun c6 => ?_)
        · exact absurd c6 (by omega)
        · refine xw_aload_n 0 dX8_secondOf_42 rfl ?_
          refine yz_getr (fo_X8_15 rfl) dX8_secondOf_43 is_190 rfl ?_
          refine xw_iload 4 dX8_secondOf_46 rfl ?_
          have y7 := yGt_in hsl (pt i)
          refine yz_iald (v := yGt sl (pt i)) dX8_secondOf_48 is_192 (by omega) (by decide) (hps.2.2.2.1 (pt i) (by omega) (by omega)) ?_
          exact xz_iret dX8_secondOf_49 rfl (Nat.zero_le _) (Nat.zero_le _) (by first | (rw [ySo_e (by omega)] at hK; exact hK) | (rw [ySo_y (by omega) ⟨by omega, by omega⟩] at hK; exact hK))
      · refine yc_S (M' := mX11_isIn) (d := 0) (c := 0) (s := 0) (As := [.int (iI (pt i)), .int (iI 0), .int (iI ((sl.length : Int) - 1))]) (st := []) (v0 := some (.int (iI 0))) (G2 := Wd σ X) dX8_secondOf_36 okX11_isIn (Or.inr ⟨rfl, _, w_1121⟩) rfl (Nat.le_of_ble_eq_true rfl) (by decide) (by decide) (Nat.zero_le _) (Nat.zero_le _) rfl rfl (s_isIn0 hL (by omega) (by decide) (by omega) (by omega)) ?_
        refine xz_if_eq (tgt := 50) dX8_secondOf_39 (by decide) (by omega) (fun c8 => ?_) (fun c8 => ?_)
        · refine xz_iinc (l2 := [(0, .ref 190), (1, .int (iI x)), (2, .ref 133), (3, .int (iI (i + 1))), (4, .int (iI (pt i)))]) 3 dX8_secondOf_50 rfl (by decide) rfl rfl ?_
          refine xw_goto (tgt := 2) dX8_secondOf_53 (by decide) ?_
          refine xw_loc [(0, .ref 190), (1, .int (iI x)), (2, .ref 133), (3, .int (iI (i + 1)))] (fun q9 hq9 => List.mem_append_left ([(4, .int (iI (pt i)))] : List (Nat × Value)) hq9) ?_
          exact l_secondOf hL hr hps hfl hsl hfn hsn hpt hx (i + 1) (by omega) (by omega) (by rw [← ySo_n (by omega) (by omega)]; exact hK)
        · exact absurd c8 (by omega)
termination_by ((fl.length : Int) - i).toNat
theorem s_secondOf (hL : L.stackTraces = false) {fl sl : List Int} {S W : Int → Int} (hr : yRg σ) (hps : yPS σ fl sl S W) (hfl : ∀ x ∈ fl, 0 ≤ x ∧ x < 24) (hsl : ∀ x ∈ sl, 0 ≤ x ∧ x < 24) (hfn : fl.length ≤ 24) (hsn : sl.length ≤ 24) {pt : Int → Int} {x : Int} (hpt : ∀ p, 0 ≤ p → p < (fl.length : Int) → σ 185 p = pt p) (hx : -2147483648 ≤ x ∧ x < 2147483648) : xMet L O mX8_secondOf (xR 2 0 0) [.ref 190, .int (iI x), .ref 133] (Wd σ X) (fun o G1 => o = .inl (some (.int (iI (ySo (fl.length : Int) (sl.length : Int) x (yGt fl) (yGt sl) pt 0)))) ∧ G1 = Wd σ X) := xMet_of (by decide) hL (Nat.le_of_ble_eq_true rfl) (by
  refine xw_eq rfl (l2 := [(0, .ref 190), (1, .int (iI x)), (2, .ref 133)]) rfl rfl rfl ?_
  refine xz_iconst dX8_secondOf_0 ?_
  refine xw_istore_n (l2 := [(0, .ref 190), (1, .int (iI x)), (2, .ref 133), (3, .int (iI 0))]) dX8_secondOf_1 (by decide) rfl rfl ?_
  exact l_secondOf hL hr hps hfl hsl hfn hsn hpt hx 0 (by omega) (by omega) ⟨rfl, rfl⟩)
theorem l_firstOf (hL : L.stackTraces = false) {fl sl : List Int} {S W : Int → Int} (hr : yRg σ) (hps : yPS σ fl sl S W) (hfl : ∀ x ∈ fl, 0 ≤ x ∧ x < 24) (hsl : ∀ x ∈ sl, 0 ≤ x ∧ x < 24) (hfn : fl.length ≤ 24) (hsn : sl.length ≤ 24) {pt : Int → Int} {x : Int} (hpt : ∀ p, 0 ≤ p → p < (fl.length : Int) → σ 185 p = pt p) (hx : -2147483648 ≤ x ∧ x < 2147483648) (i : Int) (h0 : 0 ≤ i) (h1 : i ≤ (fl.length : Int)) (hK : K (.inl (some (.int (iI (yFo (fl.length : Int) (sl.length : Int) x (yGt fl) (yGt sl) pt i))))) (Wd σ X)) : xWP L O mX8_firstOf (xR 2 0 0) K 2 [(0, .ref 190), (1, .int (iI x)), (2, .ref 133), (3, .int (iI i))] [] (Wd σ X) 0 0 := by
  refine xw_iload_n 3 dX8_firstOf_2 rfl ?_
  refine xw_aload_n 0 dX8_firstOf_3 rfl ?_
  refine yz_geti (z := 2) (v := (fl.length : Int)) (fo_X8_22 rfl) dX8_firstOf_4 is_190 rfl rfl hps.1 ?_
  refine xz_icmp_ge (tgt := 56) dX8_firstOf_7 (by decide) (by omega) (by omega) (fun c1 => ?_) (fun c1 => ?_)
  · refine xz_iconst dX8_firstOf_56 ?_
    exact xz_iret dX8_firstOf_57 rfl (Nat.zero_le _) (Nat.zero_le _) (by first | (rw [yFo_e (by omega)] at hK; exact hK) | (rw [yFo_y (by omega) ⟨by omega, by omega⟩] at hK; exact hK))
  · refine xw_aload_n 2 dX8_firstOf_10 rfl ?_
    refine xw_iload_n 3 dX8_firstOf_11 rfl ?_
    have hp2 := s_partnerOf (O := O) (σ := σ) (X := X) hL hr (i := i) (by omega)
    rw [hpt i (by omega) (by omega)] at hp2
    have hq2 : -2147483648 ≤ pt i ∧ pt i < 2147483648 := by rw [← hpt i (by omega) (by omega)]; exact hr _ _
    refine yc_V (M' := mX0_partnerOf) (d := 1) (c := 0) (s := 0) (As := [.int (iI i)]) (st := []) (v0 := some (.int (iI (pt i)))) (G2 := Wd σ X) dX8_firstOf_12 okX0_partnerOf (Or.inl w_1120) (xBig_i is_133.1) (Wd_get is_133) ⟨by decide, rfl⟩ rfl (Nat.le_of_ble_eq_true rfl) (by decide) (by decide) (Nat.zero_le _) (Nat.zero_le _) rfl rfl hp2 ?_
    refine xw_istore (l2 := [(0, .ref 190), (1, .int (iI x)), (2, .ref 133), (3, .int (iI i)), (4, .int (iI (pt i)))]) dX8_firstOf_15 (by decide) rfl rfl ?_
    refine xw_iload 4 dX8_firstOf_17 rfl ?_
    refine xz_iconst dX8_firstOf_19 ?_
    refine xw_aload_n 0 dX8_firstOf_20 rfl ?_
    refine yz_geti (z := 3) (v := (sl.length : Int)) (fo_X8_26 rfl) dX8_firstOf_21 is_190 rfl rfl hps.2.1 ?_
    refine xz_iconst dX8_firstOf_24 ?_
    refine xz_isub dX8_firstOf_25 ?_
    by_cases q3 : 0 ≤ pt i ∧ pt i ≤ (sl.length : Int) - 1
    · refine yc_S (M' := mX11_isIn) (d := 0) (c := 0) (s := 0) (As := [.int (iI (pt i)), .int (iI 0), .int (iI ((sl.length : Int) - 1))]) (st := []) (v0 := some (.int (iI 1))) (G2 := Wd σ X) dX8_firstOf_26 okX11_isIn (Or.inr ⟨rfl, _, w_1121⟩) rfl (Nat.le_of_ble_eq_true rfl) (by decide) (by decide) (Nat.zero_le _) (Nat.zero_le _) rfl rfl (s_isIn1 hL (by omega) (by decide) (by omega) (by omega)) ?_
      refine xz_if_eq (tgt := 50) dX8_firstOf_29 (by decide) (by omega) (fun c4 => ?_) (fun c4 => ?_)
      · exact absurd c4 (by omega)
      · refine xw_aload_n 0 dX8_firstOf_32 rfl ?_
        refine yz_getr (fo_X8_15 rfl) dX8_firstOf_33 is_190 rfl ?_
        refine xw_iload 4 dX8_firstOf_36 rfl ?_
        have y5 := yGt_in hsl (pt i)
        refine yz_iald (v := yGt sl (pt i)) dX8_firstOf_38 is_192 (by omega) (by decide) (hps.2.2.2.1 (pt i) (by omega) (by omega)) ?_
        refine xw_iload_n 1 dX8_firstOf_39 rfl ?_
        refine xz_icmp_ne (tgt := 50) dX8_firstOf_40 (by decide) (by omega) (by omega) (fun c6 => ?_) (fun c6 => ?_)
        · refine xz_iinc (l2 := [(0, .ref 190), (1, .int (iI x)), (2, .ref 133), (3, .int (iI (i + 1))), (4, .int (iI (pt i)))]) 3 dX8_firstOf_50 rfl (by decide) rfl rfl ?_
          refine xw_goto (tgt := 2) dX8_firstOf_53 (by decide) ?_
          refine xw_loc [(0, .ref 190), (1, .int (iI x)), (2, .ref 133), (3, .int (iI (i + 1)))] (fun q9 hq9 => List.mem_append_left ([(4, .int (iI (pt i)))] : List (Nat × Value)) hq9) ?_
          exact l_firstOf hL hr hps hfl hsl hfn hsn hpt hx (i + 1) (by omega) (by omega) (by rw [← yFo_n (by omega) (by omega)]; exact hK)
        · refine xw_aload_n 0 dX8_firstOf_43 rfl ?_
          refine yz_getr (fo_X8_9 rfl) dX8_firstOf_44 is_190 rfl ?_
          refine xw_iload_n 3 dX8_firstOf_47 rfl ?_
          have y7 := yGt_in hfl i
          refine yz_iald (v := yGt fl i) dX8_firstOf_48 is_191 (by omega) (by decide) (hps.2.2.1 i (by omega) (by omega)) ?_
          exact xz_iret dX8_firstOf_49 rfl (Nat.zero_le _) (Nat.zero_le _) (by first | (rw [yFo_e (by omega)] at hK; exact hK) | (rw [yFo_y (by omega) ⟨by omega, by omega⟩] at hK; exact hK))
    · refine yc_S (M' := mX11_isIn) (d := 0) (c := 0) (s := 0) (As := [.int (iI (pt i)), .int (iI 0), .int (iI ((sl.length : Int) - 1))]) (st := []) (v0 := some (.int (iI 0))) (G2 := Wd σ X) dX8_firstOf_26 okX11_isIn (Or.inr ⟨rfl, _, w_1121⟩) rfl (Nat.le_of_ble_eq_true rfl) (by decide) (by decide) (Nat.zero_le _) (Nat.zero_le _) rfl rfl (s_isIn0 hL (by omega) (by decide) (by omega) (by omega)) ?_
      refine xz_if_eq (tgt := 50) dX8_firstOf_29 (by decide) (by omega) (fun c8 => ?_) (fun c8 => ?_)
      · refine xz_iinc (l2 := [(0, .ref 190), (1, .int (iI x)), (2, .ref 133), (3, .int (iI (i + 1))), (4, .int (iI (pt i)))]) 3 dX8_firstOf_50 rfl (by decide) rfl rfl ?_
        refine xw_goto (tgt := 2) dX8_firstOf_53 (by decide) ?_
        refine xw_loc [(0, .ref 190), (1, .int (iI x)), (2, .ref 133), (3, .int (iI (i + 1)))] (fun q9 hq9 => List.mem_append_left ([(4, .int (iI (pt i)))] : List (Nat × Value)) hq9) ?_
        exact l_firstOf hL hr hps hfl hsl hfn hsn hpt hx (i + 1) (by omega) (by omega) (by rw [← yFo_n (by omega) (by omega)]; exact hK)
      · exact absurd c8 (by omega)
termination_by ((fl.length : Int) - i).toNat
theorem s_firstOf (hL : L.stackTraces = false) {fl sl : List Int} {S W : Int → Int} (hr : yRg σ) (hps : yPS σ fl sl S W) (hfl : ∀ x ∈ fl, 0 ≤ x ∧ x < 24) (hsl : ∀ x ∈ sl, 0 ≤ x ∧ x < 24) (hfn : fl.length ≤ 24) (hsn : sl.length ≤ 24) {pt : Int → Int} {x : Int} (hpt : ∀ p, 0 ≤ p → p < (fl.length : Int) → σ 185 p = pt p) (hx : -2147483648 ≤ x ∧ x < 2147483648) : xMet L O mX8_firstOf (xR 2 0 0) [.ref 190, .int (iI x), .ref 133] (Wd σ X) (fun o G1 => o = .inl (some (.int (iI (yFo (fl.length : Int) (sl.length : Int) x (yGt fl) (yGt sl) pt 0)))) ∧ G1 = Wd σ X) := xMet_of (by decide) hL (Nat.le_of_ble_eq_true rfl) (by
  refine xw_eq rfl (l2 := [(0, .ref 190), (1, .int (iI x)), (2, .ref 133)]) rfl rfl rfl ?_
  refine xz_iconst dX8_firstOf_0 ?_
  refine xw_istore_n (l2 := [(0, .ref 190), (1, .int (iI x)), (2, .ref 133), (3, .int (iI 0))]) dX8_firstOf_1 (by decide) rfl rfl ?_
  exact l_firstOf hL hr hps hfl hsl hfn hsn hpt hx 0 (by omega) (by omega) ⟨rfl, rfl⟩)
end Y25

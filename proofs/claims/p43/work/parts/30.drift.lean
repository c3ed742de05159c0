section Y30
variable {L : Launch} {O : xWd} {K : xOc → List xOb → Prop} {σ : ySg} {X : List xOb} {G : List xOb}
def yMo (a0 a1 t0 t1 f z : Int) : Prop := (f < a0 ∧ z = t0 + (f - a0)) ∨ (a1 ≤ f ∧ z = t1 + (f - a1)) ∨ (a0 ≤ f ∧ f < a1 ∧ z = t0 + (f - a0) * (t1 - t0) / (a1 - a0))
theorem yMo_bd {a0 a1 t0 t1 f z : Int} (h : yMo a0 a1 t0 t1 f z) (ha : 0 ≤ a0 ∧ a0 < a1 ∧ a1 ≤ 99999) (ht : 0 ≤ t0 ∧ t0 < t1 ∧ t1 ≤ 99999) (hf : 0 ≤ f ∧ f ≤ 99999) : -99999 ≤ z ∧ z ≤ 10000000000 := by
  rcases h with q | q | ⟨q1, q2, q3⟩
  · omega
  · omega
  · have := hdiv (f - a0) (t1 - t0) (a1 - a0) (by omega) (by omega) (by omega)
    omega
def yDrR (a0 a1 t0 t1 : Int) (S E S' E' : Int) : Prop := ∃ z1 z2, yMo a0 a1 t0 t1 S z1 ∧ yMo a0 a1 t0 t1 E z2 ∧ S' = max 0 (min z1 99998) ∧ E' = max (max 0 (min z2 99999)) (S' + 1)
theorem l_drift (hL : L.stackTraces = false) {σ0 σ : ySg} {N : Int} (hr : yRg σ) (hN : 0 ≤ N ∧ N ≤ 24) (ht : yTh σ0 N) (h2 : σ0 130 2 = 2) (ha : 0 ≤ σ0 131 0 ∧ σ0 131 0 < σ0 131 1 ∧ σ0 131 1 ≤ 99999) (hb : 0 ≤ σ0 132 0 ∧ σ0 132 0 < σ0 132 1 ∧ σ0 132 1 ≤ 99999) (hse : ∀ k, 0 ≤ k → k < N → 0 ≤ σ0 (cu k) 1 ∧ σ0 (cu k) 1 < σ0 (cu k) 2 ∧ σ0 (cu k) 2 ≤ 99999) (j : Int) (h0 : 0 ≤ j) (h1 : j ≤ 24) (hm : yMv (yDrR (σ0 131 0) (σ0 131 1) (σ0 132 0) (σ0 132 1)) N σ0 σ j) (hK : ∀ σ' : ySg, yRg σ' → yMv (yDrR (σ0 131 0) (σ0 131 1) (σ0 132 0) (σ0 132 1)) N σ0 σ' 24 → K (.inl (some (.int (iI (yDf σ0 σ' N))))) (Wd (yup (yup σ' 130 2 0) 0 6 0) X)) : xWP L O mX11_drift (xR 2 0 0) K 25 [(0, .ref 0), (1, .int (iI (yDf σ0 σ N))), (2, .int (iI j))] [] (Wd σ X) 0 0 := by
  have hdb := yDf_bd σ0 σ N hN.2
  refine xw_iload_n 2 dX11_drift_25 rfl ?_
  refine xz_bipush dX11_drift_26 (by decide) ?_
  refine xz_icmp_ge (tgt := 107) dX11_drift_28 (by decide) (by omega) (by omega) (fun c1 => ?_) (fun c1 => ?_)
  · refine xw_aload_n 0 dX11_drift_107 rfl ?_
    refine yz_getr (fo_X11_50 rfl) dX11_drift_108 is_0 rfl ?_
    refine xz_iconst dX11_drift_111 ?_
    refine yz_puti (z := 2) (fp_X11_334 rfl) dX11_drift_112 is_130 rfl rfl ?_
    refine xw_aload_n 0 dX11_drift_115 rfl ?_
    refine xz_iconst dX11_drift_116 ?_
    refine yz_putz (z := 6) (fp_X11_193 rfl) dX11_drift_117 is_0 rfl rfl (Or.inl rfl) ?_
    refine xw_iload_n 1 dX11_drift_120 rfl ?_
    exact xz_iret dX11_drift_121 rfl (Nat.zero_le _) (Nat.zero_le _) (hK σ hr (by rw [show (24 : Int) = j by omega]; exact hm))
  · refine xw_aload_n 0 dX11_drift_31 rfl ?_
    refine yz_getr (fo_X11_37 rfl) dX11_drift_32 is_0 rfl ?_
    refine xw_iload_n 2 dX11_drift_35 rfl ?_
    refine yz_aald 3 dX11_drift_36 (by decide) rfl rfl is_21 (by omega) (by decide) (ks21_get (by omega)) ?_
    refine xw_astore_n (l2 := [(0, .ref 0), (1, .int (iI (yDf σ0 σ N))), (2, .int (iI j)), (3, .ref (cu j))]) dX11_drift_37 (by decide) rfl rfl ?_
    have ht1 := ht j h0 (by omega)
    rw [← hm.th j] at ht1
    have hj1 := hm.at h0 1
    have hj2 := hm.at h0 2
    refine xw_aload_n 3 dX11_drift_38 rfl ?_
    have r2 := hr (cu j) 0
    refine yz_geti (z := 0) (v := σ (cu j) 0) (fo_X11_218 rfl) dX11_drift_39 (is_cu ⟨h0, by omega⟩) rfl rfl rfl ?_
    refine xz_if_eq (tgt := 101) dX11_drift_42 (by decide) (by omega) (fun c3 => ?_) (fun c3 => ?_)
    · refine xz_iinc (l2 := [(0, .ref 0), (1, .int (iI (yDf σ0 σ N))), (2, .int (iI (j + 1))), (3, .ref (cu j))]) 2 dX11_drift_101 rfl (by decide) rfl rfl ?_
      refine xw_goto (tgt := 25) dX11_drift_104 (by decide) ?_
      refine xw_loc [(0, .ref 0), (1, .int (iI (yDf σ0 σ N))), (2, .int (iI (j + 1)))] (fun q9 hq9 => List.mem_append_left ([(3, .ref (cu j))] : List (Nat × Value)) hq9) ?_
      exact l_drift hL hr hN ht h2 ha hb hse (j + 1) (by omega) (by omega) (yMv_skip hm (by omega) h0) hK
    · have hse1 := hse j h0 (by omega)
      have e31 : ∀ i, σ 131 i = σ0 131 i := fun i => hm.2 _ _ (by omega)
      have e32 : ∀ i, σ 132 i = σ0 132 i := fun i => hm.2 _ _ (by omega)
      refine xw_aload_n 0 dX11_drift_45 rfl ?_
      refine yz_getr (fo_X11_50 rfl) dX11_drift_46 is_0 rfl ?_
      refine xw_aload_n 3 dX11_drift_49 rfl ?_
      have r4 := hr (cu j) 1
      refine yz_geti (z := 1) (v := σ (cu j) 1) (fo_X11_221 rfl) dX11_drift_50 (is_cu ⟨h0, by omega⟩) rfl rfl rfl ?_
      refine yc_VE (M' := mX1_moved) (d := 1) (c := 0) (s := 0) (As := [.int (iI (σ (cu j) 1))]) (st := []) dX11_drift_53 okX1_moved (Or.inl w_947) (xBig_i is_130.1) (Wd_get is_130) ⟨by decide, rfl⟩ rfl (Nat.le_of_ble_eq_true rfl) (by decide) (by decide) (Nat.zero_le _) (Nat.zero_le _) (s_X1_moved hL hr (by rw [hm.2 _ _ (by omega)]; exact h2) (by omega) (by rw [e31, e31]; exact ha) (by rw [e32, e32]; exact hb)) (fun v9 G9 h9 => ?_) (fun E9 G9 h9 => ?_)
      · obtain ⟨y5, e9, hy5, e8⟩ := h9
        cases e9
        subst e8
        rw [e31 0, e31 1, e32 0, e32 1] at hy5
        have hyb5 := yMo_bd (f := σ (cu j) 1) (z := y5) hy5 ha hb (by omega)
        refine xz_ldcw (z := 99998) dX11_drift_56 w_952 (by decide) ?_
        refine yc_S (M' := mX11_clamped) (d := 0) (c := 0) (s := 0) (As := [.long (lI y5), .int (iI 99998)]) (st := []) (v0 := some (.int (iI (max 0 (min y5 99998))))) (G2 := Wd σ X) dX11_drift_59 okX11_clamped (Or.inl w_953) rfl (Nat.le_of_ble_eq_true rfl) (by decide) (by decide) (Nat.zero_le _) (Nat.zero_le _) rfl rfl (s_clamped hL (by omega) (by omega)) ?_
        refine xw_istore (l2 := [(0, .ref 0), (1, .int (iI (yDf σ0 σ N))), (2, .int (iI j)), (3, .ref (cu j)), (4, .int (iI (max 0 (min y5 99998))))]) dX11_drift_62 (by decide) rfl rfl ?_
        refine xw_aload_n 0 dX11_drift_64 rfl ?_
        refine yz_getr (fo_X11_50 rfl) dX11_drift_65 is_0 rfl ?_
        refine xw_aload_n 3 dX11_drift_68 rfl ?_
        have r6 := hr (cu j) 2
        refine yz_geti (z := 2) (v := σ (cu j) 2) (fo_X11_224 rfl) dX11_drift_69 (is_cu ⟨h0, by omega⟩) rfl rfl rfl ?_
        refine yc_VE (M' := mX1_moved) (d := 1) (c := 0) (s := 0) (As := [.int (iI (σ (cu j) 2))]) (st := []) dX11_drift_72 okX1_moved (Or.inl w_947) (xBig_i is_130.1) (Wd_get is_130) ⟨by decide, rfl⟩ rfl (Nat.le_of_ble_eq_true rfl) (by decide) (by decide) (Nat.zero_le _) (Nat.zero_le _) (s_X1_moved hL hr (by rw [hm.2 _ _ (by omega)]; exact h2) (by omega) (by rw [e31, e31]; exact ha) (by rw [e32, e32]; exact hb)) (fun v9 G9 h9 => ?_) (fun E9 G9 h9 => ?_)
        · obtain ⟨y7, e9, hy7, e8⟩ := h9
          cases e9
          subst e8
          rw [e31 0, e31 1, e32 0, e32 1] at hy7
          have hyb7 := yMo_bd (f := σ (cu j) 2) (z := y7) hy7 ha hb (by omega)
          refine xz_ldcw (z := 99999) dX11_drift_75 w_728 (by decide) ?_
          refine yc_S (M' := mX11_clamped) (d := 0) (c := 0) (s := 0) (As := [.long (lI y7), .int (iI 99999)]) (st := []) (v0 := some (.int (iI (max 0 (min y7 99999))))) (G2 := Wd σ X) dX11_drift_78 okX11_clamped (Or.inl w_953) rfl (Nat.le_of_ble_eq_true rfl) (by decide) (by decide) (Nat.zero_le _) (Nat.zero_le _) rfl rfl (s_clamped hL (by omega) (by omega)) ?_
          refine xw_istore (l2 := [(0, .ref 0), (1, .int (iI (yDf σ0 σ N))), (2, .int (iI j)), (3, .ref (cu j)), (4, .int (iI (max 0 (min y5 99998)))), (5, .int (iI (max 0 (min y7 99999))))]) dX11_drift_81 (by decide) rfl rfl ?_
          refine xw_iload_n 1 dX11_drift_83 rfl ?_
          refine xw_aload_n 3 dX11_drift_84 rfl ?_
          refine xw_iload 4 dX11_drift_85 rfl ?_
          refine xw_iload 5 dX11_drift_87 rfl ?_
          refine xw_iload 4 dX11_drift_89 rfl ?_
          refine xz_iconst dX11_drift_91 ?_
          refine xz_iadd dX11_drift_92 ?_
          refine xz_mmax dX11_drift_93 w_578 (Nat.le_of_ble_eq_true rfl) (Nat.zero_le _) (Nat.zero_le _) (by omega) (by omega) ?_
          have hva8 : -2147483648 ≤ (max 0 (min y5 99998)) ∧ (max 0 (min y5 99998)) < 2147483648 := by omega
          have hvb8 : -2147483648 ≤ (max (max 0 (min y7 99999)) ((max 0 (min y5 99998)) + 1)) ∧ (max (max 0 (min y7 99999)) ((max 0 (min y5 99998)) + 1)) < 2147483648 := by omega
          refine yc_VE (M' := mX3_moveTo) (d := 0) (c := 0) (s := 0) (As := [.int (iI (max 0 (min y5 99998))), .int (iI (max (max 0 (min y7 99999)) ((max 0 (min y5 99998)) + 1)))]) (st := [.int (iI (yDf σ0 σ N))]) dX11_drift_96 okX3_moveTo (Or.inl w_884) (xBig_i (is_cu ⟨h0, by omega⟩).1) (Wd_get (is_cu ⟨h0, by omega⟩)) ⟨by decide, rfl⟩ rfl (Nat.le_of_ble_eq_true rfl) (by decide) (by decide) (Nat.zero_le _) (Nat.zero_le _) (s_X3_moveTo hL hr ⟨h0, by omega⟩ hva8 hvb8) (fun v9 G9 h9 => ?_) (fun E9 G9 h9 => ?_)
          · obtain ⟨z8, e9, hz8, e8⟩ := h9
            cases e9
            subst e8
            obtain ⟨σ8, em8⟩ : ∃ q, q = yup (yup σ (cu j) 1 (max 0 (min y5 99998))) (cu j) 2 (max (max 0 (min y7 99999)) ((max 0 (min y5 99998)) + 1)) := ⟨_, rfl⟩
            rw [← em8]
            have hr8 : yRg σ8 := by rw [em8]; exact yRg_up (yRg_up hr hva8) hvb8
            have hf8 : yF2 j σ σ8 := fun x y q => by rw [em8, yup_n (fun z => q ⟨z.1, Or.inr z.2⟩), yup_n (fun z => q ⟨z.1, Or.inl z.2⟩)]
            have h18 : σ8 (cu j) 1 = max 0 (min y5 99998) := by rw [em8, yup_k (by decide), yup_s]
            have h28 : σ8 (cu j) 2 = max (max 0 (min y7 99999)) ((max 0 (min y5 99998)) + 1) := by rw [em8, yup_s]
            refine xz_iadd dX11_drift_99 ?_
            refine xw_istore_n (l2 := [(0, .ref 0), (1, .int (iI ((yDf σ0 σ N) + z8))), (2, .int (iI j)), (3, .ref (cu j)), (4, .int (iI (max 0 (min y5 99998)))), (5, .int (iI (max 0 (min y7 99999))))]) dX11_drift_100 (by decide) rfl rfl ?_
            refine xz_iinc (l2 := [(0, .ref 0), (1, .int (iI ((yDf σ0 σ N) + z8))), (2, .int (iI (j + 1))), (3, .ref (cu j)), (4, .int (iI (max 0 (min y5 99998)))), (5, .int (iI (max 0 (min y7 99999))))]) 2 dX11_drift_101 rfl (by decide) rfl rfl ?_
            refine xw_goto (tgt := 25) dX11_drift_104 (by decide) ?_
            refine xw_loc [(0, .ref 0), (1, .int (iI ((yDf σ0 σ N) + z8))), (2, .int (iI (j + 1)))] (fun q9 hq9 => List.mem_append_left ([(3, .ref (cu j)), (4, .int (iI (max 0 (min y5 99998)))), (5, .int (iI (max 0 (min y7 99999))))] : List (Nat × Value)) hq9) ?_
            have hD := yDf_one (σ0 := σ0) (N := N) hf8 ⟨h0, by omega⟩
            have hT0 : yTd σ0 σ j = 0 := by unfold yTd; rw [hj1, hj2, yne_0 rfl, yne_0 rfl]; rfl
            have hT1 : yTd σ0 σ8 j = z8 := by
              unfold yTd
              rw [h18, h28, ← hj1, ← hj2]
              rcases hz8 with q | q | q | q <;> (unfold yne; split <;> split <;> omega)
            rw [show (yDf σ0 σ N) + z8 = yDf σ0 σ8 N by omega]
            exact l_drift hL hr8 hN ht h2 ha hb hse (j + 1) (by omega) (by omega) (yMv_step hm h0 (by omega) hf8 ⟨y5, y7, by rw [← hj1]; exact hy5, by rw [← hj2]; exact hy7, h18, by rw [h18, h28]⟩) hK
          · obtain ⟨_, e9, _⟩ := h9
            cases e9
        · obtain ⟨_, e9, _⟩ := h9
          cases e9
      · obtain ⟨_, e9, _⟩ := h9
        cases e9
termination_by (24 - j).toNat
theorem s_drift (hL : L.stackTraces = false) {σ0 : ySg} {N : Int} (hr : yRg σ0) (hN : 0 ≤ N ∧ N ≤ 24) (ht : yTh σ0 N) (h2 : σ0 130 2 = 2) (ha : 0 ≤ σ0 131 0 ∧ σ0 131 0 < σ0 131 1 ∧ σ0 131 1 ≤ 99999) (hb : 0 ≤ σ0 132 0 ∧ σ0 132 0 < σ0 132 1 ∧ σ0 132 1 ≤ 99999) (hse : ∀ k, 0 ≤ k → k < N → 0 ≤ σ0 (cu k) 1 ∧ σ0 (cu k) 1 < σ0 (cu k) 2 ∧ σ0 (cu k) 2 ≤ 99999) : xMet L O mX11_drift (xR 2 0 0) [.ref 0] (Wd σ0 X) (fun o G1 => ∃ σ' : ySg, o = .inl (some (.int (iI (yDf σ0 σ' N)))) ∧ yRg σ' ∧ yMv (yDrR (σ0 131 0) (σ0 131 1) (σ0 132 0) (σ0 132 1)) N σ0 σ' 24 ∧ G1 = Wd (yup (yup σ' 130 2 0) 0 6 0) X) := xMet_of (by decide) hL (Nat.le_of_ble_eq_true rfl) (by
  refine xw_eq rfl (l2 := [(0, .ref 0)]) rfl rfl rfl ?_
  refine xw_aload_n 0 dX11_drift_0 rfl ?_
  refine yz_getr (fo_X11_50 rfl) dX11_drift_1 is_0 rfl ?_
  refine yz_geti (z := 2) (v := 2) (fo_X11_334 rfl) dX11_drift_4 is_130 rfl rfl h2 ?_
  refine xz_if_gt (tgt := 21) dX11_drift_7 (by decide) (by omega) (fun c1 => ?_) (fun c1 => ?_)
  · refine xz_iconst dX11_drift_21 ?_
    refine xw_istore_n (l2 := [(0, .ref 0), (1, .int (iI 0))]) dX11_drift_22 (by decide) rfl rfl ?_
    refine xz_iconst dX11_drift_23 ?_
    refine xw_istore_n (l2 := [(0, .ref 0), (1, .int (iI 0)), (2, .int (iI 0))]) dX11_drift_24 (by decide) rfl rfl ?_
    refine xw_eq rfl (l2 := [(0, .ref 0), (1, .int (iI (yDf σ0 σ0 N))), (2, .int (iI 0))]) (by rw [yDf_0]) rfl rfl ?_
    exact l_drift hL hr hN ht h2 ha hb hse 0 (by omega) (by omega) yMv_0 (fun σ' a b => ⟨σ', rfl, a, b, rfl⟩)
  · exact absurd c1 (by omega))
theorem t_drift (hL : L.stackTraces = false) (hX : X.length ≤ 1000000) (h2 : σ 130 2 = 0) : xMet L O mX11_drift (xR 2 1 6) [.ref 0] (Wd σ X) (fun o G1 => o = .inr "java/lang/IllegalStateException" ∧ G1 = Wd σ (X ++ [(127, [])])) := xMet_of (by decide) hL (Nat.le_of_ble_eq_true rfl) (by
  refine xw_eq rfl (l2 := [(0, .ref 0)]) rfl rfl rfl ?_
  refine xw_aload_n 0 dX11_drift_0 rfl ?_
  refine yz_getr (fo_X11_50 rfl) dX11_drift_1 is_0 rfl ?_
  refine yz_geti (z := 2) (v := 0) (fo_X11_334 rfl) dX11_drift_4 is_130 rfl rfl h2 ?_
  refine xz_if_gt (tgt := 21) dX11_drift_7 (by decide) (by omega) (fun c1 => ?_) (fun c1 => ?_)
  · exact absurd c1 (by omega)
  · exact yt_X11_125_340_129 rfl dX11_drift_10 dX11_drift_13 dX11_drift_14 dX11_drift_17 dX11_drift_20 rfl (Nat.le_of_ble_eq_true rfl) (Nat.le_of_ble_eq_true rfl) (Nat.le_of_ble_eq_true rfl) hX ⟨rfl, rfl⟩)
theorem ydm {a b n d : Int} (ha : 0 ≤ a) (hab : a ≤ b) (hn : 0 ≤ n) (hd : 0 < d) : 0 ≤ a * n / d ∧ a * n / d ≤ b * n / d ∧ 0 ≤ a * n ∧ a * n ≤ b * n := by
  have h1 : 0 ≤ a * n := Int.mul_nonneg ha hn
  have h2 : a * n ≤ b * n := Int.mul_le_mul_of_nonneg_right hab hn
  exact ⟨Int.ediv_nonneg h1 (by omega), Int.ediv_le_ediv hd h2, h1, h2⟩
def yCoR (n d : Int) (S E S' E' : Int) : Prop := S' = S * n / d ∧ E' = max (E * n / d) (S' + 1)
theorem yGr_fit {N cc g n d : Int} (h : yGr σ N cc g) (hE : ∀ k, 0 ≤ k → k < N → σ (cu k) 2 * n / d ≤ 99999) (hC : ∀ k, 0 ≤ k → k < cc → σ 129 k * n / d ≤ 99999) : g * n / d ≤ 99999 := by
  rcases h.2.2.2 with q | ⟨k, q1, q2, q3⟩ | ⟨k, q1, q2, q3⟩
  · rw [q, Int.zero_mul, Int.zero_ediv]; omega
  · rw [q3]; exact hE k q1 q2
  · rw [q3]; exact hC k q1 q2
theorem yGr_bd {N cc g : Int} (h : yGr σ N cc g) (hE : ∀ k, 0 ≤ k → k < N → σ (cu k) 2 ≤ 99999) (hC : ∀ k, 0 ≤ k → k < cc → σ 129 k ≤ 99999) : 0 ≤ g ∧ g ≤ 99999 := by
  refine ⟨h.1, ?_⟩
  rcases h.2.2.2 with q | ⟨k, q1, q2, q3⟩ | ⟨k, q1, q2, q3⟩
  · omega
  · rw [q3]; exact hE k q1 q2
  · rw [q3]; exact hC k q1 q2
theorem yGr_un {N cc g n d : Int} (h : yGr σ N cc g) (hn : 0 ≤ n) (hd : 0 < d) (h0 : ∀ k, 0 ≤ k → k < N → 0 ≤ σ (cu k) 2) (h1 : ∀ k, 0 ≤ k → k < cc → 0 ≤ σ 129 k) (hx : (∃ k, 0 ≤ k ∧ k < N ∧ 99999 < σ (cu k) 2 * n / d) ∨ ∃ k, 0 ≤ k ∧ k < cc ∧ 99999 < σ 129 k * n / d) : 99999 < g * n / d := by
  rcases hx with ⟨k, q1, q2, q3⟩ | ⟨k, q1, q2, q3⟩
  · have := ydm (h0 k q1 q2) (h.2.1 k q1 q2) hn hd; omega
  · have := ydm (h1 k q1 q2) (h.2.2.1 k q1 q2) hn hd; omega
theorem l_convert (hL : L.stackTraces = false) {σ0 σ : ySg} {N n d : Int} (hr : yRg σ) (hN : 0 ≤ N ∧ N ≤ 24) (ht : yTh σ0 N) (hc : 0 ≤ σ0 128 1 ∧ σ0 128 1 ≤ 20) (hC : ∀ i, 0 ≤ i → i < σ0 128 1 → 0 ≤ σ0 129 i ∧ σ0 129 i ≤ 99999) (hse : ∀ k, 0 ≤ k → k < N → 0 ≤ σ0 (cu k) 1 ∧ σ0 (cu k) 1 < σ0 (cu k) 2 ∧ σ0 (cu k) 2 ≤ 99999) (hh : σ0 186 2 = 0) (hn : 1 ≤ n ∧ n ≤ 1001) (hd : 1 ≤ d ∧ d ≤ 1001) (fE : ∀ k, 0 ≤ k → k < N → σ0 (cu k) 2 * n / d ≤ 99999) (fC : ∀ k, 0 ≤ k → k < σ0 128 1 → σ0 129 k * n / d ≤ 99999) (j : Int) (h0 : 0 ≤ j) (h1 : j ≤ 24) (hm : yMv (yCoR n d) N σ0 σ j) (hK : ∀ σ' : ySg, yRg σ' → (∀ k, 0 ≤ k → k < N → yCoR n d (σ0 (cu k) 1) (σ0 (cu k) 2) (σ' (cu k) 1) (σ' (cu k) 2)) → (∀ i, 0 ≤ i → i < σ0 128 1 → σ' 129 i = σ0 129 i * n / d) → σ' 0 6 = 0 → (∀ x y, ¬ (32 ≤ x ∧ x < 32 + 4 * N.toNat ∧ x % 4 = 0 ∧ (y = 1 ∨ y = 2)) → ¬ (x = 129 ∧ 0 ≤ y ∧ y < σ0 128 1) → ¬ (x = 0 ∧ y = 6) → σ' x y = σ0 x y) → K (.inl (some (.int (iI N)))) (Wd σ' X)) : xWP L O mX11_convert (xR 2 0 0) K 62 [(0, .ref 0), (1, .int (iI n)), (2, .int (iI d)), (3, .int (iI j))] [] (Wd σ X) 0 0 := by
  refine xw_iload_n 3 dX11_convert_62 rfl ?_
  refine xz_bipush dX11_convert_63 (by decide) ?_
  refine xz_icmp_ge (tgt := 135) dX11_convert_65 (by decide) (by omega) (by omega) (fun c1 => ?_) (fun c1 => ?_)
  · refine xw_aload_n 0 dX11_convert_135 rfl ?_
    refine yz_getr (fo_X11_43 rfl) dX11_convert_136 is_0 rfl ?_
    refine yz_getr (fo_X11_319 rfl) dX11_convert_139 is_128 rfl ?_
    refine xw_aload_n 0 dX11_convert_142 rfl ?_
    refine yz_getr (fo_X11_43 rfl) dX11_convert_143 is_0 rfl ?_
    refine yz_geti (z := 1) (v := σ0 128 1) (fo_X11_251 rfl) dX11_convert_146 is_128 rfl rfl (hm.2 _ _ (by omega)) ?_
    refine xw_iload_n 1 dX11_convert_149 rfl ?_
    refine xw_iload_n 2 dX11_convert_150 rfl ?_
    have e129 : ∀ i, σ 129 i = σ0 129 i := fun i => hm.2 _ _ (by omega)
    refine yc_SE (M' := mX11_scaleAll) (d := 1) (c := 0) (s := 0) (As := [.ref 129, .int (iI (σ0 128 1)), .int (iI n), .int (iI d)]) (st := []) dX11_convert_151 okX11_scaleAll (Or.inl w_925) rfl (Nat.le_of_ble_eq_true rfl) (by decide) (by decide) (Nat.zero_le _) (Nat.zero_le _) (s_scaleAll hL hr hc hn hd (fun i a1 a2 => by rw [e129]; have q := hC i a1 a2; have q2 := fC i a1 a2; have q3 := ydm (a := σ0 129 i) (b := 99999) (n := n) (d := d) q.1 q.2 (by omega) (by omega); omega)) (fun v9 G9 h9 => ?_) (fun E9 G9 h9 => ?_)
    · obtain ⟨σ2, e9, hr2, hc2, hf2, e8⟩ := h9
      cases e9
      subst e8
      refine xw_aload_n 0 dX11_convert_154 rfl ?_
      refine yz_getr (fo_X11_64 rfl) dX11_convert_155 is_0 rfl ?_
      refine yz_getr (fo_X11_326 rfl) dX11_convert_158 is_186 rfl ?_
      refine xw_aload_n 0 dX11_convert_161 rfl ?_
      refine yz_getr (fo_X11_64 rfl) dX11_convert_162 is_0 rfl ?_
      refine yz_geti (z := 2) (v := 0) (fo_X11_327 rfl) dX11_convert_165 is_186 rfl rfl ((hf2 _ _ (by omega)).trans ((hm.2 _ _ (by omega)).trans hh)) ?_
      refine xw_iload_n 1 dX11_convert_168 rfl ?_
      refine xw_iload_n 2 dX11_convert_169 rfl ?_
      refine yc_S (M' := mX11_scaleAll) (d := 1) (c := 0) (s := 0) (As := [.ref 187, .int (iI 0), .int (iI n), .int (iI d)]) (st := []) (v0 := none) (G2 := Wd σ2 X) dX11_convert_170 okX11_scaleAll (Or.inl w_925) rfl (Nat.le_of_ble_eq_true rfl) (by decide) (by decide) (Nat.zero_le _) (Nat.zero_le _) rfl rfl (s_scaleAll0 hL) ?_
      refine xw_aload_n 0 dX11_convert_173 rfl ?_
      refine xz_iconst dX11_convert_174 ?_
      refine yz_putz (z := 6) (fp_X11_193 rfl) dX11_convert_175 is_0 rfl rfl (Or.inl rfl) ?_
      refine xw_aload_n 0 dX11_convert_178 rfl ?_
      refine yc_V (M' := mX11_cues) (d := 0) (c := 0) (s := 0) (As := []) (st := []) (v0 := some (.int (iI N))) (G2 := Wd (yup σ2 0 6 0) X) dX11_convert_179 okX11_cues (Or.inl w_928) (xBig_i is_0.1) (Wd_get is_0) ⟨by decide, rfl⟩ rfl (Nat.le_of_ble_eq_true rfl) (by decide) (by decide) (Nat.zero_le _) (Nat.zero_le _) rfl rfl (s_cues hL (yRg_up hr2 (by omega)) hN (fun k a1 a2 => by rw [yup_i (by unfold cu; omega), hf2 _ _ (by unfold cu; omega), hm.th k]; exact ht k a1 a2)) ?_
      exact xz_iret dX11_convert_182 rfl (Nat.zero_le _) (Nat.zero_le _) (by
        refine hK _ (yRg_up hr2 (by omega)) (fun k a1 a2 => ?_) (fun i a1 a2 => ?_) yup_s (fun x y q1 q2 q3 => ?_)
        · rw [yup_i (by unfold cu; omega), yup_i (by unfold cu; omega), hf2 _ _ (by unfold cu; omega), hf2 _ _ (by unfold cu; omega)]
          exact hm.1 k a1 (by omega) a2
        · rw [yup_i (by decide), hc2 i a1 a2, e129]
        · rw [yup_n q3, hf2 x y q2]
          exact hm.2 x y (fun z => q1 ⟨z.1, by omega, z.2.2⟩))
    · obtain ⟨_, e9, _⟩ := h9
      cases e9
  · refine xw_aload_n 0 dX11_convert_68 rfl ?_
    refine yz_getr (fo_X11_37 rfl) dX11_convert_69 is_0 rfl ?_
    refine xw_iload_n 3 dX11_convert_72 rfl ?_
    refine yz_aald 3 dX11_convert_73 (by decide) rfl rfl is_21 (by omega) (by decide) (ks21_get (by omega)) ?_
    refine xw_astore (l2 := [(0, .ref 0), (1, .int (iI n)), (2, .int (iI d)), (3, .int (iI j)), (4, .ref (cu j))]) dX11_convert_74 (by decide) rfl rfl ?_
    have ht1 := ht j h0 (by omega)
    rw [← hm.th j] at ht1
    have hj1 := hm.at h0 1
    have hj2 := hm.at h0 2
    refine xw_aload 4 dX11_convert_76 rfl ?_
    have r3 := hr (cu j) 0
    refine yz_geti (z := 0) (v := σ (cu j) 0) (fo_X11_218 rfl) dX11_convert_78 (is_cu ⟨h0, by omega⟩) rfl rfl rfl ?_
    refine xz_if_eq (tgt := 129) dX11_convert_81 (by decide) (by omega) (fun c4 => ?_) (fun c4 => ?_)
    · refine xz_iinc (l2 := [(0, .ref 0), (1, .int (iI n)), (2, .int (iI d)), (3, .int (iI (j + 1))), (4, .ref (cu j))]) 3 dX11_convert_129 rfl (by decide) rfl rfl ?_
      refine xw_goto (tgt := 62) dX11_convert_132 (by decide) ?_
      refine xw_loc [(0, .ref 0), (1, .int (iI n)), (2, .int (iI d)), (3, .int (iI (j + 1)))] (fun q9 hq9 => List.mem_append_left ([(4, .ref (cu j))] : List (Nat × Value)) hq9) ?_
      exact l_convert hL hr hN ht hc hC hse hh hn hd fE fC (j + 1) (by omega) (by omega) (yMv_skip hm (by omega) h0) hK
    · have hse1 := hse j h0 (by omega)
      rw [← hj1, ← hj2] at hse1
      have fE1 := fE j h0 (by omega)
      rw [← hj2] at fE1
      have hd1 := ydm (n := n) (d := d) hse1.1 (Int.le_of_lt hse1.2.1) (by omega) (by omega)
      have hd2 := ydm (a := σ (cu j) 2) (b := 99999) (n := n) (d := d) (by omega) hse1.2.2 (by omega) (by omega)
      refine xw_aload 4 dX11_convert_84 rfl ?_
      have r5 := hr (cu j) 1
      refine yz_geti (z := 1) (v := σ (cu j) 1) (fo_X11_221 rfl) dX11_convert_86 (is_cu ⟨h0, by omega⟩) rfl rfl rfl ?_
      refine xz_i2l dX11_convert_89 (by omega) ?_
      refine xw_iload_n 1 dX11_convert_90 rfl ?_
      refine xz_i2l dX11_convert_91 (by omega) ?_
      refine xw_iload_n 2 dX11_convert_92 rfl ?_
      refine xz_i2l dX11_convert_93 (by omega) ?_
      refine yc_S (M' := mX11_scaled) (d := 0) (c := 0) (s := 0) (As := [.long (lI (σ (cu j) 1)), .long (lI n), .long (lI d)]) (st := []) (v0 := some (.long (lI ((σ (cu j) 1) * n / d)))) (G2 := Wd σ X) dX11_convert_94 okX11_scaled (Or.inl w_905) rfl (Nat.le_of_ble_eq_true rfl) (by decide) (by decide) (Nat.zero_le _) (Nat.zero_le _) rfl rfl (s_scaled hL (by omega) (by omega)) ?_
      refine xz_l2i dX11_convert_97 (by omega) ?_
      refine xw_istore (l2 := [(0, .ref 0), (1, .int (iI n)), (2, .int (iI d)), (3, .int (iI j)), (4, .ref (cu j)), (5, .int (iI ((σ (cu j) 1) * n / d)))]) dX11_convert_98 (by decide) rfl rfl ?_
      refine xw_aload 4 dX11_convert_100 rfl ?_
      refine xw_iload 5 dX11_convert_102 rfl ?_
      refine xw_aload 4 dX11_convert_104 rfl ?_
      have r6 := hr (cu j) 2
      refine yz_geti (z := 2) (v := σ (cu j) 2) (fo_X11_224 rfl) dX11_convert_106 (is_cu ⟨h0, by omega⟩) rfl rfl rfl ?_
      refine xz_i2l dX11_convert_109 (by omega) ?_
      refine xw_iload_n 1 dX11_convert_110 rfl ?_
      refine xz_i2l dX11_convert_111 (by omega) ?_
      refine xw_iload_n 2 dX11_convert_112 rfl ?_
      refine xz_i2l dX11_convert_113 (by omega) ?_
      refine yc_S (M' := mX11_scaled) (d := 0) (c := 0) (s := 0) (As := [.long (lI (σ (cu j) 2)), .long (lI n), .long (lI d)]) (st := [.int (iI ((σ (cu j) 1) * n / d)), .ref (cu j)]) (v0 := some (.long (lI ((σ (cu j) 2) * n / d)))) (G2 := Wd σ X) dX11_convert_114 okX11_scaled (Or.inl w_905) rfl (Nat.le_of_ble_eq_true rfl) (by decide) (by decide) (Nat.zero_le _) (Nat.zero_le _) rfl rfl (s_scaled hL (by omega) (by omega)) ?_
      refine xz_l2i dX11_convert_117 (by omega) ?_
      refine xw_iload 5 dX11_convert_118 rfl ?_
      refine xz_iconst dX11_convert_120 ?_
      refine xz_iadd dX11_convert_121 ?_
      refine xz_mmax dX11_convert_122 w_578 (Nat.le_of_ble_eq_true rfl) (Nat.zero_le _) (Nat.zero_le _) (by omega) (by omega) ?_
      have hva7 : -2147483648 ≤ ((σ (cu j) 1) * n / d) ∧ ((σ (cu j) 1) * n / d) < 2147483648 := by omega
      have hvb7 : -2147483648 ≤ (max ((σ (cu j) 2) * n / d) (((σ (cu j) 1) * n / d) + 1)) ∧ (max ((σ (cu j) 2) * n / d) (((σ (cu j) 1) * n / d) + 1)) < 2147483648 := by omega
      refine yc_VE (M' := mX3_moveTo) (d := 0) (c := 0) (s := 0) (As := [.int (iI ((σ (cu j) 1) * n / d)), .int (iI (max ((σ (cu j) 2) * n / d) (((σ (cu j) 1) * n / d) + 1)))]) (st := []) dX11_convert_125 okX3_moveTo (Or.inl w_884) (xBig_i (is_cu ⟨h0, by omega⟩).1) (Wd_get (is_cu ⟨h0, by omega⟩)) ⟨by decide, rfl⟩ rfl (Nat.le_of_ble_eq_true rfl) (by decide) (by decide) (Nat.zero_le _) (Nat.zero_le _) (s_X3_moveTo hL hr ⟨h0, by omega⟩ hva7 hvb7) (fun v9 G9 h9 => ?_) (fun E9 G9 h9 => ?_)
      · obtain ⟨z7, e9, hz7, e8⟩ := h9
        cases e9
        subst e8
        obtain ⟨σ7, em7⟩ : ∃ q, q = yup (yup σ (cu j) 1 ((σ (cu j) 1) * n / d)) (cu j) 2 (max ((σ (cu j) 2) * n / d) (((σ (cu j) 1) * n / d) + 1)) := ⟨_, rfl⟩
        rw [← em7]
        have hr7 : yRg σ7 := by rw [em7]; exact yRg_up (yRg_up hr hva7) hvb7
        have hf7 : yF2 j σ σ7 := fun x y q => by rw [em7, yup_n (fun z => q ⟨z.1, Or.inr z.2⟩), yup_n (fun z => q ⟨z.1, Or.inl z.2⟩)]
        have h17 : σ7 (cu j) 1 = (σ (cu j) 1) * n / d := by rw [em7, yup_k (by decide), yup_s]
        have h27 : σ7 (cu j) 2 = max ((σ (cu j) 2) * n / d) (((σ (cu j) 1) * n / d) + 1) := by rw [em7, yup_s]
        refine xw_pop dX11_convert_128 rfl ?_
        refine xz_iinc (l2 := [(0, .ref 0), (1, .int (iI n)), (2, .int (iI d)), (3, .int (iI (j + 1))), (4, .ref (cu j)), (5, .int (iI ((σ (cu j) 1) * n / d)))]) 3 dX11_convert_129 rfl (by decide) rfl rfl ?_
        refine xw_goto (tgt := 62) dX11_convert_132 (by decide) ?_
        refine xw_loc [(0, .ref 0), (1, .int (iI n)), (2, .int (iI d)), (3, .int (iI (j + 1)))] (fun q9 hq9 => List.mem_append_left ([(4, .ref (cu j)), (5, .int (iI ((σ (cu j) 1) * n / d)))] : List (Nat × Value)) hq9) ?_
        exact l_convert hL hr7 hN ht hc hC hse hh hn hd fE fC (j + 1) (by omega) (by omega) (yMv_step hm h0 (by omega) hf7 ⟨by rw [h17, hj1], by rw [h17, h27, hj1, hj2]⟩) hK
      · obtain ⟨_, e9, _⟩ := h9
        cases e9
termination_by (24 - j).toNat
theorem s_convert (hL : L.stackTraces = false) {σ0 : ySg} {N n d : Int} (hr : yRg σ0) (hN : 0 ≤ N ∧ N ≤ 24) (ht : yTh σ0 N) (hc : 0 ≤ σ0 128 1 ∧ σ0 128 1 ≤ 20) (hC : ∀ i, 0 ≤ i → i < σ0 128 1 → 0 ≤ σ0 129 i ∧ σ0 129 i ≤ 99999) (hse : ∀ k, 0 ≤ k → k < N → 0 ≤ σ0 (cu k) 1 ∧ σ0 (cu k) 1 < σ0 (cu k) 2 ∧ σ0 (cu k) 2 ≤ 99999) (hh : σ0 186 2 = 0) (hn : 1 ≤ n ∧ n ≤ 1001) (hd : 1 ≤ d ∧ d ≤ 1001) (fE : ∀ k, 0 ≤ k → k < N → σ0 (cu k) 2 * n / d ≤ 99999) (fC : ∀ k, 0 ≤ k → k < σ0 128 1 → σ0 129 k * n / d ≤ 99999) : xMet L O mX11_convert (xR 2 0 0) [.ref 0, .int (iI n), .int (iI d)] (Wd σ0 X) (fun o G1 => ∃ σ' : ySg, o = .inl (some (.int (iI N))) ∧ yRg σ' ∧ (∀ k, 0 ≤ k → k < N → yCoR n d (σ0 (cu k) 1) (σ0 (cu k) 2) (σ' (cu k) 1) (σ' (cu k) 2)) ∧ (∀ i, 0 ≤ i → i < σ0 128 1 → σ' 129 i = σ0 129 i * n / d) ∧ σ' 0 6 = 0 ∧ (∀ x y, ¬ (32 ≤ x ∧ x < 32 + 4 * N.toNat ∧ x % 4 = 0 ∧ (y = 1 ∨ y = 2)) → ¬ (x = 129 ∧ 0 ≤ y ∧ y < σ0 128 1) → ¬ (x = 0 ∧ y = 6) → σ' x y = σ0 x y) ∧ G1 = Wd σ' X) := xMet_of (by decide) hL (Nat.le_of_ble_eq_true rfl) (by
  refine xw_eq rfl (l2 := [(0, .ref 0), (1, .int (iI n)), (2, .int (iI d))]) rfl rfl rfl ?_
  refine xw_iload_n 1 dX11_convert_0 rfl ?_
  refine xz_iconst dX11_convert_1 ?_
  refine xz_sipush dX11_convert_2 (by decide) ?_
  refine yc_S (M' := mX11_isIn) (d := 0) (c := 0) (s := 0) (As := [.int (iI n), .int (iI 1), .int (iI 1001)]) (st := []) (v0 := some (.int (iI 1))) (G2 := Wd σ0 X) dX11_convert_5 okX11_isIn (Or.inl w_729) rfl (Nat.le_of_ble_eq_true rfl) (by decide) (by decide) (Nat.zero_le _) (Nat.zero_le _) rfl rfl (s_isIn1 hL (by omega) (by decide) (by decide) (by omega)) ?_
  refine xz_if_eq (tgt := 26) dX11_convert_8 (by decide) (by omega) (fun c1 => ?_) (fun c1 => ?_)
  · exact absurd c1 (by omega)
  · refine xw_iload_n 2 dX11_convert_11 rfl ?_
    refine xz_iconst dX11_convert_12 ?_
    refine xz_sipush dX11_convert_13 (by decide) ?_
    refine yc_S (M' := mX11_isIn) (d := 0) (c := 0) (s := 0) (As := [.int (iI d), .int (iI 1), .int (iI 1001)]) (st := []) (v0 := some (.int (iI 1))) (G2 := Wd σ0 X) dX11_convert_16 okX11_isIn (Or.inl w_729) rfl (Nat.le_of_ble_eq_true rfl) (by decide) (by decide) (Nat.zero_le _) (Nat.zero_le _) rfl rfl (s_isIn1 hL (by omega) (by decide) (by decide) (by omega)) ?_
    refine xz_if_eq (tgt := 26) dX11_convert_19 (by decide) (by omega) (fun c2 => ?_) (fun c2 => ?_)
    · exact absurd c2 (by omega)
    · refine xz_iconst dX11_convert_22 ?_
      refine xw_goto (tgt := 27) dX11_convert_23 (by decide) ?_
      refine yc_S (M' := mX11_needArgument) (d := 0) (c := 0) (s := 0) (As := [.int (iI 1)]) (st := []) (v0 := none) (G2 := Wd σ0 X) dX11_convert_27 okX11_needArgument (Or.inl w_749) rfl (Nat.le_of_ble_eq_true rfl) (by decide) (by decide) (Nat.zero_le _) (Nat.zero_le _) rfl rfl (s_needArg1 hL) ?_
      refine xw_aload_n 0 dX11_convert_30 rfl ?_
      refine yc_VE (M' := mX11_greatestFrame) (d := 0) (c := 0) (s := 0) (As := []) (st := []) dX11_convert_31 okX11_greatestFrame (Or.inl w_901) (xBig_i is_0.1) (Wd_get is_0) ⟨by decide, rfl⟩ rfl (Nat.le_of_ble_eq_true rfl) (by decide) (by decide) (Nat.zero_le _) (Nat.zero_le _) (s_greatestFrame hL hr hN hc hh ht) (fun v9 G9 h9 => ?_) (fun E9 G9 h9 => ?_)
      · obtain ⟨g, e9, hg, e8⟩ := h9
        cases e9
        subst e8
        have hgb := yGr_bd hg (fun k a1 a2 => (hse k a1 a2).2.2) (fun k a1 a2 => (hC k a1 a2).2)
        have hgm := ydm (a := g) (b := 99999) (n := n) (d := d) hgb.1 hgb.2 (by omega) (by omega)
        have hgf := yGr_fit hg fE fC
        refine xz_i2l dX11_convert_34 (by omega) ?_
        refine xw_iload_n 1 dX11_convert_35 rfl ?_
        refine xz_i2l dX11_convert_36 (by omega) ?_
        refine xw_iload_n 2 dX11_convert_37 rfl ?_
        refine xz_i2l dX11_convert_38 (by omega) ?_
        refine yc_S (M' := mX11_scaled) (d := 0) (c := 0) (s := 0) (As := [.long (lI g), .long (lI n), .long (lI d)]) (st := []) (v0 := some (.long (lI (g * n / d)))) (G2 := Wd σ0 X) dX11_convert_39 okX11_scaled (Or.inl w_905) rfl (Nat.le_of_ble_eq_true rfl) (by decide) (by decide) (Nat.zero_le _) (Nat.zero_le _) rfl rfl (s_scaled hL (by omega) (by omega)) ?_
        refine xz_ldc2 (z := 99999) dX11_convert_42 w_908 (by decide) ?_
        have hq2 : g * n / d ≤ g * n := Int.ediv_le_self d hgm.2.2.1
        have hcm : ((g * n / d) ≤ 99999 ∧ cmpI (g * n / d) 99999 ≤ 0 ∧ -1 ≤ cmpI (g * n / d) 99999) ∨ (99999 < (g * n / d) ∧ cmpI (g * n / d) 99999 = 1) := by unfold cmpI; split <;> (try split) <;> omega
        refine xz_lcmp dX11_convert_45 (by omega) (by omega) ?_
        refine xz_if_le (tgt := 60) dX11_convert_46 (by decide) (by omega) (fun c4 => ?_) (fun c4 => ?_)
        · refine xz_iconst dX11_convert_60 ?_
          refine xw_istore_n (l2 := [(0, .ref 0), (1, .int (iI n)), (2, .int (iI d)), (3, .int (iI 0))]) dX11_convert_61 (by decide) rfl rfl ?_
          exact l_convert hL hr hN ht hc hC hse hh hn hd fE fC 0 (by omega) (by omega) yMv_0 (fun σ' a b c e f => ⟨σ', rfl, a, b, c, e, f, rfl⟩)
        · exact absurd c4 (by omega)
      · obtain ⟨_, e9, _⟩ := h9
        cases e9)
theorem u_convert (hL : L.stackTraces = false) (hX : X.length ≤ 1000000) {σ0 : ySg} {N n d : Int} (hr : yRg σ0) (hN : 0 ≤ N ∧ N ≤ 24) (ht : yTh σ0 N) (hc : 0 ≤ σ0 128 1 ∧ σ0 128 1 ≤ 20) (hC : ∀ i, 0 ≤ i → i < σ0 128 1 → 0 ≤ σ0 129 i ∧ σ0 129 i ≤ 99999) (hse : ∀ k, 0 ≤ k → k < N → 0 ≤ σ0 (cu k) 1 ∧ σ0 (cu k) 1 < σ0 (cu k) 2 ∧ σ0 (cu k) 2 ≤ 99999) (hh : σ0 186 2 = 0) (hn : 1 ≤ n ∧ n ≤ 1001) (hd : 1 ≤ d ∧ d ≤ 1001) (hx : (∃ k, 0 ≤ k ∧ k < N ∧ 99999 < σ0 (cu k) 2 * n / d) ∨ ∃ k, 0 ≤ k ∧ k < σ0 128 1 ∧ 99999 < σ0 129 k * n / d) : xMet L O mX11_convert (xR 2 1 6) [.ref 0, .int (iI n), .int (iI d)] (Wd σ0 X) (fun o G1 => o = .inr "java/lang/UnsupportedOperationException" ∧ G1 = Wd σ0 (X ++ [(127, [])])) := xMet_of (by decide) hL (Nat.le_of_ble_eq_true rfl) (by
  refine xw_eq rfl (l2 := [(0, .ref 0), (1, .int (iI n)), (2, .int (iI d))]) rfl rfl rfl ?_
  refine xw_iload_n 1 dX11_convert_0 rfl ?_
  refine xz_iconst dX11_convert_1 ?_
  refine xz_sipush dX11_convert_2 (by decide) ?_
  refine yc_S (M' := mX11_isIn) (d := 0) (c := 0) (s := 0) (As := [.int (iI n), .int (iI 1), .int (iI 1001)]) (st := []) (v0 := some (.int (iI 1))) (G2 := Wd σ0 X) dX11_convert_5 okX11_isIn (Or.inl w_729) rfl (Nat.le_of_ble_eq_true rfl) (by decide) (by decide) (Nat.zero_le _) (Nat.zero_le _) rfl rfl (s_isIn1 hL (by omega) (by decide) (by decide) (by omega)) ?_
  refine xz_if_eq (tgt := 26) dX11_convert_8 (by decide) (by omega) (fun c1 => ?_) (fun c1 => ?_)
  · exact absurd c1 (by omega)
  · refine xw_iload_n 2 dX11_convert_11 rfl ?_
    refine xz_iconst dX11_convert_12 ?_
    refine xz_sipush dX11_convert_13 (by decide) ?_
    refine yc_S (M' := mX11_isIn) (d := 0) (c := 0) (s := 0) (As := [.int (iI d), .int (iI 1), .int (iI 1001)]) (st := []) (v0 := some (.int (iI 1))) (G2 := Wd σ0 X) dX11_convert_16 okX11_isIn (Or.inl w_729) rfl (Nat.le_of_ble_eq_true rfl) (by decide) (by decide) (Nat.zero_le _) (Nat.zero_le _) rfl rfl (s_isIn1 hL (by omega) (by decide) (by decide) (by omega)) ?_
    refine xz_if_eq (tgt := 26) dX11_convert_19 (by decide) (by omega) (fun c2 => ?_) (fun c2 => ?_)
    · exact absurd c2 (by omega)
    · refine xz_iconst dX11_convert_22 ?_
      refine xw_goto (tgt := 27) dX11_convert_23 (by decide) ?_
      refine yc_S (M' := mX11_needArgument) (d := 0) (c := 0) (s := 0) (As := [.int (iI 1)]) (st := []) (v0 := none) (G2 := Wd σ0 X) dX11_convert_27 okX11_needArgument (Or.inl w_749) rfl (Nat.le_of_ble_eq_true rfl) (by decide) (by decide) (Nat.zero_le _) (Nat.zero_le _) rfl rfl (s_needArg1 hL) ?_
      refine xw_aload_n 0 dX11_convert_30 rfl ?_
      refine yc_VE (M' := mX11_greatestFrame) (d := 0) (c := 0) (s := 0) (As := []) (st := []) dX11_convert_31 okX11_greatestFrame (Or.inl w_901) (xBig_i is_0.1) (Wd_get is_0) ⟨by decide, rfl⟩ rfl (Nat.le_of_ble_eq_true rfl) (by decide) (by decide) (Nat.zero_le _) (Nat.zero_le _) (s_greatestFrame hL hr hN hc hh ht) (fun v9 G9 h9 => ?_) (fun E9 G9 h9 => ?_)
      · obtain ⟨g, e9, hg, e8⟩ := h9
        cases e9
        subst e8
        have hgb := yGr_bd hg (fun k a1 a2 => (hse k a1 a2).2.2) (fun k a1 a2 => (hC k a1 a2).2)
        have hgm := ydm (a := g) (b := 99999) (n := n) (d := d) hgb.1 hgb.2 (by omega) (by omega)
        have hgf := yGr_un (n := n) (d := d) hg (by omega) (by omega) (fun k a1 a2 => by have := hse k a1 a2; omega) (fun k a1 a2 => (hC k a1 a2).1) hx
        refine xz_i2l dX11_convert_34 (by omega) ?_
        refine xw_iload_n 1 dX11_convert_35 rfl ?_
        refine xz_i2l dX11_convert_36 (by omega) ?_
        refine xw_iload_n 2 dX11_convert_37 rfl ?_
        refine xz_i2l dX11_convert_38 (by omega) ?_
        refine yc_S (M' := mX11_scaled) (d := 0) (c := 0) (s := 0) (As := [.long (lI g), .long (lI n), .long (lI d)]) (st := []) (v0 := some (.long (lI (g * n / d)))) (G2 := Wd σ0 X) dX11_convert_39 okX11_scaled (Or.inl w_905) rfl (Nat.le_of_ble_eq_true rfl) (by decide) (by decide) (Nat.zero_le _) (Nat.zero_le _) rfl rfl (s_scaled hL (by omega) (by omega)) ?_
        refine xz_ldc2 (z := 99999) dX11_convert_42 w_908 (by decide) ?_
        have hq2 : g * n / d ≤ g * n := Int.ediv_le_self d hgm.2.2.1
        have hcm : ((g * n / d) ≤ 99999 ∧ cmpI (g * n / d) 99999 ≤ 0 ∧ -1 ≤ cmpI (g * n / d) 99999) ∨ (99999 < (g * n / d) ∧ cmpI (g * n / d) 99999 = 1) := by unfold cmpI; split <;> (try split) <;> omega
        refine xz_lcmp dX11_convert_45 (by omega) (by omega) ?_
        refine xz_if_le (tgt := 60) dX11_convert_46 (by decide) (by omega) (fun c4 => ?_) (fun c4 => ?_)
        · exact absurd c4 (by omega)
        · exact yt_X11_294_317_298 rfl dX11_convert_49 dX11_convert_52 dX11_convert_53 dX11_convert_56 dX11_convert_59 rfl (Nat.le_of_ble_eq_true rfl) (Nat.le_of_ble_eq_true rfl) (Nat.le_of_ble_eq_true rfl) hX ⟨rfl, rfl⟩
      · obtain ⟨_, e9, _⟩ := h9
        cases e9)
end Y30

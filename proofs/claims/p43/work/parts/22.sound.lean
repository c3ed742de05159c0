section Y22
variable {L : Launch} {O : xWd} {K : xOc → List xOb → Prop} {σ : ySg} {X : List xOb} {G : List xOb}
/-- the order's entries are cues, and no cue of it has a row -/
def yQu (σ : ySg) (N : Int) : Prop := (0 ≤ N ∧ N ≤ 24 ∧ σ 20 6 = N) ∧ (∀ p, 0 ≤ p → p < N → 0 ≤ σ 29 p ∧ σ 29 p < 24) ∧ ∀ p, 0 ≤ p → p < N → σ (cu (σ 29 p)) 8 = 0 ∧ σ (cu (σ 29 p)) 9 = -1
/-- nothing but isTaken and the holders changed -/
def yF3 (σ σ' : ySg) : Prop := ∀ a b, a ≠ 30 → a ≠ 31 → σ' a b = σ a b
theorem yF3.trans {σ σ1 σ2 : ySg} (h : yF3 σ σ1) (h2 : yF3 σ1 σ2) : yF3 σ σ2 := fun a b c d => (h2 a b c d).trans (h a b c d)
theorem yF3.kcu {σ σ' : ySg} (h : yF3 σ σ') (k b : Int) : σ' (cu k) b = σ (cu k) b := h _ _ (by unfold cu; omega) (by unfold cu; omega)
theorem yQu.f3 {σ σ' : ySg} {N : Int} (h : yQu σ N) (g : yF3 σ σ') : yQu σ' N := by
  unfold yQu at h ⊢
  simp only [g 29 _ (by decide) (by decide), g 20 _ (by decide) (by decide), g.kcu]
  exact h
def yHo (σ : ySg) : Prop := ∀ r, 0 ≤ r → r < 8 → σ 31 r = -1
/-- a cue without a row is on no row -/
theorem s_isOnRow0 (hL : L.stackTraces = false) {n a : Int} (hr : yRg σ) (hn : 0 ≤ n ∧ n < 24) (h9 : σ (cu n) 9 = -1) : xMet L O mX3_isOnRow (xR 0 0 0) [.ref (cu n), .int (iI a)] (Wd σ X) (fun o G1 => o = .inl (some (.int (iI 0))) ∧ G1 = Wd σ X) := xMet_of (by decide) hL (Nat.le_of_ble_eq_true rfl) (by
  refine xw_eq rfl (l2 := [(0, .ref (cu n)), (1, .int (iI a))]) rfl rfl rfl ?_
  refine xw_aload_n 0 dX3_isOnRow_0 rfl ?_
  have r1 := hr (cu n) 9
  refine yz_geti (z := 9) (v := σ (cu n) 9) (fo_X3_21 rfl) dX3_isOnRow_1 (is_cu hn) rfl rfl rfl ?_
  refine xz_iconst dX3_isOnRow_4 ?_
  refine xz_icmp_eq (tgt := 33) dX3_isOnRow_5 (by decide) (by omega) (by omega) (fun c2 => ?_) (fun c2 => ?_)
  · refine xz_iconst dX3_isOnRow_33 ?_
    exact xz_zret dX3_isOnRow_34 rfl (Or.inl rfl) (Nat.zero_le _) (Nat.zero_le _) ⟨rfl, rfl⟩
  · exact absurd c2 (by omega))
theorem l_letGo (hL : L.stackTraces = false) {f : Int} (hr : yRg σ) (hh : yHo σ) (hK : K (.inl none) (Wd σ X)) (j : Int) (h0 : 0 ≤ j) (h1 : j ≤ 8) : xWP L O mX10_letGo (xR 0 0 0) K 2 [(0, .ref 20), (1, .int (iI f)), (2, .int (iI j))] [] (Wd σ X) 0 0 := by
  refine xw_iload_n 2 dX10_letGo_2 rfl ?_
  refine xz_bipush dX10_letGo_3 (by decide) ?_
  refine xz_icmp_ge (tgt := 49) dX10_letGo_5 (by decide) (by omega) (by omega) (fun c1 => ?_) (fun c1 => ?_)
  · exact xw_vret dX10_letGo_49 rfl (Nat.zero_le _) (Nat.zero_le _) hK
  · have hj := hh j h0 (by omega)
    refine xw_aload_n 0 dX10_letGo_8 rfl ?_
    refine yz_getr (fo_X10_41 rfl) dX10_letGo_9 is_20 rfl ?_
    refine xw_iload_n 2 dX10_letGo_12 rfl ?_
    have r2 := hr 31 j
    refine yz_iald (v := σ 31 j) dX10_letGo_13 is_31 (by omega) (by decide) rfl ?_
    refine xz_iconst dX10_letGo_14 ?_
    refine xz_icmp_eq (tgt := 43) dX10_letGo_15 (by decide) (by omega) (by omega) (fun c3 => ?_) (fun c3 => ?_)
    · refine xz_iinc (l2 := [(0, .ref 20), (1, .int (iI f)), (2, .int (iI (j + 1)))]) 2 dX10_letGo_43 rfl (by decide) rfl rfl ?_
      refine xw_goto (tgt := 2) dX10_letGo_46 (by decide) ?_
      exact l_letGo hL hr hh hK (j + 1) (by omega) (by omega)
    · exact absurd c3 (by omega)
termination_by (8 - j).toNat
theorem s_letGo (hL : L.stackTraces = false) {f : Int} (hr : yRg σ) (hh : yHo σ) : xMet L O mX10_letGo (xR 0 0 0) [.ref 20, .int (iI f)] (Wd σ X) (fun o G1 => o = .inl none ∧ G1 = Wd σ X) := xMet_of (by decide) hL (Nat.le_of_ble_eq_true rfl) (by
  refine xw_eq rfl (l2 := [(0, .ref 20), (1, .int (iI f))]) rfl rfl rfl ?_
  refine xz_iconst dX10_letGo_0 ?_
  refine xw_istore_n (l2 := [(0, .ref 20), (1, .int (iI f)), (2, .int (iI 0))]) dX10_letGo_1 (by decide) rfl rfl ?_
  exact l_letGo hL hr hh ⟨rfl, rfl⟩ 0 (by omega) (by omega))
theorem l_play47 (hL : L.stackTraces = false) {σ : ySg} {f pl n : Int} (hr : yRg σ) (hh : yHo σ) (j : Int) (h0 : 0 ≤ j) (h1 : j ≤ 8) (hK : ∀ (σ' : ySg), yRg σ' → (∀ a b, a ≠ 30 → σ' a b = σ a b) → xWP L O mX10_playTo (xR 2 0 0) K 83 [(0, .ref 20), (1, .int (iI f)), (2, .int (iI pl)), (3, .ref (cu n)), (4, .int (iI 8))] [] (Wd σ' X) 0 0) : xWP L O mX10_playTo (xR 2 0 0) K 47 [(0, .ref 20), (1, .int (iI f)), (2, .int (iI pl)), (3, .ref (cu n)), (4, .int (iI j))] [] (Wd σ X) 0 0 := by
  refine xw_iload 4 dX10_playTo_47 rfl ?_
  refine xz_bipush dX10_playTo_49 (by decide) ?_
  refine xz_icmp_ge (tgt := 83) dX10_playTo_51 (by decide) (by omega) (by omega) (fun c1 => ?_) (fun c1 => ?_)
  · rw [show j = 8 by omega]; exact hK σ hr (fun a b _ => rfl)
  · refine xw_aload_n 0 dX10_playTo_54 rfl ?_
    refine yz_getr (fo_X10_37 rfl) dX10_playTo_55 is_20 rfl ?_
    refine xw_iload 4 dX10_playTo_58 rfl ?_
    refine xw_aload_n 0 dX10_playTo_60 rfl ?_
    refine yz_getr (fo_X10_41 rfl) dX10_playTo_61 is_20 rfl ?_
    refine xw_iload 4 dX10_playTo_64 rfl ?_
    have r2 := hr 31 j
    refine yz_iald (v := σ 31 j) dX10_playTo_66 is_31 (by omega) (by decide) rfl ?_
    refine xz_iconst dX10_playTo_67 ?_
    refine xw_join (J := 76) (c1 := 0) (n1 := 0) (P := fun z3 => z3 = 0 ∨ z3 = 1) (ls' := fun _ => [(0, .ref 20), (1, .int (iI f)), (2, .int (iI pl)), (3, .ref (cu n)), (4, .int (iI j))]) (st' := fun z3 => [.int (iI z3), .int (iI j), .ref 30]) (G' := fun _ => Wd σ X) (fun z3 hz5 => ?_) (fun j4 => ?_)
    · refine yz_zast dX10_playTo_76 is_30 (by omega) (by decide) (by omega) ?_
      refine xz_iinc (l2 := [(0, .ref 20), (1, .int (iI f)), (2, .int (iI pl)), (3, .ref (cu n)), (4, .int (iI (j + 1)))]) 4 dX10_playTo_77 rfl (by decide) rfl rfl ?_
      refine xw_goto (tgt := 47) dX10_playTo_80 (by decide) ?_
      have e1 : ∀ a b, a ≠ 30 → (yup σ 30 j z3) a b = σ a b := fun a b q => yup_i q
      exact l_play47 hL (yRg_up hr (by omega)) (fun r a1 a2 => by rw [e1 _ _ (by decide)]; exact hh r a1 a2) (j + 1) (by omega) (by omega) (fun σ' b1 b2 => hK σ' b1 (fun a b q => (b2 a b q).trans (e1 a b q)))
    · refine xz_icmp_eq (tgt := 75) dX10_playTo_68 (by decide) (by omega) (by omega) (fun c6 => ?_) (fun c6 => ?_)
      · refine xz_iconst dX10_playTo_75 ?_
        exact j4 _ (by omega)
      · refine xz_iconst dX10_playTo_71 ?_
        refine xw_goto (tgt := 76) dX10_playTo_72 (by decide) ?_
        exact j4 _ (by omega)
termination_by (8 - j).toNat
theorem l_playTo (hL : L.stackTraces = false) {σ : ySg} {N f : Int} (hr : yRg σ) (hq : yQu σ N) (hh : yHo σ) (hcs : yCst σ) (hcu : ∀ k, 0 ≤ k → k < 24 → 0 ≤ σ (cu k) 3 ∧ σ (cu k) 3 < 3) (hf : 0 ≤ f ∧ f ≤ 99999) (j : Int) (h0 : 0 ≤ j) (h1 : j ≤ σ 20 6) (hK : ∀ (σ' : ySg), yRg σ' → yHo σ' → yF3 σ σ' → K (.inl none) (Wd σ' X)) : xWP L O mX10_playTo (xR 2 0 0) K 10 [(0, .ref 20), (1, .int (iI f)), (2, .int (iI j))] [] (Wd σ X) 0 0 := by
  have hN := hq.1
  refine xw_iload_n 2 dX10_playTo_10 rfl ?_
  refine xw_aload_n 0 dX10_playTo_11 rfl ?_
  have r1 := hr 20 6
  refine yz_geti (z := 6) (v := σ 20 6) (fo_X10_58 rfl) dX10_playTo_12 is_20 rfl rfl rfl ?_
  refine xz_icmp_ge (tgt := 145) dX10_playTo_15 (by decide) (by omega) (by omega) (fun c2 => ?_) (fun c2 => ?_)
  · refine xw_aload_n 0 dX10_playTo_145 rfl ?_
    refine xw_iload_n 1 dX10_playTo_146 rfl ?_
    refine yc_V (M' := mX10_letGo) (d := 0) (c := 0) (s := 0) (As := [.int (iI f)]) (st := []) (v0 := none) (G2 := Wd σ X) dX10_playTo_147 okX10_letGo (Or.inl w_688) (xBig_i is_20.1) (Wd_get is_20) ⟨by decide, rfl⟩ rfl (Nat.le_of_ble_eq_true rfl) (by decide) (by decide) (Nat.zero_le _) (Nat.zero_le _) rfl rfl (s_letGo hL hr hh) ?_
    exact xw_vret dX10_playTo_150 rfl (Nat.zero_le _) (Nat.zero_le _) (hK σ hr hh (fun a b _ _ => rfl))
  · refine xw_aload_n 0 dX10_playTo_18 rfl ?_
    refine xw_iload_n 2 dX10_playTo_19 rfl ?_
    have r3 := hr 29 j
    have ho4 : 0 ≤ σ 29 j ∧ σ 29 j < 24 := hq.2.1 _ h0 (by omega)
    refine yc_V (M' := mX10_cueIn) (d := 1) (c := 0) (s := 0) (As := [.int (iI j)]) (st := []) (v0 := some (.ref (cu (σ 29 j)))) (G2 := Wd σ X) dX10_playTo_20 okX10_cueIn (Or.inl w_422) (xBig_i is_20.1) (Wd_get is_20) ⟨by decide, rfl⟩ rfl (Nat.le_of_ble_eq_true rfl) (by decide) (by decide) (Nat.zero_le _) (Nat.zero_le _) rfl rfl (s_cueIn hL hr (by omega) ho4) ?_
    have r5 := hr (cu (σ 29 j)) 1
    refine yz_geti (z := 1) (v := σ (cu (σ 29 j)) 1) (fo_X10_84 rfl) dX10_playTo_23 (is_cu (hq.2.1 _ h0 (by omega))) rfl rfl rfl ?_
    refine xw_iload_n 1 dX10_playTo_26 rfl ?_
    refine xz_icmp_gt (tgt := 145) dX10_playTo_27 (by decide) (by omega) (by omega) (fun c6 => ?_) (fun c6 => ?_)
    · refine xw_aload_n 0 dX10_playTo_145 rfl ?_
      refine xw_iload_n 1 dX10_playTo_146 rfl ?_
      refine yc_V (M' := mX10_letGo) (d := 0) (c := 0) (s := 0) (As := [.int (iI f)]) (st := []) (v0 := none) (G2 := Wd σ X) dX10_playTo_147 okX10_letGo (Or.inl w_688) (xBig_i is_20.1) (Wd_get is_20) ⟨by decide, rfl⟩ rfl (Nat.le_of_ble_eq_true rfl) (by decide) (by decide) (Nat.zero_le _) (Nat.zero_le _) rfl rfl (s_letGo hL hr hh) ?_
      exact xw_vret dX10_playTo_150 rfl (Nat.zero_le _) (Nat.zero_le _) (hK σ hr hh (fun a b _ _ => rfl))
    · refine xw_aload_n 0 dX10_playTo_30 rfl ?_
      refine xw_iload_n 2 dX10_playTo_31 rfl ?_
      have ho7 : 0 ≤ σ 29 j ∧ σ 29 j < 24 := hq.2.1 _ h0 (by omega)
      refine yc_V (M' := mX10_cueIn) (d := 1) (c := 0) (s := 0) (As := [.int (iI j)]) (st := []) (v0 := some (.ref (cu (σ 29 j)))) (G2 := Wd σ X) dX10_playTo_32 okX10_cueIn (Or.inl w_422) (xBig_i is_20.1) (Wd_get is_20) ⟨by decide, rfl⟩ rfl (Nat.le_of_ble_eq_true rfl) (by decide) (by decide) (Nat.zero_le _) (Nat.zero_le _) rfl rfl (s_cueIn hL hr (by omega) ho7) ?_
      obtain ⟨n, en⟩ : ∃ n, n = σ 29 j := ⟨_, rfl⟩
      rw [← en]
      have hn : 0 ≤ n ∧ n < 24 := by rw [en]; exact hq.2.1 _ h0 (by omega)
      have h89 := hq.2.2 _ h0 (by omega)
      rw [← en] at h89
      have hcn := hcu n hn.1 hn.2
      have hct := hcs (σ (cu n) 3) hcn.1 hcn.2
      refine xw_astore_n (l2 := [(0, .ref 20), (1, .int (iI f)), (2, .int (iI j)), (3, .ref (cu n))]) dX10_playTo_35 (by decide) rfl rfl ?_
      refine xw_aload_n 0 dX10_playTo_36 rfl ?_
      refine xw_aload_n 3 dX10_playTo_37 rfl ?_
      have r8 := hr (cu n) 1
      refine yz_geti (z := 1) (v := σ (cu n) 1) (fo_X10_84 rfl) dX10_playTo_38 (is_cu hn) rfl rfl rfl ?_
      refine yc_V (M' := mX10_letGo) (d := 0) (c := 0) (s := 0) (As := [.int (iI (σ (cu n) 1))]) (st := []) (v0 := none) (G2 := Wd σ X) dX10_playTo_41 okX10_letGo (Or.inl w_688) (xBig_i is_20.1) (Wd_get is_20) ⟨by decide, rfl⟩ rfl (Nat.le_of_ble_eq_true rfl) (by decide) (by decide) (Nat.zero_le _) (Nat.zero_le _) rfl rfl (s_letGo hL hr hh) ?_
      refine xz_iconst dX10_playTo_44 ?_
      refine xw_istore (l2 := [(0, .ref 20), (1, .int (iI f)), (2, .int (iI j)), (3, .ref (cu n)), (4, .int (iI 0))]) dX10_playTo_45 (by decide) rfl rfl ?_
      refine l_play47 hL hr hh 0 (by omega) (by omega) (fun σ1 b1 b2 => ?_)
      have g1 : yF3 σ σ1 := fun a b q _ => b2 a b q
      have hh1 : yHo σ1 := fun r a1 a2 => by rw [b2 _ _ (by decide)]; exact hh r a1 a2
      refine xw_aload_n 0 dX10_playTo_83 rfl ?_
      refine xw_aload_n 3 dX10_playTo_84 rfl ?_
      refine yc_VE (M' := mX10_lowestRows) (d := 0) (c := 0) (s := 0) (As := [.ref (cu n)]) (st := []) dX10_playTo_85 okX10_lowestRows (Or.inl w_460) (xBig_i is_20.1) (Wd_get is_20) ⟨by decide, rfl⟩ rfl (Nat.le_of_ble_eq_true rfl) (by decide) (by decide) (Nat.zero_le _) (Nat.zero_le _) (s_lowestRows hL b1 hn (by rw [g1.kcu]; omega) (by rw [g1.kcu, g1 _ _ (by decide) (by decide), g1 _ _ (by decide) (by decide), g1 _ _ (by decide) (by decide)]; exact hct) (by rw [g1.kcu]; exact hcn)) (fun v9 G9 h9 => ?_) (fun E9 G9 h9 => ?_)
      · obtain ⟨z9, e9, z9a, z9b, e8⟩ := h9
        cases e9
        subst e8
        refine xw_istore (l2 := [(0, .ref 20), (1, .int (iI f)), (2, .int (iI j)), (3, .ref (cu n)), (4, .int (iI z9))]) dX10_playTo_88 (by decide) rfl rfl ?_
        refine xz_iconst dX10_playTo_90 ?_
        refine xw_istore (l2 := [(0, .ref 20), (1, .int (iI f)), (2, .int (iI j)), (3, .ref (cu n)), (4, .int (iI z9)), (5, .int (iI 0))]) dX10_playTo_91 (by decide) rfl rfl ?_
        refine xw_iload 5 dX10_playTo_93 rfl ?_
        refine xw_aload_n 3 dX10_playTo_95 rfl ?_
        have r10 := b1 (cu n) 8
        refine yz_geti (z := 8) (v := σ1 (cu n) 8) (fo_X10_101 rfl) dX10_playTo_96 (is_cu hn) rfl rfl rfl ?_
        refine xz_icmp_ge (tgt := 139) dX10_playTo_99 (by decide) (by omega) (by omega) (fun c11 => ?_) (fun c11 => ?_)
        · refine xz_iinc (l2 := [(0, .ref 20), (1, .int (iI f)), (2, .int (iI (j + 1))), (3, .ref (cu n)), (4, .int (iI z9)), (5, .int (iI 0))]) 2 dX10_playTo_139 rfl (by decide) rfl rfl ?_
          refine xw_goto (tgt := 10) dX10_playTo_142 (by decide) ?_
          refine xw_loc [(0, .ref 20), (1, .int (iI f)), (2, .int (iI (j + 1)))] (fun q9 hq9 => List.mem_append_left ([(3, .ref (cu n)), (4, .int (iI z9)), (5, .int (iI 0))] : List (Nat × Value)) hq9) ?_
          exact l_playTo hL b1 (hq.f3 g1) hh1 (fun r a1 a2 => by rw [g1 _ _ (by decide) (by decide), g1 _ _ (by decide) (by decide), g1 _ _ (by decide) (by decide)]; exact hcs r a1 a2) (fun k a1 a2 => by rw [g1.kcu]; exact hcu k a1 a2) hf (j + 1) (by omega) (by have := (hq.f3 g1).1; omega) (fun σ' c1 c2 c3 => hK σ' c1 c2 (g1.trans c3))
        · exact absurd c11 (by rw [g1.kcu]; omega)
      · obtain ⟨_, e9, _⟩ := h9
        cases e9
termination_by (σ 20 6 - j).toNat
decreasing_by rw [g1 _ _ (by decide) (by decide)]; omega
theorem s_playTo (hL : L.stackTraces = false) {N f : Int} (hr : yRg σ) (hq : yQu σ N)  (hcs : yCst σ) (hcu : ∀ k, 0 ≤ k → k < 24 → 0 ≤ σ (cu k) 3 ∧ σ (cu k) 3 < 3) (hf : 0 ≤ f ∧ f ≤ 99999) : xMet L O mX10_playTo (xR 2 0 0) [.ref 20, .int (iI f)] (Wd σ X) (fun o G1 => ∃ σ' : ySg, o = .inl none ∧ yRg σ' ∧ yHo σ' ∧ yF3 σ σ' ∧ G1 = Wd σ' X) := xMet_of (by decide) hL (Nat.le_of_ble_eq_true rfl) (by
  refine xw_eq rfl (l2 := [(0, .ref 20), (1, .int (iI f))]) rfl rfl rfl ?_
  refine xw_aload_n 0 dX10_playTo_0 rfl ?_
  refine yz_getr (fo_X10_41 rfl) dX10_playTo_1 is_20 rfl ?_
  refine xz_iconst dX10_playTo_4 ?_
  refine yc_S (M' := mJ7_fill_53178) (d := 0) (c := 0) (s := 0) (As := [.ref 31, .int (iI ((-1)))]) (st := []) (v0 := none) (G2 := Wd (yfl σ 31 8 (-1)) X) dX10_playTo_5 okJ7_fill_53178 (Or.inl w_232) rfl (Nat.le_of_ble_eq_true rfl) (by decide) (by decide) (Nat.zero_le _) (Nat.zero_le _) rfl rfl (s_fillW hL is_31 (by decide)) ?_
  refine xz_iconst dX10_playTo_8 ?_
  refine xw_istore_n (l2 := [(0, .ref 20), (1, .int (iI f)), (2, .int (iI 0))]) dX10_playTo_9 (by decide) rfl rfl ?_
  have g1 : yF3 σ (yfl σ 31 8 (-1)) := fun a b _ q => yfl_i q
  refine l_playTo hL (yRg_fl hr (by decide)) (hq.f3 g1) (fun r a1 a2 => yfl_s ⟨a1, a2⟩) (fun r a1 a2 => by rw [g1 _ _ (by decide) (by decide), g1 _ _ (by decide) (by decide), g1 _ _ (by decide) (by decide)]; exact hcs r a1 a2) (fun k a1 a2 => by rw [g1.kcu]; exact hcu k a1 a2) hf 0 (by omega) (by have := (hq.f3 g1).1; omega) (fun σ' c1 c2 c3 => ⟨σ', rfl, c1, c2, g1.trans c3, rfl⟩))
theorem l_cueOn (hL : L.stackTraces = false) {N f r : Int} (hr : yRg σ) (hq : yQu σ N) (hf : 0 ≤ f + 1 ∧ f ≤ 99999) (hK : K (.inl (some (.int (iI (-1))))) (Wd σ X)) (j : Int) (h0 : 0 ≤ j) (h1 : j ≤ σ 20 6) : xWP L O mX10_cueOn (xR 2 0 0) K 2 [(0, .ref 20), (1, .int (iI f)), (2, .int (iI r)), (3, .int (iI j))] [] (Wd σ X) 0 0 := by
  have hN := hq.1
  refine xw_iload_n 3 dX10_cueOn_2 rfl ?_
  refine xw_aload_n 0 dX10_cueOn_3 rfl ?_
  have r1 := hr 20 6
  refine yz_geti (z := 6) (v := σ 20 6) (fo_X10_58 rfl) dX10_cueOn_4 is_20 rfl rfl rfl ?_
  refine xz_icmp_ge (tgt := 47) dX10_cueOn_7 (by decide) (by omega) (by omega) (fun c2 => ?_) (fun c2 => ?_)
  · refine xz_iconst dX10_cueOn_47 ?_
    exact xz_iret dX10_cueOn_48 rfl (Nat.zero_le _) (Nat.zero_le _) hK
  · refine xw_aload_n 0 dX10_cueOn_10 rfl ?_
    refine xw_iload_n 3 dX10_cueOn_11 rfl ?_
    have r3 := hr 29 j
    have ho4 : 0 ≤ σ 29 j ∧ σ 29 j < 24 := hq.2.1 _ h0 (by omega)
    refine yc_V (M' := mX10_cueIn) (d := 1) (c := 0) (s := 0) (As := [.int (iI j)]) (st := []) (v0 := some (.ref (cu (σ 29 j)))) (G2 := Wd σ X) dX10_cueOn_12 okX10_cueIn (Or.inl w_422) (xBig_i is_20.1) (Wd_get is_20) ⟨by decide, rfl⟩ rfl (Nat.le_of_ble_eq_true rfl) (by decide) (by decide) (Nat.zero_le _) (Nat.zero_le _) rfl rfl (s_cueIn hL hr (by omega) ho4) ?_
    refine xw_astore (l2 := [(0, .ref 20), (1, .int (iI f)), (2, .int (iI r)), (3, .int (iI j)), (4, .ref (cu (σ 29 j)))]) dX10_cueOn_15 (by decide) rfl rfl ?_
    refine xw_aload 4 dX10_cueOn_17 rfl ?_
    refine xw_iload_n 1 dX10_cueOn_19 rfl ?_
    refine yc_VE (M' := mX3_isThereAt) (d := 0) (c := 0) (s := 0) (As := [.int (iI f)]) (st := []) dX10_cueOn_20 okX3_isThereAt (Or.inl w_696) (xBig_i (is_cu (hq.2.1 _ h0 (by omega))).1) (Wd_get (is_cu (hq.2.1 _ h0 (by omega)))) ⟨by decide, rfl⟩ rfl (Nat.le_of_ble_eq_true rfl) (by decide) (by decide) (Nat.zero_le _) (Nat.zero_le _) (s_X3_isThereAt hL hr (hq.2.1 _ h0 (by omega)) (by omega)) (fun v9 G9 h9 => ?_) (fun E9 G9 h9 => ?_)
    · obtain ⟨z5, e9, z5a, e8⟩ := h9
      cases e9
      subst e8
      refine xz_if_eq (tgt := 41) dX10_cueOn_23 (by decide) (by omega) (fun c6 => ?_) (fun c6 => ?_)
      · refine xz_iinc (l2 := [(0, .ref 20), (1, .int (iI f)), (2, .int (iI r)), (3, .int (iI (j + 1))), (4, .ref (cu (σ 29 j)))]) 3 dX10_cueOn_41 rfl (by decide) rfl rfl ?_
        refine xw_goto (tgt := 2) dX10_cueOn_44 (by decide) ?_
        refine xw_loc [(0, .ref 20), (1, .int (iI f)), (2, .int (iI r)), (3, .int (iI (j + 1)))] (fun q9 hq9 => List.mem_append_left ([(4, .ref (cu (σ 29 j)))] : List (Nat × Value)) hq9) ?_
        exact l_cueOn hL hr hq hf hK (j + 1) (by omega) (by omega)
      · refine xw_aload 4 dX10_cueOn_26 rfl ?_
        refine xw_iload_n 2 dX10_cueOn_28 rfl ?_
        refine yc_V (M' := mX3_isOnRow) (d := 0) (c := 0) (s := 0) (As := [.int (iI r)]) (st := []) (v0 := some (.int (iI 0))) (G2 := Wd σ X) dX10_cueOn_29 okX3_isOnRow (Or.inl w_456) (xBig_i (is_cu (hq.2.1 _ h0 (by omega))).1) (Wd_get (is_cu (hq.2.1 _ h0 (by omega)))) ⟨by decide, rfl⟩ rfl (Nat.le_of_ble_eq_true rfl) (by decide) (by decide) (Nat.zero_le _) (Nat.zero_le _) rfl rfl (s_isOnRow0 hL hr (hq.2.1 _ h0 (by omega)) (hq.2.2 _ h0 (by omega)).2) ?_
        refine xz_if_eq (tgt := 41) dX10_cueOn_32 (by decide) (by omega) (fun c7 => ?_) (fun c7 => ?_)
        · refine xz_iinc (l2 := [(0, .ref 20), (1, .int (iI f)), (2, .int (iI r)), (3, .int (iI (j + 1))), (4, .ref (cu (σ 29 j)))]) 3 dX10_cueOn_41 rfl (by decide) rfl rfl ?_
          refine xw_goto (tgt := 2) dX10_cueOn_44 (by decide) ?_
          refine xw_loc [(0, .ref 20), (1, .int (iI f)), (2, .int (iI r)), (3, .int (iI (j + 1)))] (fun q9 hq9 => List.mem_append_left ([(4, .ref (cu (σ 29 j)))] : List (Nat × Value)) hq9) ?_
          exact l_cueOn hL hr hq hf hK (j + 1) (by omega) (by omega)
        · exact absurd c7 (by omega)
    · obtain ⟨_, e9, _⟩ := h9
      cases e9
termination_by (σ 20 6 - j).toNat
theorem s_cueOn (hL : L.stackTraces = false) {N f r : Int} (hr : yRg σ) (hq : yQu σ N) (hf : 0 ≤ f + 1 ∧ f ≤ 99999) : xMet L O mX10_cueOn (xR 2 0 0) [.ref 20, .int (iI f), .int (iI r)] (Wd σ X) (fun o G1 => o = .inl (some (.int (iI (-1)))) ∧ G1 = Wd σ X) := xMet_of (by decide) hL (Nat.le_of_ble_eq_true rfl) (by
  refine xw_eq rfl (l2 := [(0, .ref 20), (1, .int (iI f)), (2, .int (iI r))]) rfl rfl rfl ?_
  refine xz_iconst dX10_cueOn_0 ?_
  refine xw_istore_n (l2 := [(0, .ref 20), (1, .int (iI f)), (2, .int (iI r)), (3, .int (iI 0))]) dX10_cueOn_1 (by decide) rfl rfl ?_
  exact l_cueOn hL hr hq hf ⟨rfl, rfl⟩ 0 (by omega) (by have := hq.1; omega))
theorem s_playedCueOn (hL : L.stackTraces = false) {r : Int} (hh : yHo σ) (hr1 : 0 ≤ r ∧ r < 8) : xMet L O mX10_playedCueOn (xR 0 0 0) [.ref 20, .int (iI r)] (Wd σ X) (fun o G1 => o = .inl (some (.int (iI (-1)))) ∧ G1 = Wd σ X) := xMet_of (by decide) hL (Nat.le_of_ble_eq_true rfl) (by
  refine xw_eq rfl (l2 := [(0, .ref 20), (1, .int (iI r))]) rfl rfl rfl ?_
  refine xw_iload_n 1 dX10_playedCueOn_0 rfl ?_
  refine xz_if_lt (tgt := 19) dX10_playedCueOn_1 (by decide) (by omega) (fun c1 => ?_) (fun c1 => ?_)
  · exact absurd c1 (by omega)
  · refine xw_iload_n 1 dX10_playedCueOn_4 rfl ?_
    refine xz_bipush dX10_playedCueOn_5 (by decide) ?_
    refine xz_icmp_ge (tgt := 19) dX10_playedCueOn_7 (by decide) (by omega) (by omega) (fun c2 => ?_) (fun c2 => ?_)
    · exact absurd c2 (by omega)
    · refine xw_aload_n 0 dX10_playedCueOn_10 rfl ?_
      refine yz_getr (fo_X10_41 rfl) dX10_playedCueOn_11 is_20 rfl ?_
      refine xw_iload_n 1 dX10_playedCueOn_14 rfl ?_
      refine yz_iald (v := (-1)) dX10_playedCueOn_15 is_31 (by omega) (by decide) (hh r hr1.1 hr1.2) ?_
      refine xw_goto (tgt := 20) dX10_playedCueOn_16 (by decide) ?_
      exact xz_iret dX10_playedCueOn_20 rfl (Nat.zero_le _) (Nat.zero_le _) ⟨rfl, rfl⟩)
theorem l_hasSame (hL : L.stackTraces = false) {N f : Int} (hr : yRg σ) (hq : yQu σ N) (hh : yHo σ) (hf : 0 ≤ f ∧ f ≤ 99999) (hK : K (.inl (some (.int (iI 1)))) (Wd σ X)) (j : Int) (h0 : 0 ≤ j) (h1 : j ≤ 8) : xWP L O mX11_hasSameCuesAt (xR 3 0 0) K 10 [(0, .ref 0), (1, .int (iI f)), (2, .int (iI j))] [] (Wd σ X) 0 0 := by
  refine xw_iload_n 2 dX11_hasSameCuesAt_10 rfl ?_
  refine xz_bipush dX11_hasSameCuesAt_11 (by decide) ?_
  refine xz_icmp_ge (tgt := 44) dX11_hasSameCuesAt_13 (by decide) (by omega) (by omega) (fun c1 => ?_) (fun c1 => ?_)
  · refine xz_iconst dX11_hasSameCuesAt_44 ?_
    exact xz_zret dX11_hasSameCuesAt_45 rfl (Or.inr rfl) (Nat.zero_le _) (Nat.zero_le _) hK
  · refine xw_aload_n 0 dX11_hasSameCuesAt_16 rfl ?_
    refine yz_getr (fo_X11_29 rfl) dX11_hasSameCuesAt_17 is_0 rfl ?_
    refine xw_iload_n 1 dX11_hasSameCuesAt_20 rfl ?_
    refine xw_iload_n 2 dX11_hasSameCuesAt_21 rfl ?_
    refine yc_V (M' := mX10_cueOn) (d := 2) (c := 0) (s := 0) (As := [.int (iI f), .int (iI j)]) (st := []) (v0 := some (.int (iI ((-1))))) (G2 := Wd σ X) dX11_hasSameCuesAt_22 okX10_cueOn (Or.inl w_692) (xBig_i is_20.1) (Wd_get is_20) ⟨by decide, rfl⟩ rfl (Nat.le_of_ble_eq_true rfl) (by decide) (by decide) (Nat.zero_le _) (Nat.zero_le _) rfl rfl (s_cueOn hL hr hq (by omega)) ?_
    refine xw_aload_n 0 dX11_hasSameCuesAt_25 rfl ?_
    refine yz_getr (fo_X11_29 rfl) dX11_hasSameCuesAt_26 is_0 rfl ?_
    refine xw_iload_n 2 dX11_hasSameCuesAt_29 rfl ?_
    refine yc_V (M' := mX10_playedCueOn) (d := 0) (c := 0) (s := 0) (As := [.int (iI j)]) (st := [.int (iI ((-1)))]) (v0 := some (.int (iI ((-1))))) (G2 := Wd σ X) dX11_hasSameCuesAt_30 okX10_playedCueOn (Or.inl w_700) (xBig_i is_20.1) (Wd_get is_20) ⟨by decide, rfl⟩ rfl (Nat.le_of_ble_eq_true rfl) (by decide) (by decide) (Nat.zero_le _) (Nat.zero_le _) rfl rfl (s_playedCueOn hL hh (by omega)) ?_
    refine xz_icmp_eq (tgt := 38) dX11_hasSameCuesAt_33 (by decide) (by omega) (by omega) (fun c2 => ?_) (fun c2 => ?_)
    · refine xz_iinc (l2 := [(0, .ref 0), (1, .int (iI f)), (2, .int (iI (j + 1)))]) 2 dX11_hasSameCuesAt_38 rfl (by decide) rfl rfl ?_
      refine xw_goto (tgt := 10) dX11_hasSameCuesAt_41 (by decide) ?_
      exact l_hasSame hL hr hq hh hf hK (j + 1) (by omega) (by omega)
    · exact absurd rfl c2
termination_by (8 - j).toNat
theorem s_hasSame (hL : L.stackTraces = false) {N f : Int} (hr : yRg σ) (hq : yQu σ N)  (hcs : yCst σ) (hcu : ∀ k, 0 ≤ k → k < 24 → 0 ≤ σ (cu k) 3 ∧ σ (cu k) 3 < 3) (hf : 0 ≤ f ∧ f ≤ 99999) : xMet L O mX11_hasSameCuesAt (xR 3 0 0) [.ref 0, .int (iI f)] (Wd σ X) (fun o G1 => ∃ σ' : ySg, o = .inl (some (.int (iI 1))) ∧ yRg σ' ∧ yF3 σ σ' ∧ G1 = Wd σ' X) := xMet_of (by decide) hL (Nat.le_of_ble_eq_true rfl) (by
  refine xw_eq rfl (l2 := [(0, .ref 0), (1, .int (iI f))]) rfl rfl rfl ?_
  refine xw_aload_n 0 dX11_hasSameCuesAt_0 rfl ?_
  refine yz_getr (fo_X11_29 rfl) dX11_hasSameCuesAt_1 is_0 rfl ?_
  refine xw_iload_n 1 dX11_hasSameCuesAt_4 rfl ?_
  refine yc_VE (M' := mX10_playTo) (d := 2) (c := 0) (s := 0) (As := [.int (iI f)]) (st := []) dX11_hasSameCuesAt_5 okX10_playTo (Or.inl w_684) (xBig_i is_20.1) (Wd_get is_20) ⟨by decide, rfl⟩ rfl (Nat.le_of_ble_eq_true rfl) (by decide) (by decide) (Nat.zero_le _) (Nat.zero_le _) (s_playTo hL hr hq hcs hcu hf) (fun v9 G9 h9 => ?_) (fun E9 G9 h9 => ?_)
  · obtain ⟨σ1, e9, hr1, hh1, hf1, e8⟩ := h9
    cases e9
    subst e8
    refine xz_iconst dX11_hasSameCuesAt_8 ?_
    refine xw_istore_n (l2 := [(0, .ref 0), (1, .int (iI f)), (2, .int (iI 0))]) dX11_hasSameCuesAt_9 (by decide) rfl rfl ?_
    exact l_hasSame hL hr1 (hq.f3 hf1) hh1 hf ⟨_, rfl, hr1, hf1, rfl⟩ 0 (by omega) (by omega)
  · obtain ⟨_, e9, _⟩ := h9
    cases e9)
theorem l_sameCues (hL : L.stackTraces = false) {σ : ySg} {N : Int} (hr : yRg σ) (hq : yQu σ N) (hcs : yCst σ) (hcu : ∀ k, 0 ≤ k → k < 24 → 0 ≤ σ (cu k) 3 ∧ σ (cu k) 3 < 3) (hse : ∀ p, 0 ≤ p → p < N → 0 ≤ σ (cu (σ 29 p)) 1 ∧ σ (cu (σ 29 p)) 1 < σ (cu (σ 29 p)) 2 ∧ σ (cu (σ 29 p)) 2 ≤ 99999) (j : Int) (h0 : 0 ≤ j) (h1 : j ≤ σ 20 6) (hK : ∀ (σ' : ySg), yRg σ' → yF3 σ σ' → K (.inl (some (.int (iI 1)))) (Wd σ' X)) : xWP L O mX11_isSameAtCues (xR 4 0 0) K 2 [(0, .ref 0), (1, .int (iI j))] [] (Wd σ X) 0 0 := by
  have hN := hq.1
  refine xw_iload_n 1 dX11_isSameAtCues_2 rfl ?_
  refine xw_aload_n 0 dX11_isSameAtCues_3 rfl ?_
  refine yz_getr (fo_X11_29 rfl) dX11_isSameAtCues_4 is_0 rfl ?_
  have r1 := hr 20 6
  refine yz_geti (z := 6) (v := σ 20 6) (fo_X11_266 rfl) dX11_isSameAtCues_7 is_20 rfl rfl rfl ?_
  refine xz_icmp_ge (tgt := 54) dX11_isSameAtCues_10 (by decide) (by omega) (by omega) (fun c2 => ?_) (fun c2 => ?_)
  · refine xz_iconst dX11_isSameAtCues_54 ?_
    exact xz_zret dX11_isSameAtCues_55 rfl (Or.inr rfl) (Nat.zero_le _) (Nat.zero_le _) (hK σ hr (fun a b _ _ => rfl))
  · refine xw_aload_n 0 dX11_isSameAtCues_13 rfl ?_
    refine yz_getr (fo_X11_29 rfl) dX11_isSameAtCues_14 is_0 rfl ?_
    refine xw_iload_n 1 dX11_isSameAtCues_17 rfl ?_
    have r3 := hr 29 j
    have ho4 : 0 ≤ σ 29 j ∧ σ 29 j < 24 := hq.2.1 _ h0 (by omega)
    refine yc_V (M' := mX10_cueIn) (d := 1) (c := 0) (s := 0) (As := [.int (iI j)]) (st := []) (v0 := some (.ref (cu (σ 29 j)))) (G2 := Wd σ X) dX11_isSameAtCues_18 okX10_cueIn (Or.inl w_708) (xBig_i is_20.1) (Wd_get is_20) ⟨by decide, rfl⟩ rfl (Nat.le_of_ble_eq_true rfl) (by decide) (by decide) (Nat.zero_le _) (Nat.zero_le _) rfl rfl (s_cueIn hL hr (by omega) ho4) ?_
    refine xw_astore_n (l2 := [(0, .ref 0), (1, .int (iI j)), (2, .ref (cu (σ 29 j)))]) dX11_isSameAtCues_21 (by decide) rfl rfl ?_
    refine xw_aload_n 0 dX11_isSameAtCues_22 rfl ?_
    refine xw_aload_n 2 dX11_isSameAtCues_23 rfl ?_
    have r5 := hr (cu (σ 29 j)) 1
    refine yz_geti (z := 1) (v := σ (cu (σ 29 j)) 1) (fo_X11_221 rfl) dX11_isSameAtCues_24 (is_cu (hq.2.1 _ h0 (by omega))) rfl rfl rfl ?_
    refine yc_VE (M' := mX11_hasSameCuesAt) (d := 3) (c := 0) (s := 0) (As := [.int (iI (σ (cu (σ 29 j)) 1))]) (st := []) dX11_isSameAtCues_27 okX11_hasSameCuesAt (Or.inl w_680) (xBig_i is_0.1) (Wd_get is_0) ⟨by decide, rfl⟩ rfl (Nat.le_of_ble_eq_true rfl) (by decide) (by decide) (Nat.zero_le _) (Nat.zero_le _) (s_hasSame hL hr hq hcs hcu (by have := hse _ h0 (by omega); omega)) (fun v9 G9 h9 => ?_) (fun E9 G9 h9 => ?_)
    · obtain ⟨σ6, e9, hr6, hf6, e8⟩ := h9
      cases e9
      subst e8
      have g6 := hf6
      refine xz_if_eq (tgt := 46) dX11_isSameAtCues_30 (by decide) (by omega) (fun c7 => ?_) (fun c7 => ?_)
      · exact absurd c7 (by omega)
      · refine xw_aload_n 0 dX11_isSameAtCues_33 rfl ?_
        refine xw_aload_n 2 dX11_isSameAtCues_34 rfl ?_
        have r8 := hr6 (cu (σ 29 j)) 2
        refine yz_geti (z := 2) (v := σ6 (cu (σ 29 j)) 2) (fo_X11_224 rfl) dX11_isSameAtCues_35 (is_cu (hq.2.1 _ h0 (by omega))) rfl rfl rfl ?_
        refine xz_iconst dX11_isSameAtCues_38 ?_
        refine xz_isub dX11_isSameAtCues_39 ?_
        refine yc_VE (M' := mX11_hasSameCuesAt) (d := 3) (c := 0) (s := 0) (As := [.int (iI ((σ6 (cu (σ 29 j)) 2) - 1))]) (st := []) dX11_isSameAtCues_40 okX11_hasSameCuesAt (Or.inl w_680) (xBig_i is_0.1) (Wd_get is_0) ⟨by decide, rfl⟩ rfl (Nat.le_of_ble_eq_true rfl) (by decide) (by decide) (Nat.zero_le _) (Nat.zero_le _) (s_hasSame hL hr6 (hq.f3 g6) (fun r a1 a2 => by rw [g6 _ _ (by decide) (by decide), g6 _ _ (by decide) (by decide), g6 _ _ (by decide) (by decide)]; exact hcs r a1 a2) (fun k a1 a2 => by rw [g6.kcu]; exact hcu k a1 a2) (by rw [g6.kcu]; have := hse _ h0 (by omega); omega)) (fun v9 G9 h9 => ?_) (fun E9 G9 h9 => ?_)
        · obtain ⟨σ9, e9, hr9, hf9, e8⟩ := h9
          cases e9
          subst e8
          have g9 := g6.trans hf9
          refine xz_if_ne (tgt := 48) dX11_isSameAtCues_43 (by decide) (by omega) (fun c10 => ?_) (fun c10 => ?_)
          · refine xz_iinc (l2 := [(0, .ref 0), (1, .int (iI (j + 1))), (2, .ref (cu (σ 29 j)))]) 1 dX11_isSameAtCues_48 rfl (by decide) rfl rfl ?_
            refine xw_goto (tgt := 2) dX11_isSameAtCues_51 (by decide) ?_
            refine xw_loc [(0, .ref 0), (1, .int (iI (j + 1)))] (fun q9 hq9 => List.mem_append_left ([(2, .ref (cu (σ 29 j)))] : List (Nat × Value)) hq9) ?_
            exact l_sameCues hL hr9 (hq.f3 g9) (fun r a1 a2 => by rw [g9 _ _ (by decide) (by decide), g9 _ _ (by decide) (by decide), g9 _ _ (by decide) (by decide)]; exact hcs r a1 a2) (fun k a1 a2 => by rw [g9.kcu]; exact hcu k a1 a2) (fun p a1 a2 => by rw [g9 29 _ (by decide) (by decide), g9.kcu, g9.kcu]; exact hse p a1 a2) (j + 1) (by omega) (by have := (hq.f3 g9).1; omega) (fun σ' c1 c2 => hK σ' c1 (g9.trans c2))
          · exact absurd c10 (by omega)
        · obtain ⟨_, e9, _⟩ := h9
          cases e9
    · obtain ⟨_, e9, _⟩ := h9
      cases e9
termination_by (σ 20 6 - j).toNat
decreasing_by rw [g9 20 6 (by decide) (by decide)]; omega
theorem s_sameCues (hL : L.stackTraces = false) {N : Int} (hr : yRg σ) (hq : yQu σ N) (hcs : yCst σ) (hcu : ∀ k, 0 ≤ k → k < 24 → 0 ≤ σ (cu k) 3 ∧ σ (cu k) 3 < 3) (hse : ∀ p, 0 ≤ p → p < N → 0 ≤ σ (cu (σ 29 p)) 1 ∧ σ (cu (σ 29 p)) 1 < σ (cu (σ 29 p)) 2 ∧ σ (cu (σ 29 p)) 2 ≤ 99999) : xMet L O mX11_isSameAtCues (xR 4 0 0) [.ref 0] (Wd σ X) (fun o G1 => ∃ σ' : ySg, o = .inl (some (.int (iI 1))) ∧ yRg σ' ∧ yF3 σ σ' ∧ G1 = Wd σ' X) := xMet_of (by decide) hL (Nat.le_of_ble_eq_true rfl) (by
  refine xw_eq rfl (l2 := [(0, .ref 0)]) rfl rfl rfl ?_
  refine xz_iconst dX11_isSameAtCues_0 ?_
  refine xw_istore_n (l2 := [(0, .ref 0), (1, .int (iI 0))]) dX11_isSameAtCues_1 (by decide) rfl rfl ?_
  exact l_sameCues hL hr hq hcs hcu hse 0 (by omega) (by have := hq.1; omega) (fun σ' c1 c2 => ⟨σ', rfl, c1, c2, rfl⟩))
theorem s_restart0 (hL : L.stackTraces = false) (h0 : σ 13 7 = 0) : xMet L O mX9_restart (xR 0 0 0) [.ref 13] (Wd σ X) (fun o G1 => o = .inl none ∧ G1 = Wd σ X) := xMet_of (by decide) hL (Nat.le_of_ble_eq_true rfl) (by
  refine xw_eq rfl (l2 := [(0, .ref 13)]) rfl rfl rfl ?_
  refine xw_aload_n 0 dX9_restart_0 rfl ?_
  refine yz_geti (z := 7) (v := 0) (fo_X9_32 rfl) dX9_restart_1 is_13 rfl rfl h0 ?_
  refine xz_if_ne (tgt := 8) dX9_restart_4 (by decide) (by omega) (fun c1 => ?_) (fun c1 => ?_)
  · exact absurd rfl c1
  · exact xw_vret dX9_restart_7 rfl (Nat.zero_le _) (Nat.zero_le _) ⟨rfl, rfl⟩)
theorem s_sameCodes (hL : L.stackTraces = false) (h0 : σ 13 7 = 0) (hc : σ 1 4 = 0) : xMet L O mX11_isSameAtCodes (xR 1 0 0) [.ref 0] (Wd σ X) (fun o G1 => o = .inl (some (.int (iI 1))) ∧ G1 = Wd σ X) := xMet_of (by decide) hL (Nat.le_of_ble_eq_true rfl) (by
  refine xw_eq rfl (l2 := [(0, .ref 0)]) rfl rfl rfl ?_
  refine xw_aload_n 0 dX11_isSameAtCodes_0 rfl ?_
  refine yz_getr (fo_X11_23 rfl) dX11_isSameAtCodes_1 is_0 rfl ?_
  refine yc_V (M' := mX9_restart) (d := 0) (c := 0) (s := 0) (As := []) (st := []) (v0 := none) (G2 := Wd σ X) dX11_isSameAtCodes_4 okX9_restart (Or.inl w_610) (xBig_i is_13.1) (Wd_get is_13) ⟨by decide, rfl⟩ rfl (Nat.le_of_ble_eq_true rfl) (by decide) (by decide) (Nat.zero_le _) (Nat.zero_le _) rfl rfl (s_restart0 hL h0) ?_
  refine xz_iconst dX11_isSameAtCodes_7 ?_
  refine xw_istore_n (l2 := [(0, .ref 0), (1, .int (iI 0))]) dX11_isSameAtCodes_8 (by decide) rfl rfl ?_
  refine xw_iload_n 1 dX11_isSameAtCodes_9 rfl ?_
  refine xw_aload_n 0 dX11_isSameAtCodes_10 rfl ?_
  refine yz_getr (fo_X11_10 rfl) dX11_isSameAtCodes_11 is_0 rfl ?_
  refine yz_geti (z := 4) (v := 0) (fo_X11_117 rfl) dX11_isSameAtCodes_14 is_1 rfl rfl hc ?_
  refine xz_icmp_ge (tgt := 97) dX11_isSameAtCodes_17 (by decide) (by omega) (by omega) (fun c1 => ?_) (fun c1 => ?_)
  · refine xz_iconst dX11_isSameAtCodes_97 ?_
    exact xz_zret dX11_isSameAtCodes_98 rfl (Or.inr rfl) (Nat.zero_le _) (Nat.zero_le _) ⟨rfl, rfl⟩
  · exact absurd c1 (by omega))
theorem l_isClash (hL : L.stackTraces = false) {n m : Int} (hr : yRg σ) (hn : 0 ≤ n ∧ n < 24) (hm : 0 ≤ m ∧ m < 24) (h9 : σ (cu n) 9 = -1) (hK : K (.inl (some (.int (iI 0)))) (Wd σ X)) (j : Int) (h0 : 0 ≤ j) (h1 : j ≤ 8) : xWP L O mX10_isClash (xR 1 0 0) K 2 [(0, .ref (cu n)), (1, .ref (cu m)), (2, .int (iI j))] [] (Wd σ X) 0 0 := by
  refine xw_iload_n 2 dX10_isClash_2 rfl ?_
  refine xz_bipush dX10_isClash_3 (by decide) ?_
  refine xz_icmp_ge (tgt := 43) dX10_isClash_5 (by decide) (by omega) (by omega) (fun c1 => ?_) (fun c1 => ?_)
  · refine xz_iconst dX10_isClash_43 ?_
    exact xz_zret dX10_isClash_44 rfl (Or.inl rfl) (Nat.zero_le _) (Nat.zero_le _) hK
  · refine xw_aload_n 0 dX10_isClash_8 rfl ?_
    have r2 := hr (cu n) 2
    refine yz_geti (z := 2) (v := σ (cu n) 2) (fo_X10_87 rfl) dX10_isClash_9 (is_cu hn) rfl rfl rfl ?_
    refine xw_aload_n 1 dX10_isClash_12 rfl ?_
    have r3 := hr (cu m) 1
    refine yz_geti (z := 1) (v := σ (cu m) 1) (fo_X10_84 rfl) dX10_isClash_13 (is_cu hm) rfl rfl rfl ?_
    refine xz_icmp_le (tgt := 43) dX10_isClash_16 (by decide) (by omega) (by omega) (fun c4 => ?_) (fun c4 => ?_)
    · refine xz_iconst dX10_isClash_43 ?_
      exact xz_zret dX10_isClash_44 rfl (Or.inl rfl) (Nat.zero_le _) (Nat.zero_le _) hK
    · refine xw_aload_n 0 dX10_isClash_19 rfl ?_
      refine xw_iload_n 2 dX10_isClash_20 rfl ?_
      refine yc_V (M' := mX3_isOnRow) (d := 0) (c := 0) (s := 0) (As := [.int (iI j)]) (st := []) (v0 := some (.int (iI 0))) (G2 := Wd σ X) dX10_isClash_21 okX3_isOnRow (Or.inl w_456) (xBig_i (is_cu hn).1) (Wd_get (is_cu hn)) ⟨by decide, rfl⟩ rfl (Nat.le_of_ble_eq_true rfl) (by decide) (by decide) (Nat.zero_le _) (Nat.zero_le _) rfl rfl (s_isOnRow0 hL hr hn h9) ?_
      refine xz_if_eq (tgt := 37) dX10_isClash_24 (by decide) (by omega) (fun c5 => ?_) (fun c5 => ?_)
      · refine xz_iinc (l2 := [(0, .ref (cu n)), (1, .ref (cu m)), (2, .int (iI (j + 1)))]) 2 dX10_isClash_37 rfl (by decide) rfl rfl ?_
        refine xw_goto (tgt := 2) dX10_isClash_40 (by decide) ?_
        exact l_isClash hL hr hn hm h9 hK (j + 1) (by omega) (by omega)
      · exact absurd rfl c5
termination_by (8 - j).toNat
theorem s_isClash (hL : L.stackTraces = false) {n m : Int} (hr : yRg σ) (hn : 0 ≤ n ∧ n < 24) (hm : 0 ≤ m ∧ m < 24) (h9 : σ (cu n) 9 = -1) : xMet L O mX10_isClash (xR 1 0 0) [.ref (cu n), .ref (cu m)] (Wd σ X) (fun o G1 => o = .inl (some (.int (iI 0))) ∧ G1 = Wd σ X) := xMet_of (by decide) hL (Nat.le_of_ble_eq_true rfl) (by
  refine xw_eq rfl (l2 := [(0, .ref (cu n)), (1, .ref (cu m))]) rfl rfl rfl ?_
  refine xz_iconst dX10_isClash_0 ?_
  refine xw_istore_n (l2 := [(0, .ref (cu n)), (1, .ref (cu m)), (2, .int (iI 0))]) dX10_isClash_1 (by decide) rfl rfl ?_
  exact l_isClash hL hr hn hm h9 ⟨rfl, rfl⟩ 0 (by omega) (by omega))
theorem l_clash14 (hL : L.stackTraces = false) {N : Int} (hr : yRg σ) (hq : yQu σ N) (j : Int) (h0 : 0 ≤ j) (h1 : j < σ 20 6) (k : Int) (k0 : j < k) (k1 : k ≤ σ 20 6) (hK : ∀ q : Int, xWP L O mX10_hasClash (xR 2 0 0) K 46 [(0, .ref 20), (1, .int (iI j)), (2, .int (iI q))] [] (Wd σ X) 0 0) : xWP L O mX10_hasClash (xR 2 0 0) K 14 [(0, .ref 20), (1, .int (iI j)), (2, .int (iI k))] [] (Wd σ X) 0 0 := by
  have hN := hq.1
  refine xw_iload_n 2 dX10_hasClash_14 rfl ?_
  refine xw_aload_n 0 dX10_hasClash_15 rfl ?_
  have r1 := hr 20 6
  refine yz_geti (z := 6) (v := σ 20 6) (fo_X10_58 rfl) dX10_hasClash_16 is_20 rfl rfl rfl ?_
  refine xz_icmp_ge (tgt := 46) dX10_hasClash_19 (by decide) (by omega) (by omega) (fun c2 => ?_) (fun c2 => ?_)
  · exact hK k
  · refine xw_aload_n 0 dX10_hasClash_22 rfl ?_
    refine xw_iload_n 1 dX10_hasClash_23 rfl ?_
    have r3 := hr 29 j
    have ho4 : 0 ≤ σ 29 j ∧ σ 29 j < 24 := hq.2.1 _ (by omega) (by omega)
    refine yc_V (M' := mX10_cueIn) (d := 1) (c := 0) (s := 0) (As := [.int (iI j)]) (st := []) (v0 := some (.ref (cu (σ 29 j)))) (G2 := Wd σ X) dX10_hasClash_24 okX10_cueIn (Or.inl w_422) (xBig_i is_20.1) (Wd_get is_20) ⟨by decide, rfl⟩ rfl (Nat.le_of_ble_eq_true rfl) (by decide) (by decide) (Nat.zero_le _) (Nat.zero_le _) rfl rfl (s_cueIn hL hr (by omega) ho4) ?_
    refine xw_aload_n 0 dX10_hasClash_27 rfl ?_
    refine xw_iload_n 2 dX10_hasClash_28 rfl ?_
    have r5 := hr 29 k
    have ho6 : 0 ≤ σ 29 k ∧ σ 29 k < 24 := hq.2.1 _ (by omega) (by omega)
    refine yc_V (M' := mX10_cueIn) (d := 1) (c := 0) (s := 0) (As := [.int (iI k)]) (st := [.ref (cu (σ 29 j))]) (v0 := some (.ref (cu (σ 29 k)))) (G2 := Wd σ X) dX10_hasClash_29 okX10_cueIn (Or.inl w_422) (xBig_i is_20.1) (Wd_get is_20) ⟨by decide, rfl⟩ rfl (Nat.le_of_ble_eq_true rfl) (by decide) (by decide) (Nat.zero_le _) (Nat.zero_le _) rfl rfl (s_cueIn hL hr (by omega) ho6) ?_
    refine yc_S (M' := mX10_isClash) (d := 1) (c := 0) (s := 0) (As := [.ref (cu (σ 29 j)), .ref (cu (σ 29 k))]) (st := []) (v0 := some (.int (iI 0))) (G2 := Wd σ X) dX10_hasClash_32 okX10_isClash (Or.inl w_603) rfl (Nat.le_of_ble_eq_true rfl) (by decide) (by decide) (Nat.zero_le _) (Nat.zero_le _) rfl rfl (s_isClash hL hr (hq.2.1 _ h0 (by omega)) (hq.2.1 _ (by omega) (by omega)) (hq.2.2 _ h0 (by omega)).2) ?_
    refine xz_if_eq (tgt := 40) dX10_hasClash_35 (by decide) (by omega) (fun c7 => ?_) (fun c7 => ?_)
    · refine xz_iinc (l2 := [(0, .ref 20), (1, .int (iI j)), (2, .int (iI (k + 1)))]) 2 dX10_hasClash_40 rfl (by decide) rfl rfl ?_
      refine xw_goto (tgt := 14) dX10_hasClash_43 (by decide) ?_
      exact l_clash14 hL hr hq j h0 h1 (k + 1) (by omega) (by omega) hK
    · exact absurd rfl c7
termination_by (σ 20 6 - k).toNat
theorem l_clash2 (hL : L.stackTraces = false) {N : Int} (hr : yRg σ) (hq : yQu σ N) (hK : K (.inl (some (.int (iI 0)))) (Wd σ X)) (j : Int) (h0 : 0 ≤ j) (h1 : j ≤ σ 20 6) : xWP L O mX10_hasClash (xR 2 0 0) K 2 [(0, .ref 20), (1, .int (iI j))] [] (Wd σ X) 0 0 := by
  have hN := hq.1
  refine xw_iload_n 1 dX10_hasClash_2 rfl ?_
  refine xw_aload_n 0 dX10_hasClash_3 rfl ?_
  have r1 := hr 20 6
  refine yz_geti (z := 6) (v := σ 20 6) (fo_X10_58 rfl) dX10_hasClash_4 is_20 rfl rfl rfl ?_
  refine xz_icmp_ge (tgt := 52) dX10_hasClash_7 (by decide) (by omega) (by omega) (fun c2 => ?_) (fun c2 => ?_)
  · refine xz_iconst dX10_hasClash_52 ?_
    exact xz_zret dX10_hasClash_53 rfl (Or.inl rfl) (Nat.zero_le _) (Nat.zero_le _) hK
  · refine xw_iload_n 1 dX10_hasClash_10 rfl ?_
    refine xz_iconst dX10_hasClash_11 ?_
    refine xz_iadd dX10_hasClash_12 ?_
    refine xw_istore_n (l2 := [(0, .ref 20), (1, .int (iI j)), (2, .int (iI (j + 1)))]) dX10_hasClash_13 (by decide) rfl rfl ?_
    refine l_clash14 hL hr hq j h0 (by omega) (j + 1) (by omega) (by omega) (fun q => ?_)
    refine xz_iinc (l2 := [(0, .ref 20), (1, .int (iI (j + 1))), (2, .int (iI q))]) 1 dX10_hasClash_46 rfl (by decide) rfl rfl ?_
    refine xw_goto (tgt := 2) dX10_hasClash_49 (by decide) ?_
    refine xw_loc [(0, .ref 20), (1, .int (iI (j + 1)))] (fun q9 hq9 => List.mem_append_left ([(2, .int (iI q))] : List (Nat × Value)) hq9) ?_
    exact l_clash2 hL hr hq hK (j + 1) (by omega) (by omega)
termination_by (σ 20 6 - j).toNat
theorem s_hasClash (hL : L.stackTraces = false) {N : Int} (hr : yRg σ) (hq : yQu σ N) : xMet L O mX10_hasClash (xR 2 0 0) [.ref 20] (Wd σ X) (fun o G1 => o = .inl (some (.int (iI 0))) ∧ G1 = Wd σ X) := xMet_of (by decide) hL (Nat.le_of_ble_eq_true rfl) (by
  refine xw_eq rfl (l2 := [(0, .ref 20)]) rfl rfl rfl ?_
  refine xz_iconst dX10_hasClash_0 ?_
  refine xw_istore_n (l2 := [(0, .ref 20), (1, .int (iI 0))]) dX10_hasClash_1 (by decide) rfl rfl ?_
  exact l_clash2 hL hr hq ⟨rfl, rfl⟩ 0 (by omega) (by have := hq.1; omega))
theorem yArd.quiet {N : Int} (h : yArd σ N) (hN : 0 ≤ N ∧ N ≤ 24) (hw : ∀ k, 0 ≤ k → k < N → σ (cu k) 6 = 0) : yQu σ N := by
  obtain ⟨h1, h2, h3⟩ := h
  refine ⟨⟨hN.1, hN.2, h1⟩, fun p a1 a2 => ?_, fun p a1 a2 => ?_⟩
  · have := h2.1 p a1 a2; omega
  · have q := h2.1 p a1 a2
    exact (h3 _ q.1 q.2).2.2 (hw _ q.1 q.2)
theorem yArd.f3 {σ σ' : ySg} {N : Int} (h : yArd σ N) (g : yF3 σ σ') : yArd σ' N := by
  obtain ⟨h1, h2, h3⟩ := h
  refine ⟨(g _ _ (by decide) (by decide)).trans h1, h2.cong (fun p => g _ _ (by decide) (by decide)) (fun k => g.kcu k 1), fun k a1 a2 => ?_⟩
  have := h3 k a1 a2
  unfold yRw at this ⊢
  rw [g.kcu, g.kcu, g.kcu]
  exact this
theorem yF3.sc {σ σ' : ySg} (g : yF3 σ σ') : yAg σ σ' := fun a b q => g a b (by unfold yScA at q; omega) (by unfold yScA at q; omega)
theorem s_isSound (hL : L.stackTraces = false) {N : Int} (hr : yRg σ) (hN : 0 ≤ N ∧ N ≤ 24) (ht : yTh σ N) (hcs : yCst σ) (hcu : yCus σ N) (hc3 : ∀ k, 0 ≤ k → k < 24 → 0 ≤ σ (cu k) 3 ∧ σ (cu k) 3 < 3) (h6 : σ 0 6 = 0 ∨ (σ 0 6 = 1 ∧ yArd σ N)) (hw : ∀ k, 0 ≤ k → k < N → σ (cu k) 6 = 0) (hse : ∀ k, 0 ≤ k → k < N → 0 ≤ σ (cu k) 1 ∧ σ (cu k) 1 < σ (cu k) 2 ∧ σ (cu k) 2 ≤ 99999) (hd0 : σ 13 7 = 0) (hd1 : σ 1 4 = 0) : xMet L O mX11_isSound (xR 6 0 0) [.ref 0] (Wd σ X) (fun o G1 => ∃ σ' : ySg, o = .inl (some (.int (iI 1))) ∧ yRg σ' ∧ σ' 0 6 = 1 ∧ yArd σ' N ∧ (∀ a b, ¬ yScA a b → ¬ (a = 0 ∧ b = 6) → σ' a b = σ a b) ∧ G1 = Wd σ' X) := xMet_of (by decide) hL (Nat.le_of_ble_eq_true rfl) (by
  refine xw_eq rfl (l2 := [(0, .ref 0)]) rfl rfl rfl ?_
  refine xw_aload_n 0 dX11_isSound_0 rfl ?_
  refine yc_VE (M' := mX11_arrange) (d := 5) (c := 0) (s := 0) (As := []) (st := []) dX11_isSound_1 okX11_arrange (Or.inl w_406) (xBig_i is_0.1) (Wd_get is_0) ⟨by decide, rfl⟩ rfl (Nat.le_of_ble_eq_true rfl) (by decide) (by decide) (Nat.zero_le _) (Nat.zero_le _) (s_arrange hL hr hN ht hcs hcu h6) (fun v9 G9 h9 => ?_) (fun E9 G9 h9 => ?_)
  · obtain ⟨σ1, e9, hr1, h61, ha1, hg1, hs1, e8⟩ := h9
    cases e9
    subst e8
    have ec : ∀ (k b : Int), b < 8 → σ1 (cu k) b = σ (cu k) b := fun k b q => hg1 _ _ (by unfold yScA cu; omega) (by unfold cu; omega)
    have hq := ha1.quiet hN (fun k a1 a2 => by rw [ec _ _ (by omega)]; exact hw k a1 a2)
    refine xw_aload_n 0 dX11_isSound_4 rfl ?_
    refine yz_getr (fo_X11_29 rfl) dX11_isSound_5 is_0 rfl ?_
    refine yc_V (M' := mX10_hasClash) (d := 2) (c := 0) (s := 0) (As := []) (st := []) (v0 := some (.int (iI 0))) (G2 := Wd σ1 X) dX11_isSound_8 okX10_hasClash (Or.inl w_599) (xBig_i is_20.1) (Wd_get is_20) ⟨by decide, rfl⟩ rfl (Nat.le_of_ble_eq_true rfl) (by decide) (by decide) (Nat.zero_le _) (Nat.zero_le _) rfl rfl (s_hasClash hL hr1 hq) ?_
    refine xz_if_ne (tgt := 32) dX11_isSound_11 (by decide) (by omega) (fun c2 => ?_) (fun c2 => ?_)
    · exact absurd rfl c2
    · refine xw_aload_n 0 dX11_isSound_14 rfl ?_
      refine yc_V (M' := mX11_isSameAtCodes) (d := 1) (c := 0) (s := 0) (As := []) (st := []) (v0 := some (.int (iI 1))) (G2 := Wd σ1 X) dX11_isSound_15 okX11_isSameAtCodes (Or.inl w_606) (xBig_i is_0.1) (Wd_get is_0) ⟨by decide, rfl⟩ rfl (Nat.le_of_ble_eq_true rfl) (by decide) (by decide) (Nat.zero_le _) (Nat.zero_le _) rfl rfl (s_sameCodes hL (by rw [hg1 _ _ (by unfold yScA; omega) (by omega)]; exact hd0) (by rw [hg1 _ _ (by unfold yScA; omega) (by omega)]; exact hd1)) ?_
      refine xz_if_eq (tgt := 32) dX11_isSound_18 (by decide) (by omega) (fun c3 => ?_) (fun c3 => ?_)
      · exact absurd c3 (by omega)
      · refine xw_aload_n 0 dX11_isSound_21 rfl ?_
        refine yc_VE (M' := mX11_isSameAtCues) (d := 4) (c := 0) (s := 0) (As := []) (st := []) dX11_isSound_22 okX11_isSameAtCues (Or.inl w_704) (xBig_i is_0.1) (Wd_get is_0) ⟨by decide, rfl⟩ rfl (Nat.le_of_ble_eq_true rfl) (by decide) (by decide) (Nat.zero_le _) (Nat.zero_le _) (s_sameCues hL hr1 hq (fun r a1 a2 => by rw [hg1 _ _ (by unfold yScA; omega) (by omega), hg1 _ _ (by unfold yScA; omega) (by omega), hg1 _ _ (by unfold yScA; omega) (by omega)]; exact hcs r a1 a2) (fun k a1 a2 => by rw [ec k _ (by omega)]; exact hc3 k a1 a2) (fun p a1 a2 => by rw [ec _ _ (by omega), ec _ _ (by omega)]; have := ha1.2.1.1 p a1 a2; exact hse _ this.1 this.2)) (fun v9 G9 h9 => ?_) (fun E9 G9 h9 => ?_)
        · obtain ⟨σ4, e9, hr4, hf4, e8⟩ := h9
          cases e9
          subst e8
          refine xz_if_eq (tgt := 32) dX11_isSound_25 (by decide) (by omega) (fun c5 => ?_) (fun c5 => ?_)
          · exact absurd c5 (by omega)
          · refine xz_iconst dX11_isSound_28 ?_
            refine xw_goto (tgt := 33) dX11_isSound_29 (by decide) ?_
            exact xz_zret dX11_isSound_33 rfl (Or.inr rfl) (Nat.zero_le _) (Nat.zero_le _) ⟨_, rfl, hr4, (hf4 _ _ (by decide) (by decide)).trans h61, ha1.f3 hf4, fun a b q1 q2 => (hf4.sc a b q1).trans (hg1 a b q1 q2), rfl⟩
        · obtain ⟨_, e9, _⟩ := h9
          cases e9
  · obtain ⟨_, e9, _⟩ := h9
    cases e9)
end Y22

section Y29
variable {L : Launch} {O : xWd} {K : xOc → List xOb → Prop} {σ : ySg} {X : List xOb} {G : List xOb}
def yPs (d : Int → Int) : Nat → Int
  | 0 => 0
  | k + 1 => yPs d k + d (k : Int)
theorem yPs_cong {d e : Int → Int} : ∀ n : Nat, (∀ k : Int, 0 ≤ k → k < n → d k = e k) → yPs d n = yPs e n
  | 0, _ => rfl
  | n + 1, h => by
    unfold yPs
    rw [yPs_cong n (fun k a b => h k a (by omega)), h n (by omega) (by omega)]
theorem yPs_one {d e : Int → Int} {m : Int} (h : ∀ k : Int, k ≠ m → d k = e k) : ∀ n : Nat, 0 ≤ m → m < n → yPs d n = yPs e n + (d m - e m)
  | 0, a, b => by omega
  | n + 1, a, b => by
    unfold yPs
    by_cases c : m = n
    · subst c
      rw [yPs_cong n (e := e) (fun k a b => h k (by omega))]
      omega
    · rw [yPs_one h n a (by omega), h n (by omega)]
      omega
theorem yPs_bd {d : Int → Int} (h : ∀ k, 0 ≤ d k ∧ d k ≤ 2) : ∀ n : Nat, 0 ≤ yPs d n ∧ yPs d n ≤ 2 * n
  | 0 => by simp [yPs]
  | n + 1 => by
    have h1 := yPs_bd h n
    have h2 := h (n : Int)
    unfold yPs
    omega
def yne (a b : Int) : Int := if a = b then 0 else 1
theorem yne_0 {a b : Int} (h : a = b) : yne a b = 0 := if_pos h
theorem yne_1 {a b : Int} (h : ¬ a = b) : yne a b = 1 := if_neg h
theorem yne_bd (a b : Int) : 0 ≤ yne a b ∧ yne a b ≤ 1 := by unfold yne; split <;> omega
/-- how many of a cue's two frames differ -/
def yTd (σ0 σ : ySg) (k : Int) : Int := yne (σ (cu k) 1) (σ0 (cu k) 1) + yne (σ (cu k) 2) (σ0 (cu k) 2)
def yDf (σ0 σ : ySg) (N : Int) : Int := yPs (yTd σ0 σ) N.toNat
theorem yDf_bd (σ0 σ : ySg) (N : Int) (h : N ≤ 24) : 0 ≤ yDf σ0 σ N ∧ yDf σ0 σ N ≤ 48 := by
  have := yPs_bd (d := yTd σ0 σ) (fun k => by have h1 := yne_bd (σ (cu k) 1) (σ0 (cu k) 1); have h2 := yne_bd (σ (cu k) 2) (σ0 (cu k) 2); unfold yTd; omega) N.toNat
  unfold yDf
  omega
theorem yDf_0 (σ : ySg) (N : Int) : yDf σ σ N = 0 := by
  unfold yDf
  have h : ∀ n : Nat, yPs (yTd σ σ) n = 0 := fun n => by
    induction n with
    | zero => rfl
    | succ n ih => unfold yPs; rw [ih]; unfold yTd; rw [yne_0 rfl, yne_0 rfl]; rfl
  exact h _
/-- nothing but the two frames of the cue n changed -/
def yF2 (n : Int) (σ σ' : ySg) : Prop := ∀ x y, ¬ (x = cu n ∧ (y = 1 ∨ y = 2)) → σ' x y = σ x y
theorem yF2.tr {n : Int} {σ σ1 σ2 : ySg} (h : yF2 n σ σ1) (g : yF2 n σ1 σ2) : yF2 n σ σ2 := fun x y q => (g x y q).trans (h x y q)
theorem yDf_one {σ0 σ σ1 : ySg} {n N : Int} (h : yF2 n σ σ1) (hn : 0 ≤ n ∧ n < N) : yDf σ0 σ1 N = yDf σ0 σ N + (yTd σ0 σ1 n - yTd σ0 σ n) := by
  unfold yDf
  -- cue numbers below 0 share the first cue's cell: they are never asked
  have e : ∀ m : Nat, yPs (yTd σ0 σ1) m = yPs (fun k => if 0 ≤ k then yTd σ0 σ1 k else 0) m := fun m => yPs_cong m (fun k a b => (if_pos a).symm)
  have e2 : ∀ m : Nat, yPs (yTd σ0 σ) m = yPs (fun k => if 0 ≤ k then yTd σ0 σ k else 0) m := fun m => yPs_cong m (fun k a b => (if_pos a).symm)
  rw [e, e2, yPs_one (d := fun k => if 0 ≤ k then yTd σ0 σ1 k else 0) (e := fun k => if 0 ≤ k then yTd σ0 σ k else 0) (m := n) (fun k q => ?_) N.toNat hn.1 (by omega)]
  · simp only [if_pos hn.1]
  · show (if 0 ≤ k then _ else _) = (if 0 ≤ k then _ else _)
    split
    · unfold yTd
      rw [h _ _ (fun z => q ((cu_inj (by omega) hn.1).mp z.1)), h _ _ (fun z => q ((cu_inj (by omega) hn.1).mp z.1))]
    · rfl
/-- the cues below j were moved as R says; all else is as it was -/
def yMv (R : Int → Int → Int → Int → Prop) (N : Int) (σ0 σ : ySg) (j : Int) : Prop := (∀ k, 0 ≤ k → k < j → k < N → R (σ0 (cu k) 1) (σ0 (cu k) 2) (σ (cu k) 1) (σ (cu k) 2)) ∧ ∀ x y, ¬ (32 ≤ x ∧ x < 32 + 4 * (min j N).toNat ∧ x % 4 = 0 ∧ (y = 1 ∨ y = 2)) → σ x y = σ0 x y
theorem yMv_0 {R : Int → Int → Int → Int → Prop} {N : Int} {σ : ySg} : yMv R N σ σ 0 := ⟨fun k a b => absurd b (by omega), fun _ _ _ => rfl⟩
theorem yMv_skip {R : Int → Int → Int → Int → Prop} {N j : Int} {σ0 σ : ySg} (h : yMv R N σ0 σ j) (hj : N ≤ j) (h0 : 0 ≤ j) : yMv R N σ0 σ (j + 1) := ⟨fun k a b c => h.1 k a (by omega) c, fun x y q => h.2 x y (fun z => q ⟨z.1, by omega, z.2.2⟩)⟩
theorem yMv_step {R : Int → Int → Int → Int → Prop} {N j : Int} {σ0 σ σ1 : ySg} (h : yMv R N σ0 σ j) (h0 : 0 ≤ j) (hjN : j < N) (g : yF2 j σ σ1) (hR : R (σ0 (cu j) 1) (σ0 (cu j) 2) (σ1 (cu j) 1) (σ1 (cu j) 2)) : yMv R N σ0 σ1 (j + 1) := by
  refine ⟨fun k a b c => ?_, fun x y q => ?_⟩
  · by_cases e : k = j
    · subst e; exact hR
    · rw [g _ _ (fun z => e ((cu_inj a h0).mp z.1)), g _ _ (fun z => e ((cu_inj a h0).mp z.1))]
      exact h.1 k a (by omega) c
  · rw [g _ _ (fun z => q ⟨by rw [z.1]; unfold cu; omega, by rw [z.1]; unfold cu; omega, by rw [z.1]; unfold cu; omega, z.2⟩)]
    exact h.2 x y (fun z => q ⟨z.1, by omega, z.2.2⟩)
theorem yMv.at {R : Int → Int → Int → Int → Prop} {N j : Int} {σ0 σ : ySg} (h : yMv R N σ0 σ j) (h0 : 0 ≤ j) (y : Int) : σ (cu j) y = σ0 (cu j) y := h.2 _ _ (by unfold cu; omega)
theorem yMv.th {R : Int → Int → Int → Int → Prop} {N j : Int} {σ0 σ : ySg} (h : yMv R N σ0 σ j) (k : Int) : σ (cu k) 0 = σ0 (cu k) 0 := h.2 _ _ (by omega)
def ySnR (C : Int → Int) (c r : Int) (S E S' E' : Int) : Prop := ∃ z1 z2, ySp C c S r z1 ∧ ySp C c E r z2 ∧ ((z1 < E ∧ S' = z1) ∨ (E ≤ z1 ∧ S' = S)) ∧ ((S' < z2 ∧ E' = z2) ∨ (z2 ≤ S' ∧ E' = E))
theorem ySp_bd {C : Int → Int} {c f r z : Int} (h : ySp C c f r z) (hf : 0 ≤ f ∧ f ≤ 99999) (hC : ∀ i, 0 ≤ i → i < c → 0 ≤ C i ∧ C i ≤ 99999) : 0 ≤ z ∧ z ≤ 99999 := by
  rcases h with ⟨e, _⟩ | ⟨⟨i, i1, i2, i3⟩, _⟩
  · omega
  · have := hC i i1 i2; omega
theorem l_snap (hL : L.stackTraces = false) {σ0 σ : ySg} {N r : Int} (hr : yRg σ) (hN : 0 ≤ N ∧ N ≤ 24) (ht : yTh σ0 N) (hc : 0 ≤ σ0 128 1 ∧ σ0 128 1 ≤ 20) (hC : ∀ i, 0 ≤ i → i < σ0 128 1 → 0 ≤ σ0 129 i ∧ σ0 129 i ≤ 99999) (hse : ∀ k, 0 ≤ k → k < N → 0 ≤ σ0 (cu k) 1 ∧ σ0 (cu k) 1 < σ0 (cu k) 2 ∧ σ0 (cu k) 2 ≤ 99999) (hrr : 0 ≤ r ∧ r ≤ 99) (j : Int) (h0 : 0 ≤ j) (h1 : j ≤ 24) (hm : yMv (ySnR (σ0 129) (σ0 128 1) r) N σ0 σ j) (hK : ∀ σ' : ySg, yRg σ' → yMv (ySnR (σ0 129) (σ0 128 1) r) N σ0 σ' 24 → K (.inl (some (.int (iI (yDf σ0 σ' N))))) (Wd (yup σ' 0 6 0) X)) : xWP L O mX11_snap (xR 2 0 0) K 14 [(0, .ref 0), (1, .int (iI r)), (2, .int (iI (yDf σ0 σ N))), (3, .int (iI j))] [] (Wd σ X) 0 0 := by
  have hdb := yDf_bd σ0 σ N hN.2
  refine xw_iload_n 3 dX11_snap_14 rfl ?_
  refine xz_bipush dX11_snap_15 (by decide) ?_
  refine xz_icmp_ge (tgt := 138) dX11_snap_17 (by decide) (by omega) (by omega) (fun c1 => ?_) (fun c1 => ?_)
  · refine xw_aload_n 0 dX11_snap_138 rfl ?_
    refine xz_iconst dX11_snap_139 ?_
    refine yz_putz (z := 6) (fp_X11_193 rfl) dX11_snap_140 is_0 rfl rfl (Or.inl rfl) ?_
    refine xw_iload_n 2 dX11_snap_143 rfl ?_
    exact xz_iret dX11_snap_144 rfl (Nat.zero_le _) (Nat.zero_le _) (hK σ hr (by rw [show (24 : Int) = j by omega]; exact hm))
  · refine xw_aload_n 0 dX11_snap_20 rfl ?_
    refine yz_getr (fo_X11_37 rfl) dX11_snap_21 is_0 rfl ?_
    refine xw_iload_n 3 dX11_snap_24 rfl ?_
    refine yz_aald 3 dX11_snap_25 (by decide) rfl rfl is_21 (by omega) (by decide) (ks21_get (by omega)) ?_
    refine xw_astore (l2 := [(0, .ref 0), (1, .int (iI r)), (2, .int (iI (yDf σ0 σ N))), (3, .int (iI j)), (4, .ref (cu j))]) dX11_snap_26 (by decide) rfl rfl ?_
    have ht1 := ht j h0 (by omega)
    rw [← hm.th j] at ht1
    have hj1 := hm.at h0 1
    have hj2 := hm.at h0 2
    refine xw_aload 4 dX11_snap_28 rfl ?_
    have r2 := hr (cu j) 0
    refine yz_geti (z := 0) (v := σ (cu j) 0) (fo_X11_218 rfl) dX11_snap_30 (is_cu ⟨h0, by omega⟩) rfl rfl rfl ?_
    refine xz_if_eq (tgt := 132) dX11_snap_33 (by decide) (by omega) (fun c3 => ?_) (fun c3 => ?_)
    · refine xz_iinc (l2 := [(0, .ref 0), (1, .int (iI r)), (2, .int (iI (yDf σ0 σ N))), (3, .int (iI (j + 1))), (4, .ref (cu j))]) 3 dX11_snap_132 rfl (by decide) rfl rfl ?_
      refine xw_goto (tgt := 14) dX11_snap_135 (by decide) ?_
      refine xw_loc [(0, .ref 0), (1, .int (iI r)), (2, .int (iI (yDf σ0 σ N))), (3, .int (iI (j + 1)))] (fun q9 hq9 => List.mem_append_left ([(4, .ref (cu j))] : List (Nat × Value)) hq9) ?_
      exact l_snap hL hr hN ht hc hC hse hrr (j + 1) (by omega) (by omega) (yMv_skip hm (by omega) h0) hK
    · have hse1 := hse j h0 (by omega)
      refine xw_aload_n 0 dX11_snap_36 rfl ?_
      refine yz_getr (fo_X11_43 rfl) dX11_snap_37 is_0 rfl ?_
      refine xw_aload 4 dX11_snap_40 rfl ?_
      have r4 := hr (cu j) 1
      refine yz_geti (z := 1) (v := σ (cu j) 1) (fo_X11_221 rfl) dX11_snap_42 (is_cu ⟨h0, by omega⟩) rfl rfl rfl ?_
      refine xw_iload_n 1 dX11_snap_45 rfl ?_
      refine yc_VE (M' := mX4_snapped) (d := 1) (c := 0) (s := 0) (As := [.int (iI (σ (cu j) 1)), .int (iI r)]) (st := []) dX11_snap_46 okX4_snapped (Or.inl w_879) (xBig_i is_128.1) (Wd_get is_128) ⟨by decide, rfl⟩ rfl (Nat.le_of_ble_eq_true rfl) (by decide) (by decide) (Nat.zero_le _) (Nat.zero_le _) (s_X4_snapped hL hr (by rw [hm.2 _ _ (by omega)]; exact hc) (by rw [hm.2 _ _ (by omega)]; intro i a1 a2; rw [hm.2 _ _ (by omega)]; exact hC i a1 a2) (by omega) hrr) (fun v9 G9 h9 => ?_) (fun E9 G9 h9 => ?_)
      · obtain ⟨y5, e9, hy5, e8⟩ := h9
        cases e9
        subst e8
        rw [show σ 129 = σ0 129 from funext fun i => hm.2 _ _ (by omega), hm.2 128 1 (by omega)] at hy5
        have hyb5 := ySp_bd hy5 (by omega) hC
        refine xw_istore (l2 := [(0, .ref 0), (1, .int (iI r)), (2, .int (iI (yDf σ0 σ N))), (3, .int (iI j)), (4, .ref (cu j)), (5, .int (iI y5))]) dX11_snap_49 (by decide) rfl rfl ?_
        refine xw_iload_n 2 dX11_snap_51 rfl ?_
        refine xw_aload 4 dX11_snap_52 rfl ?_
        refine xw_iload 5 dX11_snap_54 rfl ?_
        refine xw_aload 4 dX11_snap_56 rfl ?_
        have r6 := hr (cu j) 2
        refine yz_geti (z := 2) (v := σ (cu j) 2) (fo_X11_224 rfl) dX11_snap_58 (is_cu ⟨h0, by omega⟩) rfl rfl rfl ?_
        refine xw_join (J := 74) (c1 := 0) (n1 := 0) (P := fun z7 => (y5 < σ (cu j) 2 ∧ z7 = y5) ∨ (σ (cu j) 2 ≤ y5 ∧ z7 = σ (cu j) 1)) (ls' := fun _ => [(0, .ref 0), (1, .int (iI r)), (2, .int (iI (yDf σ0 σ N))), (3, .int (iI j)), (4, .ref (cu j)), (5, .int (iI y5))]) (st' := fun z7 => [.int (iI z7), .ref (cu j), .int (iI (yDf σ0 σ N))]) (G' := fun _ => Wd σ X) (fun z7 hz9 => ?_) (fun j8 => ?_)
        · refine xw_aload 4 dX11_snap_74 rfl ?_
          refine yz_geti (z := 2) (v := σ (cu j) 2) (fo_X11_224 rfl) dX11_snap_76 (is_cu ⟨h0, by omega⟩) rfl rfl rfl ?_
          have hva10 : -2147483648 ≤ z7 ∧ z7 < 2147483648 := by omega
          have hvb10 : -2147483648 ≤ (σ (cu j) 2) ∧ (σ (cu j) 2) < 2147483648 := by omega
          refine yc_VE (M' := mX3_moveTo) (d := 0) (c := 0) (s := 0) (As := [.int (iI z7), .int (iI (σ (cu j) 2))]) (st := [.int (iI (yDf σ0 σ N))]) dX11_snap_79 okX3_moveTo (Or.inl w_884) (xBig_i (is_cu ⟨h0, by omega⟩).1) (Wd_get (is_cu ⟨h0, by omega⟩)) ⟨by decide, rfl⟩ rfl (Nat.le_of_ble_eq_true rfl) (by decide) (by decide) (Nat.zero_le _) (Nat.zero_le _) (s_X3_moveTo hL hr ⟨h0, by omega⟩ hva10 hvb10) (fun v9 G9 h9 => ?_) (fun E9 G9 h9 => ?_)
          · obtain ⟨z10, e9, hz10, e8⟩ := h9
            cases e9
            subst e8
            obtain ⟨σ10, em10⟩ : ∃ q, q = yup (yup σ (cu j) 1 z7) (cu j) 2 (σ (cu j) 2) := ⟨_, rfl⟩
            rw [← em10]
            have hr10 : yRg σ10 := by rw [em10]; exact yRg_up (yRg_up hr hva10) hvb10
            have hf10 : yF2 j σ σ10 := fun x y q => by rw [em10, yup_n (fun z => q ⟨z.1, Or.inr z.2⟩), yup_n (fun z => q ⟨z.1, Or.inl z.2⟩)]
            have h110 : σ10 (cu j) 1 = z7 := by rw [em10, yup_k (by decide), yup_s]
            have h210 : σ10 (cu j) 2 = σ (cu j) 2 := by rw [em10, yup_s]
            refine xz_iadd dX11_snap_82 ?_
            refine xw_istore_n (l2 := [(0, .ref 0), (1, .int (iI r)), (2, .int (iI ((yDf σ0 σ N) + z10))), (3, .int (iI j)), (4, .ref (cu j)), (5, .int (iI y5))]) dX11_snap_83 (by decide) rfl rfl ?_
            refine xw_aload_n 0 dX11_snap_84 rfl ?_
            refine yz_getr (fo_X11_43 rfl) dX11_snap_85 is_0 rfl ?_
            refine xw_aload 4 dX11_snap_88 rfl ?_
            refine yz_geti (z := 2) (v := σ (cu j) 2) (fo_X11_224 rfl) dX11_snap_90 (is_cu ⟨h0, by omega⟩) rfl rfl h210 ?_
            refine xw_iload_n 1 dX11_snap_93 rfl ?_
            refine yc_VE (M' := mX4_snapped) (d := 1) (c := 0) (s := 0) (As := [.int (iI (σ (cu j) 2)), .int (iI r)]) (st := []) dX11_snap_94 okX4_snapped (Or.inl w_879) (xBig_i is_128.1) (Wd_get is_128) ⟨by decide, rfl⟩ rfl (Nat.le_of_ble_eq_true rfl) (by decide) (by decide) (Nat.zero_le _) (Nat.zero_le _) (s_X4_snapped hL hr10 (by rw [hf10 _ _ (by unfold cu; omega), hm.2 _ _ (by omega)]; exact hc) (by rw [hf10 _ _ (by unfold cu; omega), hm.2 _ _ (by omega)]; intro i a1 a2; rw [hf10 _ _ (by unfold cu; omega), hm.2 _ _ (by omega)]; exact hC i a1 a2) (by omega) hrr) (fun v9 G9 h9 => ?_) (fun E9 G9 h9 => ?_)
            · obtain ⟨y11, e9, hy11, e8⟩ := h9
              cases e9
              subst e8
              rw [show σ10 129 = σ0 129 from funext fun i => (hf10 _ _ (by unfold cu; omega)).trans (hm.2 _ _ (by omega)), (hf10 128 1 (by unfold cu; omega)).trans (hm.2 128 1 (by omega))] at hy11
              have hyb11 := ySp_bd hy11 (by omega) hC
              refine xw_istore (l2 := [(0, .ref 0), (1, .int (iI r)), (2, .int (iI ((yDf σ0 σ N) + z10))), (3, .int (iI j)), (4, .ref (cu j)), (5, .int (iI y5)), (6, .int (iI y11))]) dX11_snap_97 (by decide) rfl rfl ?_
              refine xw_iload_n 2 dX11_snap_99 rfl ?_
              refine xw_aload 4 dX11_snap_100 rfl ?_
              refine xw_aload 4 dX11_snap_102 rfl ?_
              refine yz_geti (z := 1) (v := z7) (fo_X11_221 rfl) dX11_snap_104 (is_cu ⟨h0, by omega⟩) rfl rfl h110 ?_
              refine xw_iload 6 dX11_snap_107 rfl ?_
              refine xw_aload 4 dX11_snap_109 rfl ?_
              refine yz_geti (z := 1) (v := z7) (fo_X11_221 rfl) dX11_snap_111 (is_cu ⟨h0, by omega⟩) rfl rfl h110 ?_
              refine xw_join (J := 127) (c1 := 0) (n1 := 0) (P := fun z12 => (z7 < y11 ∧ z12 = y11) ∨ (y11 ≤ z7 ∧ z12 = σ (cu j) 2)) (ls' := fun _ => [(0, .ref 0), (1, .int (iI r)), (2, .int (iI ((yDf σ0 σ N) + z10))), (3, .int (iI j)), (4, .ref (cu j)), (5, .int (iI y5)), (6, .int (iI y11))]) (st' := fun z12 => [.int (iI z12), .int (iI z7), .ref (cu j), .int (iI ((yDf σ0 σ N) + z10))]) (G' := fun _ => Wd σ10 X) (fun z12 hz14 => ?_) (fun j13 => ?_)
              · have hva15 : -2147483648 ≤ z7 ∧ z7 < 2147483648 := by omega
                have hvb15 : -2147483648 ≤ z12 ∧ z12 < 2147483648 := by omega
                refine yc_VE (M' := mX3_moveTo) (d := 0) (c := 0) (s := 0) (As := [.int (iI z7), .int (iI z12)]) (st := [.int (iI ((yDf σ0 σ N) + z10))]) dX11_snap_127 okX3_moveTo (Or.inl w_884) (xBig_i (is_cu ⟨h0, by omega⟩).1) (Wd_get (is_cu ⟨h0, by omega⟩)) ⟨by decide, rfl⟩ rfl (Nat.le_of_ble_eq_true rfl) (by decide) (by decide) (Nat.zero_le _) (Nat.zero_le _) (s_X3_moveTo hL hr10 ⟨h0, by omega⟩ hva15 hvb15) (fun v9 G9 h9 => ?_) (fun E9 G9 h9 => ?_)
                · obtain ⟨z15, e9, hz15, e8⟩ := h9
                  cases e9
                  subst e8
                  obtain ⟨σ15, em15⟩ : ∃ q, q = yup (yup σ10 (cu j) 1 z7) (cu j) 2 z12 := ⟨_, rfl⟩
                  rw [← em15]
                  have hr15 : yRg σ15 := by rw [em15]; exact yRg_up (yRg_up hr10 hva15) hvb15
                  have hf15 : yF2 j σ10 σ15 := fun x y q => by rw [em15, yup_n (fun z => q ⟨z.1, Or.inr z.2⟩), yup_n (fun z => q ⟨z.1, Or.inl z.2⟩)]
                  have h115 : σ15 (cu j) 1 = z7 := by rw [em15, yup_k (by decide), yup_s]
                  have h215 : σ15 (cu j) 2 = z12 := by rw [em15, yup_s]
                  refine xz_iadd dX11_snap_130 ?_
                  refine xw_istore_n (l2 := [(0, .ref 0), (1, .int (iI r)), (2, .int (iI (((yDf σ0 σ N) + z10) + z15))), (3, .int (iI j)), (4, .ref (cu j)), (5, .int (iI y5)), (6, .int (iI y11))]) dX11_snap_131 (by decide) rfl rfl ?_
                  refine xz_iinc (l2 := [(0, .ref 0), (1, .int (iI r)), (2, .int (iI (((yDf σ0 σ N) + z10) + z15))), (3, .int (iI (j + 1))), (4, .ref (cu j)), (5, .int (iI y5)), (6, .int (iI y11))]) 3 dX11_snap_132 rfl (by decide) rfl rfl ?_
                  refine xw_goto (tgt := 14) dX11_snap_135 (by decide) ?_
                  refine xw_loc [(0, .ref 0), (1, .int (iI r)), (2, .int (iI (((yDf σ0 σ N) + z10) + z15))), (3, .int (iI (j + 1)))] (fun q9 hq9 => List.mem_append_left ([(4, .ref (cu j)), (5, .int (iI y5)), (6, .int (iI y11))] : List (Nat × Value)) hq9) ?_
                  have hF : yF2 j σ σ15 := hf10.tr hf15
                  have hD := yDf_one (σ0 := σ0) (N := N) hF ⟨h0, by omega⟩
                  have hT0 : yTd σ0 σ j = 0 := by unfold yTd; rw [hj1, hj2, yne_0 rfl, yne_0 rfl]; rfl
                  have hT1 : yTd σ0 σ15 j = z10 + z15 := by
                    unfold yTd
                    rw [h115, h215, ← hj1, ← hj2]
                    rcases hz10 with q | q | q | q <;> rcases hz15 with q2 | q2 | q2 | q2 <;> (unfold yne; split <;> split <;> omega)
                  rw [show ((yDf σ0 σ N) + z10) + z15 = yDf σ0 σ15 N by omega]
                  exact l_snap hL hr15 hN ht hc hC hse hrr (j + 1) (by omega) (by omega) (yMv_step hm h0 (by omega) hF ⟨y5, y11, by rw [← hj1]; exact hy5, by rw [← hj2]; exact hy11, by rw [h115, ← hj1, ← hj2]; omega, by rw [h115, h215, ← hj2]; omega⟩) hK
                · obtain ⟨_, e9, _⟩ := h9
                  cases e9
              · refine xz_icmp_le (tgt := 122) dX11_snap_114 (by decide) (by omega) (by omega) (fun c16 => ?_) (fun c16 => ?_)
                · refine xw_aload 4 dX11_snap_122 rfl ?_
                  refine yz_geti (z := 2) (v := σ (cu j) 2) (fo_X11_224 rfl) dX11_snap_124 (is_cu ⟨h0, by omega⟩) rfl rfl h210 ?_
                  exact j13 _ (by omega)
                · refine xw_iload 6 dX11_snap_117 rfl ?_
                  refine xw_goto (tgt := 127) dX11_snap_119 (by decide) ?_
                  exact j13 _ (by omega)
            · obtain ⟨_, e9, _⟩ := h9
              cases e9
          · obtain ⟨_, e9, _⟩ := h9
            cases e9
        · refine xz_icmp_ge (tgt := 69) dX11_snap_61 (by decide) (by omega) (by omega) (fun c17 => ?_) (fun c17 => ?_)
          · refine xw_aload 4 dX11_snap_69 rfl ?_
            refine yz_geti (z := 1) (v := σ (cu j) 1) (fo_X11_221 rfl) dX11_snap_71 (is_cu ⟨h0, by omega⟩) rfl rfl rfl ?_
            exact j8 _ (by omega)
          · refine xw_iload 5 dX11_snap_64 rfl ?_
            refine xw_goto (tgt := 74) dX11_snap_66 (by decide) ?_
            exact j8 _ (by omega)
      · obtain ⟨_, e9, _⟩ := h9
        cases e9
termination_by (24 - j).toNat
theorem s_snap (hL : L.stackTraces = false) {σ0 : ySg} {N r : Int} (hr : yRg σ0) (hN : 0 ≤ N ∧ N ≤ 24) (ht : yTh σ0 N) (hc : 0 ≤ σ0 128 1 ∧ σ0 128 1 ≤ 20) (hC : ∀ i, 0 ≤ i → i < σ0 128 1 → 0 ≤ σ0 129 i ∧ σ0 129 i ≤ 99999) (hse : ∀ k, 0 ≤ k → k < N → 0 ≤ σ0 (cu k) 1 ∧ σ0 (cu k) 1 < σ0 (cu k) 2 ∧ σ0 (cu k) 2 ≤ 99999) (hrr : 0 ≤ r ∧ r ≤ 99) : xMet L O mX11_snap (xR 2 0 0) [.ref 0, .int (iI r)] (Wd σ0 X) (fun o G1 => ∃ σ' : ySg, o = .inl (some (.int (iI (yDf σ0 σ' N)))) ∧ yRg σ' ∧ yMv (ySnR (σ0 129) (σ0 128 1) r) N σ0 σ' 24 ∧ G1 = Wd (yup σ' 0 6 0) X) := xMet_of (by decide) hL (Nat.le_of_ble_eq_true rfl) (by
  refine xw_eq rfl (l2 := [(0, .ref 0), (1, .int (iI r))]) rfl rfl rfl ?_
  refine xw_iload_n 1 dX11_snap_0 rfl ?_
  refine xz_iconst dX11_snap_1 ?_
  refine xz_bipush dX11_snap_2 (by decide) ?_
  refine yc_S (M' := mX11_isIn) (d := 0) (c := 0) (s := 0) (As := [.int (iI r), .int (iI 0), .int (iI 99)]) (st := []) (v0 := some (.int (iI 1))) (G2 := Wd σ0 X) dX11_snap_4 okX11_isIn (Or.inl w_729) rfl (Nat.le_of_ble_eq_true rfl) (by decide) (by decide) (Nat.zero_le _) (Nat.zero_le _) rfl rfl (s_isIn1 hL (by omega) (by decide) (by decide) (by omega)) ?_
  refine yc_S (M' := mX11_needArgument) (d := 0) (c := 0) (s := 0) (As := [.int (iI 1)]) (st := []) (v0 := none) (G2 := Wd σ0 X) dX11_snap_7 okX11_needArgument (Or.inl w_749) rfl (Nat.le_of_ble_eq_true rfl) (by decide) (by decide) (Nat.zero_le _) (Nat.zero_le _) rfl rfl (s_needArg1 hL) ?_
  refine xz_iconst dX11_snap_10 ?_
  refine xw_istore_n (l2 := [(0, .ref 0), (1, .int (iI r)), (2, .int (iI 0))]) dX11_snap_11 (by decide) rfl rfl ?_
  refine xz_iconst dX11_snap_12 ?_
  refine xw_istore_n (l2 := [(0, .ref 0), (1, .int (iI r)), (2, .int (iI 0)), (3, .int (iI 0))]) dX11_snap_13 (by decide) rfl rfl ?_
  refine xw_eq rfl (l2 := [(0, .ref 0), (1, .int (iI r)), (2, .int (iI (yDf σ0 σ0 N))), (3, .int (iI 0))]) (by rw [yDf_0]) rfl rfl ?_
  exact l_snap hL hr hN ht hc hC hse hrr 0 (by omega) (by omega) yMv_0 (fun σ' a b => ⟨σ', rfl, a, b, rfl⟩))
end Y29

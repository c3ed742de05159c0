section Y16
variable {L : Launch} {O : xWd} {K : xOc → List xOb → Prop} {σ : ySg} {X : List xOb} {G : List xOb}
/-- letters of words: a sum -/
def yLtN (f : Int → Int) : Nat → Int
  | 0 => 0
  | k + 1 => yLtN f k + (1 + f (k : Int) % 9)
def yLt (f : Int → Int) (j : Int) : Int := yLtN f j.toNat
theorem yLt_s {f : Int → Int} {j : Int} (h : 0 ≤ j) : yLt f (j + 1) = yLt f j + (1 + f j % 9) := by
  unfold yLt
  have e : (j + 1).toNat = j.toNat + 1 := by omega
  rw [e, yLtN, Int.toNat_of_nonneg h]
theorem yLtN_bd (f : Int → Int) : ∀ k : Nat, (k : Int) ≤ yLtN f k ∧ yLtN f k ≤ 9 * (k : Int)
  | 0 => by simp [yLtN]
  | k + 1 => by
    have := yLtN_bd f k
    rw [yLtN]
    omega
theorem yLt_bd (f : Int → Int) {j : Int} (h : 0 ≤ j) : j ≤ yLt f j ∧ yLt f j ≤ 9 * j := by
  have := yLtN_bd f j.toNat
  unfold yLt
  omega
theorem l_X3_letters (hL : L.stackTraces = false) {n c : Int} (hr : yRg σ) (hn : 0 ≤ n ∧ n < 24) (hc : 0 ≤ c ∧ c ≤ 12) (hw : ∀ j, 0 ≤ j → j < 12 → 0 ≤ σ (cw n) j) (hK : K (.inl (some (.int (iI (yLt (σ (cw n)) c))))) (Wd σ X)) (j : Int) (h0 : 0 ≤ j) (h1 : j ≤ c) : xWP L O mX3_letters (xR 1 0 0) K 4 [(0, .ref (cu n)), (1, .int (iI c)), (2, .int (iI (yLt (σ (cw n)) j))), (3, .int (iI j))] [] (Wd σ X) 0 0 := by
  have hb := yLt_bd (σ (cw n)) h0
  refine xw_iload_n 3 dX3_letters_4 rfl ?_
  refine xw_iload_n 1 dX3_letters_5 rfl ?_
  refine xz_icmp_ge (tgt := 23) dX3_letters_6 (by decide) (by omega) (by omega) (fun c1 => ?_) (fun c1 => ?_)
  · refine xw_iload_n 2 dX3_letters_23 rfl ?_
    exact xz_iret dX3_letters_24 rfl (Nat.zero_le _) (Nat.zero_le _) (by
        have e : j = c := by omega
        rw [← e] at hK; exact hK)
  · refine xw_iload_n 2 dX3_letters_9 rfl ?_
    refine xw_aload_n 0 dX3_letters_10 rfl ?_
    refine xw_iload_n 3 dX3_letters_11 rfl ?_
    refine yc_V (M' := mX3_lettersOf) (d := 0) (c := 0) (s := 0) (As := [.int (iI j)]) (st := [.int (iI (yLt (σ (cw n)) j))]) (v0 := some (.int (iI (1 + σ (cw n) j % 9)))) (G2 := Wd σ X) dX3_letters_12 okX3_lettersOf (Or.inl w_583) (xBig_i (is_cu (by omega)).1) (Wd_get (is_cu (by omega))) ⟨by decide, rfl⟩ rfl (Nat.le_of_ble_eq_true rfl) (by decide) (by decide) (Nat.zero_le _) (Nat.zero_le _) rfl rfl (s_X3_lettersOf hL hr (by omega) (by omega) (hw _ (by omega) (by omega))) ?_
    refine xz_iadd dX3_letters_15 ?_
    refine xw_istore_n (l2 := [(0, .ref (cu n)), (1, .int (iI c)), (2, .int (iI ((yLt (σ (cw n)) j) + (1 + σ (cw n) j % 9)))), (3, .int (iI j))]) dX3_letters_16 (by decide) rfl rfl ?_
    refine xz_iinc (l2 := [(0, .ref (cu n)), (1, .int (iI c)), (2, .int (iI ((yLt (σ (cw n)) j) + (1 + σ (cw n) j % 9)))), (3, .int (iI (j + 1)))]) 3 dX3_letters_17 rfl (by decide) rfl rfl ?_
    refine xw_goto (tgt := 4) dX3_letters_20 (by decide) ?_
    rw [← yLt_s h0]
    exact l_X3_letters hL hr hn hc hw hK (j + 1) (by omega) (by omega)
termination_by (c - j).toNat
theorem s_X3_letters (hL : L.stackTraces = false) {n c : Int} (hr : yRg σ) (hn : 0 ≤ n ∧ n < 24) (hc : 0 ≤ c ∧ c ≤ 12) (hw : ∀ j, 0 ≤ j → j < 12 → 0 ≤ σ (cw n) j) : xMet L O mX3_letters (xR 1 0 0) [.ref (cu n), .int (iI c)] (Wd σ X) (fun o G1 => o = .inl (some (.int (iI (yLt (σ (cw n)) c)))) ∧ G1 = Wd σ X) := xMet_of (by decide) hL (Nat.le_of_ble_eq_true rfl) (by
  refine xw_eq rfl (l2 := [(0, .ref (cu n)), (1, .int (iI c))]) rfl rfl rfl ?_
  refine xz_iconst dX3_letters_0 ?_
  refine xw_istore_n (l2 := [(0, .ref (cu n)), (1, .int (iI c)), (2, .int (iI 0))]) dX3_letters_1 (by decide) rfl rfl ?_
  refine xz_iconst dX3_letters_2 ?_
  refine xw_istore_n (l2 := [(0, .ref (cu n)), (1, .int (iI c)), (2, .int (iI 0)), (3, .int (iI 0))]) dX3_letters_3 (by decide) rfl rfl ?_
  exact l_X3_letters hL hr hn hc hw ⟨rfl, rfl⟩ 0 (by omega) (by omega))
theorem s_X3_append (hL : L.stackTraces = false) {n a : Int} (hr : yRg σ) (hn : 0 ≤ n ∧ n < 24) (hc : 0 ≤ σ (cu n) 6 ∧ σ (cu n) 6 < 12) : xMet L O mX3_append (xR 1 0 0) [.ref (cu n), .int (iI a)] (Wd σ X) (fun o G1 => o = .inl none ∧ G1 = Wd (yfl (yup (yup σ (cw n) (σ (cu n) 6) a) (cu n) 6 (σ (cu n) 6 + 1)) (ct n) 12 (-1)) X) := xMet_of (by decide) hL (Nat.le_of_ble_eq_true rfl) (by
  refine xw_eq rfl (l2 := [(0, .ref (cu n)), (1, .int (iI a))]) rfl rfl rfl ?_
  refine xw_aload_n 0 dX3_append_0 rfl ?_
  have r1 := hr (cu n) 6
  refine yz_geti (z := 6) (v := σ (cu n) 6) (fo_X3_35 rfl) dX3_append_1 (is_cu (by omega)) rfl rfl rfl ?_
  refine xz_bipush dX3_append_4 (by decide) ?_
  refine xz_icmp_ge (tgt := 37) dX3_append_6 (by decide) (by omega) (by omega) (fun c2 => ?_) (fun c2 => ?_)
  · exact absurd c2 (by omega)
  · refine xw_aload_n 0 dX3_append_9 rfl ?_
    refine yz_getr (fo_X3_9 rfl) dX3_append_10 (is_cu (by omega)) rfl ?_
    refine xw_aload_n 0 dX3_append_13 rfl ?_
    refine yz_geti (z := 6) (v := σ (cu n) 6) (fo_X3_35 rfl) dX3_append_14 (is_cu (by omega)) rfl rfl rfl ?_
    refine xw_iload_n 1 dX3_append_17 rfl ?_
    refine yz_iast dX3_append_18 (is_cw (by omega)) (by omega) (by decide) ?_
    refine xw_aload_n 0 dX3_append_19 rfl ?_
    refine xw_dup dX3_append_20 rfl ?_
    refine yz_geti (z := 6) (v := σ (cu n) 6) (fo_X3_35 rfl) dX3_append_21 (is_cu (by omega)) rfl rfl (yup_i (by simp only [cu, cw, ct, cl, pr, co]; omega)) ?_
    refine xz_iconst dX3_append_24 ?_
    refine xz_iadd dX3_append_25 ?_
    refine yz_puti (z := 6) (fp_X3_35 rfl) dX3_append_26 (is_cu (by omega)) rfl rfl ?_
    refine xw_aload_n 0 dX3_append_29 rfl ?_
    refine yz_getr (fo_X3_15 rfl) dX3_append_30 (is_cu (by omega)) rfl ?_
    refine xz_iconst dX3_append_33 ?_
    refine yc_S (M' := mJ7_fill_53178) (d := 0) (c := 0) (s := 0) (As := [.ref (ct n), .int (iI ((-1)))]) (st := []) (v0 := none) (G2 := Wd (yfl (yup (yup σ (cw n) (σ (cu n) 6) a) (cu n) 6 ((σ (cu n) 6) + 1)) (ct n) 12 (-1)) X) dX3_append_34 okJ7_fill_53178 (Or.inl w_1021) rfl (Nat.le_of_ble_eq_true rfl) (by decide) (by decide) (Nat.zero_le _) (Nat.zero_le _) rfl rfl (s_fillW hL (is_ct (by omega)) (by decide)) ?_
    exact xw_vret dX3_append_37 rfl (Nat.zero_le _) (Nat.zero_le _) ⟨rfl, rfl⟩)
theorem s_X3_cutWords (hL : L.stackTraces = false) {n a : Int} (hn : 0 ≤ n ∧ n < 24) : xMet L O mX3_cutWords (xR 1 0 0) [.ref (cu n), .int (iI a)] (Wd σ X) (fun o G1 => o = .inl none ∧ G1 = Wd (yfl (yup σ (cu n) 6 a) (ct n) 12 (-1)) X) := xMet_of (by decide) hL (Nat.le_of_ble_eq_true rfl) (by
  refine xw_eq rfl (l2 := [(0, .ref (cu n)), (1, .int (iI a))]) rfl rfl rfl ?_
  refine xw_aload_n 0 dX3_cutWords_0 rfl ?_
  refine xw_iload_n 1 dX3_cutWords_1 rfl ?_
  refine yz_puti (z := 6) (fp_X3_35 rfl) dX3_cutWords_2 (is_cu (by omega)) rfl rfl ?_
  refine xw_aload_n 0 dX3_cutWords_5 rfl ?_
  refine yz_getr (fo_X3_15 rfl) dX3_cutWords_6 (is_cu (by omega)) rfl ?_
  refine xz_iconst dX3_cutWords_9 ?_
  refine yc_S (M' := mJ7_fill_53178) (d := 0) (c := 0) (s := 0) (As := [.ref (ct n), .int (iI ((-1)))]) (st := []) (v0 := none) (G2 := Wd (yfl (yup σ (cu n) 6 a) (ct n) 12 (-1)) X) dX3_cutWords_10 okJ7_fill_53178 (Or.inl w_1021) rfl (Nat.le_of_ble_eq_true rfl) (by decide) (by decide) (Nat.zero_le _) (Nat.zero_le _) rfl rfl (s_fillW hL (is_ct (by omega)) (by decide)) ?_
  exact xw_vret dX3_cutWords_13 rfl (Nat.zero_le _) (Nat.zero_le _) ⟨rfl, rfl⟩)
theorem l_X3_appendFrom (hL : L.stackTraces = false) {σ : ySg} (hr : yRg σ) {n m f : Int} (hn : 0 ≤ n ∧ n < 24) (hm : 0 ≤ m ∧ m < 24) (hnm : n ≠ m) (k : Int) (h0 : 0 ≤ k ∧ k ≤ 100) (hc : 0 ≤ σ (cu m) 6 ∧ σ (cu m) 6 ≤ 12) (hw : 0 ≤ σ (cu n) 6 ∧ σ (cu n) 6 + max 0 (σ (cu m) 6 - k) ≤ 12) (hK : ∀ σ' : ySg, yRg σ' → σ' (cu n) 6 = σ (cu n) 6 + max 0 (σ (cu m) 6 - k) → (∀ j, 0 ≤ j → j < σ (cu m) 6 - k → σ' (cw n) (σ (cu n) 6 + j) = σ (cw m) (k + j)) → (∀ a b, a ≠ ct n → ¬ (a = cu n ∧ b = 6) → ¬ (a = cw n ∧ σ (cu n) 6 ≤ b) → σ' a b = σ a b) → K (.inl none) (Wd σ' X)) : xWP L O mX3_appendFrom (xR 2 0 0) K 6 [(0, .ref (cu n)), (1, .ref (cu m)), (2, .int (iI f)), (3, .int (iI k))] [] (Wd σ X) 0 0 := by
  refine xw_iload_n 3 dX3_appendFrom_6 rfl ?_
  refine xw_aload_n 1 dX3_appendFrom_7 rfl ?_
  have r1 := hr (cu m) 6
  refine yz_geti (z := 6) (v := σ (cu m) 6) (fo_X3_35 rfl) dX3_appendFrom_8 (is_cu (by omega)) rfl rfl rfl ?_
  refine xz_icmp_ge (tgt := 36) dX3_appendFrom_11 (by decide) (by omega) (by omega) (fun c2 => ?_) (fun c2 => ?_)
  · exact xw_vret dX3_appendFrom_36 rfl (Nat.zero_le _) (Nat.zero_le _) (hK σ hr (by omega) (fun j a1 a2 => absurd a2 (by omega)) (fun a b _ _ _ => rfl))
  · refine xw_iload_n 3 dX3_appendFrom_14 rfl ?_
    refine xz_bipush dX3_appendFrom_15 (by decide) ?_
    refine xz_icmp_ge (tgt := 36) dX3_appendFrom_17 (by decide) (by omega) (by omega) (fun c3 => ?_) (fun c3 => ?_)
    · exact absurd c3 (by omega)
    · refine xw_aload_n 0 dX3_appendFrom_20 rfl ?_
      refine xw_aload_n 1 dX3_appendFrom_21 rfl ?_
      refine yz_getr (fo_X3_9 rfl) dX3_appendFrom_22 (is_cu (by omega)) rfl ?_
      refine xw_iload_n 3 dX3_appendFrom_25 rfl ?_
      have r4 := hr (cw m) k
      refine yz_iald (v := σ (cw m) k) dX3_appendFrom_26 (is_cw (by omega)) (by omega) (by decide) rfl ?_
      have r5 := hr (cu n) 6
      refine yc_V (M' := mX3_append) (d := 1) (c := 0) (s := 0) (As := [.int (iI (σ (cw m) k))]) (st := []) (v0 := none) (G2 := Wd (yfl (yup (yup σ (cw n) (σ (cu n) 6) (σ (cw m) k)) (cu n) 6 ((σ (cu n) 6) + 1)) (ct n) 12 (-1)) X) dX3_appendFrom_27 okX3_append (Or.inl w_1069) (xBig_i (is_cu (by omega)).1) (Wd_get (is_cu (by omega))) ⟨by decide, rfl⟩ rfl (Nat.le_of_ble_eq_true rfl) (by decide) (by decide) (Nat.zero_le _) (Nat.zero_le _) rfl rfl (s_X3_append hL hr (by omega) (by omega)) ?_
      refine xz_iinc (l2 := [(0, .ref (cu n)), (1, .ref (cu m)), (2, .int (iI f)), (3, .int (iI (k + 1)))]) 3 dX3_appendFrom_30 rfl (by decide) rfl rfl ?_
      refine xw_goto (tgt := 6) dX3_appendFrom_33 (by decide) ?_
      have hr1 : yRg (yfl (yup (yup σ (cw n) (σ (cu n) 6) (σ (cw m) k)) (cu n) 6 ((σ (cu n) 6) + 1)) (ct n) 12 (-1)) := (yRg_fl (yRg_up (yRg_up hr (by omega)) (by omega)) (by decide))
      have hne : cu m ≠ cu n := fun q => hnm ((cu_inj hm.1 hn.1).mp q).symm
      have hnw : cw m ≠ cw n := fun q => hnm ((cw_inj hm.1 hn.1).mp q).symm
      have e6 : (yfl (yup (yup σ (cw n) (σ (cu n) 6) (σ (cw m) k)) (cu n) 6 ((σ (cu n) 6) + 1)) (ct n) 12 (-1)) (cu n) 6 = σ (cu n) 6 + 1 := by rw [yfl_i (by simp only [cu, ct]; omega), yup_s]
      have em : (yfl (yup (yup σ (cw n) (σ (cu n) 6) (σ (cw m) k)) (cu n) 6 ((σ (cu n) 6) + 1)) (ct n) 12 (-1)) (cu m) 6 = σ (cu m) 6 := by rw [yfl_i (by simp only [cu, ct]; omega), yup_i hne, yup_i (by simp only [cu, cw]; omega)]
      refine l_X3_appendFrom hL hr1 hn hm hnm (k + 1) (by omega) (by rw [em]; omega) (by rw [e6, em]; omega) (fun σ' hr2 g1 g2 g3 => hK σ' hr2 ?_ ?_ ?_)
      · rw [g1, e6, em]; omega
      · intro j hj0 hj1
        by_cases ej : j = 0
        · subst ej
          rw [g3 (cw n) _ (by simp only [cw, ct]; omega) (by simp only [cw, cu]; omega) (by rw [e6]; omega), yfl_i (by simp only [cw, ct]; omega), yup_i (by simp only [cw, cu]; omega), Int.add_zero, yup_s, Int.add_zero]
        · have g := g2 (j - 1) (by omega) (by rw [em]; omega)
          rw [e6, show σ (cu n) 6 + 1 + (j - 1) = σ (cu n) 6 + j by omega, show k + 1 + (j - 1) = k + j by omega] at g
          rw [g, yfl_i (by simp only [cw, ct]; omega), yup_i (by simp only [cw, cu]; omega), yup_i hnw]
      · intro a b h1 h2 h3
        rw [g3 a b h1 h2 (by rw [e6]; intro q; exact h3 ⟨q.1, by omega⟩), yfl_i h1]
        unfold yup
        rw [if_neg h2, if_neg (fun q => h3 ⟨q.1, by omega⟩)]
termination_by (σ (cu m) 6 - k).toNat
decreasing_by rw [em]; omega
theorem s_X3_appendFrom (hL : L.stackTraces = false) (hr : yRg σ) {n m k : Int} (hn : 0 ≤ n ∧ n < 24) (hm : 0 ≤ m ∧ m < 24) (hnm : n ≠ m) (h0 : 0 ≤ k ∧ k < 100) (hc : 0 ≤ σ (cu m) 6 ∧ σ (cu m) 6 ≤ 12) (hw : 0 ≤ σ (cu n) 6 ∧ σ (cu n) 6 + max 0 (σ (cu m) 6 - k) ≤ 12) : xMet L O mX3_appendFrom (xR 2 0 0) [.ref (cu n), .ref (cu m), .int (iI k)] (Wd σ X) (fun o G1 => ∃ σ' : ySg, o = .inl none ∧ yRg σ' ∧ σ' (cu n) 6 = σ (cu n) 6 + max 0 (σ (cu m) 6 - k) ∧ (∀ j, 0 ≤ j → j < σ (cu m) 6 - k → σ' (cw n) (σ (cu n) 6 + j) = σ (cw m) (k + j)) ∧ (∀ a b, a ≠ ct n → ¬ (a = cu n ∧ b = 6) → ¬ (a = cw n ∧ σ (cu n) 6 ≤ b) → σ' a b = σ a b) ∧ G1 = Wd σ' X) := xMet_of (by decide) hL (Nat.le_of_ble_eq_true rfl) (by
  refine xw_eq rfl (l2 := [(0, .ref (cu n)), (1, .ref (cu m)), (2, .int (iI k))]) rfl rfl rfl ?_
  refine xz_iconst dX3_appendFrom_0 ?_
  refine xw_iload_n 2 dX3_appendFrom_1 rfl ?_
  refine xz_mmax dX3_appendFrom_2 w_1068 (Nat.le_of_ble_eq_true rfl) (Nat.zero_le _) (Nat.zero_le _) (by omega) (by omega) ?_
  refine xw_istore_n (l2 := [(0, .ref (cu n)), (1, .ref (cu m)), (2, .int (iI k)), (3, .int (iI (max 0 k)))]) dX3_appendFrom_5 (by decide) rfl rfl ?_
  refine xw_eq rfl (l2 := [(0, .ref (cu n)), (1, .ref (cu m)), (2, .int (iI k)), (3, .int (iI k))]) (by rw [show max 0 k = k by omega]) rfl rfl ?_
  exact l_X3_appendFrom hL hr hn hm hnm k (by omega) hc hw (fun σ' g0 g1 g2 g3 => ⟨σ', rfl, g0, g1, g2, g3, rfl⟩))
theorem s_makeCue (hL : L.stackTraces = false) {a b c : Int} (hr : yRg σ) (h : 0 ≤ σ 0 5 ∧ σ 0 5 < 24) : xMet L O mX11_makeCue (xR 0 0 0) [.ref 0, .int (iI a), .int (iI b), .int (iI c)] (Wd σ X) (fun o G1 => o = .inl (some (.int (iI (σ 0 5)))) ∧ G1 = Wd (yup (yup (yup (yup (yup (yup σ (cu (σ 0 5)) 0 1) (cu (σ 0 5)) 1 a) (cu (σ 0 5)) 2 b) (cu (σ 0 5)) 3 c) 0 5 (σ 0 5 + 1)) 0 6 0) X) := xMet_of (by decide) hL (Nat.le_of_ble_eq_true rfl) (by
  refine xw_eq rfl (l2 := [(0, .ref 0), (1, .int (iI a)), (2, .int (iI b)), (3, .int (iI c))]) rfl rfl rfl ?_
  refine xw_aload_n 0 dX11_makeCue_0 rfl ?_
  have r1 := hr 0 5
  refine yz_geti (z := 5) (v := σ 0 5) (fo_X11_402 rfl) dX11_makeCue_1 is_0 rfl rfl rfl ?_
  refine xw_istore (l2 := [(0, .ref 0), (1, .int (iI a)), (2, .int (iI b)), (3, .int (iI c)), (4, .int (iI (σ 0 5)))]) dX11_makeCue_4 (by decide) rfl rfl ?_
  refine xw_iload 4 dX11_makeCue_6 rfl ?_
  refine xz_bipush dX11_makeCue_8 (by decide) ?_
  refine xz_icmp_ge (tgt := 56) dX11_makeCue_10 (by decide) (by omega) (by omega) (fun c2 => ?_) (fun c2 => ?_)
  · exact absurd c2 (by omega)
  · refine xw_aload_n 0 dX11_makeCue_13 rfl ?_
    refine yz_getr (fo_X11_37 rfl) dX11_makeCue_14 is_0 rfl ?_
    refine xw_iload 4 dX11_makeCue_17 rfl ?_
    refine yz_aald 3 dX11_makeCue_19 (by decide) rfl rfl is_21 (by omega) (by decide) (ks21_get (by omega)) ?_
    refine xw_astore (l2 := [(0, .ref 0), (1, .int (iI a)), (2, .int (iI b)), (3, .int (iI c)), (4, .int (iI (σ 0 5))), (5, .ref (cu (σ 0 5)))]) dX11_makeCue_20 (by decide) rfl rfl ?_
    refine xw_aload 5 dX11_makeCue_22 rfl ?_
    refine xz_iconst dX11_makeCue_24 ?_
    refine yz_putz (z := 0) (fp_X11_218 rfl) dX11_makeCue_25 (is_cu (by omega)) rfl rfl (Or.inr rfl) ?_
    refine xw_aload 5 dX11_makeCue_28 rfl ?_
    refine xw_iload_n 1 dX11_makeCue_30 rfl ?_
    refine yz_puti (z := 1) (fp_X11_221 rfl) dX11_makeCue_31 (is_cu (by omega)) rfl rfl ?_
    refine xw_aload 5 dX11_makeCue_34 rfl ?_
    refine xw_iload_n 2 dX11_makeCue_36 rfl ?_
    refine yz_puti (z := 2) (fp_X11_224 rfl) dX11_makeCue_37 (is_cu (by omega)) rfl rfl ?_
    refine xw_aload 5 dX11_makeCue_40 rfl ?_
    refine xw_iload_n 3 dX11_makeCue_42 rfl ?_
    refine yz_puti (z := 3) (fp_X11_282 rfl) dX11_makeCue_43 (is_cu (by omega)) rfl rfl ?_
    refine xw_aload_n 0 dX11_makeCue_46 rfl ?_
    refine xw_dup dX11_makeCue_47 rfl ?_
    refine yz_geti (z := 5) (v := σ 0 5) (fo_X11_402 rfl) dX11_makeCue_48 is_0 rfl rfl ((yup_k (by decide)).trans ((yup_k (by decide)).trans ((yup_k (by decide)).trans (yup_k (by decide))))) ?_
    refine xz_iconst dX11_makeCue_51 ?_
    refine xz_iadd dX11_makeCue_52 ?_
    refine yz_puti (z := 5) (fp_X11_402 rfl) dX11_makeCue_53 is_0 rfl rfl ?_
    refine xw_aload_n 0 dX11_makeCue_56 rfl ?_
    refine xz_iconst dX11_makeCue_57 ?_
    refine yz_putz (z := 6) (fp_X11_193 rfl) dX11_makeCue_58 is_0 rfl rfl (Or.inl rfl) ?_
    refine xw_iload 4 dX11_makeCue_61 rfl ?_
    exact xz_iret dX11_makeCue_63 rfl (Nat.zero_le _) (Nat.zero_le _) ⟨rfl, rfl⟩)
theorem s_scaled (hL : L.stackTraces = false) {a n d : Int} (ha : 0 ≤ a * n ∧ a * n < 9223372036854775808) (hd : 0 < d ∧ d < 9223372036854775808) : xMet L O mX11_scaled (xR 0 0 0) [.long (lI a), .long (lI n), .long (lI d)] (G) (fun o G1 => o = .inl (some (.long (lI (a * n / d)))) ∧ G1 = G) := xMet_of (by decide) hL (Nat.le_of_ble_eq_true rfl) (by
  have e1 : cmpI d 0 = 1 := by unfold cmpI; rw [if_neg (by omega), if_neg (by omega)]
  refine xw_eq rfl (l2 := [(0, .long (lI a)), (2, .long (lI n)), (4, .long (lI d))]) rfl rfl rfl ?_
  refine xw_lload 2 dX11_scaled_0 rfl ?_
  refine xz_lconst (z := 0) dX11_scaled_2 (by decide) ?_
  refine xz_lcmp dX11_scaled_3 (by omega) (by omega) ?_
  refine xz_if_le (tgt := 16) dX11_scaled_4 (by decide) (by omega) (fun c1 => ?_) (fun c1 => ?_)
  · exact absurd c1 (by omega)
  · refine xw_lload_n 0 dX11_scaled_7 rfl ?_
    refine xw_lload_n 1 dX11_scaled_8 rfl ?_
    refine xz_lmul dX11_scaled_9 ?_
    refine xw_lload 2 dX11_scaled_10 rfl ?_
    refine xz_ldiv dX11_scaled_12 (by omega) (by omega) ?_
    refine xw_goto (tgt := 17) dX11_scaled_13 (by decide) ?_
    exact xw_lret dX11_scaled_17 rfl (Nat.zero_le _) (Nat.zero_le _) ⟨rfl, rfl⟩)
theorem s_clamped (hL : L.stackTraces = false) {a b : Int} (ha : -9223372036854775808 ≤ a ∧ a < 9223372036854775808) (hb : 0 ≤ b ∧ b < 2147483648) : xMet L O mX11_clamped (xR 0 0 0) [.long (lI a), .int (iI b)] (G) (fun o G1 => o = .inl (some (.int (iI (max 0 (min a b))))) ∧ G1 = G) := xMet_of (by decide) hL (Nat.le_of_ble_eq_true rfl) (by
  refine xw_eq rfl (l2 := [(0, .long (lI a)), (2, .int (iI b))]) rfl rfl rfl ?_
  refine xz_lconst (z := 0) dX11_clamped_0 (by decide) ?_
  refine xw_lload_n 0 dX11_clamped_1 rfl ?_
  refine xw_iload_n 1 dX11_clamped_2 rfl ?_
  refine xz_i2l dX11_clamped_3 (by omega) ?_
  refine xz_mminL dX11_clamped_4 w_956 (Nat.le_of_ble_eq_true rfl) (Nat.zero_le _) (Nat.zero_le _) (by omega) (by omega) ?_
  refine xz_mmaxL dX11_clamped_7 w_959 (Nat.le_of_ble_eq_true rfl) (Nat.zero_le _) (Nat.zero_le _) (by omega) (by omega) ?_
  refine xz_l2i dX11_clamped_10 (by omega) ?_
  exact xz_iret dX11_clamped_11 rfl (Nat.zero_le _) (Nat.zero_le _) ⟨rfl, rfl⟩)
/-- the first N cues are there, and no other -/
def yTh (σ : ySg) (N : Int) : Prop := ∀ k, 0 ≤ k → k < 24 → (k < N ∧ σ (cu k) 0 = 1) ∨ (N ≤ k ∧ σ (cu k) 0 = 0)
theorem l_cues (hL : L.stackTraces = false) {N : Int} (hr : yRg σ) (hN : 0 ≤ N ∧ N ≤ 24) (ht : yTh σ N) (hK : K (.inl (some (.int (iI N)))) (Wd σ X)) (j : Int) (h0 : 0 ≤ j) (h1 : j ≤ 24) : xWP L O mX11_cues (xR 0 0 0) K 4 [(0, .ref 0), (1, .int (iI (min j N))), (2, .int (iI j))] [] (Wd σ X) 0 0 := by
  refine xw_iload_n 2 dX11_cues_4 rfl ?_
  refine xz_bipush dX11_cues_5 (by decide) ?_
  refine xz_icmp_ge (tgt := 31) dX11_cues_7 (by decide) (by omega) (by omega) (fun c1 => ?_) (fun c1 => ?_)
  · refine xw_iload_n 1 dX11_cues_31 rfl ?_
    exact xz_iret dX11_cues_32 rfl (Nat.zero_le _) (Nat.zero_le _) (by rw [show min j N = N by omega]; exact hK)
  · have ht1 := ht j h0 (by omega)
    refine xw_aload_n 0 dX11_cues_10 rfl ?_
    refine yz_getr (fo_X11_37 rfl) dX11_cues_11 is_0 rfl ?_
    refine xw_iload_n 2 dX11_cues_14 rfl ?_
    refine yz_aald 3 dX11_cues_15 (by decide) rfl rfl is_21 (by omega) (by decide) (ks21_get (by omega)) ?_
    have r2 := hr (cu j) 0
    refine yz_geti (z := 0) (v := σ (cu j) 0) (fo_X11_218 rfl) dX11_cues_16 (is_cu (by omega)) rfl rfl rfl ?_
    refine xz_if_eq (tgt := 25) dX11_cues_19 (by decide) (by omega) (fun c3 => ?_) (fun c3 => ?_)
    · refine xz_iinc (l2 := [(0, .ref 0), (1, .int (iI (min j N))), (2, .int (iI (j + 1)))]) 2 dX11_cues_25 rfl (by decide) rfl rfl ?_
      refine xw_goto (tgt := 4) dX11_cues_28 (by decide) ?_
      refine xw_eq rfl (l2 := [(0, .ref 0), (1, .int (iI (min (j + 1) N))), (2, .int (iI (j + 1)))]) (by rw [show min j N = min (j + 1) N by omega]) rfl rfl ?_
      exact l_cues hL hr hN ht hK (j + 1) (by omega) (by omega)
    · refine xz_iinc (l2 := [(0, .ref 0), (1, .int (iI ((min j N) + 1))), (2, .int (iI j))]) 1 dX11_cues_22 rfl (by decide) rfl rfl ?_
      refine xz_iinc (l2 := [(0, .ref 0), (1, .int (iI ((min j N) + 1))), (2, .int (iI (j + 1)))]) 2 dX11_cues_25 rfl (by decide) rfl rfl ?_
      refine xw_goto (tgt := 4) dX11_cues_28 (by decide) ?_
      refine xw_eq rfl (l2 := [(0, .ref 0), (1, .int (iI (min (j + 1) N))), (2, .int (iI (j + 1)))]) (by rw [show (min j N) + 1 = min (j + 1) N by omega]) rfl rfl ?_
      exact l_cues hL hr hN ht hK (j + 1) (by omega) (by omega)
termination_by (24 - j).toNat
theorem s_cues (hL : L.stackTraces = false) {N : Int} (hr : yRg σ) (hN : 0 ≤ N ∧ N ≤ 24) (ht : yTh σ N) : xMet L O mX11_cues (xR 0 0 0) [.ref 0] (Wd σ X) (fun o G1 => o = .inl (some (.int (iI N))) ∧ G1 = Wd σ X) := xMet_of (by decide) hL (Nat.le_of_ble_eq_true rfl) (by
  refine xw_eq rfl (l2 := [(0, .ref 0)]) rfl rfl rfl ?_
  refine xz_iconst dX11_cues_0 ?_
  refine xw_istore_n (l2 := [(0, .ref 0), (1, .int (iI 0))]) dX11_cues_1 (by decide) rfl rfl ?_
  refine xz_iconst dX11_cues_2 ?_
  refine xw_istore_n (l2 := [(0, .ref 0), (1, .int (iI 0)), (2, .int (iI 0))]) dX11_cues_3 (by decide) rfl rfl ?_
  refine xw_eq rfl (l2 := [(0, .ref 0), (1, .int (iI (min 0 N))), (2, .int (iI 0))]) (by rw [show min 0 N = 0 by omega]) rfl rfl ?_
  exact l_cues hL hr hN ht ⟨rfl, rfl⟩ 0 (by omega) (by omega))
end Y16

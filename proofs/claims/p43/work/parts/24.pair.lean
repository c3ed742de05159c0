section Y24
variable {L : Launch} {O : xWd} {K : xOc → List xOb → Prop} {σ : ySg} {X : List xOb} {G : List xOb}
theorem l_align36 (hL : L.stackTraces = false) {σ : ySg} {P : Int → Int → Int} {m n : Int} (hr : yRg σ) (hm : 0 ≤ m ∧ m ≤ 24) (hn : 0 ≤ n ∧ n ≤ 24) (hP0 : ∀ i j, 0 ≤ P i j) (s : Int) (hs : -1 ≤ s ∧ s < n ∨ s = -1) (hRow : ∀ j, s < j → j ≤ n → σ (co m) j = yC P m n m j) (hK : ∀ σ' : ySg, yRg σ' → (∀ j, 0 ≤ j → j ≤ n → σ' (co m) j = yC P m n m j) → (∀ a b, a ≠ co m → σ' a b = σ a b) → xWP L O mX0_align (xR 2 0 0) K 70 [(0, .ref 133), (1, .int (iI m)), (2, .int (iI n)), (3, .int (iI 40)), (4, .int (iI 40)), (5, .int (iI (-1)))] [] (Wd σ' X) 0 0) : xWP L O mX0_align (xR 2 0 0) K 36 [(0, .ref 133), (1, .int (iI m)), (2, .int (iI n)), (3, .int (iI 40)), (4, .int (iI 40)), (5, .int (iI s))] [] (Wd σ X) 0 0 := by
  refine xw_iload 5 dX0_align_36 rfl ?_
  refine xz_if_lt (tgt := 70) dX0_align_38 (by decide) (by omega) (fun c1 => ?_) (fun c1 => ?_)
  · rw [show s = -1 by omega]; exact hK σ hr (fun j a1 a2 => hRow j (by omega) a2) (fun a b _ => rfl)
  · refine xw_aload_n 0 dX0_align_41 rfl ?_
    refine yz_getr (fo_X0_16 rfl) dX0_align_42 is_133 rfl ?_
    refine xw_iload_n 1 dX0_align_45 rfl ?_
    refine yz_aald 4 dX0_align_46 (by decide) rfl rfl is_159 (by omega) (by decide) (ks159_get (by omega)) ?_
    refine xw_iload 5 dX0_align_47 rfl ?_
    refine xw_aload_n 0 dX0_align_49 rfl ?_
    refine yz_getr (fo_X0_16 rfl) dX0_align_50 is_133 rfl ?_
    refine xw_iload_n 1 dX0_align_53 rfl ?_
    refine yz_aald 4 dX0_align_54 (by decide) rfl rfl is_159 (by omega) (by decide) (ks159_get (by omega)) ?_
    refine xw_iload 5 dX0_align_55 rfl ?_
    refine xz_iconst dX0_align_57 ?_
    refine xz_iadd dX0_align_58 ?_
    have e2 : σ (co m) (s + 1) = yC P m n m (s + 1) := hRow _ (by omega) (by omega)
    have b3 := yC_bd (m := m) (n := n) hP0 m (s + 1) (by omega) (by omega)
    refine yz_iald (v := yC P m n m (s + 1)) dX0_align_59 (is_co (by omega)) (by omega) (by decide) e2 ?_
    refine xw_iload 4 dX0_align_60 rfl ?_
    refine xz_iadd dX0_align_62 ?_
    refine yz_iast dX0_align_63 (is_co (by omega)) (by omega) (by decide) ?_
    refine xz_iinc (l2 := [(0, .ref 133), (1, .int (iI m)), (2, .int (iI n)), (3, .int (iI 40)), (4, .int (iI 40)), (5, .int (iI (s + (-1))))]) 5 dX0_align_64 rfl (by decide) rfl rfl ?_
    refine xw_goto (tgt := 36) dX0_align_67 (by decide) ?_
    rw [show s + (-1) = s - 1 by omega]
    rw [← yC_b (P := P) (m := m) (n := n) (j := s) (by omega)]
    have g1 : ∀ a b, a ≠ co m → (yup σ (co m) s (yC P m n m s)) a b = σ a b := fun a b q => yup_i q
    have hb := yC_bd (m := m) (n := n) hP0 m s (by omega) (by omega)
    refine l_align36 hL (yRg_up hr (by omega)) hm hn hP0 (s - 1) (by omega) (fun j a1 a2 => ?_) (fun σ' c1 c2 c3 => hK σ' c1 c2 (fun a b q => (c3 a b q).trans (g1 a b q)))
    by_cases e : j = s
    · subst e; exact yup_s
    · exact (yup_k e).trans (hRow j (by omega) a2)
termination_by (s + 1).toNat
theorem l_align107 (hL : L.stackTraces = false) {σ : ySg} {P : Int → Int → Int} {m n : Int} (hr : yRg σ) (hm : 0 ≤ m ∧ m ≤ 24) (hn : 0 ≤ n ∧ n ≤ 24) (hP0 : ∀ i j, 0 ≤ P i j) (hP1 : ∀ i j, P i j ≤ 1000000) (hPi : yPi P σ m n) {i : Int} (hi : 0 ≤ i ∧ i < m) (hT : ∀ a b, i < a → a ≤ m → 0 ≤ b → b ≤ n → σ (co a) b = yC P m n a b) (s : Int) (hs : -1 ≤ s ∧ s < n ∨ s = -1) (hRow : ∀ j, s < j → j ≤ n → σ (co i) j = yC P m n i j) (hK : ∀ (σ' : ySg) (q : Int), yRg σ' → (∀ j, 0 ≤ j → j ≤ n → σ' (co i) j = yC P m n i j) → (∀ a b, a ≠ co i → σ' a b = σ a b) → xWP L O mX0_align (xR 2 0 0) K 175 [(0, .ref 133), (1, .int (iI m)), (2, .int (iI n)), (3, .int (iI 40)), (4, .int (iI 40)), (5, .int (iI i)), (6, .int (iI q))] [] (Wd σ' X) 0 0) : xWP L O mX0_align (xR 2 0 0) K 107 [(0, .ref 133), (1, .int (iI m)), (2, .int (iI n)), (3, .int (iI 40)), (4, .int (iI 40)), (5, .int (iI i)), (6, .int (iI s))] [] (Wd σ X) 0 0 := by
  refine xw_iload 6 dX0_align_107 rfl ?_
  refine xz_if_lt (tgt := 175) dX0_align_109 (by decide) (by omega) (fun c1 => ?_) (fun c1 => ?_)
  · exact hK σ s hr (fun j a1 a2 => hRow j (by omega) a2) (fun a b _ => rfl)
  · refine xw_aload_n 0 dX0_align_112 rfl ?_
    refine yz_getr (fo_X0_16 rfl) dX0_align_113 is_133 rfl ?_
    refine xw_iload 5 dX0_align_116 rfl ?_
    refine xz_iconst dX0_align_118 ?_
    refine xz_iadd dX0_align_119 ?_
    refine yz_aald 4 dX0_align_120 (by decide) rfl rfl is_159 (by omega) (by decide) (ks159_get (by omega)) ?_
    refine xw_iload 6 dX0_align_121 rfl ?_
    have e2 : σ (co (i + 1)) s = yC P m n (i + 1) s := hT _ _ (by omega) (by omega) (by omega) (by omega)
    have b3 := yC_bd (m := m) (n := n) hP0 (i + 1) s (by omega) (by omega)
    refine yz_iald (v := yC P m n (i + 1) s) dX0_align_123 (is_co (by omega)) (by omega) (by decide) e2 ?_
    refine xw_iload_n 3 dX0_align_124 rfl ?_
    refine xz_iadd dX0_align_125 ?_
    refine xw_aload_n 0 dX0_align_126 rfl ?_
    refine yz_getr (fo_X0_16 rfl) dX0_align_127 is_133 rfl ?_
    refine xw_iload 5 dX0_align_130 rfl ?_
    refine yz_aald 4 dX0_align_132 (by decide) rfl rfl is_159 (by omega) (by decide) (ks159_get (by omega)) ?_
    refine xw_iload 6 dX0_align_133 rfl ?_
    refine xz_iconst dX0_align_135 ?_
    refine xz_iadd dX0_align_136 ?_
    have e4 : σ (co i) (s + 1) = yC P m n i (s + 1) := hRow _ (by omega) (by omega)
    have b5 := yC_bd (m := m) (n := n) hP0 i (s + 1) (by omega) (by omega)
    refine yz_iald (v := yC P m n i (s + 1)) dX0_align_137 (is_co (by omega)) (by omega) (by decide) e4 ?_
    refine xw_iload 4 dX0_align_138 rfl ?_
    refine xz_iadd dX0_align_140 ?_
    refine xz_mmin dX0_align_141 w_490 (Nat.le_of_ble_eq_true rfl) (Nat.zero_le _) (Nat.zero_le _) (by omega) (by omega) ?_
    refine xw_istore (l2 := [(0, .ref 133), (1, .int (iI m)), (2, .int (iI n)), (3, .int (iI 40)), (4, .int (iI 40)), (5, .int (iI i)), (6, .int (iI s)), (7, .int (iI (min ((yC P m n (i + 1) s) + 40) ((yC P m n i (s + 1)) + 40))))]) dX0_align_144 (by decide) rfl rfl ?_
    refine xw_aload_n 0 dX0_align_146 rfl ?_
    refine yz_getr (fo_X0_16 rfl) dX0_align_147 is_133 rfl ?_
    refine xw_iload 5 dX0_align_150 rfl ?_
    refine yz_aald 4 dX0_align_152 (by decide) rfl rfl is_159 (by omega) (by decide) (ks159_get (by omega)) ?_
    refine xw_iload 6 dX0_align_153 rfl ?_
    refine xw_iload 7 dX0_align_155 rfl ?_
    refine xw_aload_n 0 dX0_align_157 rfl ?_
    refine xw_iload 5 dX0_align_158 rfl ?_
    refine xw_iload 6 dX0_align_160 rfl ?_
    have e6 : σ (co (i + 1)) (s + 1) = yC P m n (i + 1) (s + 1) := hT _ _ (by omega) (by omega) (by omega) (by omega)
    have b7 := yC_bd (m := m) (n := n) hP0 (i + 1) (s + 1) (by omega) (by omega)
    have p8 : σ (pr i) s = P i s := hPi _ _ (by omega) (by omega) (by omega) (by omega)
    have p80 := hP0 i s
    have p81 := hP1 i s
    refine yc_V (M' := mX0_pairedCost) (d := 0) (c := 0) (s := 0) (As := [.int (iI i), .int (iI s)]) (st := [.int (iI (min ((yC P m n (i + 1) s) + 40) ((yC P m n i (s + 1)) + 40))), .int (iI s), .ref (co i)]) (v0 := some (.int (iI (P i s + yC P m n (i + 1) (s + 1))))) (G2 := Wd σ X) dX0_align_162 okX0_pairedCost (Or.inl w_491) (xBig_i is_133.1) (Wd_get is_133) ⟨by decide, rfl⟩ rfl (Nat.le_of_ble_eq_true rfl) (by decide) (by decide) (Nat.zero_le _) (Nat.zero_le _) rfl rfl (by have q := s_pairedCost (O := O) (σ := σ) (X := X) hL hr (i := i) (j := s) (by omega) (by omega); rw [e6, p8] at q; exact q) ?_
    refine xz_mmin dX0_align_165 w_490 (Nat.le_of_ble_eq_true rfl) (Nat.zero_le _) (Nat.zero_le _) (by omega) (by omega) ?_
    refine yz_iast dX0_align_168 (is_co (by omega)) (by omega) (by decide) ?_
    refine xz_iinc (l2 := [(0, .ref 133), (1, .int (iI m)), (2, .int (iI n)), (3, .int (iI 40)), (4, .int (iI 40)), (5, .int (iI i)), (6, .int (iI (s + (-1)))), (7, .int (iI (min ((yC P m n (i + 1) s) + 40) ((yC P m n i (s + 1)) + 40))))]) 6 dX0_align_169 rfl (by decide) rfl rfl ?_
    refine xw_goto (tgt := 107) dX0_align_172 (by decide) ?_
    refine xw_loc [(0, .ref 133), (1, .int (iI m)), (2, .int (iI n)), (3, .int (iI 40)), (4, .int (iI 40)), (5, .int (iI i)), (6, .int (iI (s + (-1))))] (fun q9 hq9 => List.mem_append_left ([(7, .int (iI (min ((yC P m n (i + 1) s) + 40) ((yC P m n i (s + 1)) + 40))))] : List (Nat × Value)) hq9) ?_
    rw [show s + (-1) = s - 1 by omega]
    rw [← yC_ab (P := P) (m := m) (n := n) (i := i) (j := s) (by omega) (by omega)]
    have g1 : ∀ a b, a ≠ co i → (yup σ (co i) s (yC P m n i s)) a b = σ a b := fun a b q => yup_i q
    have hb := yC_bd (m := m) (n := n) hP0 i s (by omega) (by omega)
    refine l_align107 hL (yRg_up hr (by omega)) hm hn hP0 hP1 (fun a b c1 c2 c3 c4 => by rw [g1 _ _ (by unfold pr co; omega)]; exact hPi a b c1 c2 c3 c4) hi (fun a b c1 c2 c3 c4 => by rw [g1 _ _ (by unfold co; omega)]; exact hT a b c1 c2 c3 c4) (s - 1) (by omega) (fun j a1 a2 => ?_) (fun σ' q c1 c2 c3 => hK σ' q c1 c2 (fun a b z => (c3 a b z).trans (g1 a b z)))
    by_cases e : j = s
    · subst e; exact yup_s
    · exact (yup_k e).trans (hRow j (by omega) a2)
termination_by (s + 1).toNat
theorem l_align75 (hL : L.stackTraces = false) {σ : ySg} {P : Int → Int → Int} {m n : Int} (hr : yRg σ) (hm : 0 ≤ m ∧ m ≤ 24) (hn : 0 ≤ n ∧ n ≤ 24) (hP0 : ∀ i j, 0 ≤ P i j) (hP1 : ∀ i j, P i j ≤ 1000000) (hPi : yPi P σ m n) (i : Int) (hi : -1 ≤ i ∧ i < m ∨ i = -1) (hT : ∀ a b, i < a → a ≤ m → 0 ≤ b → b ≤ n → σ (co a) b = yC P m n a b) (hK : ∀ (σ' : ySg), yRg σ' → yCt P σ' m n 0 → (∀ a b, (a < 160 ∨ 185 < a) → σ' a b = σ a b) → xWP L O mX0_align (xR 2 0 0) K 181 [(0, .ref 133), (1, .int (iI m)), (2, .int (iI n)), (3, .int (iI 40)), (4, .int (iI 40)), (5, .int (iI (-1)))] [] (Wd σ' X) 0 0) : xWP L O mX0_align (xR 2 0 0) K 75 [(0, .ref 133), (1, .int (iI m)), (2, .int (iI n)), (3, .int (iI 40)), (4, .int (iI 40)), (5, .int (iI i))] [] (Wd σ X) 0 0 := by
  refine xw_iload 5 dX0_align_75 rfl ?_
  refine xz_if_lt (tgt := 181) dX0_align_77 (by decide) (by omega) (fun c1 => ?_) (fun c1 => ?_)
  · rw [show i = -1 by omega]; exact hK σ hr (fun a b c1 c2 c3 c4 => hT a b (by omega) c2 c3 c4) (fun a b _ => rfl)
  · refine xw_aload_n 0 dX0_align_80 rfl ?_
    refine yz_getr (fo_X0_16 rfl) dX0_align_81 is_133 rfl ?_
    refine xw_iload 5 dX0_align_84 rfl ?_
    refine yz_aald 4 dX0_align_86 (by decide) rfl rfl is_159 (by omega) (by decide) (ks159_get (by omega)) ?_
    refine xw_iload_n 2 dX0_align_87 rfl ?_
    refine xw_aload_n 0 dX0_align_88 rfl ?_
    refine yz_getr (fo_X0_16 rfl) dX0_align_89 is_133 rfl ?_
    refine xw_iload 5 dX0_align_92 rfl ?_
    refine xz_iconst dX0_align_94 ?_
    refine xz_iadd dX0_align_95 ?_
    refine yz_aald 4 dX0_align_96 (by decide) rfl rfl is_159 (by omega) (by decide) (ks159_get (by omega)) ?_
    refine xw_iload_n 2 dX0_align_97 rfl ?_
    have e2 : σ (co (i + 1)) n = yC P m n (i + 1) n := hT _ _ (by omega) (by omega) (by omega) (by omega)
    have b3 := yC_bd (m := m) (n := n) hP0 (i + 1) n (by omega) (by omega)
    refine yz_iald (v := yC P m n (i + 1) n) dX0_align_98 (is_co (by omega)) (by omega) (by decide) e2 ?_
    refine xw_iload_n 3 dX0_align_99 rfl ?_
    refine xz_iadd dX0_align_100 ?_
    refine yz_iast dX0_align_101 (is_co (by omega)) (by omega) (by decide) ?_
    refine xw_iload_n 2 dX0_align_102 rfl ?_
    refine xz_iconst dX0_align_103 ?_
    refine xz_isub dX0_align_104 ?_
    refine xw_istore (l2 := [(0, .ref 133), (1, .int (iI m)), (2, .int (iI n)), (3, .int (iI 40)), (4, .int (iI 40)), (5, .int (iI i)), (6, .int (iI (n - 1)))]) dX0_align_105 (by decide) rfl rfl ?_
    rw [← yC_a (P := P) (m := m) (n := n) (i := i) (by omega)]
    have g1 : ∀ a b, a ≠ co i → (yup σ (co i) n (yC P m n i n)) a b = σ a b := fun a b q => yup_i q
    have hb := yC_bd (m := m) (n := n) hP0 i n (by omega) (by omega)
    refine l_align107 hL (yRg_up hr (by omega)) hm hn hP0 hP1 (fun a b c1 c2 c3 c4 => by rw [g1 _ _ (by unfold pr co; omega)]; exact hPi a b c1 c2 c3 c4) ⟨by omega, by omega⟩ (fun a b c1 c2 c3 c4 => by rw [g1 _ _ (by unfold co; omega)]; exact hT a b c1 c2 c3 c4) (n - 1) (by omega) (fun j a1 a2 => by rw [show j = n by omega]; exact yup_s) (fun σ1 q d1 d2 d3 => ?_)
    have g2 : ∀ a b, a ≠ co i → σ1 a b = σ a b := fun a b z => (d3 a b z).trans (g1 a b z)
    refine xz_iinc (l2 := [(0, .ref 133), (1, .int (iI m)), (2, .int (iI n)), (3, .int (iI 40)), (4, .int (iI 40)), (5, .int (iI (i + (-1)))), (6, .int (iI q))]) 5 dX0_align_175 rfl (by decide) rfl rfl ?_
    refine xw_goto (tgt := 75) dX0_align_178 (by decide) ?_
    refine xw_loc [(0, .ref 133), (1, .int (iI m)), (2, .int (iI n)), (3, .int (iI 40)), (4, .int (iI 40)), (5, .int (iI (i + (-1))))] (fun q9 hq9 => List.mem_append_left ([(6, .int (iI q))] : List (Nat × Value)) hq9) ?_
    rw [show i + (-1) = i - 1 by omega]
    refine l_align75 hL d1 hm hn hP0 hP1 (fun a b c1 c2 c3 c4 => by rw [g2 _ _ (by unfold pr co; omega)]; exact hPi a b c1 c2 c3 c4) (i - 1) (by omega) (fun a b c1 c2 c3 c4 => ?_) (fun σ' c1 c2 c3 => hK σ' c1 c2 (fun a b z => (c3 a b z).trans (g2 a b (by unfold co; omega))))
    by_cases e : a = i
    · subst e; exact d2 b c3 c4
    · rw [g2 _ _ (by unfold co; omega)]; exact hT a b (by omega) c2 c3 c4
termination_by (i + 1).toNat
theorem s_align (hL : L.stackTraces = false) {P : Int → Int → Int} {m n : Int} (hr : yRg σ) (hm : 0 ≤ m ∧ m ≤ 24) (hn : 0 ≤ n ∧ n ≤ 24) (hP0 : ∀ i j, 0 ≤ P i j) (hP1 : ∀ i j, P i j ≤ 1000000) (hPi : yPi P σ m n) : xMet L O mX0_align (xR 2 0 0) [.ref 133, .int (iI m), .int (iI n), .int (iI 40), .int (iI 40)] (Wd σ X) (fun o G1 => ∃ σ' : ySg, o = .inl (some (.int (iI (yC P m n 0 0)))) ∧ yRg σ' ∧ (∀ p, 0 ≤ p → p < m → σ' 185 p = yPt P m n p) ∧ (∀ a b, (a < 160 ∨ 185 < a) → σ' a b = σ a b) ∧ G1 = Wd σ' X) := xMet_of (by decide) hL (Nat.le_of_ble_eq_true rfl) (by
  refine xw_eq rfl (l2 := [(0, .ref 133), (1, .int (iI m)), (2, .int (iI n)), (3, .int (iI 40)), (4, .int (iI 40))]) rfl rfl rfl ?_
  refine xw_iload_n 1 dX0_align_0 rfl ?_
  refine xz_iconst dX0_align_1 ?_
  refine xz_bipush dX0_align_2 (by decide) ?_
  refine yc_S (M' := mX11_isIn) (d := 0) (c := 0) (s := 0) (As := [.int (iI m), .int (iI 0), .int (iI 24)]) (st := []) (v0 := some (.int (iI 1))) (G2 := Wd σ X) dX0_align_4 okX11_isIn (Or.inr ⟨rfl, _, w_483⟩) rfl (Nat.le_of_ble_eq_true rfl) (by decide) (by decide) (Nat.zero_le _) (Nat.zero_le _) rfl rfl (s_isIn1 hL (by omega) (by decide) (by decide) (by omega)) ?_
  refine xz_if_eq (tgt := 20) dX0_align_7 (by decide) (by omega) (fun c1 => ?_) (fun c1 => ?_)
  · exact absurd c1 (by omega)
  · refine xw_iload_n 2 dX0_align_10 rfl ?_
    refine xz_iconst dX0_align_11 ?_
    refine xz_bipush dX0_align_12 (by decide) ?_
    refine yc_S (M' := mX11_isIn) (d := 0) (c := 0) (s := 0) (As := [.int (iI n), .int (iI 0), .int (iI 30)]) (st := []) (v0 := some (.int (iI 1))) (G2 := Wd σ X) dX0_align_14 okX11_isIn (Or.inr ⟨rfl, _, w_483⟩) rfl (Nat.le_of_ble_eq_true rfl) (by decide) (by decide) (Nat.zero_le _) (Nat.zero_le _) rfl rfl (s_isIn1 hL (by omega) (by decide) (by decide) (by omega)) ?_
    refine xz_if_ne (tgt := 22) dX0_align_17 (by decide) (by omega) (fun c2 => ?_) (fun c2 => ?_)
    · refine xw_aload_n 0 dX0_align_22 rfl ?_
      refine yz_getr (fo_X0_16 rfl) dX0_align_23 is_133 rfl ?_
      refine xw_iload_n 1 dX0_align_26 rfl ?_
      refine yz_aald 4 dX0_align_27 (by decide) rfl rfl is_159 (by omega) (by decide) (ks159_get (by omega)) ?_
      refine xw_iload_n 2 dX0_align_28 rfl ?_
      refine xz_iconst dX0_align_29 ?_
      refine yz_iast dX0_align_30 (is_co (by omega)) (by omega) (by decide) ?_
      refine xw_iload_n 2 dX0_align_31 rfl ?_
      refine xz_iconst dX0_align_32 ?_
      refine xz_isub dX0_align_33 ?_
      refine xw_istore (l2 := [(0, .ref 133), (1, .int (iI m)), (2, .int (iI n)), (3, .int (iI 40)), (4, .int (iI 40)), (5, .int (iI (n - 1)))]) dX0_align_34 (by decide) rfl rfl ?_
      have g0 : ∀ a b, a ≠ co m → (yup σ (co m) n 0) a b = σ a b := fun a b q => yup_i q
      refine l_align36 hL (yRg_up hr (by decide)) hm hn hP0 (n - 1) (by omega) (fun j a1 a2 => by rw [show j = n by omega, yup_s, yC_0]) (fun σ1 a1 a2 a3 => ?_)
      have g1 : ∀ a b, (a < 160 ∨ 185 < a) → σ1 a b = σ a b := fun a b z => (a3 a b (by unfold co; omega)).trans (g0 a b (by unfold co; omega))
      refine xw_iload_n 1 dX0_align_70 rfl ?_
      refine xz_iconst dX0_align_71 ?_
      refine xz_isub dX0_align_72 ?_
      refine xw_istore (l2 := [(0, .ref 133), (1, .int (iI m)), (2, .int (iI n)), (3, .int (iI 40)), (4, .int (iI 40)), (5, .int (iI (m - 1)))]) dX0_align_73 (by decide) rfl rfl ?_
      refine l_align75 hL a1 hm hn hP0 hP1 (fun a b c1 c2 c3 c4 => by rw [g1 _ _ (by unfold pr; omega)]; exact hPi a b c1 c2 c3 c4) (m - 1) (by omega) (fun a b c1 c2 c3 c4 => by rw [show a = m by omega]; exact a2 b c3 c4) (fun σ2 b1 b2 b3 => ?_)
      have g2 : ∀ a b, (a < 160 ∨ 185 < a) → σ2 a b = σ a b := fun a b z => (b3 a b z).trans (g1 a b z)
      refine xw_aload_n 0 dX0_align_181 rfl ?_
      refine xw_iload_n 1 dX0_align_182 rfl ?_
      refine xw_iload_n 2 dX0_align_183 rfl ?_
      refine xw_iload_n 3 dX0_align_184 rfl ?_
      refine yc_VE (M' := mX0_choose) (d := 1) (c := 0) (s := 0) (As := [.int (iI m), .int (iI n), .int (iI 40)]) (st := []) dX0_align_185 okX0_choose (Or.inl w_495) (xBig_i is_133.1) (Wd_get is_133) ⟨by decide, rfl⟩ rfl (Nat.le_of_ble_eq_true rfl) (by decide) (by decide) (Nat.zero_le _) (Nat.zero_le _) (s_choose hL b1 hm hn hP0 hP1 (fun a b c1 c2 c3 c4 => by rw [g2 _ _ (by unfold pr; omega)]; exact hPi a b c1 c2 c3 c4) b2) (fun v9 G9 h9 => ?_) (fun E9 G9 h9 => ?_)
      · obtain ⟨σ3, e9, hr3, hp3, hf3, e8⟩ := h9
        cases e9
        subst e8
        refine xw_aload_n 0 dX0_align_188 rfl ?_
        refine yz_getr (fo_X0_16 rfl) dX0_align_189 is_133 rfl ?_
        refine xz_iconst dX0_align_192 ?_
        refine yz_aald 4 dX0_align_193 (by decide) rfl rfl is_159 (by decide) (by decide) (ks159_get (by decide)) ?_
        refine xz_iconst dX0_align_194 ?_
        have e4 : σ3 (co 0) 0 = yC P m n 0 0 := (by rw [hf3 _ _ (by unfold co; omega)]; exact b2 0 0 (by omega) (by omega) (by omega) (by omega))
        have b5 := yC_bd (m := m) (n := n) hP0 0 0 (by omega) (by omega)
        refine yz_iald (v := yC P m n 0 0) dX0_align_195 (is_co (by omega)) (by decide) (by decide) e4 ?_
        exact xz_iret dX0_align_196 rfl (Nat.zero_le _) (Nat.zero_le _) ⟨_, rfl, hr3, hp3, fun a b z => (hf3 a b (by omega)).trans (g2 a b z), rfl⟩
      · obtain ⟨_, e9, _⟩ := h9
        cases e9
    · exact absurd c2 (by omega))
/-- the numbers of a region's cues among the first places of an order -/
def yGl (o R : Int → Int) (reg : Int) : Nat → List Int
  | 0 => []
  | k + 1 => if R (o (k : Int)) = reg then yGl o R reg k ++ [o (k : Int)] else yGl o R reg k
theorem yGl_s (o R : Int → Int) (reg : Int) (k : Nat) : yGl o R reg (k + 1) = if R (o (k : Int)) = reg then yGl o R reg k ++ [o (k : Int)] else yGl o R reg k := rfl
theorem yGl_len (o R : Int → Int) (reg : Int) : ∀ k, (yGl o R reg k).length ≤ k
  | 0 => Nat.le_refl _
  | k + 1 => by
    have := yGl_len o R reg k
    unfold yGl
    split
    · rw [List.length_append]; simp; omega
    · omega
theorem yGl_in (o R : Int → Int) (reg N : Int) (h : ∀ p, 0 ≤ p → p < N → 0 ≤ o p ∧ o p < 24) : ∀ k : Nat, (k : Int) ≤ N → ∀ x ∈ yGl o R reg k, 0 ≤ x ∧ x < 24
  | 0, _, x, hx => by cases hx
  | k + 1, hk, x, hx => by
    unfold yGl at hx
    split at hx
    · rcases List.mem_append.mp hx with q | q
      · exact yGl_in o R reg N h k (by omega) x q
      · rw [List.mem_singleton.mp q]; exact h _ (by omega) (by omega)
    · exact yGl_in o R reg N h k (by omega) x hx
def yGt (l : List Int) (i : Int) : Int := l.getD i.toNat 0
theorem yGt_in {l : List Int} (h : ∀ x ∈ l, 0 ≤ x ∧ x < 24) (i : Int) : 0 ≤ yGt l i ∧ yGt l i < 24 := by
  unfold yGt
  rw [List.getD_eq_getElem?_getD]
  cases e : l[i.toNat]? with
  | none => exact ⟨by decide, by decide⟩
  | some v => exact h v (List.mem_of_getElem? e)
def yHl (σ : ySg) (t : Nat) (l : List Int) : Prop := ∀ i : Int, 0 ≤ i → i < (l.length : Int) → σ t i = yGt l i
theorem yHl_app {σ σ' : ySg} {t : Nat} {l : List Int} {v : Int} (h : yHl σ t l) (h1 : σ' t (l.length : Int) = v) (h2 : ∀ i : Int, i ≠ (l.length : Int) → σ' t i = σ t i) : yHl σ' t (l ++ [v]) := by
  intro i a1 a2
  rw [List.length_append] at a2
  simp only [List.length_singleton] at a2
  unfold yGt
  by_cases e : i = (l.length : Int)
  · subst e
    rw [h1, Int.toNat_natCast, List.getD_eq_getElem?_getD, List.getElem?_append_right (Nat.le_refl _), Nat.sub_self]; rfl
  · rw [h2 i e, h i a1 (by omega), List.getD_eq_getElem?_getD, List.getElem?_append_left (by omega), ← List.getD_eq_getElem?_getD]; rfl
theorem l_gather (hL : L.stackTraces = false) {σ : ySg} {t : Nat} {reg N : Int} {o R : Int → Int} (hr : yRg σ) (ht : yIs t 64 (List.replicate 24 none)) (ht2 : 190 < t) (hN : σ 20 6 = N) (hN2 : 0 ≤ N ∧ N ≤ 24) (ho : ∀ p, 0 ≤ p → p < N → 0 ≤ o p ∧ o p < 24) (hoo : ∀ p, σ 29 p = o p) (hRR : ∀ k : Int, k < 24 → σ (cu k) 3 = R k) (hg : -2147483648 ≤ reg ∧ reg < 2147483648) (j : Int) (h0 : 0 ≤ j) (h1 : j ≤ N) (hl : yHl σ t (yGl o R reg j.toNat)) (hK : ∀ σ' : ySg, yRg σ' → yHl σ' t (yGl o R reg N.toNat) → (∀ a b, a ≠ t → σ' a b = σ a b) → K (.inl (some (.int (iI ((yGl o R reg N.toNat).length : Int))))) (Wd σ' X)) : xWP L O mX8_gather (xR 2 0 0) K 5 [(0, .ref 20), (1, .int (iI reg)), (2, .ref t), (3, .int (iI (((yGl o R reg j.toNat).length : Int)))), (4, .int (iI j))] [] (Wd σ X) 0 0 := by
  have hlen := yGl_len o R reg j.toNat
  refine xw_iload 4 dX8_gather_5 rfl ?_
  refine xw_aload_n 0 dX8_gather_7 rfl ?_
  have r1 := hr 20 6
  refine yz_geti (z := 6) (v := σ 20 6) (fo_X8_49 rfl) dX8_gather_8 is_20 rfl rfl rfl ?_
  refine xz_icmp_ge (tgt := 51) dX8_gather_11 (by decide) (by omega) (by omega) (fun c2 => ?_) (fun c2 => ?_)
  · refine xw_iload_n 3 dX8_gather_51 rfl ?_
    exact xz_iret dX8_gather_52 rfl (Nat.zero_le _) (Nat.zero_le _) (by rw [show j = N by omega] at hl ⊢; exact hK σ hr hl (fun a b _ => rfl))
  · refine xw_iload_n 3 dX8_gather_14 rfl ?_
    refine xw_aload_n 2 dX8_gather_15 rfl ?_
    refine yz_alen 0 (n := 24) dX8_gather_16 (by decide) rfl ht rfl ?_
    refine xz_icmp_ge (tgt := 51) dX8_gather_17 (by decide) (by omega) (by omega) (fun c3 => ?_) (fun c3 => ?_)
    · exact absurd c3 (by omega)
    · have ho9 : 0 ≤ σ 29 j ∧ σ 29 j < 24 := by rw [hoo]; exact ho _ h0 (by omega)
      refine xw_aload_n 0 dX8_gather_20 rfl ?_
      refine xw_iload 4 dX8_gather_21 rfl ?_
      have r4 := hr 29 j
      have ho5 : 0 ≤ σ 29 j ∧ σ 29 j < 24 := ho9
      refine yc_V (M' := mX10_cueIn) (d := 1) (c := 0) (s := 0) (As := [.int (iI j)]) (st := []) (v0 := some (.ref (cu (σ 29 j)))) (G2 := Wd σ X) dX8_gather_23 okX10_cueIn (Or.inl w_471) (xBig_i is_20.1) (Wd_get is_20) ⟨by decide, rfl⟩ rfl (Nat.le_of_ble_eq_true rfl) (by decide) (by decide) (Nat.zero_le _) (Nat.zero_le _) rfl rfl (s_cueIn hL hr (by omega) ho5) ?_
      have r6 := hr (cu (σ 29 j)) 3
      refine yz_geti (z := 3) (v := σ (cu (σ 29 j)) 3) (fo_X8_56 rfl) dX8_gather_26 (is_cu (ho9)) rfl rfl rfl ?_
      refine xw_iload_n 1 dX8_gather_29 rfl ?_
      refine xz_icmp_ne (tgt := 45) dX8_gather_30 (by decide) (by omega) (by omega) (fun c7 => ?_) (fun c7 => ?_)
      · refine xz_iinc (l2 := [(0, .ref 20), (1, .int (iI reg)), (2, .ref t), (3, .int (iI (((yGl o R reg j.toNat).length : Int)))), (4, .int (iI (j + 1)))]) 4 dX8_gather_45 rfl (by decide) rfl rfl ?_
        refine xw_goto (tgt := 5) dX8_gather_48 (by decide) ?_
        have eq : yGl o R reg (j + 1).toNat = yGl o R reg j.toNat := by
          rw [show (j + 1).toNat = j.toNat + 1 by omega, yGl_s, Int.toNat_of_nonneg h0, if_neg (by rw [← hoo, ← hRR _ ho9.2]; exact c7)]
        refine xw_eq rfl (l2 := [(0, .ref 20), (1, .int (iI reg)), (2, .ref t), (3, .int (iI ((yGl o R reg (j + 1).toNat).length : Int))), (4, .int (iI (j + 1)))]) (by rw [eq]) rfl rfl ?_
        exact l_gather hL hr ht ht2 hN hN2 ho hoo hRR hg (j + 1) (by omega) (by omega) (by rw [eq]; exact hl) hK
      · refine xw_aload_n 2 dX8_gather_33 rfl ?_
        refine xw_iload_n 3 dX8_gather_34 rfl ?_
        refine xw_aload_n 0 dX8_gather_35 rfl ?_
        refine xw_iload 4 dX8_gather_36 rfl ?_
        refine yc_V (M' := mX10_numberIn) (d := 0) (c := 0) (s := 0) (As := [.int (iI j)]) (st := [.int (iI (((yGl o R reg j.toNat).length : Int))), .ref t]) (v0 := some (.int (iI (σ 29 j)))) (G2 := Wd σ X) dX8_gather_38 okX10_numberIn (Or.inl w_472) (xBig_i is_20.1) (Wd_get is_20) ⟨by decide, rfl⟩ rfl (Nat.le_of_ble_eq_true rfl) (by decide) (by decide) (Nat.zero_le _) (Nat.zero_le _) rfl rfl (s_numberIn hL hr (by omega)) ?_
        refine yz_iast dX8_gather_41 ht (by omega) (by decide) ?_
        refine xz_iinc (l2 := [(0, .ref 20), (1, .int (iI reg)), (2, .ref t), (3, .int (iI (((yGl o R reg j.toNat).length : Int) + 1))), (4, .int (iI j))]) 3 dX8_gather_42 rfl (by decide) rfl rfl ?_
        refine xz_iinc (l2 := [(0, .ref 20), (1, .int (iI reg)), (2, .ref t), (3, .int (iI (((yGl o R reg j.toNat).length : Int) + 1))), (4, .int (iI (j + 1)))]) 4 dX8_gather_45 rfl (by decide) rfl rfl ?_
        refine xw_goto (tgt := 5) dX8_gather_48 (by decide) ?_
        have eq : yGl o R reg (j + 1).toNat = yGl o R reg j.toNat ++ [σ 29 j] := by
          rw [show (j + 1).toNat = j.toNat + 1 by omega, yGl_s, Int.toNat_of_nonneg h0, if_pos (by rw [← hoo, ← hRR _ ho9.2]; exact c7), ← hoo]
        have g1 : ∀ a b, a ≠ t → (yup σ t ((yGl o R reg j.toNat).length : Int) (σ 29 j)) a b = σ a b := fun a b q => yup_i q
        refine xw_eq rfl (l2 := [(0, .ref 20), (1, .int (iI reg)), (2, .ref t), (3, .int (iI ((yGl o R reg (j + 1).toNat).length : Int))), (4, .int (iI (j + 1)))]) (by rw [eq, List.length_append]; rfl) rfl rfl ?_
        refine l_gather hL (yRg_up hr (by omega)) ht ht2 ((g1 _ _ (by omega)).trans hN) hN2 ho (fun p => (g1 _ _ (by omega)).trans (hoo p)) (fun k q => (g1 _ _ (by unfold cu; omega)).trans (hRR k q)) hg (j + 1) (by omega) (by omega) ?_ (fun σ' c1 c2 c3 => hK σ' c1 c2 (fun a b q => (c3 a b q).trans (g1 a b q)))
        rw [eq]
        exact yHl_app hl yup_s (fun i q => yup_k q)
termination_by (N - j).toNat
theorem s_gather (hL : L.stackTraces = false) {t : Nat} {reg N : Int} {o R : Int → Int} (hr : yRg σ) (ht : yIs t 64 (List.replicate 24 none)) (ht2 : 190 < t) (hN : σ 20 6 = N) (hN2 : 0 ≤ N ∧ N ≤ 24) (ho : ∀ p, 0 ≤ p → p < N → 0 ≤ o p ∧ o p < 24) (hoo : ∀ p, σ 29 p = o p) (hRR : ∀ k : Int, k < 24 → σ (cu k) 3 = R k) (hg : -2147483648 ≤ reg ∧ reg < 2147483648) : xMet L O mX8_gather (xR 2 0 0) [.ref 20, .int (iI reg), .ref t] (Wd σ X) (fun o9 G1 => ∃ σ' : ySg, o9 = .inl (some (.int (iI ((yGl o R reg N.toNat).length : Int)))) ∧ yRg σ' ∧ yHl σ' t (yGl o R reg N.toNat) ∧ (∀ a b, a ≠ t → σ' a b = σ a b) ∧ G1 = Wd σ' X) := xMet_of (by decide) hL (Nat.le_of_ble_eq_true rfl) (by
  refine xw_eq rfl (l2 := [(0, .ref 20), (1, .int (iI reg)), (2, .ref t)]) rfl rfl rfl ?_
  refine xz_iconst dX8_gather_0 ?_
  refine xw_istore_n (l2 := [(0, .ref 20), (1, .int (iI reg)), (2, .ref t), (3, .int (iI 0))]) dX8_gather_1 (by decide) rfl rfl ?_
  refine xz_iconst dX8_gather_2 ?_
  refine xw_istore (l2 := [(0, .ref 20), (1, .int (iI reg)), (2, .ref t), (3, .int (iI 0)), (4, .int (iI 0))]) dX8_gather_3 (by decide) rfl rfl ?_
  exact l_gather (o := o) (R := R) hL hr ht ht2 hN hN2 ho hoo hRR hg 0 (by omega) (by omega) (fun i a1 a2 => absurd a2 (by simp [yGl]; omega)) (fun σ' c1 c2 c3 => ⟨σ', rfl, c1, c2, c3, rfl⟩))
theorem s_priceOf (hL : L.stackTraces = false) {n m : Int} (hr : yRg σ) (hn : 0 ≤ n ∧ n < 24) (hm : 0 ≤ m ∧ m < 24) (h1 : 0 ≤ σ (cu n) 1 ∧ σ (cu n) 1 ≤ 99999) (h2 : 0 ≤ σ (cu m) 1 ∧ σ (cu m) 1 ≤ 99999) (h3 : 0 ≤ σ (cu n) 6 ∧ σ (cu n) 6 ≤ 12) (h4 : 0 ≤ σ (cu m) 6 ∧ σ (cu m) 6 ≤ 12) : xMet L O mX8_priceOf (xR 0 0 0) [.ref (cu n), .ref (cu m)] (Wd σ X) (fun o G1 => o = .inl (some (.int (iI (max (σ (cu n) 1 - σ (cu m) 1) (-(σ (cu n) 1 - σ (cu m) 1)) + 5 * max (σ (cu n) 6 - σ (cu m) 6) (-(σ (cu n) 6 - σ (cu m) 6)))))) ∧ G1 = Wd σ X) := xMet_of (by decide) hL (Nat.le_of_ble_eq_true rfl) (by
  refine xw_eq rfl (l2 := [(0, .ref (cu n)), (1, .ref (cu m))]) rfl rfl rfl ?_
  refine xw_aload_n 0 dX8_priceOf_0 rfl ?_
  have r1 := hr (cu n) 1
  refine yz_geti (z := 1) (v := σ (cu n) 1) (fo_X8_65 rfl) dX8_priceOf_1 (is_cu hn) rfl rfl rfl ?_
  refine xw_aload_n 1 dX8_priceOf_4 rfl ?_
  have r2 := hr (cu m) 1
  refine yz_geti (z := 1) (v := σ (cu m) 1) (fo_X8_65 rfl) dX8_priceOf_5 (is_cu hm) rfl rfl rfl ?_
  refine xz_isub dX8_priceOf_8 ?_
  refine xz_mabs dX8_priceOf_9 w_476 (Nat.le_of_ble_eq_true rfl) (Nat.zero_le _) (Nat.zero_le _) (by omega) ?_
  refine xz_iconst dX8_priceOf_12 ?_
  refine xw_aload_n 0 dX8_priceOf_13 rfl ?_
  have r3 := hr (cu n) 6
  refine yz_geti (z := 6) (v := σ (cu n) 6) (fo_X8_73 rfl) dX8_priceOf_14 (is_cu hn) rfl rfl rfl ?_
  refine xw_aload_n 1 dX8_priceOf_17 rfl ?_
  have r4 := hr (cu m) 6
  refine yz_geti (z := 6) (v := σ (cu m) 6) (fo_X8_73 rfl) dX8_priceOf_18 (is_cu hm) rfl rfl rfl ?_
  refine xz_isub dX8_priceOf_21 ?_
  refine xz_mabs dX8_priceOf_22 w_476 (Nat.le_of_ble_eq_true rfl) (Nat.zero_le _) (Nat.zero_le _) (by omega) ?_
  refine xz_imul dX8_priceOf_25 ?_
  refine xz_iadd dX8_priceOf_26 ?_
  exact xz_iret dX8_priceOf_27 rfl (Nat.zero_le _) (Nat.zero_le _) ⟨rfl, rfl⟩)
end Y24

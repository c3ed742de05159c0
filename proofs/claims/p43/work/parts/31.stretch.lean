section Y31
variable {L : Launch} {O : xWd} {K : xOc → List xOb → Prop} {σ : ySg} {X : List xOb} {G : List xOb}
/-- the next place of the same region -/
def yNx (σ : ySg) (N p z : Int) : Prop := (z = -1 ∧ ∀ q, p < q → q < N → ¬ σ (cu (σ 29 q)) 3 = σ (cu (σ 29 p)) 3) ∨ ((p < z ∧ z < N) ∧ σ (cu (σ 29 z)) 3 = σ (cu (σ 29 p)) 3 ∧ ∀ q, p < q → q < z → ¬ σ (cu (σ 29 q)) 3 = σ (cu (σ 29 p)) 3)
theorem l_next (hL : L.stackTraces = false) {N p : Int} (hr : yRg σ) (hN : σ 20 6 = N ∧ N ≤ 24) (ho : ∀ p, 0 ≤ p → p < N → 0 ≤ σ 29 p ∧ σ 29 p < 24) (hp : 0 ≤ p ∧ p < N) (hK : ∀ z, yNx σ N p z → K (.inl (some (.int (iI z)))) (Wd σ X)) (j : Int) (h0 : p < j) (h1 : j ≤ N) (hq : ∀ q, p < q → q < j → ¬ σ (cu (σ 29 q)) 3 = σ (cu (σ 29 p)) 3) : xWP L O mX10_nextOfRegion (xR 2 0 0) K 4 [(0, .ref 20), (1, .int (iI p)), (2, .int (iI j))] [] (Wd σ X) 0 0 := by
  refine xw_iload_n 2 dX10_nextOfRegion_4 rfl ?_
  refine xw_aload_n 0 dX10_nextOfRegion_5 rfl ?_
  have r1 := hr 20 6
  refine yz_geti (z := 6) (v := σ 20 6) (fo_X10_58 rfl) dX10_nextOfRegion_6 is_20 rfl rfl rfl ?_
  refine xz_icmp_ge (tgt := 39) dX10_nextOfRegion_9 (by decide) (by omega) (by omega) (fun c2 => ?_) (fun c2 => ?_)
  · refine xz_iconst dX10_nextOfRegion_39 ?_
    exact xz_iret dX10_nextOfRegion_40 rfl (Nat.zero_le _) (Nat.zero_le _) (hK _ (by first | exact Or.inr ⟨⟨by omega, by omega⟩, by assumption, hq⟩ | exact Or.inl ⟨rfl, fun q a b => hq q a (by omega)⟩))
  · refine xw_aload_n 0 dX10_nextOfRegion_12 rfl ?_
    refine xw_iload_n 2 dX10_nextOfRegion_13 rfl ?_
    have r3 := hr 29 j
    have ho4 : 0 ≤ σ 29 j ∧ σ 29 j < 24 := ho _ (by omega) (by omega)
    refine yc_V (M' := mX10_cueIn) (d := 1) (c := 0) (s := 0) (As := [.int (iI j)]) (st := []) (v0 := some (.ref (cu (σ 29 j)))) (G2 := Wd σ X) dX10_nextOfRegion_14 okX10_cueIn (Or.inl w_422) (xBig_i is_20.1) (Wd_get is_20) ⟨by decide, rfl⟩ rfl (Nat.le_of_ble_eq_true rfl) (by decide) (by decide) (Nat.zero_le _) (Nat.zero_le _) rfl rfl (s_cueIn hL hr (by omega) ho4) ?_
    have r5 := hr (cu (σ 29 j)) 3
    refine yz_geti (z := 3) (v := σ (cu (σ 29 j)) 3) (fo_X10_66 rfl) dX10_nextOfRegion_17 (is_cu (ho _ (by omega) (by omega))) rfl rfl rfl ?_
    refine xw_aload_n 0 dX10_nextOfRegion_20 rfl ?_
    refine xw_iload_n 1 dX10_nextOfRegion_21 rfl ?_
    have r6 := hr 29 p
    have ho7 : 0 ≤ σ 29 p ∧ σ 29 p < 24 := ho _ (by omega) (by omega)
    refine yc_V (M' := mX10_cueIn) (d := 1) (c := 0) (s := 0) (As := [.int (iI p)]) (st := [.int (iI (σ (cu (σ 29 j)) 3))]) (v0 := some (.ref (cu (σ 29 p)))) (G2 := Wd σ X) dX10_nextOfRegion_22 okX10_cueIn (Or.inl w_422) (xBig_i is_20.1) (Wd_get is_20) ⟨by decide, rfl⟩ rfl (Nat.le_of_ble_eq_true rfl) (by decide) (by decide) (Nat.zero_le _) (Nat.zero_le _) rfl rfl (s_cueIn hL hr (by omega) ho7) ?_
    have r8 := hr (cu (σ 29 p)) 3
    refine yz_geti (z := 3) (v := σ (cu (σ 29 p)) 3) (fo_X10_66 rfl) dX10_nextOfRegion_25 (is_cu (ho _ (by omega) (by omega))) rfl rfl rfl ?_
    refine xz_icmp_ne (tgt := 33) dX10_nextOfRegion_28 (by decide) (by omega) (by omega) (fun c9 => ?_) (fun c9 => ?_)
    · refine xz_iinc (l2 := [(0, .ref 20), (1, .int (iI p)), (2, .int (iI (j + 1)))]) 2 dX10_nextOfRegion_33 rfl (by decide) rfl rfl ?_
      refine xw_goto (tgt := 4) dX10_nextOfRegion_36 (by decide) ?_
      exact l_next hL hr hN ho hp hK (j + 1) (by omega) (by omega) (fun q a b => by by_cases e : q = j; subst e; assumption; exact hq q a (by omega))
    · refine xw_iload_n 2 dX10_nextOfRegion_31 rfl ?_
      exact xz_iret dX10_nextOfRegion_32 rfl (Nat.zero_le _) (Nat.zero_le _) (hK _ (by first | exact Or.inr ⟨⟨by omega, by omega⟩, by assumption, hq⟩ | exact Or.inl ⟨rfl, fun q a b => hq q a (by omega)⟩))
termination_by (N - j).toNat
theorem s_next (hL : L.stackTraces = false) {N p : Int} (hr : yRg σ) (hN : σ 20 6 = N ∧ N ≤ 24) (ho : ∀ p, 0 ≤ p → p < N → 0 ≤ σ 29 p ∧ σ 29 p < 24) (hp : 0 ≤ p ∧ p < N) : xMet L O mX10_nextOfRegion (xR 2 0 0) [.ref 20, .int (iI p)] (Wd σ X) (fun o G1 => ∃ z : Int, o = .inl (some (.int (iI z))) ∧ yNx σ N p z ∧ G1 = Wd σ X) := xMet_of (by decide) hL (Nat.le_of_ble_eq_true rfl) (by
  refine xw_eq rfl (l2 := [(0, .ref 20), (1, .int (iI p))]) rfl rfl rfl ?_
  refine xw_iload_n 1 dX10_nextOfRegion_0 rfl ?_
  refine xz_iconst dX10_nextOfRegion_1 ?_
  refine xz_iadd dX10_nextOfRegion_2 ?_
  refine xw_istore_n (l2 := [(0, .ref 20), (1, .int (iI p)), (2, .int (iI (p + 1)))]) dX10_nextOfRegion_3 (by decide) rfl rfl ?_
  exact l_next hL hr hN ho hp (fun z hz => ⟨z, rfl, hz, rfl⟩) (p + 1) (by omega) (by omega) (fun q a b => absurd b (by omega)))
def yBeh (S R : Int → Int) (n m : Int) : Prop := R m = R n ∧ (S n < S m ∨ (S m = S n ∧ n < m))
/-- what a cue's end becomes by stretching -/
def yStR (S R : Int → Int) (N least gap n e e' : Int) : Prop :=
  ((∀ m, 0 ≤ m → m < N → ¬ yBeh S R n m) ∧ e' = max (min (max e (S n + least)) 99999) (S n + 1)) ∨
  (∃ m, (0 ≤ m ∧ m < N) ∧ yBeh S R n m ∧ (∀ k, 0 ≤ k → k < N → yBeh S R n k → S m ≤ S k) ∧ e' = max (min (min (max e (S n + least)) 99999) (S m - gap)) (S n + 1))
theorem yNx_beh {N p z : Int} (h : yNx σ N p z) (ho : yOr σ N) (hp : 0 ≤ p ∧ p < N) :
    (z = -1 → ∀ m, 0 ≤ m → m < N → ¬ yBeh (fun k => σ (cu k) 1) (fun k => σ (cu k) 3) (σ 29 p) m) ∧
    (¬ z = -1 → ((0 ≤ z ∧ z < N) ∧ yBeh (fun k => σ (cu k) 1) (fun k => σ (cu k) 3) (σ 29 p) (σ 29 z) ∧ ∀ k, 0 ≤ k → k < N → yBeh (fun k => σ (cu k) 1) (fun k => σ (cu k) 3) (σ 29 p) k → σ (cu (σ 29 z)) 1 ≤ σ (cu k) 1)) := by
  obtain ⟨o1, o2, o3⟩ := ho
  have place : ∀ m, 0 ≤ m → m < N → yBeh (fun k => σ (cu k) 1) (fun k => σ (cu k) 3) (σ 29 p) m → ∃ q, p < q ∧ q < N ∧ σ 29 q = m := fun m a b c => by
    obtain ⟨q, q1, q2, q3⟩ := o3 m a b
    have c : σ (cu m) 3 = σ (cu (σ 29 p)) 3 ∧ (σ (cu (σ 29 p)) 1 < σ (cu m) 1 ∨ (σ (cu m) 1 = σ (cu (σ 29 p)) 1 ∧ σ 29 p < m)) := c
    by_cases e : p < q
    · exact ⟨q, e, q2, q3⟩
    · by_cases e2 : q = p
      · subst e2; subst q3; omega
      · have := o2 q p q1 (by omega) hp.2
        rw [q3] at this
        omega
  rcases h with ⟨h1, h2⟩ | ⟨h1, h2, h3⟩
  · refine ⟨fun _ m a b c => ?_, fun e => absurd h1 e⟩
    obtain ⟨q, q1, q2, q3⟩ := place m a b c
    have := h2 q q1 q2
    rw [q3] at this
    exact this c.1
  · refine ⟨fun e => by omega, fun _ => ⟨⟨by omega, h1.2⟩, ⟨h2, ?_⟩, fun k a b c => ?_⟩⟩
    · have := o2 p z hp.1 h1.1 h1.2
      show σ (cu (σ 29 p)) 1 < σ (cu (σ 29 z)) 1 ∨ (σ (cu (σ 29 z)) 1 = σ (cu (σ 29 p)) 1 ∧ σ 29 p < σ 29 z)
      omega
    · obtain ⟨q, q1, q2, q3⟩ := place k a b c
      by_cases e : q < z
      · have := h3 q q1 e
        rw [q3] at this
        exact absurd c.1 this
      · by_cases e2 : q = z
        · subst e2; rw [q3]; exact Int.le_refl _
        · have := o2 z q (by omega) (by omega) q2
          rw [q3] at this
          omega
theorem l_stretch (hL : L.stackTraces = false) {σ0 σ : ySg} {N least gap : Int} (hr : yRg σ) (hN : 0 ≤ N ∧ N ≤ 24) (hl : 1 ≤ least ∧ least ≤ 999) (hg : 0 ≤ gap ∧ gap ≤ 99) (ho : yOr σ0 N) (hcn : σ 20 6 = N) (e29 : ∀ p, σ 29 p = σ0 29 p) (hse : ∀ k, 0 ≤ k → k < N → 0 ≤ σ0 (cu k) 1 ∧ σ0 (cu k) 1 < σ0 (cu k) 2 ∧ σ0 (cu k) 2 ≤ 99999) (j : Int) (h0 : 0 ≤ j) (h1 : j ≤ N) (hnew : ∀ p, 0 ≤ p → p < j → yStR (fun k => σ0 (cu k) 1) (fun k => σ0 (cu k) 3) N least gap (σ0 29 p) (σ0 (cu (σ0 29 p)) 2) (σ (cu (σ0 29 p)) 2)) (hold : ∀ p, j ≤ p → p < N → σ (cu (σ0 29 p)) 2 = σ0 (cu (σ0 29 p)) 2) (hfr : ∀ x y, ¬ (32 ≤ x ∧ x < 128 ∧ x % 4 = 0 ∧ y = 2) → σ x y = σ0 x y) (hK : ∀ σ' : ySg, yRg σ' → (∀ p, 0 ≤ p → p < N → yStR (fun k => σ0 (cu k) 1) (fun k => σ0 (cu k) 3) N least gap (σ0 29 p) (σ0 (cu (σ0 29 p)) 2) (σ' (cu (σ0 29 p)) 2)) → (∀ x y, ¬ (32 ≤ x ∧ x < 128 ∧ x % 4 = 0 ∧ y = 2) → σ' x y = σ0 x y) → K (.inl (some (.int (iI (yDf σ0 σ' N))))) (Wd (yup σ' 0 6 0) X)) : xWP L O mX11_stretch (xR 6 0 0) K 38 [(0, .ref 0), (1, .int (iI least)), (2, .int (iI gap)), (3, .int (iI (yDf σ0 σ N))), (4, .int (iI j))] [] (Wd σ X) 0 0 := by
  have hdb := yDf_bd σ0 σ N hN.2
  have hreg : ∀ k : Int, σ (cu k) 3 = σ0 (cu k) 3 := fun k => hfr _ _ (by omega)
  refine xw_iload 4 dX11_stretch_38 rfl ?_
  refine xw_aload_n 0 dX11_stretch_40 rfl ?_
  refine yz_getr (fo_X11_29 rfl) dX11_stretch_41 is_0 rfl ?_
  have r1 := hr 20 6
  refine yz_geti (z := 6) (v := σ 20 6) (fo_X11_266 rfl) dX11_stretch_44 is_20 rfl rfl rfl ?_
  refine xz_icmp_ge (tgt := 153) dX11_stretch_47 (by decide) (by omega) (by omega) (fun c2 => ?_) (fun c2 => ?_)
  · refine xw_aload_n 0 dX11_stretch_153 rfl ?_
    refine xz_iconst dX11_stretch_154 ?_
    refine yz_putz (z := 6) (fp_X11_193 rfl) dX11_stretch_155 is_0 rfl rfl (Or.inl rfl) ?_
    refine xw_iload_n 3 dX11_stretch_158 rfl ?_
    exact xz_iret dX11_stretch_159 rfl (Nat.zero_le _) (Nat.zero_le _) (hK σ hr (fun p a b => hnew p a (by omega)) hfr)
  · refine xw_aload_n 0 dX11_stretch_50 rfl ?_
    refine yz_getr (fo_X11_29 rfl) dX11_stretch_51 is_0 rfl ?_
    refine xw_iload 4 dX11_stretch_54 rfl ?_
    have r3 := hr 29 j
    have ho4 : 0 ≤ σ 29 j ∧ σ 29 j < 24 := by rw [e29]; have := ho.1 (j) (by omega) (by omega); omega
    refine yc_V (M' := mX10_cueIn) (d := 1) (c := 0) (s := 0) (As := [.int (iI j)]) (st := []) (v0 := some (.ref (cu (σ 29 j)))) (G2 := Wd σ X) dX11_stretch_56 okX10_cueIn (Or.inl w_708) (xBig_i is_20.1) (Wd_get is_20) ⟨by decide, rfl⟩ rfl (Nat.le_of_ble_eq_true rfl) (by decide) (by decide) (Nat.zero_le _) (Nat.zero_le _) rfl rfl (s_cueIn hL hr (by omega) ho4) ?_
    obtain ⟨n, en⟩ : ∃ n, n = σ 29 j := ⟨_, rfl⟩
    rw [← en]
    have en2 : σ0 29 j = n := by rw [en, e29]
    have hnN : 0 ≤ n ∧ n < N := by rw [← en2]; exact ho.1 _ h0 (by omega)
    have hn : 0 ≤ n ∧ n < 24 := by omega
    have hse1 := hse n hnN.1 hnN.2
    have hj1 : σ (cu n) 1 = σ0 (cu n) 1 := hfr _ _ (by omega)
    have hj2 : σ (cu n) 2 = σ0 (cu n) 2 := by rw [← en2]; exact hold j (Int.le_refl _) (by omega)
    rw [← hj1, ← hj2] at hse1
    refine xw_astore (l2 := [(0, .ref 0), (1, .int (iI least)), (2, .int (iI gap)), (3, .int (iI (yDf σ0 σ N))), (4, .int (iI j)), (5, .ref (cu n))]) dX11_stretch_59 (by decide) rfl rfl ?_
    refine xw_aload 5 dX11_stretch_61 rfl ?_
    have r5 := hr (cu n) 2
    refine yz_geti (z := 2) (v := σ (cu n) 2) (fo_X11_224 rfl) dX11_stretch_63 (is_cu hn) rfl rfl rfl ?_
    refine xw_aload 5 dX11_stretch_66 rfl ?_
    have r6 := hr (cu n) 1
    refine yz_geti (z := 1) (v := σ (cu n) 1) (fo_X11_221 rfl) dX11_stretch_68 (is_cu hn) rfl rfl rfl ?_
    refine xw_iload_n 1 dX11_stretch_71 rfl ?_
    refine xz_iadd dX11_stretch_72 ?_
    refine xz_mmax dX11_stretch_73 w_578 (Nat.le_of_ble_eq_true rfl) (Nat.zero_le _) (Nat.zero_le _) (by omega) (by omega) ?_
    refine xz_ldcw (z := 99999) dX11_stretch_76 w_728 (by decide) ?_
    refine xz_mmin dX11_stretch_79 w_892 (Nat.le_of_ble_eq_true rfl) (Nat.zero_le _) (Nat.zero_le _) (by omega) (by omega) ?_
    refine xw_istore (l2 := [(0, .ref 0), (1, .int (iI least)), (2, .int (iI gap)), (3, .int (iI (yDf σ0 σ N))), (4, .int (iI j)), (5, .ref (cu n)), (6, .int (iI (min (max (σ (cu n) 2) ((σ (cu n) 1) + least)) 99999)))]) dX11_stretch_82 (by decide) rfl rfl ?_
    refine xw_aload_n 0 dX11_stretch_84 rfl ?_
    refine yz_getr (fo_X11_29 rfl) dX11_stretch_85 is_0 rfl ?_
    refine xw_iload 4 dX11_stretch_88 rfl ?_
    refine yc_VE (M' := mX10_nextOfRegion) (d := 2) (c := 0) (s := 0) (As := [.int (iI j)]) (st := []) dX11_stretch_90 okX10_nextOfRegion (Or.inl w_893) (xBig_i is_20.1) (Wd_get is_20) ⟨by decide, rfl⟩ rfl (Nat.le_of_ble_eq_true rfl) (by decide) (by decide) (Nat.zero_le _) (Nat.zero_le _) (s_next hL hr ⟨hcn, hN.2⟩ (fun p a b => by rw [e29]; have := ho.1 p a b; omega) ⟨h0, by omega⟩) (fun v9 G9 h9 => ?_) (fun E9 G9 h9 => ?_)
    · obtain ⟨y7, e9, hy7, e8⟩ := h9
      cases e9
      subst e8
      have hyx : yNx σ0 N j y7 := by
        have q := hy7
        unfold yNx at q ⊢
        simp only [e29, hreg] at q
        exact q
      have hb := yNx_beh hyx ho ⟨h0, by omega⟩
      rw [en2] at hb
      have hyr : -1 ≤ y7 ∧ y7 < N := by rcases hyx with q | q <;> omega
      refine xw_istore (l2 := [(0, .ref 0), (1, .int (iI least)), (2, .int (iI gap)), (3, .int (iI (yDf σ0 σ N))), (4, .int (iI j)), (5, .ref (cu n)), (6, .int (iI (min (max (σ (cu n) 2) ((σ (cu n) 1) + least)) 99999))), (7, .int (iI y7))]) dX11_stretch_93 (by decide) rfl rfl ?_
      refine xw_iload 7 dX11_stretch_95 rfl ?_
      refine xz_iconst dX11_stretch_97 ?_
      refine xw_join (J := 122) (c1 := 0) (n1 := 0) (P := fun v8 => ((y7 = -1 ∧ v8 = min (max (σ (cu n) 2) ((σ (cu n) 1) + least)) 99999) ∨ (¬ y7 = -1 ∧ v8 = min (min (max (σ (cu n) 2) ((σ (cu n) 1) + least)) 99999) (σ0 (cu (σ0 29 y7)) 1 - gap)))) (ls' := fun v8 => [(0, .ref 0), (1, .int (iI least)), (2, .int (iI gap)), (3, .int (iI (yDf σ0 σ N))), (4, .int (iI j)), (5, .ref (cu n)), (6, .int (iI v8)), (7, .int (iI y7))]) (st' := fun _ => []) (G' := fun _ => Wd σ X) (fun v8 hz9 => ?_) (fun j10 => ?_)
      · have hvb : -100 ≤ v8 ∧ v8 ≤ 99999 := by
          rcases hz9 with q | ⟨q, q2⟩
          · omega
          · obtain ⟨hz1, hz2, hz3⟩ := hb.2 q
            have hsz := hse (σ0 29 y7) (by have := ho.1 _ hz1.1 hz1.2; omega) (by have := ho.1 _ hz1.1 hz1.2; omega)
            omega
        refine xw_iload_n 3 dX11_stretch_122 rfl ?_
        refine xw_aload 5 dX11_stretch_123 rfl ?_
        refine xw_aload 5 dX11_stretch_125 rfl ?_
        refine yz_geti (z := 1) (v := σ (cu n) 1) (fo_X11_221 rfl) dX11_stretch_127 (is_cu hn) rfl rfl rfl ?_
        refine xw_iload 6 dX11_stretch_130 rfl ?_
        refine xw_aload 5 dX11_stretch_132 rfl ?_
        refine yz_geti (z := 1) (v := σ (cu n) 1) (fo_X11_221 rfl) dX11_stretch_134 (is_cu hn) rfl rfl rfl ?_
        refine xz_iconst dX11_stretch_137 ?_
        refine xz_iadd dX11_stretch_138 ?_
        refine xz_mmax dX11_stretch_139 w_578 (Nat.le_of_ble_eq_true rfl) (Nat.zero_le _) (Nat.zero_le _) (by omega) (by omega) ?_
        have hva11 : -2147483648 ≤ (σ (cu n) 1) ∧ (σ (cu n) 1) < 2147483648 := by omega
        have hvb11 : -2147483648 ≤ (max v8 ((σ (cu n) 1) + 1)) ∧ (max v8 ((σ (cu n) 1) + 1)) < 2147483648 := by omega
        refine yc_VE (M' := mX3_moveTo) (d := 0) (c := 0) (s := 0) (As := [.int (iI (σ (cu n) 1)), .int (iI (max v8 ((σ (cu n) 1) + 1)))]) (st := [.int (iI (yDf σ0 σ N))]) dX11_stretch_142 okX3_moveTo (Or.inl w_884) (xBig_i (is_cu hn).1) (Wd_get (is_cu hn)) ⟨by decide, rfl⟩ rfl (Nat.le_of_ble_eq_true rfl) (by decide) (by decide) (Nat.zero_le _) (Nat.zero_le _) (s_X3_moveTo hL hr hn hva11 hvb11) (fun v9 G9 h9 => ?_) (fun E9 G9 h9 => ?_)
        · obtain ⟨z11, e9, hz11, e8⟩ := h9
          cases e9
          subst e8
          obtain ⟨σ11, em11⟩ : ∃ q, q = yup (yup σ (cu n) 1 (σ (cu n) 1)) (cu n) 2 (max v8 ((σ (cu n) 1) + 1)) := ⟨_, rfl⟩
          rw [← em11]
          have hr11 : yRg σ11 := by rw [em11]; exact yRg_up (yRg_up hr hva11) hvb11
          have hf11 : yF2 n σ σ11 := fun x y q => by rw [em11, yup_n (fun z => q ⟨z.1, Or.inr z.2⟩), yup_n (fun z => q ⟨z.1, Or.inl z.2⟩)]
          have h111 : σ11 (cu n) 1 = σ (cu n) 1 := by rw [em11, yup_k (by decide), yup_s]
          have h211 : σ11 (cu n) 2 = max v8 ((σ (cu n) 1) + 1) := by rw [em11, yup_s]
          refine xz_iadd dX11_stretch_145 ?_
          refine xw_istore_n (l2 := [(0, .ref 0), (1, .int (iI least)), (2, .int (iI gap)), (3, .int (iI ((yDf σ0 σ N) + z11))), (4, .int (iI j)), (5, .ref (cu n)), (6, .int (iI v8)), (7, .int (iI y7))]) dX11_stretch_146 (by decide) rfl rfl ?_
          refine xz_iinc (l2 := [(0, .ref 0), (1, .int (iI least)), (2, .int (iI gap)), (3, .int (iI ((yDf σ0 σ N) + z11))), (4, .int (iI (j + 1))), (5, .ref (cu n)), (6, .int (iI v8)), (7, .int (iI y7))]) 4 dX11_stretch_147 rfl (by decide) rfl rfl ?_
          refine xw_goto (tgt := 38) dX11_stretch_150 (by decide) ?_
          refine xw_loc [(0, .ref 0), (1, .int (iI least)), (2, .int (iI gap)), (3, .int (iI ((yDf σ0 σ N) + z11))), (4, .int (iI (j + 1)))] (fun q9 hq9 => List.mem_append_left ([(5, .ref (cu n)), (6, .int (iI v8)), (7, .int (iI y7))] : List (Nat × Value)) hq9) ?_
          have h10 : σ11 (cu n) 1 = σ (cu n) 1 := h111
          have hX2 : ∀ x y, ¬ (x = cu n ∧ y = 2) → σ11 x y = σ x y := fun x y q => by
            by_cases e : x = cu n ∧ y = 1
            · rw [e.1, e.2]; exact h10
            · exact hf11 x y (fun w => by rcases w.2 with a | a; exact e ⟨w.1, a⟩; exact q ⟨w.1, a⟩)
          have hD := yDf_one (σ0 := σ0) (N := N) hf11 hnN
          have hT0 : yTd σ0 σ n = 0 := by unfold yTd; rw [hj1, hj2, yne_0 rfl, yne_0 rfl]; rfl
          have hT1 : yTd σ0 σ11 n = z11 := by
            unfold yTd
            rw [h111, h211, ← hj1, ← hj2]
            rcases hz11 with q | q | q | q <;> (unfold yne; split <;> split <;> omega)
          rw [show (yDf σ0 σ N) + z11 = yDf σ0 σ11 N by omega]
          have hinj : ∀ p, 0 ≤ p → p < N → σ0 29 p = n → p = j := fun p a b c => by
            by_cases e1 : p < j
            · have := ho.2.1 p j a e1 (by omega); rw [c, en2] at this; omega
            · by_cases e2 : j < p
              · have := ho.2.1 j p h0 e2 b; rw [c, en2] at this; omega
              · omega
          exact l_stretch hL hr11 hN hl hg ho ((hX2 _ _ (by unfold cu; omega)).trans hcn) (fun q => (hX2 _ _ (by unfold cu; omega)).trans (e29 q)) hse (j + 1) (by omega) (by omega) (fun p a b => by
            by_cases e : p = j
            · subst e
              rw [en2, h211]
              rcases hz9 with ⟨q1, q2⟩ | ⟨q1, q2⟩
              · exact Or.inl ⟨hb.1 q1, by show _ = max (min (max (σ0 (cu n) 2) (σ0 (cu n) 1 + least)) 99999) (σ0 (cu n) 1 + 1); rw [← hj1, ← hj2]; omega⟩
              · obtain ⟨hz1, hz2, hz3⟩ := hb.2 q1
                exact Or.inr ⟨σ0 29 y7, ho.1 _ hz1.1 hz1.2, hz2, hz3, by show _ = max (min (min (max (σ0 (cu n) 2) (σ0 (cu n) 1 + least)) 99999) (σ0 (cu (σ0 29 y7)) 1 - gap)) (σ0 (cu n) 1 + 1); rw [← hj1, ← hj2]; omega⟩
            · rw [hX2 _ _ (fun w => e (hinj p a (by omega) ((cu_inj (ho.1 p a (by omega)).1 hn.1).mp w.1)))]; exact hnew p a (by omega)) (fun p a b => by
            rw [hX2 _ _ (fun w => by have := hinj p (by omega) b ((cu_inj (ho.1 p (by omega) b).1 hn.1).mp w.1); omega)]; exact hold p (by omega) b) (fun x y q => by rw [hX2 x y (fun w => q ⟨by rw [w.1]; unfold cu; omega, by rw [w.1]; unfold cu; omega, by rw [w.1]; unfold cu; omega, w.2⟩)]; exact hfr x y q) hK
        · obtain ⟨_, e9, _⟩ := h9
          cases e9
      · refine xz_icmp_eq (tgt := 122) dX11_stretch_98 (by decide) (by omega) (by omega) (fun c12 => ?_) (fun c12 => ?_)
        · exact j10 _ (by omega)
        · obtain ⟨hz1, hz2, hz3⟩ := hb.2 c12
          have hsz := hse (σ0 29 y7) (by have := ho.1 _ hz1.1 hz1.2; omega) (by have := ho.1 _ hz1.1 hz1.2; omega)
          refine xw_iload 6 dX11_stretch_101 rfl ?_
          refine xw_aload_n 0 dX11_stretch_103 rfl ?_
          refine yz_getr (fo_X11_29 rfl) dX11_stretch_104 is_0 rfl ?_
          refine xw_iload 7 dX11_stretch_107 rfl ?_
          have r13 := hr 29 y7
          have ho14 : 0 ≤ σ 29 y7 ∧ σ 29 y7 < 24 := by rw [e29]; have := ho.1 (y7) (by omega) (by omega); omega
          refine yc_V (M' := mX10_cueIn) (d := 1) (c := 0) (s := 0) (As := [.int (iI y7)]) (st := [.int (iI (min (max (σ (cu n) 2) ((σ (cu n) 1) + least)) 99999))]) (v0 := some (.ref (cu (σ 29 y7)))) (G2 := Wd σ X) dX11_stretch_109 okX10_cueIn (Or.inl w_708) (xBig_i is_20.1) (Wd_get is_20) ⟨by decide, rfl⟩ rfl (Nat.le_of_ble_eq_true rfl) (by decide) (by decide) (Nat.zero_le _) (Nat.zero_le _) rfl rfl (s_cueIn hL hr (by omega) ho14) ?_
          have e15 : σ (cu (σ 29 y7)) 1 = σ0 (cu (σ0 29 y7)) 1 := by rw [e29]; exact hfr _ _ (by omega)
          refine yz_geti (z := 1) (v := σ0 (cu (σ0 29 y7)) 1) (fo_X11_221 rfl) dX11_stretch_112 (is_cu (by have := ho.1 _ hz1.1 hz1.2; rw [e29]; omega)) rfl rfl e15 ?_
          refine xw_iload_n 2 dX11_stretch_115 rfl ?_
          refine xz_isub dX11_stretch_116 ?_
          refine xz_mmin dX11_stretch_117 w_892 (Nat.le_of_ble_eq_true rfl) (Nat.zero_le _) (Nat.zero_le _) (by omega) (by omega) ?_
          refine xw_istore (l2 := [(0, .ref 0), (1, .int (iI least)), (2, .int (iI gap)), (3, .int (iI (yDf σ0 σ N))), (4, .int (iI j)), (5, .ref (cu n)), (6, .int (iI (min (min (max (σ (cu n) 2) ((σ (cu n) 1) + least)) 99999) ((σ0 (cu (σ0 29 y7)) 1) - gap)))), (7, .int (iI y7))]) dX11_stretch_120 (by decide) rfl rfl ?_
          exact j10 _ (by omega)
    · obtain ⟨_, e9, _⟩ := h9
      cases e9
termination_by (N - j).toNat
theorem s_stretch (hL : L.stackTraces = false) {N least gap : Int} (hr : yRg σ) (hN : 0 ≤ N ∧ N ≤ 24) (ht : yTh σ N) (hcs : yCst σ) (hcu : yCus σ N) (h6 : σ 0 6 = 0 ∨ (σ 0 6 = 1 ∧ yArd σ N)) (hl : 1 ≤ least ∧ least ≤ 999) (hgp : 0 ≤ gap ∧ gap ≤ 99) (hse : ∀ k, 0 ≤ k → k < N → 0 ≤ σ (cu k) 1 ∧ σ (cu k) 1 < σ (cu k) 2 ∧ σ (cu k) 2 ≤ 99999) : xMet L O mX11_stretch (xR 6 0 0) [.ref 0, .int (iI least), .int (iI gap)] (Wd σ X) (fun o G1 => ∃ σ' : ySg, o = .inl (some (.int (iI (yDf σ σ' N)))) ∧ yRg σ' ∧ (∀ k, 0 ≤ k → k < N → yStR (fun k => σ (cu k) 1) (fun k => σ (cu k) 3) N least gap k (σ (cu k) 2) (σ' (cu k) 2)) ∧ (∀ x y, ¬ yScA x y → ¬ (x = 0 ∧ y = 6) → ¬ (32 ≤ x ∧ x < 128 ∧ x % 4 = 0 ∧ y = 2) → σ' x y = σ x y) ∧ G1 = Wd (yup σ' 0 6 0) X) := xMet_of (by decide) hL (Nat.le_of_ble_eq_true rfl) (by
  refine xw_eq rfl (l2 := [(0, .ref 0), (1, .int (iI least)), (2, .int (iI gap))]) rfl rfl rfl ?_
  refine xw_iload_n 1 dX11_stretch_0 rfl ?_
  refine xz_iconst dX11_stretch_1 ?_
  refine xz_sipush dX11_stretch_2 (by decide) ?_
  refine yc_S (M' := mX11_isIn) (d := 0) (c := 0) (s := 0) (As := [.int (iI least), .int (iI 1), .int (iI 999)]) (st := []) (v0 := some (.int (iI 1))) (G2 := Wd σ X) dX11_stretch_5 okX11_isIn (Or.inl w_729) rfl (Nat.le_of_ble_eq_true rfl) (by decide) (by decide) (Nat.zero_le _) (Nat.zero_le _) rfl rfl (s_isIn1 hL (by omega) (by decide) (by decide) (by omega)) ?_
  refine xz_if_eq (tgt := 25) dX11_stretch_8 (by decide) (by omega) (fun c1 => ?_) (fun c1 => ?_)
  · exact absurd c1 (by omega)
  · refine xw_iload_n 2 dX11_stretch_11 rfl ?_
    refine xz_iconst dX11_stretch_12 ?_
    refine xz_bipush dX11_stretch_13 (by decide) ?_
    refine yc_S (M' := mX11_isIn) (d := 0) (c := 0) (s := 0) (As := [.int (iI gap), .int (iI 0), .int (iI 99)]) (st := []) (v0 := some (.int (iI 1))) (G2 := Wd σ X) dX11_stretch_15 okX11_isIn (Or.inl w_729) rfl (Nat.le_of_ble_eq_true rfl) (by decide) (by decide) (Nat.zero_le _) (Nat.zero_le _) rfl rfl (s_isIn1 hL (by omega) (by decide) (by decide) (by omega)) ?_
    refine xz_if_eq (tgt := 25) dX11_stretch_18 (by decide) (by omega) (fun c2 => ?_) (fun c2 => ?_)
    · exact absurd c2 (by omega)
    · refine xz_iconst dX11_stretch_21 ?_
      refine xw_goto (tgt := 26) dX11_stretch_22 (by decide) ?_
      refine yc_S (M' := mX11_needArgument) (d := 0) (c := 0) (s := 0) (As := [.int (iI 1)]) (st := []) (v0 := none) (G2 := Wd σ X) dX11_stretch_26 okX11_needArgument (Or.inl w_749) rfl (Nat.le_of_ble_eq_true rfl) (by decide) (by decide) (Nat.zero_le _) (Nat.zero_le _) rfl rfl (s_needArg1 hL) ?_
      refine xw_aload_n 0 dX11_stretch_29 rfl ?_
      refine yc_VE (M' := mX11_arrange) (d := 5) (c := 0) (s := 0) (As := []) (st := []) dX11_stretch_30 okX11_arrange (Or.inl w_406) (xBig_i is_0.1) (Wd_get is_0) ⟨by decide, rfl⟩ rfl (Nat.le_of_ble_eq_true rfl) (by decide) (by decide) (Nat.zero_le _) (Nat.zero_le _) (s_arrange hL hr hN ht hcs hcu h6) (fun v9 G9 h9 => ?_) (fun E9 G9 h9 => ?_)
      · obtain ⟨σ3, e9, hr3, h63, ha3, hg3, hs3, e8⟩ := h9
        cases e9
        subst e8
        refine xz_iconst dX11_stretch_33 ?_
        refine xw_istore_n (l2 := [(0, .ref 0), (1, .int (iI least)), (2, .int (iI gap)), (3, .int (iI 0))]) dX11_stretch_34 (by decide) rfl rfl ?_
        refine xz_iconst dX11_stretch_35 ?_
        refine xw_istore (l2 := [(0, .ref 0), (1, .int (iI least)), (2, .int (iI gap)), (3, .int (iI 0)), (4, .int (iI 0))]) dX11_stretch_36 (by decide) rfl rfl ?_
        have ec : ∀ (k b : Int), b < 8 → σ3 (cu k) b = σ (cu k) b := fun k b q => hg3 _ _ (by unfold yScA cu; omega) (by unfold cu; omega)
        refine xw_eq rfl (l2 := [(0, .ref 0), (1, .int (iI least)), (2, .int (iI gap)), (3, .int (iI (yDf σ3 σ3 N))), (4, .int (iI 0))]) (by rw [yDf_0]) rfl rfl ?_
        refine l_stretch hL hr3 hN hl hgp ha3.2.1 ha3.1 (fun p => rfl) (fun k a b => by rw [ec _ _ (by omega), ec _ _ (by omega)]; exact hse k a b) 0 (by omega) (by omega) (fun p a b => absurd b (by omega)) (fun p a b => rfl) (fun x y q => rfl) (fun σ' b1 b2 b3 => ⟨σ', ?_, b1, fun k a b => ?_, fun x y q1 q2 q3 => (b3 x y q3).trans (hg3 x y q1 q2), rfl⟩)
        · have e : yDf σ3 σ' N = yDf σ σ' N := by
            unfold yDf
            refine yPs_cong _ (fun k a b => ?_)
            unfold yTd
            rw [ec _ _ (by omega), ec _ _ (by omega)]
          rw [e]
        · obtain ⟨p, p1, p2, p3⟩ := ha3.2.1.2.2 k a b
          have q := b2 p p1 p2
          rw [p3, ec _ _ (by omega), show (fun k => σ3 (cu k) 1) = (fun k => σ (cu k) 1) from funext fun k => ec _ _ (by omega), show (fun k => σ3 (cu k) 3) = (fun k => σ (cu k) 3) from funext fun k => ec _ _ (by omega)] at q
          exact q
      · obtain ⟨_, e9, _⟩ := h9
        cases e9)
end Y31

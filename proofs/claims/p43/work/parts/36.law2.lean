/-- the law's own arrays: where they lie, what they hold; no two are one -/
def yHs (A : List (Nat × List Value)) (X : List xOb) : Prop := (∀ (i v : Nat) (L : List Value), A[i]? = some (v, L) → 193 ≤ v ∧ X[v - 193]? = some (64, L)) ∧ ∀ (i j v w : Nat) (L M : List Value), i ≠ j → A[i]? = some (v, L) → A[j]? = some (w, M) → v ≠ w
theorem yHs_nil (X : List xOb) : yHs [] X := ⟨fun i v L h => by simp at h, fun i j v w L M _ h => by simp at h⟩
theorem yHs.app {A : List (Nat × List Value)} {X Y : List xOb} (h : yHs A X) : yHs A (X ++ Y) := ⟨fun i v L q => ⟨(h.1 i v L q).1, app_get (h.1 i v L q).2⟩, h.2⟩
theorem yHs.new {A : List (Nat × List Value)} {X Y : List xOb} {L : List Value} (h : yHs A X) : yHs ((193 + X.length, L) :: A) (X ++ (64, L) :: Y) := by
  have lt : ∀ (i v : Nat) (M : List Value), A[i]? = some (v, M) → v < 193 + X.length := fun i v M q => by
    have := h.1 i v M q
    have h2 := (List.getElem?_eq_some_iff.mp this.2).1
    omega
  have sp : ∀ (i v : Nat) (M : List Value), ((193 + X.length, L) :: A)[i]? = some (v, M) → (∃ j, i = j + 1 ∧ A[j]? = some (v, M)) ∨ (i = 0 ∧ v = 193 + X.length ∧ M = L) := fun i v M q => by
    cases i with
    | zero => cases q; exact Or.inr ⟨rfl, rfl, rfl⟩
    | succ j => exact Or.inl ⟨j, rfl, q⟩
  refine ⟨fun i v M q => ?_, fun i j v w M N hij q1 q2 => ?_⟩
  · rcases sp i v M q with ⟨j, rfl, q⟩ | ⟨_, rfl, rfl⟩
    · exact ⟨(h.1 j v M q).1, app_get (h.1 j v M q).2⟩
    · refine ⟨by omega, ?_⟩
      rw [show 193 + X.length - 193 = X.length by omega, List.getElem?_append_right (Nat.le_refl _), Nat.sub_self]
      rfl
  · rcases sp i v M q1 with ⟨a, rfl, q1⟩ | ⟨e1, rfl, rfl⟩ <;> rcases sp j w N q2 with ⟨b, rfl, q2⟩ | ⟨e2, rfl, rfl⟩
    · exact h.2 a b v w M N (by omega) q1 q2
    · have := lt a v M q1; omega
    · have := lt b w N q2; omega
    · omega
theorem yHs.tail {q : Nat × List Value} {A : List (Nat × List Value)} {X : List xOb} (h : yHs (q :: A) X) : yHs A X := ⟨fun i v L e => h.1 (i + 1) v L e, fun i j v w L M hij e1 e2 => h.2 (i + 1) (j + 1) v w L M (by omega) e1 e2⟩
theorem yHs.set {A : List (Nat × List Value)} {X : List xOb} {k v : Nat} {L L2 : List Value} (h : yHs A X) (hk : A[k]? = some (v, L)) : yHs (A.set k (v, L2)) (X.set (v - 193) (64, L2)) := by
  have hlt := (List.getElem?_eq_some_iff.mp hk).1
  have hv := h.1 k v L hk
  have hx := (List.getElem?_eq_some_iff.mp hv.2).1
  have sp : ∀ (i w : Nat) (M : List Value), (A.set k (v, L2))[i]? = some (w, M) → (i ≠ k ∧ A[i]? = some (w, M)) ∨ (i = k ∧ w = v ∧ M = L2) := fun i w M q => by
    by_cases c : i = k
    · subst c; rw [List.getElem?_set_self hlt] at q; cases q; exact Or.inr ⟨rfl, rfl, rfl⟩
    · rw [List.getElem?_set_ne (Ne.symm c)] at q; exact Or.inl ⟨c, q⟩
  refine ⟨fun i w M q => ?_, fun i j w u M N hij q1 q2 => ?_⟩
  · rcases sp i w M q with ⟨c, q⟩ | ⟨_, rfl, rfl⟩
    · have h1 := h.1 i w M q
      have h2 := h.2 i k w v M L c q hk
      exact ⟨h1.1, by rw [List.getElem?_set_ne (by omega)]; exact h1.2⟩
    · exact ⟨hv.1, List.getElem?_set_self hx⟩
  · rcases sp i w M q1 with ⟨c1, p1⟩ | ⟨e1, f1, g1⟩ <;> rcases sp j u N q2 with ⟨c2, p2⟩ | ⟨e2, f2, g2⟩
    · exact h.2 i j w u M N hij p1 p2
    · rw [f2]; exact h.2 i k w v M L c1 p1 hk
    · rw [f1]; exact (h.2 j k u v N L c2 p2 hk).symm
    · omega
theorem yHs.sub {A B : List (Nat × List Value)} {X : List xOb} (h : yHs A X) (is : List Nat) (hB : B.map some = is.map (fun i => A[i]?)) (hn : is.Nodup) : yHs B X := by
  have at_ : ∀ (i v : Nat) (L : List Value), B[i]? = some (v, L) → ∃ j, is[i]? = some j ∧ A[j]? = some (v, L) := fun i v L q => by
    have h1 : (B.map some)[i]? = some (some (v, L)) := by rw [List.getElem?_map, q]; rfl
    rw [hB, List.getElem?_map] at h1
    cases hj : is[i]? with
    | none => rw [hj] at h1; cases h1
    | some j => rw [hj] at h1; exact ⟨j, rfl, by simpa using h1⟩
  refine ⟨fun i v L q => ?_, fun i j v w L M hij q1 q2 => ?_⟩
  · obtain ⟨j, _, h2⟩ := at_ i v L q
    exact h.1 j v L h2
  · obtain ⟨a, a1, a2⟩ := at_ i v L q1
    obtain ⟨b, b1, b2⟩ := at_ j w M q2
    refine h.2 a b v w L M (fun e => ?_) a2 b2
    subst e
    obtain ⟨hi, e1⟩ := List.getElem?_eq_some_iff.mp a1
    obtain ⟨hj, e2⟩ := List.getElem?_eq_some_iff.mp b1
    exact hij ((List.getElem_inj hn).mp (e1.trans e2.symm))
section YH
variable {L9 : Launch} {O : xWd} {M : xMd} {K : xOc → List xOb → Prop} {R : Room} {pc cs ns h c0 s0 : Nat} {ls : List (Nat × Value)} {st : List Value} {σ : ySg} {X : List xOb} {A : List (Nat × List Value)}
theorem yh_lt {v : Nat} {L : List Value} {k : Nat} (hA : yHs A X) (hk : A[k]? = some (v, L)) (hb : (Wd σ X).length < xBig) : v < xBig ∧ (Wd σ X)[v]? = some (64, L) := by
  have h1 := hA.1 k v L hk
  have h2 := (List.getElem?_eq_some_iff.mp h1.2).1
  rw [Wd_len] at hb
  exact ⟨by omega, (Wd_getX h1.1).trans h1.2⟩
theorem yh_ald (k j : Nat) {v : Nat} {L : List Value} {z zi : Int} (hA : yHs A X) (hk : A[k]? = some (v, L)) (hd : decode M.2.1 pc = .ok (.iaload, 1)) (hz : zi = (j : Int)) (hv : L[j]? = some (.int (iI z))) (hl : L.length ≤ 1000) (kk : xWP L9 O M R K (pc + 1) ls (.int (iI z) :: st) (Wd σ X) cs ns) : xWP L9 O M R K pc ls (.int (iI zi) :: .ref v :: st) (Wd σ X) cs ns := by
  subst hz
  refine xw_big fun hb => ?_
  obtain ⟨h1, h2⟩ := yh_lt hA hk hb
  exact xw_iald (j := j) h1 hd rfl h2 (iI_n j) (by omega) hv kk
theorem yh_aldF (k : Nat) {v n : Nat} {f : Int → Int} {z : Int} (hA : yHs A X) (hk : A[k]? = some (v, iaL n f)) (hd : decode M.2.1 pc = .ok (.iaload, 1)) (hz : 0 ≤ z ∧ z < n) (hn : n ≤ 1000) (kk : xWP L9 O M R K (pc + 1) ls (.int (iI (f z)) :: st) (Wd σ X) cs ns) : xWP L9 O M R K pc ls (.int (iI z) :: .ref v :: st) (Wd σ X) cs ns := by
  refine xw_big fun hb => ?_
  obtain ⟨h1, h2⟩ := yh_lt hA hk hb
  exact xz_iald h1 hd h2 hz (by omega) kk
theorem yh_astF (k : Nat) {v n : Nat} {f : Int → Int} {z x : Int} (hA : yHs A X) (hk : A[k]? = some (v, iaL n f)) (hd : decode M.2.1 pc = .ok (.iastore, 1)) (hz : 0 ≤ z ∧ z < n) (hn : n ≤ 1000) {A2 : List (Nat × List Value)} (hA2 : A.set k (v, iaL n (fup f z x)) = A2) {m : Nat} (hm : X.length ≤ m)
    (kk : ∀ X : List xOb, yHs A2 X → X.length ≤ m → xWP L9 O M R K (pc + 1) ls st (Wd σ X) cs ns) : xWP L9 O M R K pc ls (.int (iI x) :: .int (iI z) :: .ref v :: st) (Wd σ X) cs ns := by
  subst hA2
  refine xw_big fun hb => ?_
  obtain ⟨h1, h2⟩ := yh_lt hA hk hb
  refine xw_iast (j := z.toNat) h1 hd rfl h2 (iI_nI hz.1) (by rw [iaL_len]; omega) (by rw [iaL_len]; omega) ?_
  rw [iaL_set hz, Wd_setX (hA.1 k v _ hk).1]
  exact kk _ (hA.set hk) (by rw [List.length_set]; exact hm)
/-- a row of arguments is begun -/
theorem yv_new {N : Nat} {z : Int} {L : List Value} {m : Nat} (hm : X.length ≤ m) (hm2 : m ≤ 900000) (hd : decode M.2.1 pc = .ok (.newarray .int, 2)) (hz : z = (N : Int)) (hN : N ≤ 1000) (hL : List.replicate N (Value.int (iI 0)) = L) (hcs : cs + 1 ≤ c0) (hns : ns + N ≤ s0) (kk : xWP L9 O M (xR h c0 s0) K (pc + 2) ls (.ref (193 + X.length) :: st) (Wd σ (X ++ [(64, L)])) (cs + 1) (ns + N)) : xWP L9 O M (xR h c0 s0) K pc ls (.int (iI z) :: st) (Wd σ X) cs ns := by
  subst hL; subst hz
  refine xw_newa (t := 0) (d := .int (iI 0)) (N := N) hd (by decide) rfl w_94 (iI_n N) (by omega) rfl (by decide) (by rw [Wd_len]; exact Nat.lt_trans (show 193 + X.length + 1 < 1000000 by omega) (by decide)) hcs hns ?_
  rw [Wd_len, Wd_app]
  exact kk
theorem yv_put {k : Nat} {z x : Int} {L L2 : List Value} (hd : decode M.2.1 pc = .ok (.iastore, 1)) (hz : z = (k : Int)) (hk : k < L.length) (hl : L.length ≤ 1000) (h2 : L.set k (.int (iI x)) = L2) (kk : xWP L9 O M R K (pc + 1) ls st (Wd σ (X ++ [(64, L2)])) cs ns) : xWP L9 O M R K pc ls (.int (iI x) :: .int (iI z) :: .ref (193 + X.length) :: st) (Wd σ (X ++ [(64, L)])) cs ns := by
  subst h2; subst hz
  refine xw_big fun hb => ?_
  rw [Wd_len, List.length_append] at hb
  have hb2 : 193 + (X.length + 1) < xBig := hb
  have hg : (Wd σ (X ++ [(64, L)]))[193 + X.length]? = some (64, L) := by
    rw [Wd_getX (by omega), show 193 + X.length - 193 = X.length by omega, List.getElem?_append_right (Nat.le_refl _), Nat.sub_self]; rfl
  refine xw_iast (j := k) (by omega) hd rfl hg (iI_n k) hk (by omega) ?_
  rw [Wd_setX (by omega), show 193 + X.length - 193 = X.length by omega, List.set_append_right _ _ (Nat.le_refl _), Nat.sub_self]
  exact kk
theorem yv_last {L : List Value} : (X ++ [(64, L)])[193 + X.length - 193]? = some (64, L) := by
  rw [show 193 + X.length - 193 = X.length by omega, List.getElem?_append_right (Nat.le_refl _), Nat.sub_self]; rfl
theorem yv_len {o : xOb} {m : Nat} (hm : X.length ≤ m) (hm2 : m ≤ 900000) : (X ++ [o]).length ≤ 1000000 := by rw [List.length_append]; show _ + 1 ≤ _; omega
/-- what came to the world is named no more -/
theorem yl_g {Xn Y : List xOb} {m m2 : Nat} (hA : yHs A X) (hm : X.length ≤ m) (e : X ++ Y = Xn) (hm2 : m + Y.length ≤ m2) (k : ∀ X : List xOb, yHs A X → X.length ≤ m2 → xWP L9 O M R K pc ls st (Wd σ X) cs ns) : xWP L9 O M R K pc ls st (Wd σ Xn) cs ns := by
  subst e
  exact k _ hA.app (by rw [List.length_append]; omega)
/-- a row of arguments is kept -/
theorem yl_k {L : List Value} {m m2 : Nat} {ls' : Nat → List (Nat × Value)} {st' : Nat → List Value} (hA : yHs A X) (hm : X.length ≤ m) (hm2 : m + 1 ≤ m2) (k : ∀ (X : List xOb) (v : Nat), yHs ((v, L) :: A) X → X.length ≤ m2 → xWP L9 O M R K pc (ls' v) (st' v) (Wd σ X) cs ns) : xWP L9 O M R K pc (ls' (193 + X.length)) (st' (193 + X.length)) (Wd σ (X ++ [(64, L)])) cs ns :=
  k _ _ (hA.new (Y := [])) (by rw [List.length_append]; show _ + 1 ≤ _; omega)
theorem yh_new {N : Nat} {z : Int} {m m2 : Nat} (hA : yHs A X) (hm : X.length ≤ m) (hm2 : m + 1 ≤ m2) (hm3 : m2 ≤ 900000) (hd : decode M.2.1 pc = .ok (.newarray .int, 2)) (hz : z = (N : Int)) (hN : N ≤ 1000) (hcs : cs + 1 ≤ c0) (hns : ns + N ≤ s0) (kk : ∀ (X : List xOb) (v : Nat), yHs ((v, iaL N (fun _ => 0)) :: A) X → X.length ≤ m2 → xWP L9 O M (xR h c0 s0) K (pc + 2) ls (.ref v :: st) (Wd σ X) (cs + 1) (ns + N)) : xWP L9 O M (xR h c0 s0) K pc ls (.int (iI z) :: st) (Wd σ X) cs ns := by
  refine yv_new hm (by omega) hd hz hN rfl hcs hns ?_
  rw [iaL_new]
  exact yl_k (ls' := fun _ => ls) (st' := fun v => .ref v :: st) hA hm hm2 kk
end YH
section Y36
variable {L : Launch} {O : xWd} {K : xOc → List xOb → Prop} {σ : ySg} {X : List xOb} {G : List xOb}
theorem iI_tmod (x : Int32) {n : Int} (hn : 0 < n ∧ n < 2147483648) : x - x / iI n * iI n = iI (x.toInt.tmod n) := by
  have h1 : x / iI n = iI (x.toInt.tdiv n) := by
    have hx := iI_bd x
    have h2 := Int.natAbs_tdiv_le_natAbs x.toInt n
    have h3 : x.toInt.tdiv n ≠ 2147483648 := fun e => by
      by_cases c : 0 ≤ x.toInt
      · rw [e] at h2; omega
      · have h4 := Int.tdiv_mul_add_tmod x.toInt n
        have h5 := Int.tmod_lt_of_pos x.toInt hn.1
        have h6 := Int.lt_tmod_of_pos x.toInt hn.1
        rw [e] at h4
        have : 2147483648 * 1 ≤ 2147483648 * n := by omega
        omega
    rw [← Int32.toInt_inj, Int32.toInt_div, iI_toInt ⟨by omega, hn.2⟩, iI_toInt ⟨by omega, by omega⟩]
    exact Int.bmod_eq_of_le (by omega) (by omega)
  have h2 : x - iI (x.toInt.tdiv n) * iI n = iI x.toInt - iI (x.toInt.tdiv n) * iI n := congrArg (fun y => y - iI (x.toInt.tdiv n) * iI n) (iI_of x)
  rw [h1, h2, iI_mul, iI_sub]
  congr 1
  have := Int.tdiv_mul_add_tmod x.toInt n
  omega
theorem s_at (hL : L.stackTraces = false) {k : Int} (hb : O.2.2.2.2.1 < 2147483648) (hk : 0 ≤ k ∧ k < 2147483648) : xMet L O mL_at (xR 0 0 0) [.ref xBig, .int (iI k)] G (fun o G1 => ∃ x : Int32, o = .inl (some (.int x)) ∧ G1 = G) := xMet_of (by decide) hL (Nat.le_of_ble_eq_true rfl) (by
  refine xw_eq rfl (l2 := [(0, .ref xBig), (1, .int (iI k))]) rfl rfl rfl ?_
  refine xw_iload_n 1 dL_at_0 rfl ?_
  refine xw_aload_n 0 dL_at_1 rfl ?_
  refine xw_slen dL_at_2 (n := iI (O.2.2.2.2.1 : Int)) (iI_n _) ?_
  refine xz_icmp_ge (tgt := 12) dL_at_3 (by decide) (by omega) (by omega) (fun c1 => ?_) (fun c1 => ?_)
  · refine xz_iconst dL_at_12 ?_
    exact xz_iret dL_at_13 rfl (Nat.zero_le _) (Nat.zero_le _) ⟨_, rfl, rfl⟩
  · refine xw_aload_n 0 dL_at_6 rfl ?_
    refine xw_iload_n 1 dL_at_7 rfl ?_
    refine xw_sld (j := k.toNat) dL_at_8 (iI_nI hk.1) (by omega) hb ?_
    refine xw_goto (tgt := 13) dL_at_9 (by decide) ?_
    exact xw_iret dL_at_13 rfl rfl (Nat.zero_le _) (Nat.zero_le _) ⟨_, rfl, rfl⟩)
theorem s_some (hL : L.stackTraces = false) {x : Int32} {n : Int} (hn : 1 ≤ n ∧ n < 2147483648) : xMet L O mL_some (xR 0 0 0) [.int x, .int (iI n)] G (fun o G1 => ∃ z : Int, o = .inl (some (.int (iI z))) ∧ (0 ≤ z ∧ z < n) ∧ G1 = G) := xMet_of (by decide) hL (Nat.le_of_ble_eq_true rfl) (by
  have h5 := Int.tmod_lt_of_pos x.toInt (b := n) (by omega)
  have h6 := Int.lt_tmod_of_pos x.toInt (b := n) (by omega)
  refine xw_eq rfl (l2 := [(0, .int x), (1, .int (iI n))]) rfl rfl rfl ?_
  refine xw_iload_n 0 dL_some_0 rfl ?_
  refine xw_iload_n 1 dL_some_1 rfl ?_
  refine xw_irem dL_some_2 (fun q => by have := (iI_eq (a := n) (b := 0) ⟨by omega, by omega⟩ ⟨by omega, by omega⟩).mp q; omega) ?_
  rw [iI_tmod x ⟨by omega, hn.2⟩]
  generalize x.toInt.tmod n = r at h5 h6
  refine xw_istore_n (l2 := [(0, .int x), (1, .int (iI n)), (2, .int (iI r))]) dL_some_3 (by decide) rfl rfl ?_
  refine xw_iload_n 2 dL_some_4 rfl ?_
  refine xz_if_ge (tgt := 14) dL_some_5 (by decide) (by omega) (fun c1 => ?_) (fun c1 => ?_)
  · refine xw_iload_n 2 dL_some_14 rfl ?_
    exact xz_iret dL_some_15 rfl (Nat.zero_le _) (Nat.zero_le _) ⟨_, rfl, by omega, rfl⟩
  · refine xw_iload_n 2 dL_some_8 rfl ?_
    refine xw_iload_n 1 dL_some_9 rfl ?_
    refine xz_iadd dL_some_10 ?_
    refine xw_goto (tgt := 15) dL_some_11 (by decide) ?_
    exact xz_iret dL_some_15 rfl (Nat.zero_le _) (Nat.zero_le _) ⟨_, rfl, by omega, rfl⟩)
/-- what a cut is at v, of those before k -/
def yPk (C : Int → Int) (k v b0 b : Int) : Prop := ((∃ i, 0 ≤ i ∧ i < k ∧ C i = v) ∧ b = v) ∨ ((∀ i, 0 ≤ i → i < k → ¬ C i = v) ∧ b = b0)
theorem yPk_0 {C : Int → Int} {v b0 : Int} : yPk C 0 v b0 b0 := Or.inr ⟨fun i a b => absurd b (by omega), rfl⟩
theorem yPk_s {C : Int → Int} {k v b0 b b1 : Int} (h : yPk C k v b0 b) (hk : 0 ≤ k) (h1 : (C k = v ∧ b1 = v) ∨ (¬ C k = v ∧ b1 = b)) : yPk C (k + 1) v b0 b1 := by
  rcases h1 with ⟨e, rfl⟩ | ⟨e, rfl⟩
  · exact Or.inl ⟨⟨k, hk, by omega, e⟩, rfl⟩
  · rcases h with ⟨⟨i, i1, i2, i3⟩, rfl⟩ | ⟨h, rfl⟩
    · exact Or.inl ⟨⟨i, i1, by omega, i3⟩, rfl⟩
    · refine Or.inr ⟨fun i a b => ?_, rfl⟩
      by_cases c : i = k
      · subst c; exact e
      · exact h i a (by omega)
/-- the nearest cut, but those nearer than j are not looked at -/
def yNe (C : Int → Int) (c f r j b : Int) : Prop := (b = f ∧ ∀ i, 0 ≤ i → i < c → max (C i - f) (-(C i - f)) < j ∨ r < max (C i - f) (-(C i - f))) ∨ ((∃ i, 0 ≤ i ∧ i < c ∧ b = C i) ∧ (j ≤ max (b - f) (-(b - f)) ∧ max (b - f) (-(b - f)) ≤ r) ∧ ∀ i, 0 ≤ i → i < c → max (C i - f) (-(C i - f)) < j ∨ max (b - f) (-(b - f)) < max (C i - f) (-(C i - f)) ∨ (max (b - f) (-(b - f)) = max (C i - f) (-(C i - f)) ∧ b ≤ C i))
theorem yNe_0 {C : Int → Int} {c f r : Int} : yNe C c f r (r + 1) f := Or.inl ⟨rfl, fun i a b => by omega⟩
theorem yNe_s {C : Int → Int} {c f r j b b1 b2 : Int} (h : yNe C c f r (j + 1) b) (hj : 0 ≤ j ∧ j ≤ r) (h1 : yPk C c (f + j) b b1) (h2 : yPk C c (f - j) b1 b2) : yNe C c f r j b2 := by
  rcases h2 with ⟨⟨i, i1, i2, i3⟩, rfl⟩ | ⟨n2, rfl⟩
  · refine Or.inr ⟨⟨i, i1, i2, i3.symm⟩, by omega, fun q a b => by omega⟩
  · rcases h1 with ⟨⟨i, i1, i2, i3⟩, rfl⟩ | ⟨n1, rfl⟩
    · refine Or.inr ⟨⟨i, i1, i2, i3.symm⟩, by omega, fun q a b => ?_⟩
      have := n2 q a b
      omega
    · rcases h with ⟨e, h⟩ | ⟨h3, h4, h5⟩
      · refine Or.inl ⟨e, fun q a b => ?_⟩
        have q1 := n1 q a b
        have q2 := n2 q a b
        have := h q a b
        omega
      · refine Or.inr ⟨h3, by omega, fun q a b => ?_⟩
        have q1 := n1 q a b
        have q2 := n2 q a b
        have := h5 q a b
        omega
theorem yNe_e {C : Int → Int} {c f r b : Int} (h : yNe C c f r 0 b) : ySp C c f r b := by
  rcases h with ⟨e, h⟩ | ⟨h3, h4, h5⟩
  · exact Or.inl ⟨e, fun i a b => by have := h i a b; omega⟩
  · exact Or.inr ⟨h3, h4.2, fun i a b => by have := h5 i a b; omega⟩
theorem ySp_in {C : Int → Int} {c f r z : Int} (h : ySp C c f r z) (hC : ∀ i, 0 ≤ i → i < c → 0 ≤ C i ∧ C i ≤ 99999) (hf : 0 ≤ f ∧ f ≤ 99999) : 0 ≤ z ∧ z ≤ 99999 := ySp_bd h hf hC
theorem l_snA (hL : L.stackTraces = false) {v : Nat} {A : List (Nat × List Value)} {C : Int → Int} {f c r : Int} (hA : yHs A X) (kA : Nat) (hk : A[kA]? = some (v, iaL 20 C)) (hC : ∀ i, 0 ≤ i → i < c → 0 ≤ C i ∧ C i ≤ 99999) (hc : 0 ≤ c ∧ c ≤ 20) (hf : 0 ≤ f ∧ f ≤ 99999) (hr : 0 ≤ r ∧ r ≤ 99) {b0 b j : Int} (hj : 0 ≤ j ∧ j ≤ r) (hb : 0 ≤ b ∧ b ≤ 99999) (k : Int) (hk0 : 0 ≤ k) (hk1 : k ≤ c) (hp : yPk C k (f + j) b0 b) (kx : ∀ b2, yPk C c (f + j) b0 b2 → (0 ≤ b2 ∧ b2 ≤ 99999) → xWP L O mL_snapped (xR 0 0 0) K 48 [(0, .int (iI f)), (1, .ref v), (2, .int (iI c)), (3, .int (iI r)), (4, .int (iI b2)), (5, .int (iI j)), (6, .int (iI c))] [] (Wd σ X) 0 0) : xWP L O mL_snapped (xR 0 0 0) K 14 [(0, .int (iI f)), (1, .ref v), (2, .int (iI c)), (3, .int (iI r)), (4, .int (iI b)), (5, .int (iI j)), (6, .int (iI k))] [] (Wd σ X) 0 0 := by
  refine xw_iload 6 dL_snapped_14 rfl ?_
  refine xw_iload_n 2 dL_snapped_16 rfl ?_
  refine xz_icmp_ge (tgt := 48) dL_snapped_17 (by decide) (by omega) (by omega) (fun c1 => ?_) (fun c1 => ?_)
  · have e : k = c := by omega
    subst e
    exact kx _ hp hb
  · have hCk := hC k hk0 (by omega)
    refine xw_aload_n 1 dL_snapped_20 rfl ?_
    refine xw_iload 6 dL_snapped_21 rfl ?_
    refine yh_aldF kA hA hk dL_snapped_23 (by omega) (by decide) ?_
    refine xw_iload_n 0 dL_snapped_24 rfl ?_
    refine xw_iload 5 dL_snapped_25 rfl ?_
    refine xz_iadd dL_snapped_27 ?_
    refine xw_join (J := 40) (c1 := 0) (n1 := 0) (P := fun z2 => (C k = f + j ∧ z2 = f + j) ∨ (¬ C k = f + j ∧ z2 = b)) (ls' := fun _ => [(0, .int (iI f)), (1, .ref v), (2, .int (iI c)), (3, .int (iI r)), (4, .int (iI b)), (5, .int (iI j)), (6, .int (iI k))]) (st' := fun z2 => [.int (iI z2)]) (G' := fun _ => Wd σ X) (fun z2 hz4 => ?_) (fun j3 => ?_)
    · refine xw_istore (l2 := [(0, .int (iI f)), (1, .ref v), (2, .int (iI c)), (3, .int (iI r)), (4, .int (iI z2)), (5, .int (iI j)), (6, .int (iI k))]) dL_snapped_40 (by decide) rfl rfl ?_
      refine xz_iinc (l2 := [(0, .int (iI f)), (1, .ref v), (2, .int (iI c)), (3, .int (iI r)), (4, .int (iI z2)), (5, .int (iI j)), (6, .int (iI (k + 1)))]) 6 dL_snapped_42 rfl (by decide) rfl rfl ?_
      refine xw_goto (tgt := 14) dL_snapped_45 (by decide) ?_
      exact l_snA hL hA kA hk hC hc hf hr (by omega) (by omega) (k + 1) (by omega) (by omega) (yPk_s hp hk0 hz4) kx
    · refine xz_icmp_ne (tgt := 38) dL_snapped_28 (by decide) (by omega) (by omega) (fun c5 => ?_) (fun c5 => ?_)
      · refine xw_iload 4 dL_snapped_38 rfl ?_
        exact j3 _ (by omega)
      · refine xw_aload_n 1 dL_snapped_31 rfl ?_
        refine xw_iload 6 dL_snapped_32 rfl ?_
        refine yh_aldF kA hA hk dL_snapped_34 (by omega) (by decide) ?_
        refine xw_goto (tgt := 40) dL_snapped_35 (by decide) ?_
        exact j3 _ (by omega)
termination_by (c - k).toNat
theorem l_snB (hL : L.stackTraces = false) {v : Nat} {A : List (Nat × List Value)} {C : Int → Int} {f c r : Int} (hA : yHs A X) (kA : Nat) (hk : A[kA]? = some (v, iaL 20 C)) (hC : ∀ i, 0 ≤ i → i < c → 0 ≤ C i ∧ C i ≤ 99999) (hc : 0 ≤ c ∧ c ≤ 20) (hf : 0 ≤ f ∧ f ≤ 99999) (hr : 0 ≤ r ∧ r ≤ 99) {b0 b j : Int} (hj : 0 ≤ j ∧ j ≤ r) (hb : 0 ≤ b ∧ b ≤ 99999) (k : Int) (hk0 : 0 ≤ k) (hk1 : k ≤ c) (hp : yPk C k (f - j) b0 b) (kx : ∀ b2, yPk C c (f - j) b0 b2 → (0 ≤ b2 ∧ b2 ≤ 99999) → xWP L O mL_snapped (xR 0 0 0) K 85 [(0, .int (iI f)), (1, .ref v), (2, .int (iI c)), (3, .int (iI r)), (4, .int (iI b2)), (5, .int (iI j)), (6, .int (iI c))] [] (Wd σ X) 0 0) : xWP L O mL_snapped (xR 0 0 0) K 51 [(0, .int (iI f)), (1, .ref v), (2, .int (iI c)), (3, .int (iI r)), (4, .int (iI b)), (5, .int (iI j)), (6, .int (iI k))] [] (Wd σ X) 0 0 := by
  refine xw_iload 6 dL_snapped_51 rfl ?_
  refine xw_iload_n 2 dL_snapped_53 rfl ?_
  refine xz_icmp_ge (tgt := 85) dL_snapped_54 (by decide) (by omega) (by omega) (fun c1 => ?_) (fun c1 => ?_)
  · have e : k = c := by omega
    subst e
    exact kx _ hp hb
  · have hCk := hC k hk0 (by omega)
    refine xw_aload_n 1 dL_snapped_57 rfl ?_
    refine xw_iload 6 dL_snapped_58 rfl ?_
    refine yh_aldF kA hA hk dL_snapped_60 (by omega) (by decide) ?_
    refine xw_iload_n 0 dL_snapped_61 rfl ?_
    refine xw_iload 5 dL_snapped_62 rfl ?_
    refine xz_isub dL_snapped_64 ?_
    refine xw_join (J := 77) (c1 := 0) (n1 := 0) (P := fun z2 => (C k = f - j ∧ z2 = f - j) ∨ (¬ C k = f - j ∧ z2 = b)) (ls' := fun _ => [(0, .int (iI f)), (1, .ref v), (2, .int (iI c)), (3, .int (iI r)), (4, .int (iI b)), (5, .int (iI j)), (6, .int (iI k))]) (st' := fun z2 => [.int (iI z2)]) (G' := fun _ => Wd σ X) (fun z2 hz4 => ?_) (fun j3 => ?_)
    · refine xw_istore (l2 := [(0, .int (iI f)), (1, .ref v), (2, .int (iI c)), (3, .int (iI r)), (4, .int (iI z2)), (5, .int (iI j)), (6, .int (iI k))]) dL_snapped_77 (by decide) rfl rfl ?_
      refine xz_iinc (l2 := [(0, .int (iI f)), (1, .ref v), (2, .int (iI c)), (3, .int (iI r)), (4, .int (iI z2)), (5, .int (iI j)), (6, .int (iI (k + 1)))]) 6 dL_snapped_79 rfl (by decide) rfl rfl ?_
      refine xw_goto (tgt := 51) dL_snapped_82 (by decide) ?_
      exact l_snB hL hA kA hk hC hc hf hr (by omega) (by omega) (k + 1) (by omega) (by omega) (yPk_s hp hk0 hz4) kx
    · refine xz_icmp_ne (tgt := 75) dL_snapped_65 (by decide) (by omega) (by omega) (fun c5 => ?_) (fun c5 => ?_)
      · refine xw_iload 4 dL_snapped_75 rfl ?_
        exact j3 _ (by omega)
      · refine xw_aload_n 1 dL_snapped_68 rfl ?_
        refine xw_iload 6 dL_snapped_69 rfl ?_
        refine yh_aldF kA hA hk dL_snapped_71 (by omega) (by decide) ?_
        refine xw_goto (tgt := 77) dL_snapped_72 (by decide) ?_
        exact j3 _ (by omega)
termination_by (c - k).toNat
theorem l_snap9 (hL : L.stackTraces = false) {v : Nat} {A : List (Nat × List Value)} {C : Int → Int} {f c r : Int} (hA : yHs A X) (kA : Nat) (hk : A[kA]? = some (v, iaL 20 C)) (hC : ∀ i, 0 ≤ i → i < c → 0 ≤ C i ∧ C i ≤ 99999) (hc : 0 ≤ c ∧ c ≤ 20) (hf : 0 ≤ f ∧ f ≤ 99999) (hr : 0 ≤ r ∧ r ≤ 99) {b : Int} (j : Int) (hj0 : -1 ≤ j) (hj1 : j ≤ r) (hn : yNe C c f r (j + 1) b) (hb : 0 ≤ b ∧ b ≤ 99999) (hK : ∀ z, ySp C c f r z → K (.inl (some (.int (iI z)))) (Wd σ X)) : xWP L O mL_snapped (xR 0 0 0) K 6 [(0, .int (iI f)), (1, .ref v), (2, .int (iI c)), (3, .int (iI r)), (4, .int (iI b)), (5, .int (iI j))] [] (Wd σ X) 0 0 := by
  refine xw_iload 5 dL_snapped_6 rfl ?_
  refine xz_if_lt (tgt := 91) dL_snapped_8 (by decide) (by omega) (fun c1 => ?_) (fun c1 => ?_)
  · refine xw_iload 4 dL_snapped_91 rfl ?_
    exact xz_iret dL_snapped_93 rfl (Nat.zero_le _) (Nat.zero_le _) (hK _ (yNe_e (by rw [show (0 : Int) = j + 1 by omega]; exact hn)))
  · refine xz_iconst dL_snapped_11 ?_
    refine xw_istore (l2 := [(0, .int (iI f)), (1, .ref v), (2, .int (iI c)), (3, .int (iI r)), (4, .int (iI b)), (5, .int (iI j)), (6, .int (iI 0))]) dL_snapped_12 (by decide) rfl rfl ?_
    refine l_snA hL hA kA hk hC hc hf hr ⟨by omega, by omega⟩ hb 0 (by omega) (by omega) yPk_0 (fun b1 p1 h1 => ?_)
    refine xz_iconst dL_snapped_48 ?_
    refine xw_istore (l2 := [(0, .int (iI f)), (1, .ref v), (2, .int (iI c)), (3, .int (iI r)), (4, .int (iI b1)), (5, .int (iI j)), (6, .int (iI 0))]) dL_snapped_49 (by decide) rfl rfl ?_
    refine l_snB hL hA kA hk hC hc hf hr ⟨by omega, by omega⟩ h1 0 (by omega) (by omega) yPk_0 (fun b2 p2 h2 => ?_)
    refine xz_iinc (l2 := [(0, .int (iI f)), (1, .ref v), (2, .int (iI c)), (3, .int (iI r)), (4, .int (iI b2)), (5, .int (iI (j + (-1)))), (6, .int (iI c))]) 5 dL_snapped_85 rfl (by decide) rfl rfl ?_
    refine xw_goto (tgt := 6) dL_snapped_88 (by decide) ?_
    refine xw_loc [(0, .int (iI f)), (1, .ref v), (2, .int (iI c)), (3, .int (iI r)), (4, .int (iI b2)), (5, .int (iI (j + (-1))))] (fun q9 hq9 => List.mem_append_left ([(6, .int (iI c))] : List (Nat × Value)) hq9) ?_
    exact l_snap9 hL hA kA hk hC hc hf hr (j + (-1)) (by omega) (by omega) (by rw [show j + (-1) + 1 = j by omega]; exact yNe_s hn ⟨by omega, by omega⟩ p1 p2) h2 hK
termination_by (j + 1).toNat
theorem s_snapped (hL : L.stackTraces = false) {v : Nat} {A : List (Nat × List Value)} {C : Int → Int} {f c r : Int} (hA : yHs A X) (kA : Nat) (hk : A[kA]? = some (v, iaL 20 C)) (hC : ∀ i, 0 ≤ i → i < c → 0 ≤ C i ∧ C i ≤ 99999) (hc : 0 ≤ c ∧ c ≤ 20) (hf : 0 ≤ f ∧ f ≤ 99999) (hr : 0 ≤ r ∧ r ≤ 99) : xMet L O mL_snapped (xR 0 0 0) [.int (iI f), .ref v, .int (iI c), .int (iI r)] (Wd σ X) (fun o G1 => ∃ z : Int, o = .inl (some (.int (iI z))) ∧ ySp C c f r z ∧ G1 = Wd σ X) := xMet_of (by decide) hL (Nat.le_of_ble_eq_true rfl) (by
  refine xw_eq rfl (l2 := [(0, .int (iI f)), (1, .ref v), (2, .int (iI c)), (3, .int (iI r))]) rfl rfl rfl ?_
  refine xw_iload_n 0 dL_snapped_0 rfl ?_
  refine xw_istore (l2 := [(0, .int (iI f)), (1, .ref v), (2, .int (iI c)), (3, .int (iI r)), (4, .int (iI f))]) dL_snapped_1 (by decide) rfl rfl ?_
  refine xw_iload_n 3 dL_snapped_3 rfl ?_
  refine xw_istore (l2 := [(0, .int (iI f)), (1, .ref v), (2, .int (iI c)), (3, .int (iI r)), (4, .int (iI f)), (5, .int (iI r))]) dL_snapped_4 (by decide) rfl rfl ?_
  exact l_snap9 hL hA kA hk hC hc hf hr r (by omega) (by omega) yNe_0 hf (fun z hz => ⟨z, rfl, hz, rfl⟩))
/-- the stamp with drops of a frame: its minute, its place in the minute -/
def yDr (f m t : Int) : Prop := (0 ≤ m ∧ m ≤ 56) ∧ (0 ≤ t ∧ t < 1800) ∧ (m % 10 = 0 ∨ 2 ≤ t) ∧ yCnt f = 1800 * m + t ∧ f = 1800 * m + t - 2 * (m - m / 10)
theorem yPart_0 (c : Int) : yPart 0 c = c / 108000 := if_pos rfl
theorem yPart_1 (c : Int) : yPart 1 c = c / 1800 % 60 := (if_neg (by decide)).trans (if_pos rfl)
theorem yPart_2 (c : Int) : yPart 2 c = c / 30 % 60 := ((if_neg (by decide)).trans (if_neg (by decide))).trans (if_pos rfl)
theorem yPart_3 (c : Int) : yPart 3 c = c % 30 := ((if_neg (by decide)).trans (if_neg (by decide))).trans (if_neg (by decide))
theorem yDr_of {f m l q : Int} (hf : 0 ≤ f ∧ f ≤ 99999) (hm : 0 ≤ m) (hl : 0 ≤ l) (h : f = 1800 * m - 2 * (m - (m + 9) / 10) + l) (hq : (m % 10 = 0 ∧ q = 0) ∨ (¬ m % 10 = 0 ∧ q = 2)) (hx : l < 1800 - q) : yDr f m (l + q) := by
  obtain ⟨e, he⟩ : ∃ e, e = m / 10 := ⟨_, rfl⟩
  obtain ⟨u, hu⟩ : ∃ u, u = m % 10 := ⟨_, rfl⟩
  have hm2 : m = 10 * e + u := by omega
  have hu2 : 0 ≤ u ∧ u ≤ 9 := by omega
  have he2 : 0 ≤ e := by omega
  rcases hq with ⟨a, b⟩ | ⟨a, b⟩
  · have hc : (m + 9) / 10 = e := by omega
    have hf2 : f = 17982 * e + l := by omega
    have h1 : f / 17982 = e := by omega
    have h2 : f % 17982 = l := by omega
    refine ⟨by omega, by omega, by omega, ?_, by omega⟩
    unfold yCnt
    rw [h1, h2, if_pos (by omega)]
    omega
  · have hc : (m + 9) / 10 = e + 1 := by omega
    have hf2 : f = 17982 * e + (1798 * u + l + 2) := by omega
    have h1 : f / 17982 = e := by omega
    have h2 : f % 17982 = 1798 * u + l + 2 := by omega
    have h3 : (1798 * u + l + 2 - 1800) / 1798 = u - 1 := by omega
    refine ⟨by omega, by omega, by omega, ?_, by omega⟩
    unfold yCnt
    rw [h1, h2, if_neg (by omega), h3]
    omega
theorem y_plain {f : Int} (h : 0 ≤ f) : (60 * (f / 108000) + (f / 1800 % 60)) * 1800 + (f / 30 % 60) * 30 + (f % 30) = f := by
  have h1 : f / 1800 = f / 30 / 60 := by omega
  have h2 : f / 108000 = f / 30 / 60 / 60 := by omega
  rw [h1, h2]
  generalize hg : f / 30 = a
  have h3 : f = 30 * a + f % 30 := by omega
  generalize hb : a / 60 = b
  omega
theorem l_dropped (hL : L.stackTraces = false) {f : Int} (hf : 0 ≤ f ∧ f ≤ 99999) (hX : X.length ≤ 800000) (m : Int) (hm : 0 ≤ m) (l : Int) (hl : 0 ≤ l) (h : f = 1800 * m - 2 * (m - (m + 9) / 10) + l) (q : Int) (hq : (m % 10 = 0 ∧ q = 0) ∨ (¬ m % 10 = 0 ∧ q = 2)) (hK : ∀ m t : Int, yDr f m t → K (.inl (some (.ref (193 + X.length)))) (Wd σ (X ++ [(64, [.int (iI (m / 60)), .int (iI (m % 60)), .int (iI (t / 30)), .int (iI (t % 30))])]))) : xWP L O mL_dropped (xR 0 1 4) K 6 [(0, .int (iI f)), (1, .int (iI l)), (2, .int (iI m)), (3, .int (iI q))] [] (Wd σ X) 0 0 := by
  have hXl := hX
  refine xw_iload_n 1 dL_dropped_6 rfl ?_
  refine xz_sipush dL_dropped_7 (by decide) ?_
  refine xw_iload_n 3 dL_dropped_10 rfl ?_
  refine xz_isub dL_dropped_11 ?_
  refine xz_icmp_lt (tgt := 42) dL_dropped_12 (by decide) (by omega) (by omega) (fun c1 => ?_) (fun c1 => ?_)
  · have hd := yDr_of hf hm hl h hq (by omega)
    obtain ⟨d1, d2, d3, d4, d5⟩ := id hd
    refine xw_iload_n 1 dL_dropped_42 rfl ?_
    refine xw_iload_n 3 dL_dropped_43 rfl ?_
    refine xz_iadd dL_dropped_44 ?_
    refine xw_istore (l2 := [(0, .int (iI f)), (1, .int (iI l)), (2, .int (iI m)), (3, .int (iI q)), (4, .int (iI (l + q)))]) dL_dropped_45 (by decide) rfl rfl ?_
    refine xz_iconst dL_dropped_47 ?_
    refine yv_new (N := 4) (L := [.int (iI 0), .int (iI 0), .int (iI 0), .int (iI 0)]) hXl (by omega) dL_dropped_48 rfl (by decide) rfl (Nat.le_of_ble_eq_true rfl) (Nat.le_of_ble_eq_true rfl) ?_
    refine xw_dup dL_dropped_50 rfl ?_
    refine xz_iconst dL_dropped_51 ?_
    refine xw_iload_n 2 dL_dropped_52 rfl ?_
    refine xz_bipush dL_dropped_53 (by decide) ?_
    refine xz_idiv dL_dropped_55 (by omega) (by decide) ?_
    refine yv_put (k := 0) (L2 := [.int (iI (m / 60)), .int (iI 0), .int (iI 0), .int (iI 0)]) dL_dropped_56 rfl (by show _ < 4; decide) (by show 4 ≤ _; decide) rfl ?_
    refine xw_dup dL_dropped_57 rfl ?_
    refine xz_iconst dL_dropped_58 ?_
    refine xw_iload_n 2 dL_dropped_59 rfl ?_
    refine xz_bipush dL_dropped_60 (by decide) ?_
    refine xz_irem dL_dropped_62 (by omega) (by decide) ?_
    refine yv_put (k := 1) (L2 := [.int (iI (m / 60)), .int (iI (m % 60)), .int (iI 0), .int (iI 0)]) dL_dropped_63 rfl (by show _ < 4; decide) (by show 4 ≤ _; decide) rfl ?_
    refine xw_dup dL_dropped_64 rfl ?_
    refine xz_iconst dL_dropped_65 ?_
    refine xw_iload 4 dL_dropped_66 rfl ?_
    refine xz_bipush dL_dropped_68 (by decide) ?_
    refine xz_idiv dL_dropped_70 (by omega) (by decide) ?_
    refine yv_put (k := 2) (L2 := [.int (iI (m / 60)), .int (iI (m % 60)), .int (iI ((l + q) / 30)), .int (iI 0)]) dL_dropped_71 rfl (by show _ < 4; decide) (by show 4 ≤ _; decide) rfl ?_
    refine xw_dup dL_dropped_72 rfl ?_
    refine xz_iconst dL_dropped_73 ?_
    refine xw_iload 4 dL_dropped_74 rfl ?_
    refine xz_bipush dL_dropped_76 (by decide) ?_
    refine xz_irem dL_dropped_78 (by omega) (by decide) ?_
    refine yv_put (k := 3) (L2 := [.int (iI (m / 60)), .int (iI (m % 60)), .int (iI ((l + q) / 30)), .int (iI ((l + q) % 30))]) dL_dropped_79 rfl (by show _ < 4; decide) (by show 4 ≤ _; decide) rfl ?_
    exact xz_aret dL_dropped_80 rfl (Or.inr ⟨_, rfl⟩) (Nat.le_of_ble_eq_true rfl) (Nat.le_of_ble_eq_true rfl) (hK m (l + q) hd)
  · refine xw_iload_n 1 dL_dropped_15 rfl ?_
    refine xz_sipush dL_dropped_16 (by decide) ?_
    refine xw_iload_n 3 dL_dropped_19 rfl ?_
    refine xz_isub dL_dropped_20 ?_
    refine xz_isub dL_dropped_21 ?_
    refine xw_istore_n (l2 := [(0, .int (iI f)), (1, .int (iI (l - (1800 - q)))), (2, .int (iI m)), (3, .int (iI q))]) dL_dropped_22 (by decide) rfl rfl ?_
    refine xz_iinc (l2 := [(0, .int (iI f)), (1, .int (iI (l - (1800 - q)))), (2, .int (iI (m + 1))), (3, .int (iI q))]) 2 dL_dropped_23 rfl (by decide) rfl rfl ?_
    refine xw_iload_n 2 dL_dropped_26 rfl ?_
    refine xz_bipush dL_dropped_27 (by decide) ?_
    refine xz_irem dL_dropped_29 (by omega) (by decide) ?_
    refine xw_join (J := 38) (c1 := 0) (n1 := 0) (P := fun z2 => ((m + 1) % 10 = 0 ∧ z2 = 0) ∨ (¬ (m + 1) % 10 = 0 ∧ z2 = 2)) (ls' := fun _ => [(0, .int (iI f)), (1, .int (iI (l - (1800 - q)))), (2, .int (iI (m + 1))), (3, .int (iI q))]) (st' := fun z2 => [.int (iI z2)]) (G' := fun _ => Wd σ X) (fun z2 hz4 => ?_) (fun j3 => ?_)
    · refine xw_istore_n (l2 := [(0, .int (iI f)), (1, .int (iI (l - (1800 - q)))), (2, .int (iI (m + 1))), (3, .int (iI z2))]) dL_dropped_38 (by decide) rfl rfl ?_
      refine xw_goto (tgt := 6) dL_dropped_39 (by decide) ?_
      exact l_dropped hL hf hX (m + 1) (by omega) (l - (1800 - q)) (by omega) (by omega) (z2) (by omega) hK
    · refine xz_if_ne (tgt := 37) dL_dropped_30 (by decide) (by omega) (fun c5 => ?_) (fun c5 => ?_)
      · refine xz_iconst dL_dropped_37 ?_
        exact j3 _ (by omega)
      · refine xz_iconst dL_dropped_33 ?_
        refine xw_goto (tgt := 38) dL_dropped_34 (by decide) ?_
        exact j3 _ (by omega)
termination_by l.toNat
theorem s_dropped (hL : L.stackTraces = false) {f : Int} (hf : 0 ≤ f ∧ f ≤ 99999) (hX : X.length ≤ 800000) : xMet L O mL_dropped (xR 0 1 4) [.int (iI f)] (Wd σ X) (fun o G1 => ∃ m t : Int, o = .inl (some (.ref (193 + X.length))) ∧ yDr f m t ∧ G1 = Wd σ (X ++ [(64, [.int (iI (m / 60)), .int (iI (m % 60)), .int (iI (t / 30)), .int (iI (t % 30))])])) := xMet_of (by decide) hL (Nat.le_of_ble_eq_true rfl) (by
  refine xw_eq rfl (l2 := [(0, .int (iI f))]) rfl rfl rfl ?_
  refine xw_iload_n 0 dL_dropped_0 rfl ?_
  refine xw_istore_n (l2 := [(0, .int (iI f)), (1, .int (iI f))]) dL_dropped_1 (by decide) rfl rfl ?_
  refine xz_iconst dL_dropped_2 ?_
  refine xw_istore_n (l2 := [(0, .int (iI f)), (1, .int (iI f)), (2, .int (iI 0))]) dL_dropped_3 (by decide) rfl rfl ?_
  refine xz_iconst dL_dropped_4 ?_
  refine xw_istore_n (l2 := [(0, .int (iI f)), (1, .int (iI f)), (2, .int (iI 0)), (3, .int (iI 0))]) dL_dropped_5 (by decide) rfl rfl ?_
  exact l_dropped hL hf hX 0 (by omega) f (by omega) (by omega) 0 (by omega) (fun m t h => ⟨m, t, rfl, h, rfl⟩))
theorem s_good (hL : L.stackTraces = false) {f : Int} {A : List (Nat × List Value)} {n : Nat} (hf : 0 ≤ f ∧ f ≤ 99999) (hA0 : yHs A X) (hX : X.length ≤ n) (hn : n ≤ 500000) : xMet L O mL_stampsAreGood (xR 9 22 400) [.ref 0, .int (iI f)] (Wd σ X) (fun o G1 => o = .inl (some (.int (iI 1))) ∧ ∃ X' : List xOb, G1 = Wd σ X' ∧ yHs A X' ∧ X'.length ≤ n + 22) := xMet_of (by decide) hL (Nat.le_of_ble_eq_true rfl) (by
  have hXl : X.length ≤ n + (0) := hX
  have hA := hA0
  refine xw_eq rfl (l2 := [(0, .ref 0), (1, .int (iI f))]) rfl rfl rfl ?_
  refine xz_iconst dL_stampsAreGood_0 ?_
  refine yv_new (N := 4) (L := [.int (iI 0), .int (iI 0), .int (iI 0), .int (iI 0)]) hXl (by omega) dL_stampsAreGood_1 rfl (by decide) rfl (Nat.le_of_ble_eq_true rfl) (Nat.le_of_ble_eq_true rfl) ?_
  refine xw_dup dL_stampsAreGood_3 rfl ?_
  refine xz_iconst dL_stampsAreGood_4 ?_
  refine xw_iload_n 1 dL_stampsAreGood_5 rfl ?_
  refine xz_ldc (z := 108000) dL_stampsAreGood_6 w_1151 (by decide) ?_
  refine xz_idiv dL_stampsAreGood_8 (by omega) (by decide) ?_
  refine yv_put (k := 0) (L2 := [.int (iI (f / 108000)), .int (iI 0), .int (iI 0), .int (iI 0)]) dL_stampsAreGood_9 rfl (by show _ < 4; decide) (by show 4 ≤ _; decide) rfl ?_
  refine xw_dup dL_stampsAreGood_10 rfl ?_
  refine xz_iconst dL_stampsAreGood_11 ?_
  refine xw_iload_n 1 dL_stampsAreGood_12 rfl ?_
  refine xz_sipush dL_stampsAreGood_13 (by decide) ?_
  refine xz_idiv dL_stampsAreGood_16 (by omega) (by decide) ?_
  refine xz_bipush dL_stampsAreGood_17 (by decide) ?_
  refine xz_irem dL_stampsAreGood_19 (by omega) (by decide) ?_
  refine yv_put (k := 1) (L2 := [.int (iI (f / 108000)), .int (iI ((f / 1800) % 60)), .int (iI 0), .int (iI 0)]) dL_stampsAreGood_20 rfl (by show _ < 4; decide) (by show 4 ≤ _; decide) rfl ?_
  refine xw_dup dL_stampsAreGood_21 rfl ?_
  refine xz_iconst dL_stampsAreGood_22 ?_
  refine xw_iload_n 1 dL_stampsAreGood_23 rfl ?_
  refine xz_bipush dL_stampsAreGood_24 (by decide) ?_
  refine xz_idiv dL_stampsAreGood_26 (by omega) (by decide) ?_
  refine xz_bipush dL_stampsAreGood_27 (by decide) ?_
  refine xz_irem dL_stampsAreGood_29 (by omega) (by decide) ?_
  refine yv_put (k := 2) (L2 := [.int (iI (f / 108000)), .int (iI ((f / 1800) % 60)), .int (iI ((f / 30) % 60)), .int (iI 0)]) dL_stampsAreGood_30 rfl (by show _ < 4; decide) (by show 4 ≤ _; decide) rfl ?_
  refine xw_dup dL_stampsAreGood_31 rfl ?_
  refine xz_iconst dL_stampsAreGood_32 ?_
  refine xw_iload_n 1 dL_stampsAreGood_33 rfl ?_
  refine xz_bipush dL_stampsAreGood_34 (by decide) ?_
  refine xz_irem dL_stampsAreGood_36 (by omega) (by decide) ?_
  refine yv_put (k := 3) (L2 := [.int (iI (f / 108000)), .int (iI ((f / 1800) % 60)), .int (iI ((f / 30) % 60)), .int (iI (f % 30))]) dL_stampsAreGood_37 rfl (by show _ < 4; decide) (by show 4 ≤ _; decide) rfl ?_
  refine yl_k (m2 := n + (1)) (ls' := fun v => [(0, .ref 0), (1, .int (iI f))]) (st' := fun v => [.ref v]) hA hXl (by omega) (fun X v hA hXl => ?_)
  refine xw_astore_n (l2 := [(0, .ref 0), (1, .int (iI f)), (2, .ref v)]) dL_stampsAreGood_38 (by decide) rfl rfl ?_
  refine xw_iload_n 1 dL_stampsAreGood_39 rfl ?_
  refine yc_SE (M' := mL_dropped) (d := 0) (c := 1) (s := 4) (As := [.int (iI f)]) (st := []) dL_stampsAreGood_40 okL_dropped (Or.inl w_1152) rfl (Nat.le_of_ble_eq_true rfl) (by decide) (by decide) (Nat.le_of_ble_eq_true rfl) (Nat.le_of_ble_eq_true rfl) (s_dropped hL hf (by omega)) (fun w9 G9 h9 => ?_) (fun E9 G9 h9 => by obtain ⟨_, _, h, _⟩ := h9; cases h)
  obtain ⟨m, t, e9, hd, rfl⟩ := h9
  cases e9
  obtain ⟨d1, d2, d3, d4, d5⟩ := id hd
  refine yl_k (m2 := n + (1 + 1)) (L := [.int (iI (m / 60)), .int (iI (m % 60)), .int (iI (t / 30)), .int (iI (t % 30))]) (ls' := fun _ => [(0, .ref 0), (1, .int (iI f)), (2, .ref v)]) (st' := fun u => [.ref u]) hA hXl (by omega) (fun X u hA hXl => ?_)
  refine xw_astore_n (l2 := [(0, .ref 0), (1, .int (iI f)), (2, .ref v), (3, .ref u)]) dL_stampsAreGood_43 (by decide) rfl rfl ?_
  refine xz_iconst dL_stampsAreGood_44 ?_
  refine xw_istore (l2 := [(0, .ref 0), (1, .int (iI f)), (2, .ref v), (3, .ref u), (4, .int (iI 0))]) dL_stampsAreGood_45 (by decide) rfl rfl ?_
  refine xw_iload 4 dL_stampsAreGood_47 rfl ?_
  refine xz_iconst dL_stampsAreGood_49 ?_
  refine xz_icmp_ge (tgt := 111) dL_stampsAreGood_50 (by decide) (by omega) (by omega) (fun c1 => ?_) (fun c1 => ?_)
  · exact absurd c1 (by omega)
  · refine xw_aload_n 0 dL_stampsAreGood_53 rfl ?_
    refine xz_iconst dL_stampsAreGood_54 ?_
    refine xz_iconst dL_stampsAreGood_55 ?_
    refine xz_iconst dL_stampsAreGood_56 ?_
    refine yv_new (N := 2) (L := [.int (iI 0), .int (iI 0)]) hXl (by omega) dL_stampsAreGood_57 rfl (by decide) rfl (Nat.le_of_ble_eq_true rfl) (Nat.le_of_ble_eq_true rfl) ?_
    refine xw_dup dL_stampsAreGood_59 rfl ?_
    refine xz_iconst dL_stampsAreGood_60 ?_
    refine xw_iload_n 1 dL_stampsAreGood_61 rfl ?_
    refine yv_put (k := 0) (L2 := [.int (iI f), .int (iI 0)]) dL_stampsAreGood_62 rfl (by show _ < 2; decide) (by show 2 ≤ _; decide) rfl ?_
    refine xw_dup dL_stampsAreGood_63 rfl ?_
    refine xz_iconst dL_stampsAreGood_64 ?_
    refine xw_iload 4 dL_stampsAreGood_65 rfl ?_
    refine yv_put (k := 1) (L2 := [.int (iI f), .int (iI 0)]) dL_stampsAreGood_67 rfl (by show _ < 2; decide) (by show 2 ≤ _; decide) rfl ?_
    have ev : yPart 0 f = f / 108000 := by rw [yPart_0]
    refine yc_S (M' := mL_stamp) (d := 8) (c := 1) (s := 24) (As := [.ref 0, .int (iI 0), .int (iI 0), .ref (193 + X.length)]) (st := []) (v0 := some (.int (iI (f / 108000)))) (G2 := Wd σ (X ++ [(64, [.int (iI f), .int (iI 0)])])) dL_stampsAreGood_68 okL_stamp (Or.inl w_1126) rfl (Nat.le_of_ble_eq_true rfl) (by decide) (by decide) (Nat.le_of_ble_eq_true rfl) (Nat.le_of_ble_eq_true rfl) rfl rfl (a_stampOf (d := 2) (c := 0) (s := 0) (z0 := f) (z1 := 0) (dr := 0) hL (by decide) (by decide) (by decide) (by omega) yv_last (s_stampOf0 hL hf (by decide)) (fun w9 G9 h => ⟨_, Sum.inl.inj h.1, by rw [ev], h.2⟩) (fun E9 G9 h => by cases h.1)) ?_
    refine yl_g (m2 := n + (1 + 1 + 1 + 1)) (Y := [(64, [.int (iI f), .int (iI 0)])]) hA hXl (by simp only [List.append_assoc, List.cons_append, List.nil_append]) (by show _ + 1 ≤ _; omega) (fun X hA hXl => ?_)
    refine xw_aload_n 2 dL_stampsAreGood_71 rfl ?_
    refine xw_iload 4 dL_stampsAreGood_72 rfl ?_
    refine yh_ald 1 0 (z := f / 108000) hA rfl dL_stampsAreGood_74 rfl rfl (by show 4 ≤ 1000; decide) ?_
    refine xz_icmp_ne (tgt := 103) dL_stampsAreGood_75 (by decide) (by omega) (by omega) (fun c2 => ?_) (fun c2 => ?_)
    · exact absurd rfl c2
    · refine xw_aload_n 0 dL_stampsAreGood_78 rfl ?_
      refine xz_iconst dL_stampsAreGood_79 ?_
      refine xz_iconst dL_stampsAreGood_80 ?_
      refine xz_iconst dL_stampsAreGood_81 ?_
      refine yv_new (N := 2) (L := [.int (iI 0), .int (iI 0)]) hXl (by omega) dL_stampsAreGood_82 rfl (by decide) rfl (Nat.le_of_ble_eq_true rfl) (Nat.le_of_ble_eq_true rfl) ?_
      refine xw_dup dL_stampsAreGood_84 rfl ?_
      refine xz_iconst dL_stampsAreGood_85 ?_
      refine xw_iload_n 1 dL_stampsAreGood_86 rfl ?_
      refine yv_put (k := 0) (L2 := [.int (iI f), .int (iI 0)]) dL_stampsAreGood_87 rfl (by show _ < 2; decide) (by show 2 ≤ _; decide) rfl ?_
      refine xw_dup dL_stampsAreGood_88 rfl ?_
      refine xz_iconst dL_stampsAreGood_89 ?_
      refine xw_iload 4 dL_stampsAreGood_90 rfl ?_
      refine yv_put (k := 1) (L2 := [.int (iI f), .int (iI 0)]) dL_stampsAreGood_92 rfl (by show _ < 2; decide) (by show 2 ≤ _; decide) rfl ?_
      have ev : yPart 0 (yCnt f) = m / 60 := by rw [yPart_0, d4]; omega
      refine yc_S (M' := mL_stamp) (d := 8) (c := 1) (s := 24) (As := [.ref 0, .int (iI 0), .int (iI 1), .ref (193 + X.length)]) (st := []) (v0 := some (.int (iI (m / 60)))) (G2 := Wd σ (X ++ [(64, [.int (iI f), .int (iI 0)])])) dL_stampsAreGood_93 okL_stamp (Or.inl w_1126) rfl (Nat.le_of_ble_eq_true rfl) (by decide) (by decide) (Nat.le_of_ble_eq_true rfl) (Nat.le_of_ble_eq_true rfl) rfl rfl (a_stampOf (d := 2) (c := 0) (s := 0) (z0 := f) (z1 := 0) (dr := 1) hL (by decide) (by decide) (by decide) (by omega) yv_last (s_stampOf1 hL hf (by decide)) (fun w9 G9 h => ⟨_, Sum.inl.inj h.1, by rw [ev], h.2⟩) (fun E9 G9 h => by cases h.1)) ?_
      refine yl_g (m2 := n + (1 + 1 + 1 + 1 + 1 + 1)) (Y := [(64, [.int (iI f), .int (iI 0)])]) hA hXl (by simp only [List.append_assoc, List.cons_append, List.nil_append]) (by show _ + 1 ≤ _; omega) (fun X hA hXl => ?_)
      refine xw_aload_n 3 dL_stampsAreGood_96 rfl ?_
      refine xw_iload 4 dL_stampsAreGood_97 rfl ?_
      refine yh_ald 0 0 (z := m / 60) hA rfl dL_stampsAreGood_99 rfl rfl (by show 4 ≤ 1000; decide) ?_
      refine xz_icmp_eq (tgt := 105) dL_stampsAreGood_100 (by decide) (by omega) (by omega) (fun c3 => ?_) (fun c3 => ?_)
      · refine xz_iinc (l2 := [(0, .ref 0), (1, .int (iI f)), (2, .ref v), (3, .ref u), (4, .int (iI 1))]) 4 dL_stampsAreGood_105 rfl (by decide) rfl rfl ?_
        refine xw_goto (tgt := 47) dL_stampsAreGood_108 (by decide) ?_
        refine xw_iload 4 dL_stampsAreGood_47 rfl ?_
        refine xz_iconst dL_stampsAreGood_49 ?_
        refine xz_icmp_ge (tgt := 111) dL_stampsAreGood_50 (by decide) (by omega) (by omega) (fun c4 => ?_) (fun c4 => ?_)
        · exact absurd c4 (by omega)
        · refine xw_aload_n 0 dL_stampsAreGood_53 rfl ?_
          refine xz_iconst dL_stampsAreGood_54 ?_
          refine xz_iconst dL_stampsAreGood_55 ?_
          refine xz_iconst dL_stampsAreGood_56 ?_
          refine yv_new (N := 2) (L := [.int (iI 0), .int (iI 0)]) hXl (by omega) dL_stampsAreGood_57 rfl (by decide) rfl (Nat.le_of_ble_eq_true rfl) (Nat.le_of_ble_eq_true rfl) ?_
          refine xw_dup dL_stampsAreGood_59 rfl ?_
          refine xz_iconst dL_stampsAreGood_60 ?_
          refine xw_iload_n 1 dL_stampsAreGood_61 rfl ?_
          refine yv_put (k := 0) (L2 := [.int (iI f), .int (iI 0)]) dL_stampsAreGood_62 rfl (by show _ < 2; decide) (by show 2 ≤ _; decide) rfl ?_
          refine xw_dup dL_stampsAreGood_63 rfl ?_
          refine xz_iconst dL_stampsAreGood_64 ?_
          refine xw_iload 4 dL_stampsAreGood_65 rfl ?_
          refine yv_put (k := 1) (L2 := [.int (iI f), .int (iI 1)]) dL_stampsAreGood_67 rfl (by show _ < 2; decide) (by show 2 ≤ _; decide) rfl ?_
          have ev : yPart 1 f = f / 1800 % 60 := by rw [yPart_1]
          refine yc_S (M' := mL_stamp) (d := 8) (c := 1) (s := 24) (As := [.ref 0, .int (iI 0), .int (iI 0), .ref (193 + X.length)]) (st := []) (v0 := some (.int (iI (f / 1800 % 60)))) (G2 := Wd σ (X ++ [(64, [.int (iI f), .int (iI 1)])])) dL_stampsAreGood_68 okL_stamp (Or.inl w_1126) rfl (Nat.le_of_ble_eq_true rfl) (by decide) (by decide) (Nat.le_of_ble_eq_true rfl) (Nat.le_of_ble_eq_true rfl) rfl rfl (a_stampOf (d := 2) (c := 0) (s := 0) (z0 := f) (z1 := 1) (dr := 0) hL (by decide) (by decide) (by decide) (by omega) yv_last (s_stampOf0 hL hf (by decide)) (fun w9 G9 h => ⟨_, Sum.inl.inj h.1, by rw [ev], h.2⟩) (fun E9 G9 h => by cases h.1)) ?_
          refine yl_g (m2 := n + (1 + 1 + 1 + 1 + 1 + 1 + 1 + 1)) (Y := [(64, [.int (iI f), .int (iI 1)])]) hA hXl (by simp only [List.append_assoc, List.cons_append, List.nil_append]) (by show _ + 1 ≤ _; omega) (fun X hA hXl => ?_)
          refine xw_aload_n 2 dL_stampsAreGood_71 rfl ?_
          refine xw_iload 4 dL_stampsAreGood_72 rfl ?_
          refine yh_ald 1 1 (z := f / 1800 % 60) hA rfl dL_stampsAreGood_74 rfl rfl (by show 4 ≤ 1000; decide) ?_
          refine xz_icmp_ne (tgt := 103) dL_stampsAreGood_75 (by decide) (by omega) (by omega) (fun c5 => ?_) (fun c5 => ?_)
          · exact absurd rfl c5
          · refine xw_aload_n 0 dL_stampsAreGood_78 rfl ?_
            refine xz_iconst dL_stampsAreGood_79 ?_
            refine xz_iconst dL_stampsAreGood_80 ?_
            refine xz_iconst dL_stampsAreGood_81 ?_
            refine yv_new (N := 2) (L := [.int (iI 0), .int (iI 0)]) hXl (by omega) dL_stampsAreGood_82 rfl (by decide) rfl (Nat.le_of_ble_eq_true rfl) (Nat.le_of_ble_eq_true rfl) ?_
            refine xw_dup dL_stampsAreGood_84 rfl ?_
            refine xz_iconst dL_stampsAreGood_85 ?_
            refine xw_iload_n 1 dL_stampsAreGood_86 rfl ?_
            refine yv_put (k := 0) (L2 := [.int (iI f), .int (iI 0)]) dL_stampsAreGood_87 rfl (by show _ < 2; decide) (by show 2 ≤ _; decide) rfl ?_
            refine xw_dup dL_stampsAreGood_88 rfl ?_
            refine xz_iconst dL_stampsAreGood_89 ?_
            refine xw_iload 4 dL_stampsAreGood_90 rfl ?_
            refine yv_put (k := 1) (L2 := [.int (iI f), .int (iI 1)]) dL_stampsAreGood_92 rfl (by show _ < 2; decide) (by show 2 ≤ _; decide) rfl ?_
            have ev : yPart 1 (yCnt f) = m % 60 := by rw [yPart_1, d4]; omega
            refine yc_S (M' := mL_stamp) (d := 8) (c := 1) (s := 24) (As := [.ref 0, .int (iI 0), .int (iI 1), .ref (193 + X.length)]) (st := []) (v0 := some (.int (iI (m % 60)))) (G2 := Wd σ (X ++ [(64, [.int (iI f), .int (iI 1)])])) dL_stampsAreGood_93 okL_stamp (Or.inl w_1126) rfl (Nat.le_of_ble_eq_true rfl) (by decide) (by decide) (Nat.le_of_ble_eq_true rfl) (Nat.le_of_ble_eq_true rfl) rfl rfl (a_stampOf (d := 2) (c := 0) (s := 0) (z0 := f) (z1 := 1) (dr := 1) hL (by decide) (by decide) (by decide) (by omega) yv_last (s_stampOf1 hL hf (by decide)) (fun w9 G9 h => ⟨_, Sum.inl.inj h.1, by rw [ev], h.2⟩) (fun E9 G9 h => by cases h.1)) ?_
            refine yl_g (m2 := n + (1 + 1 + 1 + 1 + 1 + 1 + 1 + 1 + 1 + 1)) (Y := [(64, [.int (iI f), .int (iI 1)])]) hA hXl (by simp only [List.append_assoc, List.cons_append, List.nil_append]) (by show _ + 1 ≤ _; omega) (fun X hA hXl => ?_)
            refine xw_aload_n 3 dL_stampsAreGood_96 rfl ?_
            refine xw_iload 4 dL_stampsAreGood_97 rfl ?_
            refine yh_ald 0 1 (z := m % 60) hA rfl dL_stampsAreGood_99 rfl rfl (by show 4 ≤ 1000; decide) ?_
            refine xz_icmp_eq (tgt := 105) dL_stampsAreGood_100 (by decide) (by omega) (by omega) (fun c6 => ?_) (fun c6 => ?_)
            · refine xz_iinc (l2 := [(0, .ref 0), (1, .int (iI f)), (2, .ref v), (3, .ref u), (4, .int (iI 2))]) 4 dL_stampsAreGood_105 rfl (by decide) rfl rfl ?_
              refine xw_goto (tgt := 47) dL_stampsAreGood_108 (by decide) ?_
              refine xw_iload 4 dL_stampsAreGood_47 rfl ?_
              refine xz_iconst dL_stampsAreGood_49 ?_
              refine xz_icmp_ge (tgt := 111) dL_stampsAreGood_50 (by decide) (by omega) (by omega) (fun c7 => ?_) (fun c7 => ?_)
              · exact absurd c7 (by omega)
              · refine xw_aload_n 0 dL_stampsAreGood_53 rfl ?_
                refine xz_iconst dL_stampsAreGood_54 ?_
                refine xz_iconst dL_stampsAreGood_55 ?_
                refine xz_iconst dL_stampsAreGood_56 ?_
                refine yv_new (N := 2) (L := [.int (iI 0), .int (iI 0)]) hXl (by omega) dL_stampsAreGood_57 rfl (by decide) rfl (Nat.le_of_ble_eq_true rfl) (Nat.le_of_ble_eq_true rfl) ?_
                refine xw_dup dL_stampsAreGood_59 rfl ?_
                refine xz_iconst dL_stampsAreGood_60 ?_
                refine xw_iload_n 1 dL_stampsAreGood_61 rfl ?_
                refine yv_put (k := 0) (L2 := [.int (iI f), .int (iI 0)]) dL_stampsAreGood_62 rfl (by show _ < 2; decide) (by show 2 ≤ _; decide) rfl ?_
                refine xw_dup dL_stampsAreGood_63 rfl ?_
                refine xz_iconst dL_stampsAreGood_64 ?_
                refine xw_iload 4 dL_stampsAreGood_65 rfl ?_
                refine yv_put (k := 1) (L2 := [.int (iI f), .int (iI 2)]) dL_stampsAreGood_67 rfl (by show _ < 2; decide) (by show 2 ≤ _; decide) rfl ?_
                have ev : yPart 2 f = f / 30 % 60 := by rw [yPart_2]
                refine yc_S (M' := mL_stamp) (d := 8) (c := 1) (s := 24) (As := [.ref 0, .int (iI 0), .int (iI 0), .ref (193 + X.length)]) (st := []) (v0 := some (.int (iI (f / 30 % 60)))) (G2 := Wd σ (X ++ [(64, [.int (iI f), .int (iI 2)])])) dL_stampsAreGood_68 okL_stamp (Or.inl w_1126) rfl (Nat.le_of_ble_eq_true rfl) (by decide) (by decide) (Nat.le_of_ble_eq_true rfl) (Nat.le_of_ble_eq_true rfl) rfl rfl (a_stampOf (d := 2) (c := 0) (s := 0) (z0 := f) (z1 := 2) (dr := 0) hL (by decide) (by decide) (by decide) (by omega) yv_last (s_stampOf0 hL hf (by decide)) (fun w9 G9 h => ⟨_, Sum.inl.inj h.1, by rw [ev], h.2⟩) (fun E9 G9 h => by cases h.1)) ?_
                refine yl_g (m2 := n + (1 + 1 + 1 + 1 + 1 + 1 + 1 + 1 + 1 + 1 + 1 + 1)) (Y := [(64, [.int (iI f), .int (iI 2)])]) hA hXl (by simp only [List.append_assoc, List.cons_append, List.nil_append]) (by show _ + 1 ≤ _; omega) (fun X hA hXl => ?_)
                refine xw_aload_n 2 dL_stampsAreGood_71 rfl ?_
                refine xw_iload 4 dL_stampsAreGood_72 rfl ?_
                refine yh_ald 1 2 (z := f / 30 % 60) hA rfl dL_stampsAreGood_74 rfl rfl (by show 4 ≤ 1000; decide) ?_
                refine xz_icmp_ne (tgt := 103) dL_stampsAreGood_75 (by decide) (by omega) (by omega) (fun c8 => ?_) (fun c8 => ?_)
                · exact absurd rfl c8
                · refine xw_aload_n 0 dL_stampsAreGood_78 rfl ?_
                  refine xz_iconst dL_stampsAreGood_79 ?_
                  refine xz_iconst dL_stampsAreGood_80 ?_
                  refine xz_iconst dL_stampsAreGood_81 ?_
                  refine yv_new (N := 2) (L := [.int (iI 0), .int (iI 0)]) hXl (by omega) dL_stampsAreGood_82 rfl (by decide) rfl (Nat.le_of_ble_eq_true rfl) (Nat.le_of_ble_eq_true rfl) ?_
                  refine xw_dup dL_stampsAreGood_84 rfl ?_
                  refine xz_iconst dL_stampsAreGood_85 ?_
                  refine xw_iload_n 1 dL_stampsAreGood_86 rfl ?_
                  refine yv_put (k := 0) (L2 := [.int (iI f), .int (iI 0)]) dL_stampsAreGood_87 rfl (by show _ < 2; decide) (by show 2 ≤ _; decide) rfl ?_
                  refine xw_dup dL_stampsAreGood_88 rfl ?_
                  refine xz_iconst dL_stampsAreGood_89 ?_
                  refine xw_iload 4 dL_stampsAreGood_90 rfl ?_
                  refine yv_put (k := 1) (L2 := [.int (iI f), .int (iI 2)]) dL_stampsAreGood_92 rfl (by show _ < 2; decide) (by show 2 ≤ _; decide) rfl ?_
                  have ev : yPart 2 (yCnt f) = t / 30 := by rw [yPart_2, d4]; omega
                  refine yc_S (M' := mL_stamp) (d := 8) (c := 1) (s := 24) (As := [.ref 0, .int (iI 0), .int (iI 1), .ref (193 + X.length)]) (st := []) (v0 := some (.int (iI (t / 30)))) (G2 := Wd σ (X ++ [(64, [.int (iI f), .int (iI 2)])])) dL_stampsAreGood_93 okL_stamp (Or.inl w_1126) rfl (Nat.le_of_ble_eq_true rfl) (by decide) (by decide) (Nat.le_of_ble_eq_true rfl) (Nat.le_of_ble_eq_true rfl) rfl rfl (a_stampOf (d := 2) (c := 0) (s := 0) (z0 := f) (z1 := 2) (dr := 1) hL (by decide) (by decide) (by decide) (by omega) yv_last (s_stampOf1 hL hf (by decide)) (fun w9 G9 h => ⟨_, Sum.inl.inj h.1, by rw [ev], h.2⟩) (fun E9 G9 h => by cases h.1)) ?_
                  refine yl_g (m2 := n + (1 + 1 + 1 + 1 + 1 + 1 + 1 + 1 + 1 + 1 + 1 + 1 + 1 + 1)) (Y := [(64, [.int (iI f), .int (iI 2)])]) hA hXl (by simp only [List.append_assoc, List.cons_append, List.nil_append]) (by show _ + 1 ≤ _; omega) (fun X hA hXl => ?_)
                  refine xw_aload_n 3 dL_stampsAreGood_96 rfl ?_
                  refine xw_iload 4 dL_stampsAreGood_97 rfl ?_
                  refine yh_ald 0 2 (z := t / 30) hA rfl dL_stampsAreGood_99 rfl rfl (by show 4 ≤ 1000; decide) ?_
                  refine xz_icmp_eq (tgt := 105) dL_stampsAreGood_100 (by decide) (by omega) (by omega) (fun c9 => ?_) (fun c9 => ?_)
                  · refine xz_iinc (l2 := [(0, .ref 0), (1, .int (iI f)), (2, .ref v), (3, .ref u), (4, .int (iI 3))]) 4 dL_stampsAreGood_105 rfl (by decide) rfl rfl ?_
                    refine xw_goto (tgt := 47) dL_stampsAreGood_108 (by decide) ?_
                    refine xw_iload 4 dL_stampsAreGood_47 rfl ?_
                    refine xz_iconst dL_stampsAreGood_49 ?_
                    refine xz_icmp_ge (tgt := 111) dL_stampsAreGood_50 (by decide) (by omega) (by omega) (fun c10 => ?_) (fun c10 => ?_)
                    · exact absurd c10 (by omega)
                    · refine xw_aload_n 0 dL_stampsAreGood_53 rfl ?_
                      refine xz_iconst dL_stampsAreGood_54 ?_
                      refine xz_iconst dL_stampsAreGood_55 ?_
                      refine xz_iconst dL_stampsAreGood_56 ?_
                      refine yv_new (N := 2) (L := [.int (iI 0), .int (iI 0)]) hXl (by omega) dL_stampsAreGood_57 rfl (by decide) rfl (Nat.le_of_ble_eq_true rfl) (Nat.le_of_ble_eq_true rfl) ?_
                      refine xw_dup dL_stampsAreGood_59 rfl ?_
                      refine xz_iconst dL_stampsAreGood_60 ?_
                      refine xw_iload_n 1 dL_stampsAreGood_61 rfl ?_
                      refine yv_put (k := 0) (L2 := [.int (iI f), .int (iI 0)]) dL_stampsAreGood_62 rfl (by show _ < 2; decide) (by show 2 ≤ _; decide) rfl ?_
                      refine xw_dup dL_stampsAreGood_63 rfl ?_
                      refine xz_iconst dL_stampsAreGood_64 ?_
                      refine xw_iload 4 dL_stampsAreGood_65 rfl ?_
                      refine yv_put (k := 1) (L2 := [.int (iI f), .int (iI 3)]) dL_stampsAreGood_67 rfl (by show _ < 2; decide) (by show 2 ≤ _; decide) rfl ?_
                      have ev : yPart 3 f = f % 30 := by rw [yPart_3]
                      refine yc_S (M' := mL_stamp) (d := 8) (c := 1) (s := 24) (As := [.ref 0, .int (iI 0), .int (iI 0), .ref (193 + X.length)]) (st := []) (v0 := some (.int (iI (f % 30)))) (G2 := Wd σ (X ++ [(64, [.int (iI f), .int (iI 3)])])) dL_stampsAreGood_68 okL_stamp (Or.inl w_1126) rfl (Nat.le_of_ble_eq_true rfl) (by decide) (by decide) (Nat.le_of_ble_eq_true rfl) (Nat.le_of_ble_eq_true rfl) rfl rfl (a_stampOf (d := 2) (c := 0) (s := 0) (z0 := f) (z1 := 3) (dr := 0) hL (by decide) (by decide) (by decide) (by omega) yv_last (s_stampOf0 hL hf (by decide)) (fun w9 G9 h => ⟨_, Sum.inl.inj h.1, by rw [ev], h.2⟩) (fun E9 G9 h => by cases h.1)) ?_
                      refine yl_g (m2 := n + (1 + 1 + 1 + 1 + 1 + 1 + 1 + 1 + 1 + 1 + 1 + 1 + 1 + 1 + 1 + 1)) (Y := [(64, [.int (iI f), .int (iI 3)])]) hA hXl (by simp only [List.append_assoc, List.cons_append, List.nil_append]) (by show _ + 1 ≤ _; omega) (fun X hA hXl => ?_)
                      refine xw_aload_n 2 dL_stampsAreGood_71 rfl ?_
                      refine xw_iload 4 dL_stampsAreGood_72 rfl ?_
                      refine yh_ald 1 3 (z := f % 30) hA rfl dL_stampsAreGood_74 rfl rfl (by show 4 ≤ 1000; decide) ?_
                      refine xz_icmp_ne (tgt := 103) dL_stampsAreGood_75 (by decide) (by omega) (by omega) (fun c11 => ?_) (fun c11 => ?_)
                      · exact absurd rfl c11
                      · refine xw_aload_n 0 dL_stampsAreGood_78 rfl ?_
                        refine xz_iconst dL_stampsAreGood_79 ?_
                        refine xz_iconst dL_stampsAreGood_80 ?_
                        refine xz_iconst dL_stampsAreGood_81 ?_
                        refine yv_new (N := 2) (L := [.int (iI 0), .int (iI 0)]) hXl (by omega) dL_stampsAreGood_82 rfl (by decide) rfl (Nat.le_of_ble_eq_true rfl) (Nat.le_of_ble_eq_true rfl) ?_
                        refine xw_dup dL_stampsAreGood_84 rfl ?_
                        refine xz_iconst dL_stampsAreGood_85 ?_
                        refine xw_iload_n 1 dL_stampsAreGood_86 rfl ?_
                        refine yv_put (k := 0) (L2 := [.int (iI f), .int (iI 0)]) dL_stampsAreGood_87 rfl (by show _ < 2; decide) (by show 2 ≤ _; decide) rfl ?_
                        refine xw_dup dL_stampsAreGood_88 rfl ?_
                        refine xz_iconst dL_stampsAreGood_89 ?_
                        refine xw_iload 4 dL_stampsAreGood_90 rfl ?_
                        refine yv_put (k := 1) (L2 := [.int (iI f), .int (iI 3)]) dL_stampsAreGood_92 rfl (by show _ < 2; decide) (by show 2 ≤ _; decide) rfl ?_
                        have ev : yPart 3 (yCnt f) = t % 30 := by rw [yPart_3, d4]; omega
                        refine yc_S (M' := mL_stamp) (d := 8) (c := 1) (s := 24) (As := [.ref 0, .int (iI 0), .int (iI 1), .ref (193 + X.length)]) (st := []) (v0 := some (.int (iI (t % 30)))) (G2 := Wd σ (X ++ [(64, [.int (iI f), .int (iI 3)])])) dL_stampsAreGood_93 okL_stamp (Or.inl w_1126) rfl (Nat.le_of_ble_eq_true rfl) (by decide) (by decide) (Nat.le_of_ble_eq_true rfl) (Nat.le_of_ble_eq_true rfl) rfl rfl (a_stampOf (d := 2) (c := 0) (s := 0) (z0 := f) (z1 := 3) (dr := 1) hL (by decide) (by decide) (by decide) (by omega) yv_last (s_stampOf1 hL hf (by decide)) (fun w9 G9 h => ⟨_, Sum.inl.inj h.1, by rw [ev], h.2⟩) (fun E9 G9 h => by cases h.1)) ?_
                        refine yl_g (m2 := n + (1 + 1 + 1 + 1 + 1 + 1 + 1 + 1 + 1 + 1 + 1 + 1 + 1 + 1 + 1 + 1 + 1 + 1)) (Y := [(64, [.int (iI f), .int (iI 3)])]) hA hXl (by simp only [List.append_assoc, List.cons_append, List.nil_append]) (by show _ + 1 ≤ _; omega) (fun X hA hXl => ?_)
                        refine xw_aload_n 3 dL_stampsAreGood_96 rfl ?_
                        refine xw_iload 4 dL_stampsAreGood_97 rfl ?_
                        refine yh_ald 0 3 (z := t % 30) hA rfl dL_stampsAreGood_99 rfl rfl (by show 4 ≤ 1000; decide) ?_
                        refine xz_icmp_eq (tgt := 105) dL_stampsAreGood_100 (by decide) (by omega) (by omega) (fun c12 => ?_) (fun c12 => ?_)
                        · refine xz_iinc (l2 := [(0, .ref 0), (1, .int (iI f)), (2, .ref v), (3, .ref u), (4, .int (iI 4))]) 4 dL_stampsAreGood_105 rfl (by decide) rfl rfl ?_
                          refine xw_goto (tgt := 47) dL_stampsAreGood_108 (by decide) ?_
                          refine xw_iload 4 dL_stampsAreGood_47 rfl ?_
                          refine xz_iconst dL_stampsAreGood_49 ?_
                          refine xz_icmp_ge (tgt := 111) dL_stampsAreGood_50 (by decide) (by omega) (by omega) (fun c13 => ?_) (fun c13 => ?_)
                          · refine xw_aload_n 0 dL_stampsAreGood_111 rfl ?_
                            refine xz_iconst dL_stampsAreGood_112 ?_
                            refine xz_iconst dL_stampsAreGood_113 ?_
                            refine xz_iconst dL_stampsAreGood_114 ?_
                            refine yv_new (N := 4) (L := [.int (iI 0), .int (iI 0), .int (iI 0), .int (iI 0)]) hXl (by omega) dL_stampsAreGood_115 rfl (by decide) rfl (Nat.le_of_ble_eq_true rfl) (Nat.le_of_ble_eq_true rfl) ?_
                            refine xw_dup dL_stampsAreGood_117 rfl ?_
                            refine xz_iconst dL_stampsAreGood_118 ?_
                            refine xw_aload_n 2 dL_stampsAreGood_119 rfl ?_
                            refine xz_iconst dL_stampsAreGood_120 ?_
                            refine yh_ald 1 0 (z := f / 108000) hA.app rfl dL_stampsAreGood_121 rfl rfl (by show 4 ≤ 1000; decide) ?_
                            refine yv_put (k := 0) (L2 := [.int (iI (f / 108000)), .int (iI 0), .int (iI 0), .int (iI 0)]) dL_stampsAreGood_122 rfl (by show _ < 4; decide) (by show 4 ≤ _; decide) rfl ?_
                            refine xw_dup dL_stampsAreGood_123 rfl ?_
                            refine xz_iconst dL_stampsAreGood_124 ?_
                            refine xw_aload_n 2 dL_stampsAreGood_125 rfl ?_
                            refine xz_iconst dL_stampsAreGood_126 ?_
                            refine yh_ald 1 1 (z := f / 1800 % 60) hA.app rfl dL_stampsAreGood_127 rfl rfl (by show 4 ≤ 1000; decide) ?_
                            refine yv_put (k := 1) (L2 := [.int (iI (f / 108000)), .int (iI (f / 1800 % 60)), .int (iI 0), .int (iI 0)]) dL_stampsAreGood_128 rfl (by show _ < 4; decide) (by show 4 ≤ _; decide) rfl ?_
                            refine xw_dup dL_stampsAreGood_129 rfl ?_
                            refine xz_iconst dL_stampsAreGood_130 ?_
                            refine xw_aload_n 2 dL_stampsAreGood_131 rfl ?_
                            refine xz_iconst dL_stampsAreGood_132 ?_
                            refine yh_ald 1 2 (z := f / 30 % 60) hA.app rfl dL_stampsAreGood_133 rfl rfl (by show 4 ≤ 1000; decide) ?_
                            refine yv_put (k := 2) (L2 := [.int (iI (f / 108000)), .int (iI (f / 1800 % 60)), .int (iI (f / 30 % 60)), .int (iI 0)]) dL_stampsAreGood_134 rfl (by show _ < 4; decide) (by show 4 ≤ _; decide) rfl ?_
                            refine xw_dup dL_stampsAreGood_135 rfl ?_
                            refine xz_iconst dL_stampsAreGood_136 ?_
                            refine xw_aload_n 2 dL_stampsAreGood_137 rfl ?_
                            refine xz_iconst dL_stampsAreGood_138 ?_
                            refine yh_ald 1 3 (z := f % 30) hA.app rfl dL_stampsAreGood_139 rfl rfl (by show 4 ≤ 1000; decide) ?_
                            refine yv_put (k := 3) (L2 := [.int (iI (f / 108000)), .int (iI (f / 1800 % 60)), .int (iI (f / 30 % 60)), .int (iI (f % 30))]) dL_stampsAreGood_140 rfl (by show _ < 4; decide) (by show 4 ≤ _; decide) rfl ?_
                            have ev : (60 * (f / 108000) + (f / 1800 % 60)) * 1800 + (f / 30 % 60) * 30 + (f % 30) = f := y_plain hf.1
                            refine yc_S (M' := mL_stamp) (d := 8) (c := 1) (s := 24) (As := [.ref 0, .int (iI 1), .int (iI 0), .ref (193 + X.length)]) (st := []) (v0 := some (.int (iI (f)))) (G2 := Wd σ (X ++ [(64, [.int (iI (f / 108000)), .int (iI (f / 1800 % 60)), .int (iI (f / 30 % 60)), .int (iI (f % 30))])])) dL_stampsAreGood_141 okL_stamp (Or.inl w_1126) rfl (Nat.le_of_ble_eq_true rfl) (by decide) (by decide) (Nat.le_of_ble_eq_true rfl) (Nat.le_of_ble_eq_true rfl) rfl rfl (a_frameOf (d := 1) (c := 0) (s := 0) (z0 := f / 108000) (z1 := f / 1800 % 60) (z2 := f / 30 % 60) (z3 := f % 30) (dr := 0) hL (by decide) (by decide) (by decide) (by omega) yv_last (s_frameOf0 hL (by omega) (by omega) (by omega) (by omega) (by omega)) (fun w9 G9 h => ⟨_, Sum.inl.inj h.1, by rw [ev], h.2⟩) (fun E9 G9 h => by cases h.1)) ?_
                            refine yl_g (m2 := n + (1 + 1 + 1 + 1 + 1 + 1 + 1 + 1 + 1 + 1 + 1 + 1 + 1 + 1 + 1 + 1 + 1 + 1 + 1 + 1)) (Y := [(64, [.int (iI (f / 108000)), .int (iI (f / 1800 % 60)), .int (iI (f / 30 % 60)), .int (iI (f % 30))])]) hA hXl (by simp only [List.append_assoc, List.cons_append, List.nil_append]) (by show _ + 1 ≤ _; omega) (fun X hA hXl => ?_)
                            refine xw_iload_n 1 dL_stampsAreGood_144 rfl ?_
                            refine xz_icmp_ne (tgt := 189) dL_stampsAreGood_145 (by decide) (by omega) (by omega) (fun c14 => ?_) (fun c14 => ?_)
                            · exact absurd rfl c14
                            · refine xw_aload_n 0 dL_stampsAreGood_148 rfl ?_
                              refine xz_iconst dL_stampsAreGood_149 ?_
                              refine xz_iconst dL_stampsAreGood_150 ?_
                              refine xz_iconst dL_stampsAreGood_151 ?_
                              refine yv_new (N := 4) (L := [.int (iI 0), .int (iI 0), .int (iI 0), .int (iI 0)]) hXl (by omega) dL_stampsAreGood_152 rfl (by decide) rfl (Nat.le_of_ble_eq_true rfl) (Nat.le_of_ble_eq_true rfl) ?_
                              refine xw_dup dL_stampsAreGood_154 rfl ?_
                              refine xz_iconst dL_stampsAreGood_155 ?_
                              refine xw_aload_n 3 dL_stampsAreGood_156 rfl ?_
                              refine xz_iconst dL_stampsAreGood_157 ?_
                              refine yh_ald 0 0 (z := m / 60) hA.app rfl dL_stampsAreGood_158 rfl rfl (by show 4 ≤ 1000; decide) ?_
                              refine yv_put (k := 0) (L2 := [.int (iI (m / 60)), .int (iI 0), .int (iI 0), .int (iI 0)]) dL_stampsAreGood_159 rfl (by show _ < 4; decide) (by show 4 ≤ _; decide) rfl ?_
                              refine xw_dup dL_stampsAreGood_160 rfl ?_
                              refine xz_iconst dL_stampsAreGood_161 ?_
                              refine xw_aload_n 3 dL_stampsAreGood_162 rfl ?_
                              refine xz_iconst dL_stampsAreGood_163 ?_
                              refine yh_ald 0 1 (z := m % 60) hA.app rfl dL_stampsAreGood_164 rfl rfl (by show 4 ≤ 1000; decide) ?_
                              refine yv_put (k := 1) (L2 := [.int (iI (m / 60)), .int (iI (m % 60)), .int (iI 0), .int (iI 0)]) dL_stampsAreGood_165 rfl (by show _ < 4; decide) (by show 4 ≤ _; decide) rfl ?_
                              refine xw_dup dL_stampsAreGood_166 rfl ?_
                              refine xz_iconst dL_stampsAreGood_167 ?_
                              refine xw_aload_n 3 dL_stampsAreGood_168 rfl ?_
                              refine xz_iconst dL_stampsAreGood_169 ?_
                              refine yh_ald 0 2 (z := t / 30) hA.app rfl dL_stampsAreGood_170 rfl rfl (by show 4 ≤ 1000; decide) ?_
                              refine yv_put (k := 2) (L2 := [.int (iI (m / 60)), .int (iI (m % 60)), .int (iI (t / 30)), .int (iI 0)]) dL_stampsAreGood_171 rfl (by show _ < 4; decide) (by show 4 ≤ _; decide) rfl ?_
                              refine xw_dup dL_stampsAreGood_172 rfl ?_
                              refine xz_iconst dL_stampsAreGood_173 ?_
                              refine xw_aload_n 3 dL_stampsAreGood_174 rfl ?_
                              refine xz_iconst dL_stampsAreGood_175 ?_
                              refine yh_ald 0 3 (z := t % 30) hA.app rfl dL_stampsAreGood_176 rfl rfl (by show 4 ≤ 1000; decide) ?_
                              refine yv_put (k := 3) (L2 := [.int (iI (m / 60)), .int (iI (m % 60)), .int (iI (t / 30)), .int (iI (t % 30))]) dL_stampsAreGood_177 rfl (by show _ < 4; decide) (by show 4 ≤ _; decide) rfl ?_
                              have ev : (60 * (m / 60) + (m % 60)) * 1800 + (t / 30) * 30 + (t % 30) - 2 * ((60 * (m / 60) + (m % 60)) - (60 * (m / 60) + (m % 60)) / 10) = f := by omega
                              refine yc_S (M' := mL_stamp) (d := 8) (c := 1) (s := 24) (As := [.ref 0, .int (iI 1), .int (iI 1), .ref (193 + X.length)]) (st := []) (v0 := some (.int (iI (f)))) (G2 := Wd σ (X ++ [(64, [.int (iI (m / 60)), .int (iI (m % 60)), .int (iI (t / 30)), .int (iI (t % 30))])])) dL_stampsAreGood_178 okL_stamp (Or.inl w_1126) rfl (Nat.le_of_ble_eq_true rfl) (by decide) (by decide) (Nat.le_of_ble_eq_true rfl) (Nat.le_of_ble_eq_true rfl) rfl rfl (a_frameOf (d := 1) (c := 0) (s := 0) (z0 := m / 60) (z1 := m % 60) (z2 := t / 30) (z3 := t % 30) (dr := 1) hL (by decide) (by decide) (by decide) (by omega) yv_last (s_frameOf1 hL (by omega) (by omega) (by omega) (by omega) (by omega) (by omega) (by omega)) (fun w9 G9 h => ⟨_, Sum.inl.inj h.1, by rw [ev], h.2⟩) (fun E9 G9 h => by cases h.1)) ?_
                              refine yl_g (m2 := n + (1 + 1 + 1 + 1 + 1 + 1 + 1 + 1 + 1 + 1 + 1 + 1 + 1 + 1 + 1 + 1 + 1 + 1 + 1 + 1 + 1 + 1)) (Y := [(64, [.int (iI (m / 60)), .int (iI (m % 60)), .int (iI (t / 30)), .int (iI (t % 30))])]) hA hXl (by simp only [List.append_assoc, List.cons_append, List.nil_append]) (by show _ + 1 ≤ _; omega) (fun X hA hXl => ?_)
                              refine xw_iload_n 1 dL_stampsAreGood_181 rfl ?_
                              refine xz_icmp_ne (tgt := 189) dL_stampsAreGood_182 (by decide) (by omega) (by omega) (fun c15 => ?_) (fun c15 => ?_)
                              · exact absurd rfl c15
                              · refine xz_iconst dL_stampsAreGood_185 ?_
                                refine xw_goto (tgt := 190) dL_stampsAreGood_186 (by decide) ?_
                                exact xz_zret dL_stampsAreGood_190 rfl (Or.inr rfl) (Nat.le_of_ble_eq_true rfl) (Nat.le_of_ble_eq_true rfl) ⟨rfl, _, rfl, hA.tail.tail, by omega⟩
                          · exact absurd c13 (by omega)
                        · exact absurd rfl c12
                  · exact absurd rfl c9
            · exact absurd rfl c6
      · exact absurd rfl c3)
end Y36

/-- an array of ints by a function of its places -/
def iaL (n : Nat) (f : Int → Int) : List Value := (List.range n).map (fun (j : Nat) => Value.int (iI (f (j : Int))))
def raL (n : Nat) (r : Int → Nat) : List Value := (List.range n).map (fun (j : Nat) => Value.ref (r (j : Int)))
def fup (f : Int → Int) (z x : Int) : Int → Int := fun j => if j = z then x else f j
theorem fup_s {f : Int → Int} {z x : Int} : fup f z x z = x := if_pos rfl
theorem fup_n {f : Int → Int} {z x j : Int} (h : j ≠ z) : fup f z x j = f j := if_neg h
theorem iaL_len (n : Nat) (f : Int → Int) : (iaL n f).length = n := by simp [iaL]
theorem raL_len (n : Nat) (r : Int → Nat) : (raL n r).length = n := by simp [raL]
theorem iaL_get {n : Nat} {f : Int → Int} {z : Int} (h : 0 ≤ z ∧ z < n) : (iaL n f)[z.toNat]? = some (.int (iI (f z))) := by
  have h1 : z.toNat < n := by omega
  have h2 : ((z.toNat : Nat) : Int) = z := Int.toNat_of_nonneg h.1
  simp [iaL, List.getElem?_map, List.getElem?_range h1, h2]
theorem raL_get {n : Nat} {r : Int → Nat} {z : Int} (h : 0 ≤ z ∧ z < n) : (raL n r)[z.toNat]? = some (.ref (r z)) := by
  have h1 : z.toNat < n := by omega
  have h2 : ((z.toNat : Nat) : Int) = z := Int.toNat_of_nonneg h.1
  simp [raL, List.getElem?_map, List.getElem?_range h1, h2]
theorem iaL_set {n : Nat} {f : Int → Int} {z x : Int} (h : 0 ≤ z ∧ z < n) : (iaL n f).set z.toNat (.int (iI x)) = iaL n (fup f z x) := by
  refine List.ext_getElem? fun j => ?_
  by_cases hj : j < n
  · by_cases e : j = z.toNat
    · subst e
      rw [List.getElem?_set_self (by rw [iaL_len]; exact hj)]
      have h2 := iaL_get (n := n) (f := fup f z x) h
      rw [fup_s] at h2
      exact h2.symm
    · rw [List.getElem?_set_ne (Ne.symm e)]
      have e2 : ((j : Nat) : Int) ≠ z := by omega
      simp [iaL, List.getElem?_map, List.getElem?_range hj, fup_n e2]
  · rw [List.getElem?_eq_none (by rw [List.length_set, iaL_len]; omega), List.getElem?_eq_none (by rw [iaL_len]; omega)]
theorem iaL_cong {n : Nat} {f g : Int → Int} (h : ∀ j : Int, 0 ≤ j → j < n → f j = g j) : iaL n f = iaL n g := by
  unfold iaL
  refine List.map_congr_left fun j hj => ?_
  rw [h j (by omega) (by have := List.mem_range.mp hj; omega)]
theorem raL_set {n : Nat} {r : Int → Nat} {z : Int} {x : Nat} (h : 0 ≤ z ∧ z < n) : (raL n r).set z.toNat (.ref x) = raL n (fun j => if j = z then x else r j) := by
  refine List.ext_getElem? fun j => ?_
  by_cases hj : j < n
  · by_cases e : j = z.toNat
    · subst e
      rw [List.getElem?_set_self (by rw [raL_len]; exact hj)]
      have h2 := raL_get (n := n) (r := fun j => if j = z then x else r j) h
      rw [if_pos rfl] at h2
      exact h2.symm
    · rw [List.getElem?_set_ne (Ne.symm e)]
      have e2 : ((j : Nat) : Int) ≠ z := by omega
      simp [raL, List.getElem?_map, List.getElem?_range hj, e2]
  · rw [List.getElem?_eq_none (by rw [List.length_set, raL_len]; omega), List.getElem?_eq_none (by rw [raL_len]; omega)]
theorem iaL_new (n : Nat) : List.replicate n (Value.int (iI 0)) = iaL n (fun _ => 0) := by
  refine List.ext_getElem? fun j => ?_
  by_cases hj : j < n
  · rw [List.getElem?_replicate, if_pos hj]
    simp [iaL, List.getElem?_map, List.getElem?_range hj]
  · rw [List.getElem?_eq_none (by rw [List.length_replicate]; omega), List.getElem?_eq_none (by rw [iaL_len]; omega)]
def cmpI (a b : Int) : Int := if a < b then -1 else if a = b then 0 else 1
theorem lg_cmpI {a b : Int} (ha : -9223372036854775808 ≤ a ∧ a < 9223372036854775808) (hb : -9223372036854775808 ≤ b ∧ b < 9223372036854775808) : lg_cmp (lI a) (lI b) = iI (cmpI a b) := by
  unfold lg_cmp cmpI
  have h1 : (lI a > lI b) ↔ b < a := lI_lt hb ha
  have h2 := lI_eq ha hb
  by_cases c1 : b < a
  · rw [if_pos (h1.mpr c1), if_neg (by omega), if_neg (by omega)]; rfl
  · rw [if_neg (fun q => c1 (h1.mp q))]
    by_cases c2 : a = b
    · rw [if_pos (h2.mpr c2), if_neg (by omega), if_pos c2]; rfl
    · rw [if_neg (fun q => c2 (h2.mp q)), if_pos (by omega)]; rfl

theorem xlenO {G : List xOb} {i : Nat} {q : xOb} (h : G[i]? = some q) : i < G.length := (List.getElem?_eq_some_iff.mp h).1
theorem xnarZ {z : Int} (h : z = 0 ∨ z = 1) : narrow .boolean (.int (iI z)) = .int (iI z) := by rcases h with rfl | rfl <;> decide
theorem xfitZ {z : Int} (h : z = 0 ∨ z = 1) : fits .boolean (.int (iI z)) = true := by rcases h with rfl | rfl <;> decide
section XZ
variable {L : Launch} {O : xWd} {M M' : xMd} {R rm : Room} {K K' : xOc → List xOb → Prop} {pc : Nat} {ls : List (Nat × Value)} {st : List Value} {G : List xOb} {cs ns : Nat}
theorem xz_iconst {n : Int} (hd : decode M.2.1 pc = .ok (.iconst n, 1)) (k : xWP L O M R K (pc + 1) ls (.int (iI n) :: st) G cs ns) : xWP L O M R K pc ls (st) G cs ns := xw_iconst hd rfl k
theorem xz_bipush {n : Int} (hd : decode M.2.1 pc = .ok (.bipush n, 2)) (hn : -128 ≤ n ∧ n < 128) (k : xWP L O M R K (pc + 2) ls (.int (iI n) :: st) G cs ns) : xWP L O M R K pc ls (st) G cs ns := xw_bipush hd (iI_lit8 hn) k
theorem xz_sipush {n : Int} (hd : decode M.2.1 pc = .ok (.sipush n, 3)) (hn : -32768 ≤ n ∧ n < 32768) (k : xWP L O M R K (pc + 3) ls (.int (iI n) :: st) G cs ns) : xWP L O M R K pc ls (st) G cs ns := xw_sipush hd (iI_lit16 hn) k
theorem xz_ldc {i : Nat} {v : Int32} {z : Int} (hd : decode M.2.1 pc = .ok (.ldc i, 2)) (hw : Cond.constant M.1.cls i v ∈ xTG) (hv : v = iI z) (k : xWP L O M R K (pc + 2) ls (.int (iI z) :: st) G cs ns) : xWP L O M R K pc ls (st) G cs ns := by subst hv; exact xw_ldc hd hw k
theorem xz_ldcw {i : Nat} {v : Int32} {z : Int} (hd : decode M.2.1 pc = .ok (.ldc_w i, 3)) (hw : Cond.constant M.1.cls i v ∈ xTG) (hv : v = iI z) (k : xWP L O M R K (pc + 3) ls (.int (iI z) :: st) G cs ns) : xWP L O M R K pc ls (st) G cs ns := by subst hv; exact xw_ldcw hd hw k
theorem xz_ldc2 {i : Nat} {v : Int64} {z : Int} (hd : decode M.2.1 pc = .ok (.ldc2_w i, 3)) (hw : Cond.constantLong M.1.cls i v ∈ xTG) (hv : v = lI z) (k : xWP L O M R K (pc + 3) ls (.long (lI z) :: st) G cs ns) : xWP L O M R K pc ls (st) G cs ns := by subst hv; exact xw_ldc2 hd hw k
theorem xz_lconst {n : Fin 2} {z : Int} (hd : decode M.2.1 pc = .ok (.lconst n, 1)) (hv : Int64.ofNat (n : Nat) = lI z) (k : xWP L O M R K (pc + 1) ls (.long (lI z) :: st) G cs ns) : xWP L O M R K pc ls (st) G cs ns := xw_lconst hd hv k
theorem xz_iinc {z n : Int} {i : Nat} {l2 : List (Nat × Value)} (k0 : Nat) (hd : decode M.2.1 pc = .ok (.iinc i n, 3)) (hk : ls[k0]? = some (i, .int (iI z))) (hn : i < M.2.2.1) (hok : xok1 i ls = true) (hu : xup i (.int (iI (z + n))) ls = l2) (k : xWP L O M R K (pc + 3) l2 st G cs ns) : xWP L O M R K pc ls st G cs ns := xw_iinc k0 hd hk (iI_add z n) hn hok hu k
theorem xz_iadd {a b : Int} (hd : decode M.2.1 pc = .ok (.iadd, 1)) (k : xWP L O M R K (pc + 1) ls (.int (iI (a + b)) :: st) G cs ns) : xWP L O M R K pc ls (.int (iI b) :: .int (iI a) :: st) G cs ns := xw_iadd hd (by rw [iI_add]; exact k)
theorem xz_isub {a b : Int} (hd : decode M.2.1 pc = .ok (.isub, 1)) (k : xWP L O M R K (pc + 1) ls (.int (iI (a - b)) :: st) G cs ns) : xWP L O M R K pc ls (.int (iI b) :: .int (iI a) :: st) G cs ns := xw_isub hd (by rw [iI_sub]; exact k)
theorem xz_imul {a b : Int} (hd : decode M.2.1 pc = .ok (.imul, 1)) (k : xWP L O M R K (pc + 1) ls (.int (iI (a * b)) :: st) G cs ns) : xWP L O M R K pc ls (.int (iI b) :: .int (iI a) :: st) G cs ns := xw_imul hd (by rw [iI_mul]; exact k)
theorem xz_ladd {a b : Int} (hd : decode M.2.1 pc = .ok (.ladd, 1)) (k : xWP L O M R K (pc + 1) ls (.long (lI (a + b)) :: st) G cs ns) : xWP L O M R K pc ls (.long (lI b) :: .long (lI a) :: st) G cs ns := xw_ladd hd (by rw [lI_add]; exact k)
theorem xz_lsub {a b : Int} (hd : decode M.2.1 pc = .ok (.lsub, 1)) (k : xWP L O M R K (pc + 1) ls (.long (lI (a - b)) :: st) G cs ns) : xWP L O M R K pc ls (.long (lI b) :: .long (lI a) :: st) G cs ns := xw_lsub hd (by rw [lI_sub]; exact k)
theorem xz_lmul {a b : Int} (hd : decode M.2.1 pc = .ok (.lmul, 1)) (k : xWP L O M R K (pc + 1) ls (.long (lI (a * b)) :: st) G cs ns) : xWP L O M R K pc ls (.long (lI b) :: .long (lI a) :: st) G cs ns := xw_lmul hd (by rw [lI_mul]; exact k)
theorem xz_ineg {a : Int} (hd : decode M.2.1 pc = .ok (.ineg, 1)) (k : xWP L O M R K (pc + 1) ls (.int (iI (-a)) :: st) G cs ns) : xWP L O M R K pc ls (.int (iI a) :: st) G cs ns := xw_ineg hd (by rw [iI_neg]; exact k)
theorem xz_idiv {a b : Int} (hd : decode M.2.1 pc = .ok (.idiv, 1)) (ha : 0 ≤ a ∧ a < 2147483648) (hb : 0 < b ∧ b < 2147483648) (k : xWP L O M R K (pc + 1) ls (.int (iI (a / b)) :: st) G cs ns) : xWP L O M R K pc ls (.int (iI b) :: .int (iI a) :: st) G cs ns := xw_idiv hd (fun q => by have := (iI_eq (a := b) (b := 0) ⟨by omega, by omega⟩ ⟨by omega, by omega⟩).mp q; omega) (by rw [iI_div ha hb]; exact k)
theorem xz_irem {a b : Int} (hd : decode M.2.1 pc = .ok (.irem, 1)) (ha : 0 ≤ a ∧ a < 2147483648) (hb : 0 < b ∧ b < 2147483648) (k : xWP L O M R K (pc + 1) ls (.int (iI (a % b)) :: st) G cs ns) : xWP L O M R K pc ls (.int (iI b) :: .int (iI a) :: st) G cs ns := xw_irem hd (fun q => by have := (iI_eq (a := b) (b := 0) ⟨by omega, by omega⟩ ⟨by omega, by omega⟩).mp q; omega) (by rw [iI_rem ha hb]; exact k)
theorem xz_ldiv {a b : Int} (hd : decode M.2.1 pc = .ok (.ldiv, 1)) (ha : 0 ≤ a ∧ a < 9223372036854775808) (hb : 0 < b ∧ b < 9223372036854775808) (k : xWP L O M R K (pc + 1) ls (.long (lI (a / b)) :: st) G cs ns) : xWP L O M R K pc ls (.long (lI b) :: .long (lI a) :: st) G cs ns := xw_ldiv hd (fun q => by have := (lI_eq (a := b) (b := 0) ⟨by omega, by omega⟩ ⟨by omega, by omega⟩).mp q; omega) (by rw [lI_div ha hb]; exact k)
theorem xz_i2l {a : Int} (hd : decode M.2.1 pc = .ok (.i2l, 1)) (ha : (-2147483648 ≤ a ∧ a < 2147483648)) (k : xWP L O M R K (pc + 1) ls (.long (lI a) :: st) G cs ns) : xWP L O M R K pc ls (.int (iI a) :: st) G cs ns := xw_i2l hd (by rw [iI_long ha]; exact k)
theorem xz_l2i {a : Int} (hd : decode M.2.1 pc = .ok (.l2i, 1)) (ha : (-2147483648 ≤ a ∧ a < 2147483648)) (k : xWP L O M R K (pc + 1) ls (.int (iI a) :: st) G cs ns) : xWP L O M R K pc ls (.long (lI a) :: st) G cs ns := xw_l2i hd (by rw [lI_int ha]; exact k)
theorem xz_lcmp {a b : Int} (hd : decode M.2.1 pc = .ok (.lcmp, 1)) (ha : (-9223372036854775808 ≤ a ∧ a < 9223372036854775808)) (hb : (-9223372036854775808 ≤ b ∧ b < 9223372036854775808)) (k : xWP L O M R K (pc + 1) ls (.int (iI (cmpI a b)) :: st) G cs ns) : xWP L O M R K pc ls (.long (lI b) :: .long (lI a) :: st) G cs ns := xw_lcmp hd (by rw [lg_cmpI ha hb]; exact k)
theorem xz_if_eq {z off : Int} {tgt : Nat} (hd : decode M.2.1 pc = .ok (.ifCond .eq off, 3)) (ht : (pc : Int) + off = (tgt : Int)) (hz : (-2147483648 ≤ z ∧ z < 2147483648)) (kt : z = 0 → xWP L O M R K tgt ls st G cs ns) (kf : ¬ z = 0 → xWP L O M R K (pc + 3) ls st G cs ns) : xWP L O M R K pc ls (.int (iI z) :: st) G cs ns := by
  have z9 := (by decide : (-2147483648 : Int) ≤ 0 ∧ (0 : Int) < 2147483648)
  exact xw_if_eq hd ht (fun q => kt ((iI_eq hz z9).mp q)) (fun q => kf (fun w => q ((iI_eq hz z9).mpr w)))
theorem xz_icmp_eq {a b off : Int} {tgt : Nat} (hd : decode M.2.1 pc = .ok (.if_icmp .eq off, 3)) (ht : (pc : Int) + off = (tgt : Int)) (ha : (-2147483648 ≤ a ∧ a < 2147483648)) (hb : (-2147483648 ≤ b ∧ b < 2147483648)) (kt : a = b → xWP L O M R K tgt ls st G cs ns) (kf : ¬ a = b → xWP L O M R K (pc + 3) ls st G cs ns) : xWP L O M R K pc ls (.int (iI b) :: .int (iI a) :: st) G cs ns := by
  exact xw_icmp_eq hd ht (fun q => kt ((iI_eq ha hb).mp q)) (fun q => kf (fun w => q ((iI_eq ha hb).mpr w)))
theorem xz_if_ne {z off : Int} {tgt : Nat} (hd : decode M.2.1 pc = .ok (.ifCond .ne off, 3)) (ht : (pc : Int) + off = (tgt : Int)) (hz : (-2147483648 ≤ z ∧ z < 2147483648)) (kt : ¬ z = 0 → xWP L O M R K tgt ls st G cs ns) (kf : z = 0 → xWP L O M R K (pc + 3) ls st G cs ns) : xWP L O M R K pc ls (.int (iI z) :: st) G cs ns := by
  have z9 := (by decide : (-2147483648 : Int) ≤ 0 ∧ (0 : Int) < 2147483648)
  exact xw_if_ne hd ht (fun q => kt (fun w => q ((iI_eq hz z9).mpr w))) (fun q => kf ((iI_eq hz z9).mp q))
theorem xz_icmp_ne {a b off : Int} {tgt : Nat} (hd : decode M.2.1 pc = .ok (.if_icmp .ne off, 3)) (ht : (pc : Int) + off = (tgt : Int)) (ha : (-2147483648 ≤ a ∧ a < 2147483648)) (hb : (-2147483648 ≤ b ∧ b < 2147483648)) (kt : ¬ a = b → xWP L O M R K tgt ls st G cs ns) (kf : a = b → xWP L O M R K (pc + 3) ls st G cs ns) : xWP L O M R K pc ls (.int (iI b) :: .int (iI a) :: st) G cs ns := by
  exact xw_icmp_ne hd ht (fun q => kt (fun w => q ((iI_eq ha hb).mpr w))) (fun q => kf ((iI_eq ha hb).mp q))
theorem xz_if_lt {z off : Int} {tgt : Nat} (hd : decode M.2.1 pc = .ok (.ifCond .lt off, 3)) (ht : (pc : Int) + off = (tgt : Int)) (hz : (-2147483648 ≤ z ∧ z < 2147483648)) (kt : z < 0 → xWP L O M R K tgt ls st G cs ns) (kf : 0 ≤ z → xWP L O M R K (pc + 3) ls st G cs ns) : xWP L O M R K pc ls (.int (iI z) :: st) G cs ns := by
  have z9 := (by decide : (-2147483648 : Int) ≤ 0 ∧ (0 : Int) < 2147483648)
  exact xw_if_lt hd ht (fun q => kt ((iI_lt hz z9).mp q)) (fun q => kf (Int.not_lt.mp (fun w => q ((iI_lt hz z9).mpr w))))
theorem xz_icmp_lt {a b off : Int} {tgt : Nat} (hd : decode M.2.1 pc = .ok (.if_icmp .lt off, 3)) (ht : (pc : Int) + off = (tgt : Int)) (ha : (-2147483648 ≤ a ∧ a < 2147483648)) (hb : (-2147483648 ≤ b ∧ b < 2147483648)) (kt : a < b → xWP L O M R K tgt ls st G cs ns) (kf : b ≤ a → xWP L O M R K (pc + 3) ls st G cs ns) : xWP L O M R K pc ls (.int (iI b) :: .int (iI a) :: st) G cs ns := by
  exact xw_icmp_lt hd ht (fun q => kt ((iI_lt ha hb).mp q)) (fun q => kf (Int.not_lt.mp (fun w => q ((iI_lt ha hb).mpr w))))
theorem xz_if_ge {z off : Int} {tgt : Nat} (hd : decode M.2.1 pc = .ok (.ifCond .ge off, 3)) (ht : (pc : Int) + off = (tgt : Int)) (hz : (-2147483648 ≤ z ∧ z < 2147483648)) (kt : 0 ≤ z → xWP L O M R K tgt ls st G cs ns) (kf : z < 0 → xWP L O M R K (pc + 3) ls st G cs ns) : xWP L O M R K pc ls (.int (iI z) :: st) G cs ns := by
  have z9 := (by decide : (-2147483648 : Int) ≤ 0 ∧ (0 : Int) < 2147483648)
  exact xw_if_ge hd ht (fun q => kt ((iI_le z9 hz).mp q)) (fun q => kf (Int.not_le.mp (fun w => q ((iI_le z9 hz).mpr w))))
theorem xz_icmp_ge {a b off : Int} {tgt : Nat} (hd : decode M.2.1 pc = .ok (.if_icmp .ge off, 3)) (ht : (pc : Int) + off = (tgt : Int)) (ha : (-2147483648 ≤ a ∧ a < 2147483648)) (hb : (-2147483648 ≤ b ∧ b < 2147483648)) (kt : b ≤ a → xWP L O M R K tgt ls st G cs ns) (kf : a < b → xWP L O M R K (pc + 3) ls st G cs ns) : xWP L O M R K pc ls (.int (iI b) :: .int (iI a) :: st) G cs ns := by
  exact xw_icmp_ge hd ht (fun q => kt ((iI_le hb ha).mp q)) (fun q => kf (Int.not_le.mp (fun w => q ((iI_le hb ha).mpr w))))
theorem xz_if_gt {z off : Int} {tgt : Nat} (hd : decode M.2.1 pc = .ok (.ifCond .gt off, 3)) (ht : (pc : Int) + off = (tgt : Int)) (hz : (-2147483648 ≤ z ∧ z < 2147483648)) (kt : 0 < z → xWP L O M R K tgt ls st G cs ns) (kf : z ≤ 0 → xWP L O M R K (pc + 3) ls st G cs ns) : xWP L O M R K pc ls (.int (iI z) :: st) G cs ns := by
  have z9 := (by decide : (-2147483648 : Int) ≤ 0 ∧ (0 : Int) < 2147483648)
  exact xw_if_gt hd ht (fun q => kt ((iI_lt z9 hz).mp q)) (fun q => kf (Int.not_lt.mp (fun w => q ((iI_lt z9 hz).mpr w))))
theorem xz_icmp_gt {a b off : Int} {tgt : Nat} (hd : decode M.2.1 pc = .ok (.if_icmp .gt off, 3)) (ht : (pc : Int) + off = (tgt : Int)) (ha : (-2147483648 ≤ a ∧ a < 2147483648)) (hb : (-2147483648 ≤ b ∧ b < 2147483648)) (kt : b < a → xWP L O M R K tgt ls st G cs ns) (kf : a ≤ b → xWP L O M R K (pc + 3) ls st G cs ns) : xWP L O M R K pc ls (.int (iI b) :: .int (iI a) :: st) G cs ns := by
  exact xw_icmp_gt hd ht (fun q => kt ((iI_lt hb ha).mp q)) (fun q => kf (Int.not_lt.mp (fun w => q ((iI_lt hb ha).mpr w))))
theorem xz_if_le {z off : Int} {tgt : Nat} (hd : decode M.2.1 pc = .ok (.ifCond .le off, 3)) (ht : (pc : Int) + off = (tgt : Int)) (hz : (-2147483648 ≤ z ∧ z < 2147483648)) (kt : z ≤ 0 → xWP L O M R K tgt ls st G cs ns) (kf : 0 < z → xWP L O M R K (pc + 3) ls st G cs ns) : xWP L O M R K pc ls (.int (iI z) :: st) G cs ns := by
  have z9 := (by decide : (-2147483648 : Int) ≤ 0 ∧ (0 : Int) < 2147483648)
  exact xw_if_le hd ht (fun q => kt ((iI_le hz z9).mp q)) (fun q => kf (Int.not_le.mp (fun w => q ((iI_le hz z9).mpr w))))
theorem xz_icmp_le {a b off : Int} {tgt : Nat} (hd : decode M.2.1 pc = .ok (.if_icmp .le off, 3)) (ht : (pc : Int) + off = (tgt : Int)) (ha : (-2147483648 ≤ a ∧ a < 2147483648)) (hb : (-2147483648 ≤ b ∧ b < 2147483648)) (kt : a ≤ b → xWP L O M R K tgt ls st G cs ns) (kf : b < a → xWP L O M R K (pc + 3) ls st G cs ns) : xWP L O M R K pc ls (.int (iI b) :: .int (iI a) :: st) G cs ns := by
  exact xw_icmp_le hd ht (fun q => kt ((iI_le ha hb).mp q)) (fun q => kf (Int.not_le.mp (fun w => q ((iI_le ha hb).mpr w))))
theorem xz_tabIn {dflt lo hi z off : Int} {offs : Array Int} {len : Nat} {tgt : Nat} (hd : decode M.2.1 pc = .ok (.tableswitch dflt lo hi offs, len)) (hz : -2147483648 ≤ z ∧ z < 2147483648) (h1 : lo ≤ z ∧ z ≤ hi) (ho : offs[(z - lo).toNat]? = some off) (ht : (pc : Int) + off = (tgt : Int)) (k : xWP L O M R K tgt ls st G cs ns) : xWP L O M R K pc ls (.int (iI z) :: st) G cs ns :=
  xw_tabIn hd (by rw [iI_toInt hz]; omega) (by rw [iI_toInt hz]; omega) (by rw [iI_toInt hz]; exact ho) ht k
theorem xz_tabOut {dflt lo hi z : Int} {offs : Array Int} {len : Nat} {tgt : Nat} (hd : decode M.2.1 pc = .ok (.tableswitch dflt lo hi offs, len)) (hz : -2147483648 ≤ z ∧ z < 2147483648) (h : z < lo ∨ hi < z) (ht : (pc : Int) + dflt = (tgt : Int)) (k : xWP L O M R K tgt ls st G cs ns) : xWP L O M R K pc ls (.int (iI z) :: st) G cs ns :=
  xw_tabOut hd (by rw [iI_toInt hz]; exact h) ht k
theorem xz_lookup {dflt z off : Int} {ps : Array (Int × Int)} {len : Nat} {tgt : Nat} (hd : decode M.2.1 pc = .ok (.lookupswitch dflt ps, len)) (hz : -2147483648 ≤ z ∧ z < 2147483648) (hp : (ps.toList.zip (ps.toList.drop 1)).all (fun (a, next) => a.1 < next.1) = true) (ho : Op.lookupswitch.offset ps.toList dflt z = off) (ht : (pc : Int) + off = (tgt : Int)) (k : xWP L O M R K tgt ls st G cs ns) : xWP L O M R K pc ls (.int (iI z) :: st) G cs ns :=
  xw_lookup hd hp (by rw [iI_toInt hz]; exact ho) ht k
/-! arrays -/
theorem xz_iald {i n : Nat} {f : Int → Int} {z : Int} (hi : i < xBig) (hd : decode M.2.1 pc = .ok (.iaload, 1)) (hg : G[i]? = some (64, iaL n f)) (hz : 0 ≤ z ∧ z < n) (hb : n < 2147483648) (k : xWP L O M R K (pc + 1) ls (.int (iI (f z)) :: st) G cs ns) : xWP L O M R K pc ls (.int (iI z) :: .ref i :: st) G cs ns :=
  xw_iald (j := z.toNat) hi hd rfl hg (iI_nI hz.1) (by rw [iaL_len]; exact hb) (iaL_get hz) k
theorem xz_zald {i n : Nat} {f : Int → Int} {z : Int} (hi : i < xBig) (hd : decode M.2.1 pc = .ok (.baload, 1)) (hg : G[i]? = some (65, iaL n f)) (hz : 0 ≤ z ∧ z < n) (hb : n < 2147483648) (k : xWP L O M R K (pc + 1) ls (.int (iI (f z)) :: st) G cs ns) : xWP L O M R K pc ls (.int (iI z) :: .ref i :: st) G cs ns :=
  xw_zald (j := z.toNat) hi hd rfl hg (iI_nI hz.1) (by rw [iaL_len]; exact hb) (iaL_get hz) k
theorem xz_aald (t : Nat) {ty : FieldType} {i n : Nat} {r : Int → Nat} {z : Int} (hi : i < xBig) (hd : decode M.2.1 pc = .ok (.aaload, 1)) (ht : t < 63) (hat : xaT[t]? = some ty) (href : ty.isReference = true) (hg : G[i]? = some (64 + t, raL n r)) (hz : 0 ≤ z ∧ z < n) (hb : n < 2147483648) (k : xWP L O M R K (pc + 1) ls (.ref (r z) :: st) G cs ns) : xWP L O M R K pc ls (.int (iI z) :: .ref i :: st) G cs ns :=
  xw_aald t (j := z.toNat) hi hd ht hat href hg (iI_nI hz.1) (by rw [raL_len]; exact hb) (raL_get hz) k
theorem xz_alen (t : Nat) {ty : FieldType} {i n : Nat} {vs : List Value} (hi : i < xBig) (hd : decode M.2.1 pc = .ok (.arraylength, 1)) (ht : t < 63) (hat : xaT[t]? = some ty) (hg : G[i]? = some (64 + t, vs)) (hn : vs.length = n) (k : xWP L O M R K (pc + 1) ls (.int (iI n) :: st) G cs ns) : xWP L O M R K pc ls (.ref i :: st) G cs ns :=
  xw_alen t hi hd ht hat hg (by rw [hn]; rfl) k
theorem xz_iast {i n : Nat} {f : Int → Int} {z x : Int} (hi : i < xBig) (hd : decode M.2.1 pc = .ok (.iastore, 1)) (hg : G[i]? = some (64, iaL n f)) (hz : 0 ≤ z ∧ z < n) (hb : n < 2147483648)
    (k : ∀ G1 : List xOb, G1.length = G.length → G1[i]? = some (64, iaL n (fup f z x)) → (∀ j, j ≠ i → G1[j]? = G[j]?) → xWP L O M R K (pc + 1) ls st G1 cs ns) : xWP L O M R K pc ls (.int (iI x) :: .int (iI z) :: .ref i :: st) G cs ns := by
  refine xw_iast (j := z.toNat) hi hd rfl hg (iI_nI hz.1) (by rw [iaL_len]; omega) (by rw [iaL_len]; exact hb) (k _ (List.length_set ..) ?_ (fun j hj => List.getElem?_set_ne (Ne.symm hj)))
  rw [List.getElem?_set_self (xlenO hg), iaL_set hz]
theorem xz_zast {i n : Nat} {f : Int → Int} {z x : Int} (hi : i < xBig) (hd : decode M.2.1 pc = .ok (.bastore, 1)) (hg : G[i]? = some (65, iaL n f)) (hz : 0 ≤ z ∧ z < n) (hb : n < 2147483648) (hx : x = 0 ∨ x = 1)
    (k : ∀ G1 : List xOb, G1.length = G.length → G1[i]? = some (65, iaL n (fup f z x)) → (∀ j, j ≠ i → G1[j]? = G[j]?) → xWP L O M R K (pc + 1) ls st G1 cs ns) : xWP L O M R K pc ls (.int (iI x) :: .int (iI z) :: .ref i :: st) G cs ns := by
  refine xw_zast (j := z.toNat) hi hd rfl hg (iI_nI hz.1) (by rw [iaL_len]; omega) (by rw [iaL_len]; exact hb) (xnarZ hx) (k _ (List.length_set ..) ?_ (fun j hj => List.getElem?_set_ne (Ne.symm hj)))
  rw [List.getElem?_set_self (xlenO hg), iaL_set hz]
theorem xz_aast (t : Nat) {i n v ci N : Nat} {r : Int → Nat} {z : Int} {vs fs : List Value} {C : String} {T : u_T} (hi : i < xBig) (hv : v < xBig) (hd : decode M.2.1 pc = .ok (.aastore, 1)) (ht : t < 63) (hat : xaT[t]? = some (.object C)) (hg : G[i]? = some (64 + t, vs)) (ho : G[v]? = some (ci, fs)) (hci : ci < 64) (hc : xcl[ci]? = some (C, T, N)) (hz : 0 ≤ z ∧ z < n) (hl : vs.length = n) (hb : n < 2147483648)
    (k : ∀ G1 : List xOb, G1.length = G.length → G1[i]? = some (64 + t, vs.set z.toNat (.ref v)) → (∀ j, j ≠ i → G1[j]? = G[j]?) → xWP L O M R K (pc + 1) ls st G1 cs ns) : xWP L O M R K pc ls (.ref v :: .int (iI z) :: .ref i :: st) G cs ns :=
  xw_aast t (j := z.toNat) hi hv hd ht hat hg ho hci hc (iI_nI hz.1) (by omega) (by omega) (k _ (List.length_set ..) (List.getElem?_set_self (xlenO hg)) (fun j hj => List.getElem?_set_ne (Ne.symm hj)))
theorem xz_newa {t : Nat} {atype : ArrayType} {n : Int} {g : Nat} (hd : decode M.2.1 pc = .ok (.newarray atype, 2)) (ht : t < 63) (hat : xaT[t]? = some (newarray.typeOf atype)) (w1 : Cond.arrayClass (newarray.typeOf atype) ∈ xTG) (hn : 0 ≤ n ∧ n ≤ 65536) (hv : defaultValue (newarray.typeOf atype) = .int 0) (hcb : componentBytes (newarray.typeOf atype) ≤ 8) (hg : G.length = g) (hG : g + 1 < xBig) (hcs : cs + 1 ≤ R.cells) (hns : ns + n.toNat ≤ R.slots)
    (k : ∀ G1 : List xOb, G1.length = g + 1 → G1[g]? = some (64 + t, iaL n.toNat (fun _ => 0)) → (∀ j, j < g → G1[j]? = G[j]?) → xWP L O M R K (pc + 2) ls (.ref g :: st) G1 (cs + 1) (ns + n.toNat)) : xWP L O M R K pc ls (.int (iI n) :: st) G cs ns := by
  subst hg
  refine xw_newa (d := .int (iI 0)) (N := n.toNat) hd ht hat w1 (iI_nI hn.1) (by omega) (by rw [hv]; rfl) hcb hG hcs hns (k _ (by rw [List.length_append]; rfl) ?_ (fun j hj => List.getElem?_append_left hj))
  rw [List.getElem?_append_right (Nat.le_refl _), Nat.sub_self, ← iaL_new]; rfl
theorem xz_new {ci idx N : Nat} {fs : List Value} {C : String} {T : u_T} {g : Nat} (ty0 : Nat → FieldType) (hd : decode M.2.1 pc = .ok (.new idx, 3)) (hci : ci < 64) (hc : xcl[ci]? = some (C, T, N)) (hin : ∀ w ∈ u_ws C T N, w ∈ xTG) (hty : ∀ k, k < N → parseFieldDescriptor (T k).2.2.1 = some (ty0 k))
    (w1 : Cond.classLink M.1.cls idx C ∈ xTG) (w2 : Cond.instantiable C N ∈ xTG) (w3 : Cond.initialized C ∈ xTG) (hlen : fs.length = N) (hfs : ∀ j, j < N → defaultValue (ty0 j) = xtr O (fs.getD j .null)) (hg : G.length = g) (hG : g + 1 < xBig) (hcs : cs + 1 ≤ R.cells) (hns : ns + N ≤ R.slots)
    (k : ∀ G1 : List xOb, G1.length = g + 1 → G1[g]? = some (ci, fs) → (∀ j, j < g → G1[j]? = G[j]?) → xWP L O M R K (pc + 3) ls (.ref g :: st) G1 (cs + 1) (ns + N)) : xWP L O M R K pc ls st G cs ns := by
  subst hg
  refine xw_new ty0 hd hci hc hin hty w1 w2 w3 hlen hfs hG hcs hns (k _ (by rw [List.length_append]; rfl) ?_ (fun j hj => List.getElem?_append_left hj))
  rw [List.getElem?_append_right (Nat.le_refl _), Nat.sub_self]; rfl
/-! fields: a class's row by its place -/
def xFo (M : xMd) (idx ci k : Nat) : Prop := ci < 64 ∧ ∃ (C : String) (T : u_T) (N : Nat) (ty0 : Nat → FieldType), xcl[ci]? = some (C, T, N) ∧ (∀ w ∈ u_ws C T N, w ∈ xTG) ∧ k < N ∧ (∀ k, k < N → parseFieldDescriptor (T k).2.2.1 = some (ty0 k)) ∧ (∀ a, a < N → ∀ b, b < N → a ≠ b → (T a).2.1 ≠ (T b).2.1) ∧
  (Cond.fieldLink M.1.cls idx (T k).1 (T k).2.1 (T k).2.2.1 ∈ xTG ∨ ∃ host, Cond.fieldLinkNest M.1.cls idx (T k).1 (T k).2.1 (T k).2.2.1 host ∈ xTN)
theorem xz_getf {i ci kf idx : Nat} {fs : List Value} {v : Value} (hF : xFo M idx ci kf) (hi : i < xBig) (hd : decode M.2.1 pc = .ok (.getfield idx, 3)) (hg : G[i]? = some (ci, fs)) (hv : fs[kf]? = some v) (k : xWP L O M R K (pc + 3) ls (v :: st) G cs ns) : xWP L O M R K pc ls (.ref i :: st) G cs ns := by
  obtain ⟨h1, C, T, N, ty0, h2, h3, h4, h5, h6, h7⟩ := hF
  exact xw_getf hi hd hg h1 h2 h3 h4 h7 hv k
/-- a field that is written: of the type ty, not final, or in its class's constructor -/
def xFp (M : xMd) (idx ci k : Nat) (ty : FieldType) : Prop := ci < 64 ∧ ∃ (C : String) (T : u_T) (N : Nat) (ty0 : Nat → FieldType), xcl[ci]? = some (C, T, N) ∧ (∀ w ∈ u_ws C T N, w ∈ xTG) ∧ k < N ∧ (∀ k, k < N → parseFieldDescriptor (T k).2.2.1 = some (ty0 k)) ∧ (∀ a, a < N → ∀ b, b < N → a ≠ b → (T a).2.1 ≠ (T b).2.1) ∧
  ((T k).2.2.2 = false ∨ ((T k).2.2.2 = true ∧ M.1.name = "<init>" ∧ (T k).1 = M.1.cls)) ∧ (Cond.fieldLink M.1.cls idx (T k).1 (T k).2.1 (T k).2.2.1 ∈ xTG ∨ ((T k).2.2.2 = false ∧ ∃ host, Cond.fieldLinkNest M.1.cls idx (T k).1 (T k).2.1 (T k).2.2.1 host ∈ xTN)) ∧ ty0 k = ty
theorem xz_putf {i ci kf idx : Nat} {fs fs2 : List Value} {v : Value} {ty : FieldType} (hF : xFp M idx ci kf ty) (hi : i < xBig) (hd : decode M.2.1 pc = .ok (.putfield idx, 3)) (hg : G[i]? = some (ci, fs)) (hn : narrow ty (xtr O v) = xtr O v) (hfit : fits ty (xtr O v) = true) (hf : fs.set kf v = fs2)
    (k : ∀ G1 : List xOb, G1.length = G.length → G1[i]? = some (ci, fs2) → (∀ j, j ≠ i → G1[j]? = G[j]?) → xWP L O M R K (pc + 3) ls st G1 cs ns) : xWP L O M R K pc ls (v :: .ref i :: st) G cs ns := by
  obtain ⟨h1, C, T, N, ty0, h2, h3, h4, h5, h6, h7, h8, h9⟩ := hF
  refine xw_putf ty0 hi hd hg h1 h2 h3 h4 h5 h6 h7 h8 h9 hn hfit (k _ (List.length_set ..) ?_ (fun j hj => List.getElem?_set_ne (Ne.symm hj)))
  rw [List.getElem?_set_self (xlenO hg), hf]
theorem xz_puti {i ci kf idx : Nat} {fs fs2 : List Value} {z : Int} (hF : xFp M idx ci kf .int) (hi : i < xBig) (hd : decode M.2.1 pc = .ok (.putfield idx, 3)) (hg : G[i]? = some (ci, fs)) (hf : fs.set kf (.int (iI z)) = fs2)
    (k : ∀ G1 : List xOb, G1.length = G.length → G1[i]? = some (ci, fs2) → (∀ j, j ≠ i → G1[j]? = G[j]?) → xWP L O M R K (pc + 3) ls st G1 cs ns) : xWP L O M R K pc ls (.int (iI z) :: .ref i :: st) G cs ns := xz_putf hF hi hd hg rfl rfl hf k
theorem xz_putz {i ci kf idx : Nat} {fs fs2 : List Value} {z : Int} (hF : xFp M idx ci kf .boolean) (hi : i < xBig) (hd : decode M.2.1 pc = .ok (.putfield idx, 3)) (hg : G[i]? = some (ci, fs)) (hz : z = 0 ∨ z = 1) (hf : fs.set kf (.int (iI z)) = fs2)
    (k : ∀ G1 : List xOb, G1.length = G.length → G1[i]? = some (ci, fs2) → (∀ j, j ≠ i → G1[j]? = G[j]?) → xWP L O M R K (pc + 3) ls st G1 cs ns) : xWP L O M R K pc ls (.int (iI z) :: .ref i :: st) G cs ns := xz_putf hF hi hd hg (xnarZ hz) (xfitZ hz) hf k
theorem xz_putr {i ci kf idx x : Nat} {fs fs2 : List Value} {ty : FieldType} (hF : xFp M idx ci kf ty) (hi : i < xBig) (hx : x < xBig) (hd : decode M.2.1 pc = .ok (.putfield idx, 3)) (hg : G[i]? = some (ci, fs)) (hty : ∀ q : Nat, narrow ty (.ref q) = .ref q ∧ fits ty (.ref q) = true) (hf : fs.set kf (.ref x) = fs2)
    (k : ∀ G1 : List xOb, G1.length = G.length → G1[i]? = some (ci, fs2) → (∀ j, j ≠ i → G1[j]? = G[j]?) → xWP L O M R K (pc + 3) ls st G1 cs ns) : xWP L O M R K pc ls (.ref x :: .ref i :: st) G cs ns := xz_putf hF hi hd hg (by rw [xtr_id hx]; exact (hty _).1) (by rw [xtr_id hx]; exact (hty _).2) hf k
theorem xz_iret {z : Int} (hd : decode M.2.1 pc = .ok (.ireturn, 1)) (hr : M.2.2.2.1 = some .int) (hc : cs ≤ R.cells) (hs : ns ≤ R.slots) (hK : K (.inl (some (.int (iI z)))) G) : xWP L O M R K pc ls [.int (iI z)] G cs ns := xw_iret hd hr rfl hc hs hK
theorem xz_zret {z : Int} (hd : decode M.2.1 pc = .ok (.ireturn, 1)) (hr : M.2.2.2.1 = some .boolean) (hz : z = 0 ∨ z = 1) (hc : cs ≤ R.cells) (hs : ns ≤ R.slots) (hK : K (.inl (some (.int (iI z)))) G) : xWP L O M R K pc ls [.int (iI z)] G cs ns := xw_iret hd hr (xnarZ hz) hc hs hK
theorem xz_aret {i : Nat} {rt : FieldType} (hd : decode M.2.1 pc = .ok (.areturn, 1)) (hr : M.2.2.2.1 = some rt) (hrt : (∃ n, rt = .object n) ∨ ∃ t, rt = .array t) (hc : cs ≤ R.cells) (hs : ns ≤ R.slots) (hK : K (.inl (some (.ref i))) G) : xWP L O M R K pc ls [.ref i] G cs ns := xw_aret hd hr hrt hc hs hK
end XZ

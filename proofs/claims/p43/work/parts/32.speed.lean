/-! a float is a number: the bits behind its sign are those of the infinity at most -/
def fNum (n : Nat) : Prop := n % 2147483648 ≤ 2139095040
theorem fNum_mask {n : Nat} (h : fNum n) : vf_n32 (UInt32.ofNat n) := by
  unfold vf_n32
  rw [UInt32.le_iff_toNat_le, UInt32.toNat_and]
  show (UInt32.ofNat n).toNat &&& (2 ^ 31 - 1) ≤ 2139095040
  rw [UInt32.toNat_ofNat', Nat.and_two_pow_sub_one_eq_mod]
  unfold fNum at h
  omega
theorem fNum_of {r : UInt32} (h : vf_n32 r) : fNum r.toNat := by
  unfold vf_n32 at h
  rw [UInt32.le_iff_toNat_le, UInt32.toNat_and] at h
  have h2 : r.toNat &&& (2 ^ 31 - 1) ≤ 2139095040 := h
  rw [Nat.and_two_pow_sub_one_eq_mod] at h2
  unfold fNum
  omega
theorem fK_p : (2 : Nat) ^ FP.Core.b32.p = 16777216 := by decide
theorem fK_t : FP.Core.b32.tails = 8388608 := by decide
theorem fK_e : FP.Core.b32.exps = 256 := by decide
theorem fK_lo : FP.Core.b32.qmin = -149 := by decide
theorem fK_hi : FP.Core.b32.qmax = 104 := by decide
theorem f_asm (s : Bool) (e t : Nat) (h : e * 8388608 + t < 2147483648) : FP.Core.assemble FP.Core.b32 s e t % 2147483648 = e * 8388608 + t := by
  unfold FP.Core.assemble
  rw [fK_e, fK_t]
  cases s
  · show ((0 * 256 + e) * 8388608 + t) % 2147483648 = _
    omega
  · show ((1 * 256 + e) * 8388608 + t) % 2147483648 = _
    omega
theorem f_encF (s : Bool) (c : Nat) (q : Int) : FP.Core.encode FP.Core.b32 (.fin s c q) = if c < 8388608 then FP.Core.assemble FP.Core.b32 s 0 c else FP.Core.assemble FP.Core.b32 s ((q + 149).toNat + 1) (c - 8388608) := by
  show (if c < FP.Core.b32.tails then FP.Core.assemble FP.Core.b32 s 0 c else FP.Core.assemble FP.Core.b32 s ((q - FP.Core.b32.qmin).toNat + 1) (c - FP.Core.b32.tails)) = _
  rw [fK_t, fK_lo, show q - -149 = q + 149 by omega]
theorem fNum_fin (s : Bool) {c : Nat} {q : Int} (hc : c < 16777216) (hq : q ≤ 104) : fNum (FP.Core.encode FP.Core.b32 (.fin s c q)) := by
  unfold fNum
  rw [f_encF]
  split
  · rw [f_asm s 0 c (by omega)]; omega
  · rw [f_asm s _ _ (by omega)]; omega
theorem fNum_inf (s : Bool) : fNum (FP.Core.encode FP.Core.b32 (.inf s)) := by
  unfold fNum FP.Core.encode
  rw [fK_e, f_asm s _ _ (by omega)]
  omega
theorem fNum_bound (s : Bool) {c : Nat} {q : Int} (hc : c < 16777216) : fNum (FP.Core.encode FP.Core.b32 (FP.Core.bound FP.Core.b32 s c q)) := by
  unfold FP.Core.bound
  rw [fK_hi]
  split
  · next h => exact fNum_fin s hc h
  · exact fNum_inf s
theorem fNum_ratio (s : Bool) (A B : Nat) (e : Int) : fNum (FP.Core.encode FP.Core.b32 (FP.Core.roundRatio FP.Core.b32 s A B e)) := by
  unfold FP.Core.roundRatio
  split
  · rw [fK_lo]; exact fNum_fin s (by omega) (by omega)
  · unfold FP.Core.roundAt FP.Core.settle
    rw [fK_p, fK_t]
    split
    · next h => exact fNum_bound s h
    · exact fNum_bound s (by omega)
theorem f_dec {n : Nat} (h1 : 0 < n % 2147483648) (h2 : n % 2147483648 < 2139095040) : ∃ s c q, FP.Core.decode FP.Core.b32 n = .fin s c q ∧ ¬ c = 0 := by
  unfold FP.Core.decode FP.Core.fieldE FP.Core.fieldT
  rw [fK_e, fK_t]
  have h3 : n / 8388608 % 256 < 255 := by omega
  rw [if_neg (by omega)]
  split
  · exact ⟨_, _, _, rfl, by omega⟩
  · exact ⟨_, _, _, rfl, by omega⟩
theorem f_decN {n : Nat} (h : fNum n) : (∃ s, FP.Core.decode FP.Core.b32 n = .inf s) ∨ ∃ s c q, FP.Core.decode FP.Core.b32 n = .fin s c q := by
  unfold fNum at h
  unfold FP.Core.decode FP.Core.fieldE FP.Core.fieldT
  rw [fK_e, fK_t]
  split
  · left
    rw [if_pos (by omega)]
    exact ⟨_, rfl⟩
  · right
    split
    · exact ⟨_, _, _, rfl⟩
    · exact ⟨_, _, _, rfl⟩
theorem f_settle {c : Nat} {q : Int} (s : Bool) (hc : 0 < c) (hq : q ≤ 100) : 0 < FP.Core.encode FP.Core.b32 (FP.Core.settle FP.Core.b32 s c q) % 2147483648 ∧ FP.Core.encode FP.Core.b32 (FP.Core.settle FP.Core.b32 s c q) % 2147483648 < 2139095040 := by
  unfold FP.Core.settle FP.Core.bound
  rw [fK_p, fK_t, fK_hi]
  split
  · rw [if_pos (by omega), f_encF]
    split
    · rw [f_asm s 0 c (by omega)]; omega
    · rw [f_asm s _ _ (by omega)]; omega
  · rw [if_pos (by omega), f_encF, if_neg (by omega), f_asm s _ _ (by omega)]; omega
theorem f_near (n : Nat) : FP.Core.nearest n 1 = n := by
  unfold FP.Core.nearest
  rw [Nat.mod_one, Nat.div_one, if_pos (by omega)]
theorem f_int {a : Int} (h : 1 ≤ a ∧ a < 131072) : 0 < FP.Core.fromInt FP.Core.b32 a % 2147483648 ∧ FP.Core.fromInt FP.Core.b32 a % 2147483648 < 2139095040 := by
  unfold FP.Core.fromInt FP.Core.ofInt FP.Core.round FP.Core.roundRatio FP.Core.roundAt
  have hA : a.natAbs < 2 ^ 17 := by omega
  have h0 : ¬ a.natAbs = 0 := by omega
  have hlog : a.natAbs.log2 < 17 := (Nat.log2_lt h0).mpr hA
  have hl1 : FP.Core.leading a.natAbs 1 ≤ 16 := by
    unfold FP.Core.leading
    have e1 : (1 : Nat).log2 = 0 := by decide
    simp only [e1]
    split <;> omega
  have hq : FP.Core.quantum FP.Core.b32 a.natAbs 1 0 ≤ -7 := by
    unfold FP.Core.quantum
    rw [fK_lo, show ((FP.Core.b32.p : Nat) : Int) = 24 from rfl]
    omega
  dsimp only
  rw [if_neg h0]
  generalize FP.Core.quantum FP.Core.b32 a.natAbs 1 0 = q at hq
  have e2 : FP.Core.unitsDen 1 0 q = 1 := by
    unfold FP.Core.unitsDen
    rw [show (q - 0).toNat = 0 by omega]
  rw [e2, f_near]
  refine f_settle _ ?_ (by omega)
  unfold FP.Core.unitsNum
  exact Nat.mul_pos (by omega) (Nat.two_pow_pos _)
theorem f_i2f {a : Int} (h : 1 ≤ a ∧ a < 131072) : ∃ s c q, FP.Core.decode FP.Core.b32 (FP.i2f (iI a)).toNat = .fin s c q ∧ ¬ c = 0 := by
  have h1 := f_int h
  have e : (FP.i2f (iI a)).toNat = FP.Core.fromInt FP.Core.b32 a % 4294967296 := by
    show (UInt32.ofNat (FP.Core.fromInt FP.Core.b32 (iI a).toInt)).toNat = _
    rw [UInt32.toNat_ofNat', iI_toInt (by omega)]
  rw [e]
  exact f_dec (by omega) (by omega)
theorem f_div {a b : Int} (ha : 1 ≤ a ∧ a < 131072) (hb : 1 ≤ b ∧ b < 131072) : vf_n32 (FP.fdiv (FP.i2f (iI a)) (FP.i2f (iI b))) := by
  obtain ⟨s1, c1, q1, e1, n1⟩ := f_i2f ha
  obtain ⟨s2, c2, q2, e2, n2⟩ := f_i2f hb
  show vf_n32 (UInt32.ofNat (FP.Core.div FP.Core.b32 (FP.i2f (iI a)).toNat (FP.i2f (iI b)).toNat))
  refine fNum_mask ?_
  unfold FP.Core.div
  rw [e1, e2]
  show fNum (FP.Core.encode FP.Core.b32 (if c2 = 0 then _ else FP.Core.roundRatio FP.Core.b32 _ c1 c2 _))
  rw [if_neg n2]
  exact fNum_ratio _ _ _ _
theorem f_mul30 {r : UInt32} (h : vf_n32 r) : vf_n32 (FP.fmul r 1106247680) := by
  have e2 : FP.Core.decode FP.Core.b32 (1106247680 : UInt32).toNat = .fin false 15728640 (-19) := by decide +kernel
  show vf_n32 (UInt32.ofNat (FP.Core.mul FP.Core.b32 r.toNat (1106247680 : UInt32).toNat))
  refine fNum_mask ?_
  unfold FP.Core.mul
  rw [e2]
  rcases f_decN (fNum_of h) with ⟨s, e⟩ | ⟨s, c, q, e⟩
  · rw [e]
    show fNum (FP.Core.encode FP.Core.b32 (FP.Core.round FP.Core.b32 (if (15728640 : Nat) = 0 then FP.Core.Datum.nan else FP.Core.Datum.inf (s != false))))
    rw [if_neg (by omega)]
    exact fNum_inf _
  · rw [e]
    exact fNum_ratio _ _ _ _
theorem f_cmp {r : UInt32} (h : vf_n32 r) : FP.fcmp r r = some .eq := by
  show FP.Core.order (FP.Core.decode FP.Core.b32 r.toNat) (FP.Core.decode FP.Core.b32 r.toNat) = some .eq
  have hc : ∀ x : Int, compare x x = Ordering.eq := fun x => by simp [compare, compareOfLessAndEq]
  rcases f_decN (fNum_of h) with ⟨s, e⟩ | ⟨s, c, q, e⟩
  · rw [e]
    show some (compare _ _) = _
    rw [hc]
  · rw [e]
    show some (compare _ _) = _
    rw [hc]
section Y32
variable {p : Program} {l : Launch} {e : Env} {R : Room} {s : State} {m : MethodId} {args : Array Value} {below : List Frame} {meth : Method} {c : Code} {H : Heap} {locs : List Loc} {cells slots : Nat} {Q : State → Prop} {cc : ByteArray} {pc : Nat} {lsA : Array Slot} {rest : List Value}
theorem xstep_ldcwf {T : State} (X : Stand p l e R s m args below meth c T locs cells slots) (hexec : p.tables.exec = Jvm.exec) {own : String} {index : Nat} {v : UInt32} (hown : s.vm.findClass own = some m.cls)
    (hconst : (Cond.constantFloat own index v).before args s = true) {g : JFrame} (hg : g.method = m) (hdg : decode c.code g.pc = .ok (.ldc_w index, 3)) :
    ∀ target, Steps p.tables e below (T.setTop { g with pc := g.pc + 3, stack := .float v :: g.stack }) target → Steps p.tables e below (T.setTop g) target := by
  obtain ⟨k, cf, hk, hcf, hcp⟩ := Cond.constantFloat_spec hown hconst
  obtain ⟨k', hk', he⟩ := X.warmed.alike.2.2 _ _ hk
  intro target hrest
  subst hg
  jvm_step X.here [hexec, hdg, ldc_w.wp_float (s := T) (f := g) X.here.top hk' (by rw [he]; exact hcf) hcp]
  exact hrest
theorem xline_ldcwf (hexec : p.tables.exec = Jvm.exec) (hb : c.code = cc) {own : String} {index : Nat} {v : UInt32} (hown : s.vm.findClass own = some m.cls) (hconst : (Jvm.Cond.constantFloat own index v).before args s = true) (hdg : decode cc pc = .ok (.ldc_w index, 3)) (k : W p l e R s m args below meth c H locs cells slots Q (F0 m (pc + 3) lsA (.float v :: rest))) : W p l e R s m args below meth c H locs cells slots Q (F0 m pc lsA rest) := by
  intro T hT X
  obtain ⟨t, a, b⟩ := k T hT X
  exact ⟨t, xstep_ldcwf X hexec hown hconst (g := F0 m pc lsA rest) rfl (by rw [hb]; exact hdg) t a, b⟩
end Y32
section Y32b
variable {L : Launch} {O : xWd} {K : xOc → List xOb → Prop} {σ : ySg} {X : List xOb} {G : List xOb}
theorem xw_ldcwf {M : xMd} {R : Room} {pc cs ns : Nat} {ls : List (Nat × Value)} {st : List Value} {i : Nat} {v : UInt32} (hd : decode M.2.1 pc = .ok (.ldc_w i, 3)) (hw : Cond.constantFloat M.1.cls i v ∈ xTG) (k : xWP L O M R K (pc + 3) ls (.float v :: st) G cs ns) : xWP L O M R K pc ls st G cs ns := by
  intro p e s m args below meth c H locs lsM hC hR hS hl
  exact xline_ldcwf hC.1 hC.2.1 (own := M.1.cls) hC.2.2.2.2.1 (hC.2.2.2.2.2.1 _ hw) hd (k p e s m args below meth c H locs lsM hC hR hS hl)
theorem s_speed (hL : L.stackTraces = false) {n : Int} (hr : yRg σ) (hn : 0 ≤ n ∧ n < 24) (h1 : n < σ 0 5) (h2 : σ (cu n) 0 = 1) (hc : 1 ≤ σ (cu n) 6 ∧ σ (cu n) 6 ≤ 12) (hw : ∀ j, 0 ≤ j → j < 12 → 0 ≤ σ (cw n) j) (hl : 1 ≤ σ (cu n) 2 - σ (cu n) 1 ∧ σ (cu n) 2 - σ (cu n) 1 ≤ 99999) : xMet L O mX11_speed (xR 2 0 0) [.ref 0, .int (iI n)] (Wd σ X) (fun o G1 => o = .inl (some (.float (FP.fmul (FP.fdiv (FP.i2f (iI (yLt (σ (cw n)) (σ (cu n) 6)))) (FP.i2f (iI (σ (cu n) 2 - σ (cu n) 1)))) 1106247680))) ∧ G1 = Wd σ X) := xMet_of (by decide) hL (Nat.le_of_ble_eq_true rfl) (by
  refine xw_eq rfl (l2 := [(0, .ref 0), (1, .int (iI n))]) rfl rfl rfl ?_
  refine xw_aload_n 0 dX11_speed_0 rfl ?_
  refine xw_iload_n 1 dX11_speed_1 rfl ?_
  refine yc_V (M' := mX11_cueOf) (d := 0) (c := 0) (s := 0) (As := [.int (iI n)]) (st := []) (v0 := some (.ref (cu n))) (G2 := Wd σ X) dX11_speed_2 okX11_cueOf (Or.inl w_503) (xBig_i is_0.1) (Wd_get is_0) ⟨by decide, rfl⟩ rfl (Nat.le_of_ble_eq_true rfl) (by decide) (by decide) (Nat.zero_le _) (Nat.zero_le _) rfl rfl (s_cueOf1 hL hr (by omega) (by omega) (by omega)) ?_
  refine xw_astore_n (l2 := [(0, .ref 0), (1, .int (iI n)), (2, .ref (cu n))]) dX11_speed_5 (by decide) rfl rfl ?_
  refine xw_aload_n 2 dX11_speed_6 rfl ?_
  refine yc_V (M' := mX3_length) (d := 0) (c := 0) (s := 0) (As := []) (st := []) (v0 := some (.int (iI (σ (cu n) 2 - σ (cu n) 1)))) (G2 := Wd σ X) dX11_speed_7 okX3_length (Or.inl w_590) (xBig_i (is_cu hn).1) (Wd_get (is_cu hn)) ⟨by decide, rfl⟩ rfl (Nat.le_of_ble_eq_true rfl) (by decide) (by decide) (Nat.zero_le _) (Nat.zero_le _) rfl rfl (s_X3_length hL hr hn) ?_
  refine xw_istore_n (l2 := [(0, .ref 0), (1, .int (iI n)), (2, .ref (cu n)), (3, .int (iI (σ (cu n) 2 - σ (cu n) 1)))]) dX11_speed_10 (by decide) rfl rfl ?_
  refine xw_iload_n 3 dX11_speed_11 rfl ?_
  refine xz_iconst dX11_speed_12 ?_
  refine xz_icmp_ge (tgt := 20) dX11_speed_13 (by decide) (by omega) (by omega) (fun c1 => ?_) (fun c1 => ?_)
  · refine xw_aload_n 2 dX11_speed_20 rfl ?_
    refine xw_aload_n 2 dX11_speed_21 rfl ?_
    have r2 := hr (cu n) 6
    refine yz_geti (z := 6) (v := σ (cu n) 6) (fo_X11_208 rfl) dX11_speed_22 (is_cu hn) rfl rfl rfl ?_
    have b3 := yLt_bd (σ (cw n)) (j := σ (cu n) 6) (by omega)
    refine yc_V (M' := mX3_letters) (d := 1) (c := 0) (s := 0) (As := [.int (iI (σ (cu n) 6))]) (st := []) (v0 := some (.int (iI (yLt (σ (cw n)) (σ (cu n) 6))))) (G2 := Wd σ X) dX11_speed_25 okX3_letters (Or.inl w_579) (xBig_i (is_cu hn).1) (Wd_get (is_cu hn)) ⟨by decide, rfl⟩ rfl (Nat.le_of_ble_eq_true rfl) (by decide) (by decide) (Nat.zero_le _) (Nat.zero_le _) rfl rfl (s_X3_letters hL hr hn (by omega) hw) ?_
    refine xw_i2f dX11_speed_28 ?_
    refine xw_iload_n 3 dX11_speed_29 rfl ?_
    refine xw_i2f dX11_speed_30 ?_
    have hv1 : vf_n32 (FP.fdiv (FP.i2f (iI (yLt (σ (cw n)) (σ (cu n) 6)))) (FP.i2f (iI (σ (cu n) 2 - σ (cu n) 1)))) := f_div (by omega) (by omega)
    refine xw_fdiv dX11_speed_31 hv1 ?_
    refine xw_ldcwf dX11_speed_32 w_594 ?_
    refine xw_fmul dX11_speed_35 (f_mul30 hv1) ?_
    exact xw_fret dX11_speed_36 rfl (Nat.zero_le _) (Nat.zero_le _) ⟨rfl, rfl⟩
  · exact absurd c1 (by omega))
end Y32b

/-! RULES OVER THE PICTURE -/
/-- the room of a method of height d that makes c cells of s slots -/
def xR (d c s : Nat) : Room := { frames := d + 7, cells := c, slots := s, locals := 60 * d + 10054 }
def yK (o0 : xOc) (σ : ySg) (X : List xOb) : xOc → List xOb → Prop := fun o G => o = o0 ∧ G = Wd σ X
section YR
variable {L : Launch} {O : xWd} {M M' : xMd} {R rm : Room} {K K' : xOc → List xOb → Prop} {pc : Nat} {ls : List (Nat × Value)} {st : List Value} {G : List xOb} {cs ns : Nat} {σ : ySg} {X : List xOb}
/-- the world isn't without end -/
theorem xw_big (k : G.length < xBig → xWP L O M R K pc ls st G cs ns) : xWP L O M R K pc ls st G cs ns := fun p e s m args below meth c H locs lsM hC hR hS hl => k hR.2.1 p e s m args below meth c H locs lsM hC hR hS hl
theorem xBig_i {i : Nat} (h : i < 193) : i < xBig := Nat.lt_trans h (by decide)
theorem yz_geti {i ci kf idx : Nat} {ks : List (Option Nat)} {z v : Int} (hF : xFo M idx ci kf) (hd : decode M.2.1 pc = .ok (.getfield idx, 3)) (hs : yIs i ci ks) (hk : ks[kf]? = some none) (hz : (kf : Int) = z) (hv : σ i z = v) (k : xWP L O M R K (pc + 3) ls (.int (iI v) :: st) (Wd σ X) cs ns) : xWP L O M R K pc ls (.ref i :: st) (Wd σ X) cs ns := by
  subst hz; subst hv
  exact xz_getf hF (xBig_i hs.1) hd (Wd_get hs) (ySl_get hk) k
theorem yz_getr {i ci kf idx r : Nat} {ks : List (Option Nat)} (hF : xFo M idx ci kf) (hd : decode M.2.1 pc = .ok (.getfield idx, 3)) (hs : yIs i ci ks) (hk : ks[kf]? = some (some r)) (k : xWP L O M R K (pc + 3) ls (.ref r :: st) (Wd σ X) cs ns) : xWP L O M R K pc ls (.ref i :: st) (Wd σ X) cs ns :=
  xz_getf hF (xBig_i hs.1) hd (Wd_get hs) (ySl_get hk) k
theorem yz_putf {i ci kf idx : Nat} {ks : List (Option Nat)} {z v : Int} {ty : FieldType} (hF : xFp M idx ci kf ty) (hd : decode M.2.1 pc = .ok (.putfield idx, 3)) (hs : yIs i ci ks) (hk : ks[kf]? = some none) (hz : (kf : Int) = z) (hn : narrow ty (.int (iI v)) = .int (iI v)) (hfit : fits ty (.int (iI v)) = true) (k : xWP L O M R K (pc + 3) ls st (Wd (yup σ i z v) X) cs ns) : xWP L O M R K pc ls (.int (iI v) :: .ref i :: st) (Wd σ X) cs ns := by
  obtain ⟨h1, C, T, N, ty0, h2, h3, h4, h5, h6, h7, h8, h9⟩ := hF
  exact xw_putf ty0 (xBig_i hs.1) hd (Wd_get hs) h1 h2 h3 h4 h5 h6 h7 h8 h9 hn hfit (by rw [Wd_set hs hk hz]; exact k)
theorem yz_puti {i ci kf idx : Nat} {ks : List (Option Nat)} {z v : Int} (hF : xFp M idx ci kf .int) (hd : decode M.2.1 pc = .ok (.putfield idx, 3)) (hs : yIs i ci ks) (hk : ks[kf]? = some none) (hz : (kf : Int) = z) (k : xWP L O M R K (pc + 3) ls st (Wd (yup σ i z v) X) cs ns) : xWP L O M R K pc ls (.int (iI v) :: .ref i :: st) (Wd σ X) cs ns := yz_putf hF hd hs hk hz rfl rfl k
theorem yz_putz {i ci kf idx : Nat} {ks : List (Option Nat)} {z v : Int} (hF : xFp M idx ci kf .boolean) (hd : decode M.2.1 pc = .ok (.putfield idx, 3)) (hs : yIs i ci ks) (hk : ks[kf]? = some none) (hz : (kf : Int) = z) (hv : v = 0 ∨ v = 1) (k : xWP L O M R K (pc + 3) ls st (Wd (yup σ i z v) X) cs ns) : xWP L O M R K pc ls (.int (iI v) :: .ref i :: st) (Wd σ X) cs ns := yz_putf hF hd hs hk hz (xnarZ hv) (xfitZ hv) k
theorem yrl {n : Nat} {s : Int → Int} : (ySl s (List.replicate n none)).length = n := by rw [ySl_len, List.length_replicate]
theorem yrg {n : Nat} {s : Int → Int} {z : Int} (hz : 0 ≤ z ∧ z < n) : (ySl s (List.replicate n none))[z.toNat]? = some (.int (iI (s z))) := by
  have h := ySl_get (s := s) (rep_get (n := n) (k := z.toNat) (by omega))
  rw [h]
  show some (Value.int (iI (s (z.toNat : Int)))) = _
  rw [Int.toNat_of_nonneg hz.1]
theorem yz_iald {i n : Nat} {z v : Int} (hd : decode M.2.1 pc = .ok (.iaload, 1)) (hs : yIs i 64 (List.replicate n none)) (hz : 0 ≤ z ∧ z < n) (hb : n < 2147483648) (hv : σ i z = v) (k : xWP L O M R K (pc + 1) ls (.int (iI v) :: st) (Wd σ X) cs ns) : xWP L O M R K pc ls (.int (iI z) :: .ref i :: st) (Wd σ X) cs ns := by
  subst hv
  exact xw_iald (j := z.toNat) (xBig_i hs.1) hd rfl (Wd_get hs) (iI_nI hz.1) (by rw [yrl]; exact hb) (yrg hz) k
theorem yz_zald {i n : Nat} {z v : Int} (hd : decode M.2.1 pc = .ok (.baload, 1)) (hs : yIs i 65 (List.replicate n none)) (hz : 0 ≤ z ∧ z < n) (hb : n < 2147483648) (hv : σ i z = v) (k : xWP L O M R K (pc + 1) ls (.int (iI v) :: st) (Wd σ X) cs ns) : xWP L O M R K pc ls (.int (iI z) :: .ref i :: st) (Wd σ X) cs ns := by
  subst hv
  exact xw_zald (j := z.toNat) (xBig_i hs.1) hd rfl (Wd_get hs) (iI_nI hz.1) (by rw [yrl]; exact hb) (yrg hz) k
theorem yz_aald (t : Nat) {ty : FieldType} {i r : Nat} {ks : List (Option Nat)} {z : Int} (hd : decode M.2.1 pc = .ok (.aaload, 1)) (ht : t < 63) (hat : xaT[t]? = some ty) (href : ty.isReference = true) (hs : yIs i (64 + t) ks) (hz : 0 ≤ z) (hl : ks.length < 2147483648) (hk : ks[z.toNat]? = some (some r)) (k : xWP L O M R K (pc + 1) ls (.ref r :: st) (Wd σ X) cs ns) : xWP L O M R K pc ls (.int (iI z) :: .ref i :: st) (Wd σ X) cs ns :=
  xw_aald t (j := z.toNat) (xBig_i hs.1) hd ht hat href (Wd_get hs) (iI_nI hz) (by rw [ySl_len]; exact hl) (ySl_get hk) k
theorem yz_alen (t : Nat) {ty : FieldType} {i : Nat} {ks : List (Option Nat)} {n : Int} (hd : decode M.2.1 pc = .ok (.arraylength, 1)) (ht : t < 63) (hat : xaT[t]? = some ty) (hs : yIs i (64 + t) ks) (hn : (ks.length : Int) = n) (k : xWP L O M R K (pc + 1) ls (.int (iI n) :: st) (Wd σ X) cs ns) : xWP L O M R K pc ls (.ref i :: st) (Wd σ X) cs ns := by
  subst hn
  exact xw_alen t (xBig_i hs.1) hd ht hat (Wd_get hs) (by rw [ySl_len]; rfl) k
theorem yz_iast {i n : Nat} {z v : Int} (hd : decode M.2.1 pc = .ok (.iastore, 1)) (hs : yIs i 64 (List.replicate n none)) (hz : 0 ≤ z ∧ z < n) (hb : n < 2147483648) (k : xWP L O M R K (pc + 1) ls st (Wd (yup σ i z v) X) cs ns) : xWP L O M R K pc ls (.int (iI v) :: .int (iI z) :: .ref i :: st) (Wd σ X) cs ns :=
  xw_iast (j := z.toNat) (xBig_i hs.1) hd rfl (Wd_get hs) (iI_nI hz.1) (by rw [yrl]; omega) (by rw [yrl]; exact hb) (by rw [Wd_set hs (rep_get (by omega)) (Int.toNat_of_nonneg hz.1)]; exact k)
theorem yz_zast {i n : Nat} {z v : Int} (hd : decode M.2.1 pc = .ok (.bastore, 1)) (hs : yIs i 65 (List.replicate n none)) (hz : 0 ≤ z ∧ z < n) (hb : n < 2147483648) (hv : v = 0 ∨ v = 1) (k : xWP L O M R K (pc + 1) ls st (Wd (yup σ i z v) X) cs ns) : xWP L O M R K pc ls (.int (iI v) :: .int (iI z) :: .ref i :: st) (Wd σ X) cs ns :=
  xw_zast (j := z.toNat) (xBig_i hs.1) hd rfl (Wd_get hs) (iI_nI hz.1) (by rw [yrl]; omega) (by rw [yrl]; exact hb) (xnarZ hv) (by rw [Wd_set hs (rep_get (by omega)) (Int.toNat_of_nonneg hz.1)]; exact k)
/-! Math -/
theorem wm_init : Cond.initialized "java/lang/Math" ∈ xTG := xTG_mem 56 (by decide +kernel) (by decide +kernel)
theorem wm_max1 : Cond.static Lib.Math.max.name ∈ xTG := xTG_mem 446 (by decide +kernel) (by decide +kernel)
theorem wm_max2 : Cond.code Lib.Math.max.name Lib.Math.max.code 2 (some .int) ∈ xTG := xTG_mem 447 (by decide +kernel) (by decide +kernel)
theorem wm_min1 : Cond.static Lib.Math.min.name ∈ xTG := xTG_mem 435 (by decide +kernel) (by decide +kernel)
theorem wm_min2 : Cond.code Lib.Math.min.name Lib.Math.min.code 2 (some .int) ∈ xTG := xTG_mem 436 (by decide +kernel) (by decide +kernel)
theorem wm_abs1 : Cond.static Lib.Math.abs.name ∈ xTG := xTG_mem 477 (by decide +kernel) (by decide +kernel)
theorem wm_abs2 : Cond.code Lib.Math.abs.name Lib.Math.abs.code 1 (some .int) ∈ xTG := xTG_mem 478 (by decide +kernel) (by decide +kernel)
theorem wm_maxL1 : Cond.static Lib.MathLoose.max_long.x ∈ xTG := xTG_mem 960 (by decide +kernel) (by decide +kernel)
theorem wm_maxL2 : Cond.code Lib.MathLoose.max_long.x Lib.MathLoose.max_long.code 4 (some .long) ∈ xTG := xTG_mem 961 (by decide +kernel) (by decide +kernel)
theorem wm_minL1 : Cond.static Lib.MathLoose.min_long.x ∈ xTG := xTG_mem 957 (by decide +kernel) (by decide +kernel)
theorem wm_minL2 : Cond.code Lib.MathLoose.min_long.x Lib.MathLoose.min_long.code 4 (some .long) ∈ xTG := xTG_mem 958 (by decide +kernel) (by decide +kernel)
theorem xsumc (h : (st.map (fun v => v.category)).sum ≤ 8) : ((st.map (xtr O)).map fun v => v.category).sum ≤ 8 := by
  rw [List.map_map]
  have e : ((fun v => Value.category v) ∘ xtr O) = (fun v => Value.category v) := funext fun v => xtr_cat O v
  rw [e]
  exact h
theorem xz_mmax {a b : Int} {idx h c0 s0 : Nat} (hd : decode M.2.1 pc = .ok (.invokestatic idx, 3)) (hw : Cond.methodLink M.1.cls idx Lib.Math.max.name ∈ xTG) (hsum : (st.map (fun v => v.category)).sum ≤ 8) (hcs : cs ≤ c0) (hns : ns ≤ s0) (ha : -2147483648 ≤ a ∧ a < 2147483648) (hb : -2147483648 ≤ b ∧ b < 2147483648)
    (k : xWP L O M (xR h c0 s0) K (pc + 3) ls (.int (iI (max a b)) :: st) G cs ns) : xWP L O M (xR h c0 s0) K pc ls (.int (iI b) :: .int (iI a) :: st) G cs ns := by
  intro p e s m args below meth c H locs lsM hC hR hS hl
  have h9 := k p e s m args below meth c H locs lsM hC hR hS hl
  have hq := xsumc (O := O) hsum
  refine va_mmax hC.1 hC.2.1 (by rw [hC.2.2.1]; exact hl.1.symm) hC.2.2.2.2.1 (hC.2.2.2.2.2.1 _ hw) (hC.2.2.2.2.2.1 _ wm_max1) (hC.2.2.2.2.2.1 _ wm_init) (hC.2.2.2.2.2.1 _ wm_max2) (by show 1 ≤ h + 7; omega) (by show _ ≤ 60 * h + 10054; omega) hcs hns hd ?_
  have e : (if iI a < iI b then iI b else iI a) = iI (max a b) := by
    by_cases c : a < b
    · rw [if_pos ((iI_lt ha hb).mpr c)]; congr 1; omega
    · rw [if_neg (fun q => c ((iI_lt ha hb).mp q))]; congr 1; omega
  rw [e]
  exact h9
theorem xz_mmin {a b : Int} {idx h c0 s0 : Nat} (hd : decode M.2.1 pc = .ok (.invokestatic idx, 3)) (hw : Cond.methodLink M.1.cls idx Lib.Math.min.name ∈ xTG) (hsum : (st.map (fun v => v.category)).sum ≤ 8) (hcs : cs ≤ c0) (hns : ns ≤ s0) (ha : -2147483648 ≤ a ∧ a < 2147483648) (hb : -2147483648 ≤ b ∧ b < 2147483648)
    (k : xWP L O M (xR h c0 s0) K (pc + 3) ls (.int (iI (min a b)) :: st) G cs ns) : xWP L O M (xR h c0 s0) K pc ls (.int (iI b) :: .int (iI a) :: st) G cs ns := by
  intro p e s m args below meth c H locs lsM hC hR hS hl
  have h9 := k p e s m args below meth c H locs lsM hC hR hS hl
  have hq := xsumc (O := O) hsum
  refine va_mmin hC.1 hC.2.1 (by rw [hC.2.2.1]; exact hl.1.symm) hC.2.2.2.2.1 (hC.2.2.2.2.2.1 _ hw) (hC.2.2.2.2.2.1 _ wm_min1) (hC.2.2.2.2.2.1 _ wm_init) (hC.2.2.2.2.2.1 _ wm_min2) (by show 1 ≤ h + 7; omega) (by show _ ≤ 60 * h + 10054; omega) hcs hns hd ?_
  have e : (if iI b < iI a then iI b else iI a) = iI (min a b) := by
    by_cases c : b < a
    · rw [if_pos ((iI_lt hb ha).mpr c)]; congr 1; omega
    · rw [if_neg (fun q => c ((iI_lt hb ha).mp q))]; congr 1; omega
  rw [e]
  exact h9
theorem xz_mabs {a : Int} {idx h c0 s0 : Nat} (hd : decode M.2.1 pc = .ok (.invokestatic idx, 3)) (hw : Cond.methodLink M.1.cls idx Lib.Math.abs.name ∈ xTG) (hsum : (st.map (fun v => v.category)).sum ≤ 8) (hcs : cs ≤ c0) (hns : ns ≤ s0) (ha : -2147483648 ≤ a ∧ a < 2147483648)
    (k : xWP L O M (xR h c0 s0) K (pc + 3) ls (.int (iI (max a (-a))) :: st) G cs ns) : xWP L O M (xR h c0 s0) K pc ls (.int (iI a) :: st) G cs ns := by
  intro p e s m args below meth c H locs lsM hC hR hS hl
  have h9 := k p e s m args below meth c H locs lsM hC hR hS hl
  have hq := xsumc (O := O) hsum
  refine va_mabs hC.1 hC.2.1 (by rw [hC.2.2.1]; exact hl.1.symm) hC.2.2.2.2.1 (hC.2.2.2.2.2.1 _ hw) (hC.2.2.2.2.2.1 _ wm_abs1) (hC.2.2.2.2.2.1 _ wm_init) (hC.2.2.2.2.2.1 _ wm_abs2) (by show 1 ≤ h + 7; omega) (by show _ ≤ 60 * h + 10054; omega) hcs hns hd ?_
  have z9 := (by decide : (-2147483648 : Int) ≤ 0 ∧ (0 : Int) < 2147483648)
  have e : (if 0 ≤ iI a then iI a else 0 - iI a) = iI (max a (-a)) := by
    rw [show (0 : Int32) = iI 0 from rfl]
    by_cases c : 0 ≤ a
    · rw [if_pos ((iI_le z9 ha).mpr c)]; congr 1; omega
    · rw [if_neg (fun q => c ((iI_le z9 ha).mp q)), iI_sub]; congr 1; omega
  rw [e]
  exact h9
theorem xz_mmaxL {a b : Int} {idx h c0 s0 : Nat} (hd : decode M.2.1 pc = .ok (.invokestatic idx, 3)) (hw : Cond.methodLink M.1.cls idx Lib.MathLoose.max_long.x ∈ xTG) (hsum : (st.map (fun v => v.category)).sum ≤ 8) (hcs : cs ≤ c0) (hns : ns ≤ s0) (ha : -9223372036854775808 ≤ a ∧ a < 9223372036854775808) (hb : -9223372036854775808 ≤ b ∧ b < 9223372036854775808)
    (k : xWP L O M (xR h c0 s0) K (pc + 3) ls (.long (lI (max a b)) :: st) G cs ns) : xWP L O M (xR h c0 s0) K pc ls (.long (lI b) :: .long (lI a) :: st) G cs ns := by
  intro p e s m args below meth c H locs lsM hC hR hS hl
  have h9 := k p e s m args below meth c H locs lsM hC hR hS hl
  have hq := xsumc (O := O) hsum
  refine va_mmax_long hC.1 hC.2.1 (by rw [hC.2.2.1]; exact hl.1.symm) hC.2.2.2.2.1 (hC.2.2.2.2.2.1 _ hw) (hC.2.2.2.2.2.1 _ wm_maxL1) (hC.2.2.2.2.2.1 _ wm_init) (hC.2.2.2.2.2.1 _ wm_maxL2) (by show 1 ≤ h + 7; omega) (by show _ ≤ 60 * h + 10054; omega) hcs hns hd ?_
  have e : (if lI b < lI a then lI a else lI b) = lI (max a b) := by
    by_cases c : b < a
    · rw [if_pos ((lI_lt hb ha).mpr c)]; congr 1; omega
    · rw [if_neg (fun q => c ((lI_lt hb ha).mp q))]; congr 1; omega
  rw [e]
  exact h9
theorem xz_mminL {a b : Int} {idx h c0 s0 : Nat} (hd : decode M.2.1 pc = .ok (.invokestatic idx, 3)) (hw : Cond.methodLink M.1.cls idx Lib.MathLoose.min_long.x ∈ xTG) (hsum : (st.map (fun v => v.category)).sum ≤ 8) (hcs : cs ≤ c0) (hns : ns ≤ s0) (ha : -9223372036854775808 ≤ a ∧ a < 9223372036854775808) (hb : -9223372036854775808 ≤ b ∧ b < 9223372036854775808)
    (k : xWP L O M (xR h c0 s0) K (pc + 3) ls (.long (lI (min a b)) :: st) G cs ns) : xWP L O M (xR h c0 s0) K pc ls (.long (lI b) :: .long (lI a) :: st) G cs ns := by
  intro p e s m args below meth c H locs lsM hC hR hS hl
  have h9 := k p e s m args below meth c H locs lsM hC hR hS hl
  have hq := xsumc (O := O) hsum
  refine va_mmin_long hC.1 hC.2.1 (by rw [hC.2.2.1]; exact hl.1.symm) hC.2.2.2.2.1 (hC.2.2.2.2.2.1 _ hw) (hC.2.2.2.2.2.1 _ wm_minL1) (hC.2.2.2.2.2.1 _ wm_init) (hC.2.2.2.2.2.1 _ wm_minL2) (by show 1 ≤ h + 7; omega) (by show _ ≤ 60 * h + 10054; omega) hcs hns hd ?_
  have e : (if lI b < lI a then lI b else lI a) = lI (min a b) := by
    by_cases c : b < a
    · rw [if_pos ((lI_lt hb ha).mpr c)]; congr 1; omega
    · rw [if_neg (fun q => c ((lI_lt hb ha).mp q))]; congr 1; omega
  rw [e]
  exact h9
/-! calls with the room of a height: what comes back is known (_V, _I, _S), or is told by the contract (_VE ..), or an exception goes out (_VT ..) -/
theorem xRlo {d h m9 c s c0 s0 : Nat} (h1 : d < h) (h2 : m9 ≤ 41) : 8 + (m9 + 11) + (xR d c s).locals ≤ (xR h c0 s0).locals := by show 8 + (m9 + 11) + (60 * d + 10054) ≤ 60 * h + 10054; omega
theorem xRfr {d h c s c0 s0 : Nat} (h1 : d < h) : (xR d c s).frames + 1 ≤ (xR h c0 s0).frames := by show d + 7 + 1 ≤ h + 7; omega
theorem yc_VE {idx i ci N n d h c s c0 s0 : Nat} {As fs : List Value} {T : u_T} (hd : decode M.2.1 pc = .ok (.invokevirtual idx, 3)) (hok : xOkV M' n) (hw : Cond.methodLink M.1.cls idx M'.1 ∈ xTG ∨ ∃ host, Cond.methodLinkNest M.1.cls idx M'.1 host ∈ xTN)
    (hi : i < xBig) (hg : G[i]? = some (ci, fs)) (hci : ci < 64 ∧ xcl[ci]? = some (M'.1.cls, T, N)) (hn : As.length = n) (hsum : (st.map (fun v => v.category)).sum ≤ 8) (hh : d < h) (hm : M'.2.2.1 ≤ 41) (hcs : cs + c ≤ c0) (hns : ns + s ≤ s0)
    (hM : xMet L O M' (xR d c s) (.ref i :: As) G K')
    (hk : ∀ (v : Option Value) (G' : List xOb), K' (.inl v) G' → xWP L O M (xR h c0 s0) K (pc + 3) ls (v.toList ++ st) G' (cs + c) (ns + s)) (hx : ∀ (E : String) (G' : List xOb), K' (.inr E) G' → xTh L O M (xR h c0 s0) K pc ls st G' (cs + c) (ns + s) E) :
    xWP L O M (xR h c0 s0) K pc ls (As.reverse ++ .ref i :: st) G cs ns := xw_callV hd hok hw hi hg hci.1 hci.2 hn hsum (xRfr hh) (xRlo hh hm) hcs hns hM hk hx
theorem yc_V {idx i ci N n d h c s c0 s0 : Nat} {As fs st1 st2 : List Value} {T : u_T} {v0 : Option Value} {G2 : List xOb} (hd : decode M.2.1 pc = .ok (.invokevirtual idx, 3)) (hok : xOkV M' n) (hw : Cond.methodLink M.1.cls idx M'.1 ∈ xTG ∨ ∃ host, Cond.methodLinkNest M.1.cls idx M'.1 host ∈ xTN)
    (hi : i < xBig) (hg : G[i]? = some (ci, fs)) (hci : ci < 64 ∧ xcl[ci]? = some (M'.1.cls, T, N)) (hn : As.length = n) (hsum : (st.map (fun v => v.category)).sum ≤ 8) (hh : d < h) (hm : M'.2.2.1 ≤ 41) (hcs : cs + c ≤ c0) (hns : ns + s ≤ s0) (hs1 : As.reverse ++ .ref i :: st = st1) (hs2 : v0.toList ++ st = st2)
    (hM : xMet L O M' (xR d c s) (.ref i :: As) G (fun o G1 => o = .inl v0 ∧ G1 = G2)) (hk : xWP L O M (xR h c0 s0) K (pc + 3) ls st2 G2 (cs + c) (ns + s)) :
    xWP L O M (xR h c0 s0) K pc ls st1 G cs ns := by
  subst hs1; subst hs2
  exact yc_VE hd hok hw hi hg hci hn hsum hh hm hcs hns hM (fun v G' h => by cases h.1; rw [h.2]; exact hk) (fun E G' h => by cases h.1)
theorem yc_VT {idx i ci N n d h c s c0 s0 : Nat} {As fs st1 : List Value} {T : u_T} {E : String} {G2 : List xOb} (hd : decode M.2.1 pc = .ok (.invokevirtual idx, 3)) (hok : xOkV M' n) (hw : Cond.methodLink M.1.cls idx M'.1 ∈ xTG ∨ ∃ host, Cond.methodLinkNest M.1.cls idx M'.1 host ∈ xTN)
    (hi : i < xBig) (hg : G[i]? = some (ci, fs)) (hci : ci < 64 ∧ xcl[ci]? = some (M'.1.cls, T, N)) (hn : As.length = n) (hsum : (st.map (fun v => v.category)).sum ≤ 8) (hh : d < h) (hm : M'.2.2.1 ≤ 41) (hcs : cs + c ≤ c0) (hns : ns + s ≤ s0) (hs1 : As.reverse ++ .ref i :: st = st1)
    (hM : xMet L O M' (xR d c s) (.ref i :: As) G (fun o G1 => o = .inr E ∧ G1 = G2)) (hx : xTh L O M (xR h c0 s0) K pc ls st G2 (cs + c) (ns + s) E) :
    xWP L O M (xR h c0 s0) K pc ls st1 G cs ns := by
  subst hs1
  exact yc_VE hd hok hw hi hg hci hn hsum hh hm hcs hns hM (fun v G' h => by cases h.1) (fun E G' h => by cases h.1; rw [h.2]; exact hx)
theorem yc_SE {idx n d h c s c0 s0 : Nat} {As : List Value} (hd : decode M.2.1 pc = .ok (.invokestatic idx, 3)) (hok : xOkS M' n) (hw : Cond.methodLink M.1.cls idx M'.1 ∈ xTG ∨ (M'.2.2.2.2 = [] ∧ ∃ host, Cond.methodLinkNest M.1.cls idx M'.1 host ∈ xTN))
    (hn : As.length = n) (hsum : (st.map (fun v => v.category)).sum ≤ 8) (hh : d < h) (hm : M'.2.2.1 ≤ 41) (hcs : cs + c ≤ c0) (hns : ns + s ≤ s0)
    (hM : xMet L O M' (xR d c s) As G K')
    (hk : ∀ (v : Option Value) (G' : List xOb), K' (.inl v) G' → xWP L O M (xR h c0 s0) K (pc + 3) ls (v.toList ++ st) G' (cs + c) (ns + s)) (hx : ∀ (E : String) (G' : List xOb), K' (.inr E) G' → xTh L O M (xR h c0 s0) K pc ls st G' (cs + c) (ns + s) E) :
    xWP L O M (xR h c0 s0) K pc ls (As.reverse ++ st) G cs ns := xw_callS hd hok hw hn hsum (xRfr hh) (xRlo hh hm) hcs hns hM hk hx
theorem yc_S {idx n d h c s c0 s0 : Nat} {As st1 st2 : List Value} {v0 : Option Value} {G2 : List xOb} (hd : decode M.2.1 pc = .ok (.invokestatic idx, 3)) (hok : xOkS M' n) (hw : Cond.methodLink M.1.cls idx M'.1 ∈ xTG ∨ (M'.2.2.2.2 = [] ∧ ∃ host, Cond.methodLinkNest M.1.cls idx M'.1 host ∈ xTN))
    (hn : As.length = n) (hsum : (st.map (fun v => v.category)).sum ≤ 8) (hh : d < h) (hm : M'.2.2.1 ≤ 41) (hcs : cs + c ≤ c0) (hns : ns + s ≤ s0) (hs1 : As.reverse ++ st = st1) (hs2 : v0.toList ++ st = st2)
    (hM : xMet L O M' (xR d c s) As G (fun o G1 => o = .inl v0 ∧ G1 = G2)) (hk : xWP L O M (xR h c0 s0) K (pc + 3) ls st2 G2 (cs + c) (ns + s)) :
    xWP L O M (xR h c0 s0) K pc ls st1 G cs ns := by
  subst hs1; subst hs2
  exact yc_SE hd hok hw hn hsum hh hm hcs hns hM (fun v G' h => by cases h.1; rw [h.2]; exact hk) (fun E G' h => by cases h.1)
theorem yc_ST {idx n d h c s c0 s0 : Nat} {As st1 : List Value} {E : String} {G2 : List xOb} (hd : decode M.2.1 pc = .ok (.invokestatic idx, 3)) (hok : xOkS M' n) (hw : Cond.methodLink M.1.cls idx M'.1 ∈ xTG ∨ (M'.2.2.2.2 = [] ∧ ∃ host, Cond.methodLinkNest M.1.cls idx M'.1 host ∈ xTN))
    (hn : As.length = n) (hsum : (st.map (fun v => v.category)).sum ≤ 8) (hh : d < h) (hm : M'.2.2.1 ≤ 41) (hcs : cs + c ≤ c0) (hns : ns + s ≤ s0) (hs1 : As.reverse ++ st = st1)
    (hM : xMet L O M' (xR d c s) As G (fun o G1 => o = .inr E ∧ G1 = G2)) (hx : xTh L O M (xR h c0 s0) K pc ls st G2 (cs + c) (ns + s) E) :
    xWP L O M (xR h c0 s0) K pc ls st1 G cs ns := by
  subst hs1
  exact yc_SE hd hok hw hn hsum hh hm hcs hns hM (fun v G' h => by cases h.1) (fun E G' h => by cases h.1; rw [h.2]; exact hx)
theorem yc_I {idx i n d h c s c0 s0 : Nat} {As st1 : List Value} {G2 : List xOb} (hd : decode M.2.1 pc = .ok (.invokespecial idx, 3)) (hok : xOkI M' n) (hw : Cond.methodLink M.1.cls idx M'.1 ∈ xTG ∨ ∃ host, Cond.methodLinkNest M.1.cls idx M'.1 host ∈ xTN)
    (hi : i < xBig) (hn : As.length = n) (hsum : (st.map (fun v => v.category)).sum ≤ 8) (hh : d < h) (hm : M'.2.2.1 ≤ 41) (hcs : cs + c ≤ c0) (hns : ns + s ≤ s0) (hs1 : As.reverse ++ .ref i :: st = st1)
    (hM : xMet L O M' (xR d c s) (.ref i :: As) G (fun o G1 => o = .inl none ∧ G1 = G2)) (hk : xWP L O M (xR h c0 s0) K (pc + 3) ls st G2 (cs + c) (ns + s)) :
    xWP L O M (xR h c0 s0) K pc ls st1 G cs ns := by
  subst hs1
  exact xw_callI hd hok hw hi hn hsum (xRfr hh) (xRlo hh hm) hcs hns hM (fun v G' h => by cases h.1; rw [h.2]; exact hk) (fun E G' h => by cases h.1)
/-- throw new E("text"), out of the method -/
theorem yz_throw {ik is ic d c0 s0 : Nat} {cls text : String} {names : List String} (hd0 : decode M.2.1 pc = .ok (.new ik, 3)) (hd3 : decode M.2.1 (pc + 3) = .ok (.dup, 1)) (hd4 : decode M.2.1 (pc + 4) = .ok (.ldc is, 2)) (hd6 : decode M.2.1 (pc + 6) = .ok (.invokespecial ic, 3)) (hd9 : decode M.2.1 (pc + 9) = .ok (.athrow, 1))
    (hh : M.2.2.2.2 = []) (hcls : Bundle.fit cls = true) (hnames : ∀ n ∈ names, Bundle.fit n = true) (hk : Cond.classLink M.1.cls ik cls ∈ xTG) (hini : Cond.initialized cls ∈ xTG) (hstr : (M.1.cls, is, text) ∈ xST) (hat : ∀ w ∈ vx_atS M.1.cls ic cls names, w ∈ xTG ∨ w ∈ xTN) (hgood : ∀ w ∈ Cond.classLink M.1.cls ik cls :: Cond.initialized cls :: vx_atS M.1.cls ic cls names, vx_ot w = true)
    (hfr : names.length ≤ 3) (hsum : (st.map (fun v => v.category)).sum ≤ 8) (hcs : cs + 1 ≤ c0) (hns : ns + 6 ≤ s0) (hX : X.length ≤ 1000000) (hK : K (.inr cls) (Wd σ (X ++ [(127, [])]))) : xWP L O M (xR d c0 s0) K pc ls st (Wd σ X) cs ns := by
  have hb : (Wd σ X).length + 1 < xBig := by rw [Wd_len]; show 193 + X.length + 1 < 1099511627776; omega
  exact xw_throw hd0 hd3 hd4 hd6 hd9 hh hcls hnames hk hini hstr hat hgood (by show names.length + 3 < d + 7; omega) (by show _ ≤ 60 * d + 10054; omega) hcs hns hb (by rw [Wd_app]; exact hK)
end YR

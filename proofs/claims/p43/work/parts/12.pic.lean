/-! THE PICTURE: the class's own 193 cells; every number that changes is σ (cell) (place) -/
abbrev ySg : Type := Nat → Int → Int
abbrev yK1 : Type := Nat × List (Option Nat)
def yT1 : List yK1 := [(11, [some 1, some 6, some 13, some 20, some 21, none, none, some 128, some 130, some 133, some 186, some 190]), (2, [some 2, some 3, some 4, some 5, none]), (64, List.replicate 200 none), (66, List.replicate 200 none), (64, List.replicate 200 none), (65, List.replicate 200 none), (9, [some 7, some 10, none, none, none, none, none, none]), (7, [some 8, some 9]), (64, List.replicate 160 none), (64, List.replicate 160 none), (7, [some 11, some 12]), (64, List.replicate 160 none), (64, List.replicate 160 none), (9, [some 14, some 17, none, none, none, none, none, none]), (7, [some 15, some 16]), (64, List.replicate 160 none), (64, List.replicate 160 none), (7, [some 18, some 19]), (64, List.replicate 160 none), (64, List.replicate 160 none), (10, [some 21, some 22, some 23, some 24, some 25, some 29, none, some 30, some 31]), (67, [some 32, some 36, some 40, some 44, some 48, some 52, some 56, some 60, some 64, some 68, some 72, some 76, some 80, some 84, some 88, some 92, some 96, some 100, some 104, some 108, some 112, some 116, some 120, some 124]), (64, List.replicate 3 none), (64, List.replicate 3 none), (64, List.replicate 3 none), (6, [some 26, some 27, some 28]), (64, List.replicate 13 none), (64, List.replicate 13 none), (64, List.replicate 13 none), (64, List.replicate 24 none), (65, List.replicate 8 none), (64, List.replicate 8 none)]
def yT2 : List yK1 := (List.range 24).flatMap (fun k => [(3, [none, none, none, none, some (33 + 4 * k), some (34 + 4 * k), none, some (35 + 4 * k), none, none]), (64, List.replicate 12 none), (64, List.replicate 12 none), (64, List.replicate 12 none)])
def yT3 : List yK1 := [(4, [some 129, none]), (64, List.replicate 20 none), (1, [some 131, some 132, none]), (64, List.replicate 8 none), (64, List.replicate 8 none), (0, [some 134, some 159, some 185]), (68, [some 135, some 136, some 137, some 138, some 139, some 140, some 141, some 142, some 143, some 144, some 145, some 146, some 147, some 148, some 149, some 150, some 151, some 152, some 153, some 154, some 155, some 156, some 157, some 158]), (64, List.replicate 30 none), (64, List.replicate 30 none), (64, List.replicate 30 none), (64, List.replicate 30 none), (64, List.replicate 30 none), (64, List.replicate 30 none), (64, List.replicate 30 none), (64, List.replicate 30 none), (64, List.replicate 30 none), (64, List.replicate 30 none), (64, List.replicate 30 none), (64, List.replicate 30 none), (64, List.replicate 30 none), (64, List.replicate 30 none), (64, List.replicate 30 none), (64, List.replicate 30 none), (64, List.replicate 30 none), (64, List.replicate 30 none), (64, List.replicate 30 none), (64, List.replicate 30 none), (64, List.replicate 30 none), (64, List.replicate 30 none), (64, List.replicate 30 none), (64, List.replicate 30 none), (68, [some 160, some 161, some 162, some 163, some 164, some 165, some 166, some 167, some 168, some 169, some 170, some 171, some 172, some 173, some 174, some 175, some 176, some 177, some 178, some 179, some 180, some 181, some 182, some 183, some 184]), (64, List.replicate 31 none), (64, List.replicate 31 none), (64, List.replicate 31 none), (64, List.replicate 31 none), (64, List.replicate 31 none), (64, List.replicate 31 none), (64, List.replicate 31 none), (64, List.replicate 31 none), (64, List.replicate 31 none), (64, List.replicate 31 none), (64, List.replicate 31 none), (64, List.replicate 31 none), (64, List.replicate 31 none), (64, List.replicate 31 none), (64, List.replicate 31 none), (64, List.replicate 31 none), (64, List.replicate 31 none), (64, List.replicate 31 none), (64, List.replicate 31 none), (64, List.replicate 31 none), (64, List.replicate 31 none), (64, List.replicate 31 none), (64, List.replicate 31 none), (64, List.replicate 31 none), (64, List.replicate 31 none), (64, List.replicate 24 none), (5, [some 187, some 188, none, some 189, none]), (64, List.replicate 30 none), (64, List.replicate 30 none), (64, List.replicate 30 none), (8, [some 191, some 192, none, none]), (64, List.replicate 24 none), (64, List.replicate 24 none)]
def yT : List yK1 := yT1 ++ yT2 ++ yT3
def ySk (i : Nat) : yK1 := yT.getD i (0, [])
def yV (s : Int → Int) (k : Nat) : Option Nat → Value
  | none => .int (iI (s (k : Int)))
  | some r => .ref r
def ySl (s : Int → Int) (ks : List (Option Nat)) : List Value := ks.mapIdx (yV s)
def Wd (σ : ySg) (X : List xOb) : List xOb := (List.range 193).map (fun i => ((ySk i).1, ySl (σ i) (ySk i).2)) ++ X
/-- cell i is one of the picture's, of the kind ci, with the slots ks -/
def yIs (i ci : Nat) (ks : List (Option Nat)) : Prop := i < 193 ∧ ySk i = (ci, ks)
theorem yIs_of {i ci : Nat} {ks : List (Option Nat)} (h : yT[i]? = some (ci, ks)) (h2 : i < 193) : yIs i ci ks := ⟨h2, by unfold ySk; rw [List.getD_eq_getElem?_getD, h]; rfl⟩
theorem Wd_get {σ : ySg} {X : List xOb} {i ci : Nat} {ks : List (Option Nat)} (h : yIs i ci ks) : (Wd σ X)[i]? = some (ci, ySl (σ i) ks) := by
  have h1 := h.1
  unfold Wd
  rw [List.getElem?_append_left (by simp; exact h1), List.getElem?_map, List.getElem?_range h1]
  simp [h.2]
theorem Wd_len (σ : ySg) (X : List xOb) : (Wd σ X).length = 193 + X.length := by simp [Wd]
theorem Wd_getX {σ : ySg} {X : List xOb} {i : Nat} (h : 193 ≤ i) : (Wd σ X)[i]? = X[i - 193]? := by
  unfold Wd
  rw [List.getElem?_append_right (by simp; exact h)]
  simp
theorem Wd_app (σ : ySg) (X Y : List xOb) : Wd σ X ++ Y = Wd σ (X ++ Y) := by simp [Wd]
theorem Wd_setX {σ : ySg} {X : List xOb} {i : Nat} {o : xOb} (h : 193 ≤ i) : (Wd σ X).set i o = Wd σ (X.set (i - 193) o) := by
  unfold Wd
  rw [List.set_append_right _ _ (by simp; exact h)]
  simp
theorem ySl_get {s : Int → Int} {ks : List (Option Nat)} {k : Nat} {q : Option Nat} (h : ks[k]? = some q) : (ySl s ks)[k]? = some (yV s k q) := by
  simp [ySl, List.getElem?_mapIdx, h]
theorem ySl_len (s : Int → Int) (ks : List (Option Nat)) : (ySl s ks).length = ks.length := by simp [ySl]
def yup (σ : ySg) (i : Nat) (k v : Int) : ySg := fun a b => if a = i ∧ b = k then v else σ a b
theorem yup_s {σ : ySg} {i : Nat} {k v : Int} : yup σ i k v i k = v := if_pos ⟨rfl, rfl⟩
theorem yup_k {σ : ySg} {i a : Nat} {k v b : Int} (h : b ≠ k) : yup σ i k v a b = σ a b := if_neg (fun q => h q.2)
theorem yup_i {σ : ySg} {i a : Nat} {k v b : Int} (h : a ≠ i) : yup σ i k v a b = σ a b := if_neg (fun q => h q.1)
theorem ySl_set {s : Int → Int} {ks : List (Option Nat)} {k : Nat} {v : Int} (h : ks[k]? = some none) : (ySl s ks).set k (.int (iI v)) = ySl (fun b => if b = (k : Int) then v else s b) ks := by
  have hk : k < ks.length := (List.getElem?_eq_some_iff.mp h).1
  refine List.ext_getElem? fun j => ?_
  by_cases e : j = k
  · subst e
    rw [List.getElem?_set_self (by rw [ySl_len]; exact hk), ySl_get h]
    show some (Value.int (iI v)) = some (Value.int (iI (if ((j : Int) = (j : Int)) then v else s j)))
    rw [if_pos rfl]
  · rw [List.getElem?_set_ne (Ne.symm e)]
    unfold ySl
    rw [List.getElem?_mapIdx, List.getElem?_mapIdx]
    cases ks[j]? with
    | none => rfl
    | some q =>
      cases q with
      | some r => rfl
      | none =>
        show some (Value.int (iI (s j))) = some (Value.int (iI (if ((j : Int) = (k : Int)) then v else s j)))
        rw [if_neg (by omega)]
theorem Wd_set {σ : ySg} {X : List xOb} {i ci k : Nat} {ks : List (Option Nat)} {v z : Int} (h : yIs i ci ks) (hk : ks[k]? = some none) (hz : (k : Int) = z) : (Wd σ X).set i (ci, (ySl (σ i) ks).set k (.int (iI v))) = Wd (yup σ i z v) X := by
  subst hz
  have hi := h.1
  rw [ySl_set hk]
  refine List.ext_getElem? fun j => ?_
  by_cases e : j = i
  · subst e
    rw [List.getElem?_set_self (by rw [Wd_len]; omega), Wd_get h]
    refine congrArg some (congrArg (Prod.mk ci) (congrArg (fun s => ySl s ks) (funext fun b => ?_)))
    unfold yup
    by_cases e2 : b = (k : Int)
    · rw [if_pos e2, if_pos ⟨rfl, e2⟩]
    · rw [if_neg e2, if_neg (fun q => e2 q.2)]
  · rw [List.getElem?_set_ne (Ne.symm e)]
    by_cases c : j < 193
    · have hj : yIs j (ySk j).1 (ySk j).2 := ⟨c, rfl⟩
      rw [Wd_get hj, Wd_get hj]
      refine congrArg some (congrArg (Prod.mk _) (congrArg (fun s => ySl s _) (funext fun b => ?_)))
      exact (yup_i e).symm
    · rw [Wd_getX (by omega), Wd_getX (by omega)]
/-! where things lie -/
def cu (n : Int) : Nat := 32 + 4 * n.toNat
def cw (n : Int) : Nat := 33 + 4 * n.toNat
def ct (n : Int) : Nat := 34 + 4 * n.toNat
def cl (n : Int) : Nat := 35 + 4 * n.toNat
def pr (n : Int) : Nat := 135 + n.toNat
def co (n : Int) : Nat := 160 + n.toNat
def ksCu (n : Int) : List (Option Nat) := [none, none, none, none, some (cw n), some (ct n), none, some (cl n), none, none]
theorem yis_cu : ∀ k, k < 24 → yT[32 + 4 * k]? = some (3, [none, none, none, none, some (33 + 4 * k), some (34 + 4 * k), none, some (35 + 4 * k), none, none]) := by decide +kernel
theorem yis_cw : ∀ k, k < 24 → yT[33 + 4 * k]? = some (64, List.replicate 12 none) := by decide +kernel
theorem yis_ct : ∀ k, k < 24 → yT[34 + 4 * k]? = some (64, List.replicate 12 none) := by decide +kernel
theorem yis_cl : ∀ k, k < 24 → yT[35 + 4 * k]? = some (64, List.replicate 12 none) := by decide +kernel
theorem yis_pr : ∀ k, k < 24 → yT[135 + k]? = some (64, List.replicate 30 none) := by decide +kernel
theorem yis_co : ∀ k, k < 25 → yT[160 + k]? = some (64, List.replicate 31 none) := by decide +kernel
theorem is_cu {n : Int} (h : 0 ≤ n ∧ n < 24) : yIs (cu n) 3 (ksCu n) := yIs_of (yis_cu n.toNat (by omega)) (by unfold cu; omega)
theorem is_cw {n : Int} (h : 0 ≤ n ∧ n < 24) : yIs (cw n) 64 (List.replicate 12 none) := yIs_of (yis_cw n.toNat (by omega)) (by unfold cw; omega)
theorem is_ct {n : Int} (h : 0 ≤ n ∧ n < 24) : yIs (ct n) 64 (List.replicate 12 none) := yIs_of (yis_ct n.toNat (by omega)) (by unfold ct; omega)
theorem is_cl {n : Int} (h : 0 ≤ n ∧ n < 24) : yIs (cl n) 64 (List.replicate 12 none) := yIs_of (yis_cl n.toNat (by omega)) (by unfold cl; omega)
theorem is_pr {n : Int} (h : 0 ≤ n ∧ n < 24) : yIs (pr n) 64 (List.replicate 30 none) := yIs_of (yis_pr n.toNat (by omega)) (by unfold pr; omega)
theorem is_co {n : Int} (h : 0 ≤ n ∧ n < 25) : yIs (co n) 64 (List.replicate 31 none) := yIs_of (yis_co n.toNat (by omega)) (by unfold co; omega)
theorem cu_inj {a b : Int} (ha : 0 ≤ a) (hb : 0 ≤ b) : cu a = cu b ↔ a = b := by unfold cu; omega
theorem cw_inj {a b : Int} (ha : 0 ≤ a) (hb : 0 ≤ b) : cw a = cw b ↔ a = b := by unfold cw; omega
theorem ct_inj {a b : Int} (ha : 0 ≤ a) (hb : 0 ≤ b) : ct a = ct b ↔ a = b := by unfold ct; omega
theorem cl_inj {a b : Int} (ha : 0 ≤ a) (hb : 0 ≤ b) : cl a = cl b ↔ a = b := by unfold cl; omega
theorem pr_inj {a b : Int} (ha : 0 ≤ a) (hb : 0 ≤ b) : pr a = pr b ↔ a = b := by unfold pr; omega
theorem co_inj {a b : Int} (ha : 0 ≤ a) (hb : 0 ≤ b) : co a = co b ↔ a = b := by unfold co; omega
theorem rep_get {n k : Nat} (h : k < n) : (List.replicate n (none : Option Nat))[k]? = some none := by rw [List.getElem?_replicate, if_pos h]
abbrev ks0 : List (Option Nat) := [some 1, some 6, some 13, some 20, some 21, none, none, some 128, some 130, some 133, some 186, some 190]
theorem is_0 : yIs 0 11 ks0 := ⟨by decide, rfl⟩
abbrev ks1 : List (Option Nat) := [some 2, some 3, some 4, some 5, none]
theorem is_1 : yIs 1 2 ks1 := ⟨by decide, rfl⟩
abbrev ks2 : List (Option Nat) := List.replicate 200 none
theorem is_2 : yIs 2 64 ks2 := ⟨by decide, rfl⟩
abbrev ks3 : List (Option Nat) := List.replicate 200 none
theorem is_3 : yIs 3 66 ks3 := ⟨by decide, rfl⟩
abbrev ks4 : List (Option Nat) := List.replicate 200 none
theorem is_4 : yIs 4 64 ks4 := ⟨by decide, rfl⟩
abbrev ks5 : List (Option Nat) := List.replicate 200 none
theorem is_5 : yIs 5 65 ks5 := ⟨by decide, rfl⟩
abbrev ks6 : List (Option Nat) := [some 7, some 10, none, none, none, none, none, none]
theorem is_6 : yIs 6 9 ks6 := ⟨by decide, rfl⟩
abbrev ks7 : List (Option Nat) := [some 8, some 9]
theorem is_7 : yIs 7 7 ks7 := ⟨by decide, rfl⟩
abbrev ks8 : List (Option Nat) := List.replicate 160 none
theorem is_8 : yIs 8 64 ks8 := ⟨by decide, rfl⟩
abbrev ks9 : List (Option Nat) := List.replicate 160 none
theorem is_9 : yIs 9 64 ks9 := ⟨by decide, rfl⟩
abbrev ks10 : List (Option Nat) := [some 11, some 12]
theorem is_10 : yIs 10 7 ks10 := ⟨by decide, rfl⟩
abbrev ks11 : List (Option Nat) := List.replicate 160 none
theorem is_11 : yIs 11 64 ks11 := ⟨by decide, rfl⟩
abbrev ks12 : List (Option Nat) := List.replicate 160 none
theorem is_12 : yIs 12 64 ks12 := ⟨by decide, rfl⟩
abbrev ks13 : List (Option Nat) := [some 14, some 17, none, none, none, none, none, none]
theorem is_13 : yIs 13 9 ks13 := ⟨by decide, rfl⟩
abbrev ks14 : List (Option Nat) := [some 15, some 16]
theorem is_14 : yIs 14 7 ks14 := ⟨by decide, rfl⟩
abbrev ks15 : List (Option Nat) := List.replicate 160 none
theorem is_15 : yIs 15 64 ks15 := ⟨by decide, rfl⟩
abbrev ks16 : List (Option Nat) := List.replicate 160 none
theorem is_16 : yIs 16 64 ks16 := ⟨by decide, rfl⟩
abbrev ks17 : List (Option Nat) := [some 18, some 19]
theorem is_17 : yIs 17 7 ks17 := ⟨by decide, rfl⟩
abbrev ks18 : List (Option Nat) := List.replicate 160 none
theorem is_18 : yIs 18 64 ks18 := ⟨by decide, rfl⟩
abbrev ks19 : List (Option Nat) := List.replicate 160 none
theorem is_19 : yIs 19 64 ks19 := ⟨by decide, rfl⟩
abbrev ks20 : List (Option Nat) := [some 21, some 22, some 23, some 24, some 25, some 29, none, some 30, some 31]
theorem is_20 : yIs 20 10 ks20 := ⟨by decide, rfl⟩
abbrev ks21 : List (Option Nat) := [some 32, some 36, some 40, some 44, some 48, some 52, some 56, some 60, some 64, some 68, some 72, some 76, some 80, some 84, some 88, some 92, some 96, some 100, some 104, some 108, some 112, some 116, some 120, some 124]
theorem is_21 : yIs 21 67 ks21 := ⟨by decide, rfl⟩
abbrev ks22 : List (Option Nat) := List.replicate 3 none
theorem is_22 : yIs 22 64 ks22 := ⟨by decide, rfl⟩
abbrev ks23 : List (Option Nat) := List.replicate 3 none
theorem is_23 : yIs 23 64 ks23 := ⟨by decide, rfl⟩
abbrev ks24 : List (Option Nat) := List.replicate 3 none
theorem is_24 : yIs 24 64 ks24 := ⟨by decide, rfl⟩
abbrev ks25 : List (Option Nat) := [some 26, some 27, some 28]
theorem is_25 : yIs 25 6 ks25 := ⟨by decide, rfl⟩
abbrev ks26 : List (Option Nat) := List.replicate 13 none
theorem is_26 : yIs 26 64 ks26 := ⟨by decide, rfl⟩
abbrev ks27 : List (Option Nat) := List.replicate 13 none
theorem is_27 : yIs 27 64 ks27 := ⟨by decide, rfl⟩
abbrev ks28 : List (Option Nat) := List.replicate 13 none
theorem is_28 : yIs 28 64 ks28 := ⟨by decide, rfl⟩
abbrev ks29 : List (Option Nat) := List.replicate 24 none
theorem is_29 : yIs 29 64 ks29 := ⟨by decide, rfl⟩
abbrev ks30 : List (Option Nat) := List.replicate 8 none
theorem is_30 : yIs 30 65 ks30 := ⟨by decide, rfl⟩
abbrev ks31 : List (Option Nat) := List.replicate 8 none
theorem is_31 : yIs 31 64 ks31 := ⟨by decide, rfl⟩
abbrev ks128 : List (Option Nat) := [some 129, none]
theorem is_128 : yIs 128 4 ks128 := ⟨by decide, rfl⟩
abbrev ks129 : List (Option Nat) := List.replicate 20 none
theorem is_129 : yIs 129 64 ks129 := ⟨by decide, rfl⟩
abbrev ks130 : List (Option Nat) := [some 131, some 132, none]
theorem is_130 : yIs 130 1 ks130 := ⟨by decide, rfl⟩
abbrev ks131 : List (Option Nat) := List.replicate 8 none
theorem is_131 : yIs 131 64 ks131 := ⟨by decide, rfl⟩
abbrev ks132 : List (Option Nat) := List.replicate 8 none
theorem is_132 : yIs 132 64 ks132 := ⟨by decide, rfl⟩
abbrev ks133 : List (Option Nat) := [some 134, some 159, some 185]
theorem is_133 : yIs 133 0 ks133 := ⟨by decide, rfl⟩
abbrev ks134 : List (Option Nat) := [some 135, some 136, some 137, some 138, some 139, some 140, some 141, some 142, some 143, some 144, some 145, some 146, some 147, some 148, some 149, some 150, some 151, some 152, some 153, some 154, some 155, some 156, some 157, some 158]
theorem is_134 : yIs 134 68 ks134 := ⟨by decide, rfl⟩
abbrev ks159 : List (Option Nat) := [some 160, some 161, some 162, some 163, some 164, some 165, some 166, some 167, some 168, some 169, some 170, some 171, some 172, some 173, some 174, some 175, some 176, some 177, some 178, some 179, some 180, some 181, some 182, some 183, some 184]
theorem is_159 : yIs 159 68 ks159 := ⟨by decide, rfl⟩
abbrev ks185 : List (Option Nat) := List.replicate 24 none
theorem is_185 : yIs 185 64 ks185 := ⟨by decide, rfl⟩
abbrev ks186 : List (Option Nat) := [some 187, some 188, none, some 189, none]
theorem is_186 : yIs 186 5 ks186 := ⟨by decide, rfl⟩
abbrev ks187 : List (Option Nat) := List.replicate 30 none
theorem is_187 : yIs 187 64 ks187 := ⟨by decide, rfl⟩
abbrev ks188 : List (Option Nat) := List.replicate 30 none
theorem is_188 : yIs 188 64 ks188 := ⟨by decide, rfl⟩
abbrev ks189 : List (Option Nat) := List.replicate 30 none
theorem is_189 : yIs 189 64 ks189 := ⟨by decide, rfl⟩
abbrev ks190 : List (Option Nat) := [some 191, some 192, none, none]
theorem is_190 : yIs 190 8 ks190 := ⟨by decide, rfl⟩
abbrev ks191 : List (Option Nat) := List.replicate 24 none
theorem is_191 : yIs 191 64 ks191 := ⟨by decide, rfl⟩
abbrev ks192 : List (Option Nat) := List.replicate 24 none
theorem is_192 : yIs 192 64 ks192 := ⟨by decide, rfl⟩
theorem ks21_get {z : Int} (h : 0 ≤ z ∧ z < 24) : ks21[z.toNat]? = some (some (cu z)) := by
  have h1 : ∀ k, k < 24 → ks21[k]? = some (some (32 + 4 * k)) := by decide +kernel
  exact h1 z.toNat (by omega)
theorem ks134_get {z : Int} (h : 0 ≤ z ∧ z < 24) : ks134[z.toNat]? = some (some (pr z)) := by
  have h1 : ∀ k, k < 24 → ks134[k]? = some (some (135 + k)) := by decide +kernel
  exact h1 z.toNat (by omega)
theorem ks159_get {z : Int} (h : 0 ≤ z ∧ z < 25) : ks159[z.toNat]? = some (some (co z)) := by
  have h1 : ∀ k, k < 25 → ks159[k]? = some (some (160 + k)) := by decide +kernel
  exact h1 z.toNat (by omega)

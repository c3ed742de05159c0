section Y26
variable {L : Launch} {O : xWd} {K : xOc → List xOb → Prop} {σ : ySg} {X : List xOb} {G : List xOb}
def yCnt (f : Int) : Int := f + 2 * (9 * (f / 17982) + if f % 17982 < 1800 then 0 else 1 + (f % 17982 - 1800) / 1798)
theorem yCnt_bd {f : Int} (h : 0 ≤ f ∧ f ≤ 99999) : 0 ≤ yCnt f ∧ yCnt f ≤ 101000 := by unfold yCnt; split <;> omega
def yPart (p c : Int) : Int := if p = 0 then c / 108000 else if p = 1 then c / 1800 % 60 else if p = 2 then c / 30 % 60 else c % 30
theorem s_stamp00 (hL : L.stackTraces = false) {f : Int} (hf : 0 ≤ f ∧ f ≤ 99999) : xMet L O mX11_stampOf (xR 2 0 0) [.ref 0, .int (iI f), .int (iI 0), .int (iI 0)] (Wd σ X) (fun o G1 => o = .inl (some (.int (iI (yPart 0 (f))))) ∧ G1 = Wd σ X) := xMet_of (by decide) hL (Nat.le_of_ble_eq_true rfl) (by
  refine xw_eq rfl (l2 := [(0, .ref 0), (1, .int (iI f)), (2, .int (iI 0)), (3, .int (iI 0))]) rfl rfl rfl ?_
  refine xw_iload_n 1 dX11_stampOf_0 rfl ?_
  refine yc_S (M' := mX11_needFrame) (d := 1) (c := 0) (s := 0) (As := [.int (iI f)]) (st := []) (v0 := none) (G2 := Wd σ X) dX11_stampOf_1 okX11_needFrame (Or.inl w_725) rfl (Nat.le_of_ble_eq_true rfl) (by decide) (by decide) (Nat.zero_le _) (Nat.zero_le _) rfl rfl (s_needFrame1 hL (by omega)) ?_
  refine xw_iload_n 2 dX11_stampOf_4 rfl ?_
  refine xz_iconst dX11_stampOf_5 ?_
  refine xz_iconst dX11_stampOf_6 ?_
  refine yc_S (M' := mX11_isIn) (d := 0) (c := 0) (s := 0) (As := [.int (iI 0), .int (iI 0), .int (iI 3)]) (st := []) (v0 := some (.int (iI 1))) (G2 := Wd σ X) dX11_stampOf_7 okX11_isIn (Or.inl w_729) rfl (Nat.le_of_ble_eq_true rfl) (by decide) (by decide) (Nat.zero_le _) (Nat.zero_le _) rfl rfl (s_isIn1 hL (by decide) (by decide) (by decide) (by omega)) ?_
  refine yc_S (M' := mX11_needArgument) (d := 0) (c := 0) (s := 0) (As := [.int (iI 1)]) (st := []) (v0 := none) (G2 := Wd σ X) dX11_stampOf_10 okX11_needArgument (Or.inl w_749) rfl (Nat.le_of_ble_eq_true rfl) (by decide) (by decide) (Nat.zero_le _) (Nat.zero_le _) rfl rfl (s_needArg1 hL) ?_
  refine xw_iload_n 3 dX11_stampOf_13 rfl ?_
  refine xz_if_eq (tgt := 24) dX11_stampOf_14 (by decide) (by omega) (fun c1 => ?_) (fun c1 => ?_)
  · refine xw_iload_n 1 dX11_stampOf_24 rfl ?_
    refine xw_istore (l2 := [(0, .ref 0), (1, .int (iI f)), (2, .int (iI 0)), (3, .int (iI 0)), (4, .int (iI f))]) dX11_stampOf_25 (by decide) rfl rfl ?_
    refine xw_iload_n 2 dX11_stampOf_27 rfl ?_
    refine xz_tabIn (off := 28) (tgt := 56) dX11_stampOf_28 (by decide) (by decide) rfl (by decide) ?_
    refine xw_iload 4 dX11_stampOf_56 rfl ?_
    refine xz_ldc (z := 108000) dX11_stampOf_58 w_1147 (by decide) ?_
    refine xz_idiv dX11_stampOf_60 (by omega) (by decide) ?_
    exact xz_iret dX11_stampOf_61 rfl (Nat.zero_le _) (Nat.zero_le _) ⟨rfl, rfl⟩
  · exact absurd c1 (by omega))
theorem s_stamp01 (hL : L.stackTraces = false) {f : Int} (hf : 0 ≤ f ∧ f ≤ 99999) : xMet L O mX11_stampOf (xR 2 0 0) [.ref 0, .int (iI f), .int (iI 1), .int (iI 0)] (Wd σ X) (fun o G1 => o = .inl (some (.int (iI (yPart 1 (f))))) ∧ G1 = Wd σ X) := xMet_of (by decide) hL (Nat.le_of_ble_eq_true rfl) (by
  refine xw_eq rfl (l2 := [(0, .ref 0), (1, .int (iI f)), (2, .int (iI 1)), (3, .int (iI 0))]) rfl rfl rfl ?_
  refine xw_iload_n 1 dX11_stampOf_0 rfl ?_
  refine yc_S (M' := mX11_needFrame) (d := 1) (c := 0) (s := 0) (As := [.int (iI f)]) (st := []) (v0 := none) (G2 := Wd σ X) dX11_stampOf_1 okX11_needFrame (Or.inl w_725) rfl (Nat.le_of_ble_eq_true rfl) (by decide) (by decide) (Nat.zero_le _) (Nat.zero_le _) rfl rfl (s_needFrame1 hL (by omega)) ?_
  refine xw_iload_n 2 dX11_stampOf_4 rfl ?_
  refine xz_iconst dX11_stampOf_5 ?_
  refine xz_iconst dX11_stampOf_6 ?_
  refine yc_S (M' := mX11_isIn) (d := 0) (c := 0) (s := 0) (As := [.int (iI 1), .int (iI 0), .int (iI 3)]) (st := []) (v0 := some (.int (iI 1))) (G2 := Wd σ X) dX11_stampOf_7 okX11_isIn (Or.inl w_729) rfl (Nat.le_of_ble_eq_true rfl) (by decide) (by decide) (Nat.zero_le _) (Nat.zero_le _) rfl rfl (s_isIn1 hL (by decide) (by decide) (by decide) (by omega)) ?_
  refine yc_S (M' := mX11_needArgument) (d := 0) (c := 0) (s := 0) (As := [.int (iI 1)]) (st := []) (v0 := none) (G2 := Wd σ X) dX11_stampOf_10 okX11_needArgument (Or.inl w_749) rfl (Nat.le_of_ble_eq_true rfl) (by decide) (by decide) (Nat.zero_le _) (Nat.zero_le _) rfl rfl (s_needArg1 hL) ?_
  refine xw_iload_n 3 dX11_stampOf_13 rfl ?_
  refine xz_if_eq (tgt := 24) dX11_stampOf_14 (by decide) (by omega) (fun c1 => ?_) (fun c1 => ?_)
  · refine xw_iload_n 1 dX11_stampOf_24 rfl ?_
    refine xw_istore (l2 := [(0, .ref 0), (1, .int (iI f)), (2, .int (iI 1)), (3, .int (iI 0)), (4, .int (iI f))]) dX11_stampOf_25 (by decide) rfl rfl ?_
    refine xw_iload_n 2 dX11_stampOf_27 rfl ?_
    refine xz_tabIn (off := 34) (tgt := 62) dX11_stampOf_28 (by decide) (by decide) rfl (by decide) ?_
    refine xw_iload 4 dX11_stampOf_62 rfl ?_
    refine xz_sipush dX11_stampOf_64 (by decide) ?_
    refine xz_idiv dX11_stampOf_67 (by omega) (by decide) ?_
    refine xz_bipush dX11_stampOf_68 (by decide) ?_
    refine xz_irem dX11_stampOf_70 (by omega) (by decide) ?_
    exact xz_iret dX11_stampOf_71 rfl (Nat.zero_le _) (Nat.zero_le _) ⟨rfl, rfl⟩
  · exact absurd c1 (by omega))
theorem s_stamp02 (hL : L.stackTraces = false) {f : Int} (hf : 0 ≤ f ∧ f ≤ 99999) : xMet L O mX11_stampOf (xR 2 0 0) [.ref 0, .int (iI f), .int (iI 2), .int (iI 0)] (Wd σ X) (fun o G1 => o = .inl (some (.int (iI (yPart 2 (f))))) ∧ G1 = Wd σ X) := xMet_of (by decide) hL (Nat.le_of_ble_eq_true rfl) (by
  refine xw_eq rfl (l2 := [(0, .ref 0), (1, .int (iI f)), (2, .int (iI 2)), (3, .int (iI 0))]) rfl rfl rfl ?_
  refine xw_iload_n 1 dX11_stampOf_0 rfl ?_
  refine yc_S (M' := mX11_needFrame) (d := 1) (c := 0) (s := 0) (As := [.int (iI f)]) (st := []) (v0 := none) (G2 := Wd σ X) dX11_stampOf_1 okX11_needFrame (Or.inl w_725) rfl (Nat.le_of_ble_eq_true rfl) (by decide) (by decide) (Nat.zero_le _) (Nat.zero_le _) rfl rfl (s_needFrame1 hL (by omega)) ?_
  refine xw_iload_n 2 dX11_stampOf_4 rfl ?_
  refine xz_iconst dX11_stampOf_5 ?_
  refine xz_iconst dX11_stampOf_6 ?_
  refine yc_S (M' := mX11_isIn) (d := 0) (c := 0) (s := 0) (As := [.int (iI 2), .int (iI 0), .int (iI 3)]) (st := []) (v0 := some (.int (iI 1))) (G2 := Wd σ X) dX11_stampOf_7 okX11_isIn (Or.inl w_729) rfl (Nat.le_of_ble_eq_true rfl) (by decide) (by decide) (Nat.zero_le _) (Nat.zero_le _) rfl rfl (s_isIn1 hL (by decide) (by decide) (by decide) (by omega)) ?_
  refine yc_S (M' := mX11_needArgument) (d := 0) (c := 0) (s := 0) (As := [.int (iI 1)]) (st := []) (v0 := none) (G2 := Wd σ X) dX11_stampOf_10 okX11_needArgument (Or.inl w_749) rfl (Nat.le_of_ble_eq_true rfl) (by decide) (by decide) (Nat.zero_le _) (Nat.zero_le _) rfl rfl (s_needArg1 hL) ?_
  refine xw_iload_n 3 dX11_stampOf_13 rfl ?_
  refine xz_if_eq (tgt := 24) dX11_stampOf_14 (by decide) (by omega) (fun c1 => ?_) (fun c1 => ?_)
  · refine xw_iload_n 1 dX11_stampOf_24 rfl ?_
    refine xw_istore (l2 := [(0, .ref 0), (1, .int (iI f)), (2, .int (iI 2)), (3, .int (iI 0)), (4, .int (iI f))]) dX11_stampOf_25 (by decide) rfl rfl ?_
    refine xw_iload_n 2 dX11_stampOf_27 rfl ?_
    refine xz_tabIn (off := 44) (tgt := 72) dX11_stampOf_28 (by decide) (by decide) rfl (by decide) ?_
    refine xw_iload 4 dX11_stampOf_72 rfl ?_
    refine xz_bipush dX11_stampOf_74 (by decide) ?_
    refine xz_idiv dX11_stampOf_76 (by omega) (by decide) ?_
    refine xz_bipush dX11_stampOf_77 (by decide) ?_
    refine xz_irem dX11_stampOf_79 (by omega) (by decide) ?_
    exact xz_iret dX11_stampOf_80 rfl (Nat.zero_le _) (Nat.zero_le _) ⟨rfl, rfl⟩
  · exact absurd c1 (by omega))
theorem s_stamp03 (hL : L.stackTraces = false) {f : Int} (hf : 0 ≤ f ∧ f ≤ 99999) : xMet L O mX11_stampOf (xR 2 0 0) [.ref 0, .int (iI f), .int (iI 3), .int (iI 0)] (Wd σ X) (fun o G1 => o = .inl (some (.int (iI (yPart 3 (f))))) ∧ G1 = Wd σ X) := xMet_of (by decide) hL (Nat.le_of_ble_eq_true rfl) (by
  refine xw_eq rfl (l2 := [(0, .ref 0), (1, .int (iI f)), (2, .int (iI 3)), (3, .int (iI 0))]) rfl rfl rfl ?_
  refine xw_iload_n 1 dX11_stampOf_0 rfl ?_
  refine yc_S (M' := mX11_needFrame) (d := 1) (c := 0) (s := 0) (As := [.int (iI f)]) (st := []) (v0 := none) (G2 := Wd σ X) dX11_stampOf_1 okX11_needFrame (Or.inl w_725) rfl (Nat.le_of_ble_eq_true rfl) (by decide) (by decide) (Nat.zero_le _) (Nat.zero_le _) rfl rfl (s_needFrame1 hL (by omega)) ?_
  refine xw_iload_n 2 dX11_stampOf_4 rfl ?_
  refine xz_iconst dX11_stampOf_5 ?_
  refine xz_iconst dX11_stampOf_6 ?_
  refine yc_S (M' := mX11_isIn) (d := 0) (c := 0) (s := 0) (As := [.int (iI 3), .int (iI 0), .int (iI 3)]) (st := []) (v0 := some (.int (iI 1))) (G2 := Wd σ X) dX11_stampOf_7 okX11_isIn (Or.inl w_729) rfl (Nat.le_of_ble_eq_true rfl) (by decide) (by decide) (Nat.zero_le _) (Nat.zero_le _) rfl rfl (s_isIn1 hL (by decide) (by decide) (by decide) (by omega)) ?_
  refine yc_S (M' := mX11_needArgument) (d := 0) (c := 0) (s := 0) (As := [.int (iI 1)]) (st := []) (v0 := none) (G2 := Wd σ X) dX11_stampOf_10 okX11_needArgument (Or.inl w_749) rfl (Nat.le_of_ble_eq_true rfl) (by decide) (by decide) (Nat.zero_le _) (Nat.zero_le _) rfl rfl (s_needArg1 hL) ?_
  refine xw_iload_n 3 dX11_stampOf_13 rfl ?_
  refine xz_if_eq (tgt := 24) dX11_stampOf_14 (by decide) (by omega) (fun c1 => ?_) (fun c1 => ?_)
  · refine xw_iload_n 1 dX11_stampOf_24 rfl ?_
    refine xw_istore (l2 := [(0, .ref 0), (1, .int (iI f)), (2, .int (iI 3)), (3, .int (iI 0)), (4, .int (iI f))]) dX11_stampOf_25 (by decide) rfl rfl ?_
    refine xw_iload_n 2 dX11_stampOf_27 rfl ?_
    refine xz_tabOut (tgt := 81) dX11_stampOf_28 (by decide) (by decide) (by decide) ?_
    refine xw_iload 4 dX11_stampOf_81 rfl ?_
    refine xz_bipush dX11_stampOf_83 (by decide) ?_
    refine xz_irem dX11_stampOf_85 (by omega) (by decide) ?_
    exact xz_iret dX11_stampOf_86 rfl (Nat.zero_le _) (Nat.zero_le _) ⟨rfl, rfl⟩
  · exact absurd c1 (by omega))
theorem s_stampOf0 (hL : L.stackTraces = false) {f p : Int} (hf : 0 ≤ f ∧ f ≤ 99999) (hp : 0 ≤ p ∧ p ≤ 3) : xMet L O mX11_stampOf (xR 2 0 0) [.ref 0, .int (iI f), .int (iI p), .int (iI 0)] (Wd σ X) (fun o G1 => o = .inl (some (.int (iI (yPart p (f))))) ∧ G1 = Wd σ X) := by
  have h : p = 0 ∨ p = 1 ∨ p = 2 ∨ p = 3 := by omega
  rcases h with rfl | rfl | rfl | rfl
  · exact s_stamp00 hL hf
  · exact s_stamp01 hL hf
  · exact s_stamp02 hL hf
  · exact s_stamp03 hL hf
theorem s_stamp10 (hL : L.stackTraces = false) {f : Int} (hf : 0 ≤ f ∧ f ≤ 99999) : xMet L O mX11_stampOf (xR 2 0 0) [.ref 0, .int (iI f), .int (iI 0), .int (iI 1)] (Wd σ X) (fun o G1 => o = .inl (some (.int (iI (yPart 0 (yCnt f))))) ∧ G1 = Wd σ X) := xMet_of (by decide) hL (Nat.le_of_ble_eq_true rfl) (by
  refine xw_eq rfl (l2 := [(0, .ref 0), (1, .int (iI f)), (2, .int (iI 0)), (3, .int (iI 1))]) rfl rfl rfl ?_
  refine xw_iload_n 1 dX11_stampOf_0 rfl ?_
  refine yc_S (M' := mX11_needFrame) (d := 1) (c := 0) (s := 0) (As := [.int (iI f)]) (st := []) (v0 := none) (G2 := Wd σ X) dX11_stampOf_1 okX11_needFrame (Or.inl w_725) rfl (Nat.le_of_ble_eq_true rfl) (by decide) (by decide) (Nat.zero_le _) (Nat.zero_le _) rfl rfl (s_needFrame1 hL (by omega)) ?_
  refine xw_iload_n 2 dX11_stampOf_4 rfl ?_
  refine xz_iconst dX11_stampOf_5 ?_
  refine xz_iconst dX11_stampOf_6 ?_
  refine yc_S (M' := mX11_isIn) (d := 0) (c := 0) (s := 0) (As := [.int (iI 0), .int (iI 0), .int (iI 3)]) (st := []) (v0 := some (.int (iI 1))) (G2 := Wd σ X) dX11_stampOf_7 okX11_isIn (Or.inl w_729) rfl (Nat.le_of_ble_eq_true rfl) (by decide) (by decide) (Nat.zero_le _) (Nat.zero_le _) rfl rfl (s_isIn1 hL (by decide) (by decide) (by decide) (by omega)) ?_
  refine yc_S (M' := mX11_needArgument) (d := 0) (c := 0) (s := 0) (As := [.int (iI 1)]) (st := []) (v0 := none) (G2 := Wd σ X) dX11_stampOf_10 okX11_needArgument (Or.inl w_749) rfl (Nat.le_of_ble_eq_true rfl) (by decide) (by decide) (Nat.zero_le _) (Nat.zero_le _) rfl rfl (s_needArg1 hL) ?_
  refine xw_iload_n 3 dX11_stampOf_13 rfl ?_
  refine xz_if_eq (tgt := 24) dX11_stampOf_14 (by decide) (by omega) (fun c1 => ?_) (fun c1 => ?_)
  · exact absurd c1 (by omega)
  · refine xw_iload_n 1 dX11_stampOf_17 rfl ?_
    refine yc_SE (M' := mX11_countedWithDropped) (d := 0) (c := 0) (s := 0) (As := [.int (iI f)]) (st := []) dX11_stampOf_18 okX11_countedWithDropped (Or.inl w_1144) rfl (Nat.le_of_ble_eq_true rfl) (by decide) (by decide) (Nat.zero_le _) (Nat.zero_le _) (s_counted hL (by omega)) (fun v9 G9 h9 => ?_) (fun E9 G9 h9 => ?_)
    · obtain ⟨z2, e9, z2a, e8⟩ := h9
      cases e9
      subst e8
      have z2c : z2 = yCnt f := by unfold yCnt; split <;> omega
      rw [z2c]
      have z2d := yCnt_bd (f := f) (by omega)
      refine xw_goto (tgt := 25) dX11_stampOf_21 (by decide) ?_
      refine xw_istore (l2 := [(0, .ref 0), (1, .int (iI f)), (2, .int (iI 0)), (3, .int (iI 1)), (4, .int (iI (yCnt f)))]) dX11_stampOf_25 (by decide) rfl rfl ?_
      refine xw_iload_n 2 dX11_stampOf_27 rfl ?_
      refine xz_tabIn (off := 28) (tgt := 56) dX11_stampOf_28 (by decide) (by decide) rfl (by decide) ?_
      refine xw_iload 4 dX11_stampOf_56 rfl ?_
      refine xz_ldc (z := 108000) dX11_stampOf_58 w_1147 (by decide) ?_
      refine xz_idiv dX11_stampOf_60 (by omega) (by decide) ?_
      exact xz_iret dX11_stampOf_61 rfl (Nat.zero_le _) (Nat.zero_le _) ⟨rfl, rfl⟩
    · obtain ⟨_, e9, _⟩ := h9
      cases e9)
theorem s_stamp11 (hL : L.stackTraces = false) {f : Int} (hf : 0 ≤ f ∧ f ≤ 99999) : xMet L O mX11_stampOf (xR 2 0 0) [.ref 0, .int (iI f), .int (iI 1), .int (iI 1)] (Wd σ X) (fun o G1 => o = .inl (some (.int (iI (yPart 1 (yCnt f))))) ∧ G1 = Wd σ X) := xMet_of (by decide) hL (Nat.le_of_ble_eq_true rfl) (by
  refine xw_eq rfl (l2 := [(0, .ref 0), (1, .int (iI f)), (2, .int (iI 1)), (3, .int (iI 1))]) rfl rfl rfl ?_
  refine xw_iload_n 1 dX11_stampOf_0 rfl ?_
  refine yc_S (M' := mX11_needFrame) (d := 1) (c := 0) (s := 0) (As := [.int (iI f)]) (st := []) (v0 := none) (G2 := Wd σ X) dX11_stampOf_1 okX11_needFrame (Or.inl w_725) rfl (Nat.le_of_ble_eq_true rfl) (by decide) (by decide) (Nat.zero_le _) (Nat.zero_le _) rfl rfl (s_needFrame1 hL (by omega)) ?_
  refine xw_iload_n 2 dX11_stampOf_4 rfl ?_
  refine xz_iconst dX11_stampOf_5 ?_
  refine xz_iconst dX11_stampOf_6 ?_
  refine yc_S (M' := mX11_isIn) (d := 0) (c := 0) (s := 0) (As := [.int (iI 1), .int (iI 0), .int (iI 3)]) (st := []) (v0 := some (.int (iI 1))) (G2 := Wd σ X) dX11_stampOf_7 okX11_isIn (Or.inl w_729) rfl (Nat.le_of_ble_eq_true rfl) (by decide) (by decide) (Nat.zero_le _) (Nat.zero_le _) rfl rfl (s_isIn1 hL (by decide) (by decide) (by decide) (by omega)) ?_
  refine yc_S (M' := mX11_needArgument) (d := 0) (c := 0) (s := 0) (As := [.int (iI 1)]) (st := []) (v0 := none) (G2 := Wd σ X) dX11_stampOf_10 okX11_needArgument (Or.inl w_749) rfl (Nat.le_of_ble_eq_true rfl) (by decide) (by decide) (Nat.zero_le _) (Nat.zero_le _) rfl rfl (s_needArg1 hL) ?_
  refine xw_iload_n 3 dX11_stampOf_13 rfl ?_
  refine xz_if_eq (tgt := 24) dX11_stampOf_14 (by decide) (by omega) (fun c1 => ?_) (fun c1 => ?_)
  · exact absurd c1 (by omega)
  · refine xw_iload_n 1 dX11_stampOf_17 rfl ?_
    refine yc_SE (M' := mX11_countedWithDropped) (d := 0) (c := 0) (s := 0) (As := [.int (iI f)]) (st := []) dX11_stampOf_18 okX11_countedWithDropped (Or.inl w_1144) rfl (Nat.le_of_ble_eq_true rfl) (by decide) (by decide) (Nat.zero_le _) (Nat.zero_le _) (s_counted hL (by omega)) (fun v9 G9 h9 => ?_) (fun E9 G9 h9 => ?_)
    · obtain ⟨z2, e9, z2a, e8⟩ := h9
      cases e9
      subst e8
      have z2c : z2 = yCnt f := by unfold yCnt; split <;> omega
      rw [z2c]
      have z2d := yCnt_bd (f := f) (by omega)
      refine xw_goto (tgt := 25) dX11_stampOf_21 (by decide) ?_
      refine xw_istore (l2 := [(0, .ref 0), (1, .int (iI f)), (2, .int (iI 1)), (3, .int (iI 1)), (4, .int (iI (yCnt f)))]) dX11_stampOf_25 (by decide) rfl rfl ?_
      refine xw_iload_n 2 dX11_stampOf_27 rfl ?_
      refine xz_tabIn (off := 34) (tgt := 62) dX11_stampOf_28 (by decide) (by decide) rfl (by decide) ?_
      refine xw_iload 4 dX11_stampOf_62 rfl ?_
      refine xz_sipush dX11_stampOf_64 (by decide) ?_
      refine xz_idiv dX11_stampOf_67 (by omega) (by decide) ?_
      refine xz_bipush dX11_stampOf_68 (by decide) ?_
      refine xz_irem dX11_stampOf_70 (by omega) (by decide) ?_
      exact xz_iret dX11_stampOf_71 rfl (Nat.zero_le _) (Nat.zero_le _) ⟨rfl, rfl⟩
    · obtain ⟨_, e9, _⟩ := h9
      cases e9)
theorem s_stamp12 (hL : L.stackTraces = false) {f : Int} (hf : 0 ≤ f ∧ f ≤ 99999) : xMet L O mX11_stampOf (xR 2 0 0) [.ref 0, .int (iI f), .int (iI 2), .int (iI 1)] (Wd σ X) (fun o G1 => o = .inl (some (.int (iI (yPart 2 (yCnt f))))) ∧ G1 = Wd σ X) := xMet_of (by decide) hL (Nat.le_of_ble_eq_true rfl) (by
  refine xw_eq rfl (l2 := [(0, .ref 0), (1, .int (iI f)), (2, .int (iI 2)), (3, .int (iI 1))]) rfl rfl rfl ?_
  refine xw_iload_n 1 dX11_stampOf_0 rfl ?_
  refine yc_S (M' := mX11_needFrame) (d := 1) (c := 0) (s := 0) (As := [.int (iI f)]) (st := []) (v0 := none) (G2 := Wd σ X) dX11_stampOf_1 okX11_needFrame (Or.inl w_725) rfl (Nat.le_of_ble_eq_true rfl) (by decide) (by decide) (Nat.zero_le _) (Nat.zero_le _) rfl rfl (s_needFrame1 hL (by omega)) ?_
  refine xw_iload_n 2 dX11_stampOf_4 rfl ?_
  refine xz_iconst dX11_stampOf_5 ?_
  refine xz_iconst dX11_stampOf_6 ?_
  refine yc_S (M' := mX11_isIn) (d := 0) (c := 0) (s := 0) (As := [.int (iI 2), .int (iI 0), .int (iI 3)]) (st := []) (v0 := some (.int (iI 1))) (G2 := Wd σ X) dX11_stampOf_7 okX11_isIn (Or.inl w_729) rfl (Nat.le_of_ble_eq_true rfl) (by decide) (by decide) (Nat.zero_le _) (Nat.zero_le _) rfl rfl (s_isIn1 hL (by decide) (by decide) (by decide) (by omega)) ?_
  refine yc_S (M' := mX11_needArgument) (d := 0) (c := 0) (s := 0) (As := [.int (iI 1)]) (st := []) (v0 := none) (G2 := Wd σ X) dX11_stampOf_10 okX11_needArgument (Or.inl w_749) rfl (Nat.le_of_ble_eq_true rfl) (by decide) (by decide) (Nat.zero_le _) (Nat.zero_le _) rfl rfl (s_needArg1 hL) ?_
  refine xw_iload_n 3 dX11_stampOf_13 rfl ?_
  refine xz_if_eq (tgt := 24) dX11_stampOf_14 (by decide) (by omega) (fun c1 => ?_) (fun c1 => ?_)
  · exact absurd c1 (by omega)
  · refine xw_iload_n 1 dX11_stampOf_17 rfl ?_
    refine yc_SE (M' := mX11_countedWithDropped) (d := 0) (c := 0) (s := 0) (As := [.int (iI f)]) (st := []) dX11_stampOf_18 okX11_countedWithDropped (Or.inl w_1144) rfl (Nat.le_of_ble_eq_true rfl) (by decide) (by decide) (Nat.zero_le _) (Nat.zero_le _) (s_counted hL (by omega)) (fun v9 G9 h9 => ?_) (fun E9 G9 h9 => ?_)
    · obtain ⟨z2, e9, z2a, e8⟩ := h9
      cases e9
      subst e8
      have z2c : z2 = yCnt f := by unfold yCnt; split <;> omega
      rw [z2c]
      have z2d := yCnt_bd (f := f) (by omega)
      refine xw_goto (tgt := 25) dX11_stampOf_21 (by decide) ?_
      refine xw_istore (l2 := [(0, .ref 0), (1, .int (iI f)), (2, .int (iI 2)), (3, .int (iI 1)), (4, .int (iI (yCnt f)))]) dX11_stampOf_25 (by decide) rfl rfl ?_
      refine xw_iload_n 2 dX11_stampOf_27 rfl ?_
      refine xz_tabIn (off := 44) (tgt := 72) dX11_stampOf_28 (by decide) (by decide) rfl (by decide) ?_
      refine xw_iload 4 dX11_stampOf_72 rfl ?_
      refine xz_bipush dX11_stampOf_74 (by decide) ?_
      refine xz_idiv dX11_stampOf_76 (by omega) (by decide) ?_
      refine xz_bipush dX11_stampOf_77 (by decide) ?_
      refine xz_irem dX11_stampOf_79 (by omega) (by decide) ?_
      exact xz_iret dX11_stampOf_80 rfl (Nat.zero_le _) (Nat.zero_le _) ⟨rfl, rfl⟩
    · obtain ⟨_, e9, _⟩ := h9
      cases e9)
theorem s_stamp13 (hL : L.stackTraces = false) {f : Int} (hf : 0 ≤ f ∧ f ≤ 99999) : xMet L O mX11_stampOf (xR 2 0 0) [.ref 0, .int (iI f), .int (iI 3), .int (iI 1)] (Wd σ X) (fun o G1 => o = .inl (some (.int (iI (yPart 3 (yCnt f))))) ∧ G1 = Wd σ X) := xMet_of (by decide) hL (Nat.le_of_ble_eq_true rfl) (by
  refine xw_eq rfl (l2 := [(0, .ref 0), (1, .int (iI f)), (2, .int (iI 3)), (3, .int (iI 1))]) rfl rfl rfl ?_
  refine xw_iload_n 1 dX11_stampOf_0 rfl ?_
  refine yc_S (M' := mX11_needFrame) (d := 1) (c := 0) (s := 0) (As := [.int (iI f)]) (st := []) (v0 := none) (G2 := Wd σ X) dX11_stampOf_1 okX11_needFrame (Or.inl w_725) rfl (Nat.le_of_ble_eq_true rfl) (by decide) (by decide) (Nat.zero_le _) (Nat.zero_le _) rfl rfl (s_needFrame1 hL (by omega)) ?_
  refine xw_iload_n 2 dX11_stampOf_4 rfl ?_
  refine xz_iconst dX11_stampOf_5 ?_
  refine xz_iconst dX11_stampOf_6 ?_
  refine yc_S (M' := mX11_isIn) (d := 0) (c := 0) (s := 0) (As := [.int (iI 3), .int (iI 0), .int (iI 3)]) (st := []) (v0 := some (.int (iI 1))) (G2 := Wd σ X) dX11_stampOf_7 okX11_isIn (Or.inl w_729) rfl (Nat.le_of_ble_eq_true rfl) (by decide) (by decide) (Nat.zero_le _) (Nat.zero_le _) rfl rfl (s_isIn1 hL (by decide) (by decide) (by decide) (by omega)) ?_
  refine yc_S (M' := mX11_needArgument) (d := 0) (c := 0) (s := 0) (As := [.int (iI 1)]) (st := []) (v0 := none) (G2 := Wd σ X) dX11_stampOf_10 okX11_needArgument (Or.inl w_749) rfl (Nat.le_of_ble_eq_true rfl) (by decide) (by decide) (Nat.zero_le _) (Nat.zero_le _) rfl rfl (s_needArg1 hL) ?_
  refine xw_iload_n 3 dX11_stampOf_13 rfl ?_
  refine xz_if_eq (tgt := 24) dX11_stampOf_14 (by decide) (by omega) (fun c1 => ?_) (fun c1 => ?_)
  · exact absurd c1 (by omega)
  · refine xw_iload_n 1 dX11_stampOf_17 rfl ?_
    refine yc_SE (M' := mX11_countedWithDropped) (d := 0) (c := 0) (s := 0) (As := [.int (iI f)]) (st := []) dX11_stampOf_18 okX11_countedWithDropped (Or.inl w_1144) rfl (Nat.le_of_ble_eq_true rfl) (by decide) (by decide) (Nat.zero_le _) (Nat.zero_le _) (s_counted hL (by omega)) (fun v9 G9 h9 => ?_) (fun E9 G9 h9 => ?_)
    · obtain ⟨z2, e9, z2a, e8⟩ := h9
      cases e9
      subst e8
      have z2c : z2 = yCnt f := by unfold yCnt; split <;> omega
      rw [z2c]
      have z2d := yCnt_bd (f := f) (by omega)
      refine xw_goto (tgt := 25) dX11_stampOf_21 (by decide) ?_
      refine xw_istore (l2 := [(0, .ref 0), (1, .int (iI f)), (2, .int (iI 3)), (3, .int (iI 1)), (4, .int (iI (yCnt f)))]) dX11_stampOf_25 (by decide) rfl rfl ?_
      refine xw_iload_n 2 dX11_stampOf_27 rfl ?_
      refine xz_tabOut (tgt := 81) dX11_stampOf_28 (by decide) (by decide) (by decide) ?_
      refine xw_iload 4 dX11_stampOf_81 rfl ?_
      refine xz_bipush dX11_stampOf_83 (by decide) ?_
      refine xz_irem dX11_stampOf_85 (by omega) (by decide) ?_
      exact xz_iret dX11_stampOf_86 rfl (Nat.zero_le _) (Nat.zero_le _) ⟨rfl, rfl⟩
    · obtain ⟨_, e9, _⟩ := h9
      cases e9)
theorem s_stampOf1 (hL : L.stackTraces = false) {f p : Int} (hf : 0 ≤ f ∧ f ≤ 99999) (hp : 0 ≤ p ∧ p ≤ 3) : xMet L O mX11_stampOf (xR 2 0 0) [.ref 0, .int (iI f), .int (iI p), .int (iI 1)] (Wd σ X) (fun o G1 => o = .inl (some (.int (iI (yPart p (yCnt f))))) ∧ G1 = Wd σ X) := by
  have h : p = 0 ∨ p = 1 ∨ p = 2 ∨ p = 3 := by omega
  rcases h with rfl | rfl | rfl | rfl
  · exact s_stamp10 hL hf
  · exact s_stamp11 hL hf
  · exact s_stamp12 hL hf
  · exact s_stamp13 hL hf
theorem s_frameOf0 (hL : L.stackTraces = false) {h m s f : Int} (hh : 0 ≤ h ∧ h ≤ 10) (hm : 0 ≤ m ∧ m ≤ 59) (hs : 0 ≤ s ∧ s ≤ 59) (hf : 0 ≤ f ∧ f ≤ 29) (ht : (60 * h + m) * 1800 + s * 30 + f ≤ 99999) : xMet L O mX11_frameOf (xR 1 0 0) [.ref 0, .int (iI h), .int (iI m), .int (iI s), .int (iI f), .int (iI 0)] (Wd σ X) (fun o G1 => o = .inl (some (.int (iI ((60 * h + m) * 1800 + s * 30 + f)))) ∧ G1 = Wd σ X) := xMet_of (by decide) hL (Nat.le_of_ble_eq_true rfl) (by
  refine xw_eq rfl (l2 := [(0, .ref 0), (1, .int (iI h)), (2, .int (iI m)), (3, .int (iI s)), (4, .int (iI f)), (5, .int (iI 0))]) rfl rfl rfl ?_
  refine xw_iload_n 1 dX11_frameOf_0 rfl ?_
  refine xz_if_lt (tgt := 35) dX11_frameOf_1 (by decide) (by omega) (fun c1 => ?_) (fun c1 => ?_)
  · exact absurd c1 (by omega)
  · refine xw_iload_n 2 dX11_frameOf_4 rfl ?_
    refine xz_iconst dX11_frameOf_5 ?_
    refine xz_bipush dX11_frameOf_6 (by decide) ?_
    refine yc_S (M' := mX11_isIn) (d := 0) (c := 0) (s := 0) (As := [.int (iI m), .int (iI 0), .int (iI 59)]) (st := []) (v0 := some (.int (iI 1))) (G2 := Wd σ X) dX11_frameOf_8 okX11_isIn (Or.inl w_729) rfl (Nat.le_of_ble_eq_true rfl) (by decide) (by decide) (Nat.zero_le _) (Nat.zero_le _) rfl rfl (s_isIn1 hL (by omega) (by decide) (by decide) (by omega)) ?_
    refine xz_if_eq (tgt := 35) dX11_frameOf_11 (by decide) (by omega) (fun c2 => ?_) (fun c2 => ?_)
    · exact absurd c2 (by omega)
    · refine xw_iload_n 3 dX11_frameOf_14 rfl ?_
      refine xz_iconst dX11_frameOf_15 ?_
      refine xz_bipush dX11_frameOf_16 (by decide) ?_
      refine yc_S (M' := mX11_isIn) (d := 0) (c := 0) (s := 0) (As := [.int (iI s), .int (iI 0), .int (iI 59)]) (st := []) (v0 := some (.int (iI 1))) (G2 := Wd σ X) dX11_frameOf_18 okX11_isIn (Or.inl w_729) rfl (Nat.le_of_ble_eq_true rfl) (by decide) (by decide) (Nat.zero_le _) (Nat.zero_le _) rfl rfl (s_isIn1 hL (by omega) (by decide) (by decide) (by omega)) ?_
      refine xz_if_eq (tgt := 35) dX11_frameOf_21 (by decide) (by omega) (fun c3 => ?_) (fun c3 => ?_)
      · exact absurd c3 (by omega)
      · refine xw_iload 4 dX11_frameOf_24 rfl ?_
        refine xz_iconst dX11_frameOf_26 ?_
        refine xz_bipush dX11_frameOf_27 (by decide) ?_
        refine yc_S (M' := mX11_isIn) (d := 0) (c := 0) (s := 0) (As := [.int (iI f), .int (iI 0), .int (iI 29)]) (st := []) (v0 := some (.int (iI 1))) (G2 := Wd σ X) dX11_frameOf_29 okX11_isIn (Or.inl w_729) rfl (Nat.le_of_ble_eq_true rfl) (by decide) (by decide) (Nat.zero_le _) (Nat.zero_le _) rfl rfl (s_isIn1 hL (by omega) (by decide) (by decide) (by omega)) ?_
        refine xz_if_ne (tgt := 45) dX11_frameOf_32 (by decide) (by omega) (fun c4 => ?_) (fun c4 => ?_)
        · refine xw_iload 5 dX11_frameOf_45 rfl ?_
          refine xz_if_eq (tgt := 77) dX11_frameOf_47 (by decide) (by omega) (fun c5 => ?_) (fun c5 => ?_)
          · refine xz_ldc2 (z := 60) dX11_frameOf_77 w_1135 (by decide) ?_
            refine xw_iload_n 1 dX11_frameOf_80 rfl ?_
            refine xz_i2l dX11_frameOf_81 (by omega) ?_
            refine xz_lmul dX11_frameOf_82 ?_
            refine xw_iload_n 2 dX11_frameOf_83 rfl ?_
            refine xz_i2l dX11_frameOf_84 (by omega) ?_
            refine xz_ladd dX11_frameOf_85 ?_
            refine xw_lstore (l2 := [(0, .ref 0), (1, .int (iI h)), (2, .int (iI m)), (3, .int (iI s)), (4, .int (iI f)), (5, .int (iI 0)), (6, .long (lI ((60 * h) + m)))]) dX11_frameOf_86 (by decide) rfl rfl ?_
            refine xw_lload 6 dX11_frameOf_88 rfl ?_
            refine xz_ldc2 (z := 1800) dX11_frameOf_90 w_1136 (by decide) ?_
            refine xz_lmul dX11_frameOf_93 ?_
            refine xw_iload_n 3 dX11_frameOf_94 rfl ?_
            refine xz_bipush dX11_frameOf_95 (by decide) ?_
            refine xz_imul dX11_frameOf_97 ?_
            refine xz_i2l dX11_frameOf_98 (by omega) ?_
            refine xz_ladd dX11_frameOf_99 ?_
            refine xw_iload 4 dX11_frameOf_100 rfl ?_
            refine xz_i2l dX11_frameOf_102 (by omega) ?_
            refine xz_ladd dX11_frameOf_103 ?_
            refine xw_lstore (l2 := [(0, .ref 0), (1, .int (iI h)), (2, .int (iI m)), (3, .int (iI s)), (4, .int (iI f)), (5, .int (iI 0)), (6, .long (lI ((60 * h) + m))), (8, .long (lI (((((60 * h) + m) * 1800) + (s * 30)) + f)))]) dX11_frameOf_104 (by decide) rfl rfl ?_
            refine xw_iload 5 dX11_frameOf_106 rfl ?_
            refine xz_if_eq (tgt := 129) dX11_frameOf_108 (by decide) (by omega) (fun c6 => ?_) (fun c6 => ?_)
            · refine xw_lload 7 dX11_frameOf_129 rfl ?_
              refine xz_ldc2 (z := 99999) dX11_frameOf_131 w_908 (by decide) ?_
              have hcm : cmpI (((((60 * h) + m) * 1800) + (s * 30)) + f) 99999 ≤ 0 ∧ -1 ≤ cmpI (((((60 * h) + m) * 1800) + (s * 30)) + f) 99999 := by unfold cmpI; split <;> (try split) <;> omega
              refine xz_lcmp dX11_frameOf_134 (by omega) (by omega) ?_
              refine xz_if_le (tgt := 148) dX11_frameOf_135 (by decide) (by omega) (fun c7 => ?_) (fun c7 => ?_)
              · refine xw_lload 7 dX11_frameOf_148 rfl ?_
                refine xz_l2i dX11_frameOf_150 (by omega) ?_
                exact xz_iret dX11_frameOf_151 rfl (Nat.zero_le _) (Nat.zero_le _) ⟨by congr 4 <;> omega, rfl⟩
              · exact absurd c7 (by omega)
            · exact absurd c6 (by omega)
          · exact absurd c5 (by omega)
        · exact absurd c4 (by omega))
theorem s_frameOf1 (hL : L.stackTraces = false) {h m s f : Int} (hh : 0 ≤ h ∧ h ≤ 10) (hm : 0 ≤ m ∧ m ≤ 59) (hs : 0 ≤ s ∧ s ≤ 59) (hf : 0 ≤ f ∧ f ≤ 29) (hp : m % 10 = 0 ∨ ¬ s = 0 ∨ 2 ≤ f) (ht : (60 * h + m) * 1800 + s * 30 + f - 2 * ((60 * h + m) - (60 * h + m) / 10) ≤ 99999) (ht0 : 0 ≤ (60 * h + m) * 1800 + s * 30 + f - 2 * ((60 * h + m) - (60 * h + m) / 10)) : xMet L O mX11_frameOf (xR 1 0 0) [.ref 0, .int (iI h), .int (iI m), .int (iI s), .int (iI f), .int (iI 1)] (Wd σ X) (fun o G1 => o = .inl (some (.int (iI ((60 * h + m) * 1800 + s * 30 + f - 2 * ((60 * h + m) - (60 * h + m) / 10))))) ∧ G1 = Wd σ X) := xMet_of (by decide) hL (Nat.le_of_ble_eq_true rfl) (by
  refine xw_eq rfl (l2 := [(0, .ref 0), (1, .int (iI h)), (2, .int (iI m)), (3, .int (iI s)), (4, .int (iI f)), (5, .int (iI 1))]) rfl rfl rfl ?_
  refine xw_iload_n 1 dX11_frameOf_0 rfl ?_
  refine xz_if_lt (tgt := 35) dX11_frameOf_1 (by decide) (by omega) (fun c1 => ?_) (fun c1 => ?_)
  · exact absurd c1 (by omega)
  · refine xw_iload_n 2 dX11_frameOf_4 rfl ?_
    refine xz_iconst dX11_frameOf_5 ?_
    refine xz_bipush dX11_frameOf_6 (by decide) ?_
    refine yc_S (M' := mX11_isIn) (d := 0) (c := 0) (s := 0) (As := [.int (iI m), .int (iI 0), .int (iI 59)]) (st := []) (v0 := some (.int (iI 1))) (G2 := Wd σ X) dX11_frameOf_8 okX11_isIn (Or.inl w_729) rfl (Nat.le_of_ble_eq_true rfl) (by decide) (by decide) (Nat.zero_le _) (Nat.zero_le _) rfl rfl (s_isIn1 hL (by omega) (by decide) (by decide) (by omega)) ?_
    refine xz_if_eq (tgt := 35) dX11_frameOf_11 (by decide) (by omega) (fun c2 => ?_) (fun c2 => ?_)
    · exact absurd c2 (by omega)
    · refine xw_iload_n 3 dX11_frameOf_14 rfl ?_
      refine xz_iconst dX11_frameOf_15 ?_
      refine xz_bipush dX11_frameOf_16 (by decide) ?_
      refine yc_S (M' := mX11_isIn) (d := 0) (c := 0) (s := 0) (As := [.int (iI s), .int (iI 0), .int (iI 59)]) (st := []) (v0 := some (.int (iI 1))) (G2 := Wd σ X) dX11_frameOf_18 okX11_isIn (Or.inl w_729) rfl (Nat.le_of_ble_eq_true rfl) (by decide) (by decide) (Nat.zero_le _) (Nat.zero_le _) rfl rfl (s_isIn1 hL (by omega) (by decide) (by decide) (by omega)) ?_
      refine xz_if_eq (tgt := 35) dX11_frameOf_21 (by decide) (by omega) (fun c3 => ?_) (fun c3 => ?_)
      · exact absurd c3 (by omega)
      · refine xw_iload 4 dX11_frameOf_24 rfl ?_
        refine xz_iconst dX11_frameOf_26 ?_
        refine xz_bipush dX11_frameOf_27 (by decide) ?_
        refine yc_S (M' := mX11_isIn) (d := 0) (c := 0) (s := 0) (As := [.int (iI f), .int (iI 0), .int (iI 29)]) (st := []) (v0 := some (.int (iI 1))) (G2 := Wd σ X) dX11_frameOf_29 okX11_isIn (Or.inl w_729) rfl (Nat.le_of_ble_eq_true rfl) (by decide) (by decide) (Nat.zero_le _) (Nat.zero_le _) rfl rfl (s_isIn1 hL (by omega) (by decide) (by decide) (by omega)) ?_
        refine xz_if_ne (tgt := 45) dX11_frameOf_32 (by decide) (by omega) (fun c4 => ?_) (fun c4 => ?_)
        · refine xw_iload 5 dX11_frameOf_45 rfl ?_
          refine xz_if_eq (tgt := 77) dX11_frameOf_47 (by decide) (by omega) (fun c5 => ?_) (fun c5 => ?_)
          · exact absurd c5 (by omega)
          · refine xw_join (J := 77) (c1 := 0) (n1 := 0) (P := fun _ : Unit => True) (ls' := fun _ => [(0, .ref 0), (1, .int (iI h)), (2, .int (iI m)), (3, .int (iI s)), (4, .int (iI f)), (5, .int (iI 1))]) (st' := fun _ => []) (G' := fun _ => Wd σ X) (fun _ _ => ?_) (fun j1 => ?_)
            · refine xz_ldc2 (z := 60) dX11_frameOf_77 w_1135 (by decide) ?_
              refine xw_iload_n 1 dX11_frameOf_80 rfl ?_
              refine xz_i2l dX11_frameOf_81 (by omega) ?_
              refine xz_lmul dX11_frameOf_82 ?_
              refine xw_iload_n 2 dX11_frameOf_83 rfl ?_
              refine xz_i2l dX11_frameOf_84 (by omega) ?_
              refine xz_ladd dX11_frameOf_85 ?_
              refine xw_lstore (l2 := [(0, .ref 0), (1, .int (iI h)), (2, .int (iI m)), (3, .int (iI s)), (4, .int (iI f)), (5, .int (iI 1)), (6, .long (lI ((60 * h) + m)))]) dX11_frameOf_86 (by decide) rfl rfl ?_
              refine xw_lload 6 dX11_frameOf_88 rfl ?_
              refine xz_ldc2 (z := 1800) dX11_frameOf_90 w_1136 (by decide) ?_
              refine xz_lmul dX11_frameOf_93 ?_
              refine xw_iload_n 3 dX11_frameOf_94 rfl ?_
              refine xz_bipush dX11_frameOf_95 (by decide) ?_
              refine xz_imul dX11_frameOf_97 ?_
              refine xz_i2l dX11_frameOf_98 (by omega) ?_
              refine xz_ladd dX11_frameOf_99 ?_
              refine xw_iload 4 dX11_frameOf_100 rfl ?_
              refine xz_i2l dX11_frameOf_102 (by omega) ?_
              refine xz_ladd dX11_frameOf_103 ?_
              refine xw_lstore (l2 := [(0, .ref 0), (1, .int (iI h)), (2, .int (iI m)), (3, .int (iI s)), (4, .int (iI f)), (5, .int (iI 1)), (6, .long (lI ((60 * h) + m))), (8, .long (lI (((((60 * h) + m) * 1800) + (s * 30)) + f)))]) dX11_frameOf_104 (by decide) rfl rfl ?_
              refine xw_iload 5 dX11_frameOf_106 rfl ?_
              refine xz_if_eq (tgt := 129) dX11_frameOf_108 (by decide) (by omega) (fun c6 => ?_) (fun c6 => ?_)
              · exact absurd c6 (by omega)
              · refine xw_lload 7 dX11_frameOf_111 rfl ?_
                refine xz_ldc2 (z := 2) dX11_frameOf_113 w_1137 (by decide) ?_
                refine xw_lload 6 dX11_frameOf_116 rfl ?_
                refine xw_lload 6 dX11_frameOf_118 rfl ?_
                refine xz_ldc2 (z := 10) dX11_frameOf_120 w_1138 (by decide) ?_
                refine xz_ldiv dX11_frameOf_123 (by omega) (by decide) ?_
                refine xz_lsub dX11_frameOf_124 ?_
                refine xz_lmul dX11_frameOf_125 ?_
                refine xz_lsub dX11_frameOf_126 ?_
                refine xw_lstore (l2 := [(0, .ref 0), (1, .int (iI h)), (2, .int (iI m)), (3, .int (iI s)), (4, .int (iI f)), (5, .int (iI 1)), (6, .long (lI ((60 * h) + m))), (8, .long (lI ((((((60 * h) + m) * 1800) + (s * 30)) + f) - (2 * (((60 * h) + m) - (((60 * h) + m) / 10))))))]) dX11_frameOf_127 (by decide) rfl rfl ?_
                refine xw_lload 7 dX11_frameOf_129 rfl ?_
                refine xz_ldc2 (z := 99999) dX11_frameOf_131 w_908 (by decide) ?_
                have hcm : cmpI ((((((60 * h) + m) * 1800) + (s * 30)) + f) - (2 * (((60 * h) + m) - (((60 * h) + m) / 10)))) 99999 ≤ 0 ∧ -1 ≤ cmpI ((((((60 * h) + m) * 1800) + (s * 30)) + f) - (2 * (((60 * h) + m) - (((60 * h) + m) / 10)))) 99999 := by unfold cmpI; split <;> (try split) <;> omega
                refine xz_lcmp dX11_frameOf_134 (by omega) (by omega) ?_
                refine xz_if_le (tgt := 148) dX11_frameOf_135 (by decide) (by omega) (fun c7 => ?_) (fun c7 => ?_)
                · refine xw_lload 7 dX11_frameOf_148 rfl ?_
                  refine xz_l2i dX11_frameOf_150 (by omega) ?_
                  exact xz_iret dX11_frameOf_151 rfl (Nat.zero_le _) (Nat.zero_le _) ⟨by congr 4 <;> omega, rfl⟩
                · exact absurd c7 (by omega)
            · refine xw_iload_n 2 dX11_frameOf_50 rfl ?_
              refine xz_bipush dX11_frameOf_51 (by decide) ?_
              refine xz_irem dX11_frameOf_53 (by omega) (by decide) ?_
              refine xz_if_eq (tgt := 77) dX11_frameOf_54 (by decide) (by omega) (fun c8 => ?_) (fun c8 => ?_)
              · exact j1 () trivial
              · refine xw_iload_n 3 dX11_frameOf_57 rfl ?_
                refine xz_if_ne (tgt := 77) dX11_frameOf_58 (by decide) (by omega) (fun c9 => ?_) (fun c9 => ?_)
                · exact j1 () trivial
                · refine xw_iload 4 dX11_frameOf_61 rfl ?_
                  refine xz_iconst dX11_frameOf_63 ?_
                  refine xz_icmp_ge (tgt := 77) dX11_frameOf_64 (by decide) (by omega) (by omega) (fun c10 => ?_) (fun c10 => ?_)
                  · exact j1 () trivial
                  · exact absurd c10 (by omega)
        · exact absurd c4 (by omega))
theorem r_frameOf_0_1_0_0_1 (hL : L.stackTraces = false) (hX : X.length ≤ 1000000) : xMet L O mX11_frameOf (xR 1 1 6) [.ref 0, .int (iI 0), .int (iI 1), .int (iI 0), .int (iI 0), .int (iI 1)] (Wd σ X) (fun o G1 => o = .inr "java/lang/IllegalArgumentException" ∧ G1 = Wd σ (X ++ [(127, [])])) := xMet_of (by decide) hL (Nat.le_of_ble_eq_true rfl) (by
  refine xw_eq rfl (l2 := [(0, .ref 0), (1, .int (iI 0)), (2, .int (iI 1)), (3, .int (iI 0)), (4, .int (iI 0)), (5, .int (iI 1))]) rfl rfl rfl ?_
  refine xw_iload_n 1 dX11_frameOf_0 rfl ?_
  refine xz_if_lt (tgt := 35) dX11_frameOf_1 (by decide) (by omega) (fun c1 => ?_) (fun c1 => ?_)
  · exact absurd c1 (by omega)
  · refine xw_iload_n 2 dX11_frameOf_4 rfl ?_
    refine xz_iconst dX11_frameOf_5 ?_
    refine xz_bipush dX11_frameOf_6 (by decide) ?_
    refine yc_S (M' := mX11_isIn) (d := 0) (c := 0) (s := 0) (As := [.int (iI 1), .int (iI 0), .int (iI 59)]) (st := []) (v0 := some (.int (iI 1))) (G2 := Wd σ X) dX11_frameOf_8 okX11_isIn (Or.inl w_729) rfl (Nat.le_of_ble_eq_true rfl) (by decide) (by decide) (Nat.zero_le _) (Nat.zero_le _) rfl rfl (s_isIn1 hL (by decide) (by decide) (by decide) (by omega)) ?_
    refine xz_if_eq (tgt := 35) dX11_frameOf_11 (by decide) (by omega) (fun c2 => ?_) (fun c2 => ?_)
    · exact absurd c2 (by omega)
    · refine xw_iload_n 3 dX11_frameOf_14 rfl ?_
      refine xz_iconst dX11_frameOf_15 ?_
      refine xz_bipush dX11_frameOf_16 (by decide) ?_
      refine yc_S (M' := mX11_isIn) (d := 0) (c := 0) (s := 0) (As := [.int (iI 0), .int (iI 0), .int (iI 59)]) (st := []) (v0 := some (.int (iI 1))) (G2 := Wd σ X) dX11_frameOf_18 okX11_isIn (Or.inl w_729) rfl (Nat.le_of_ble_eq_true rfl) (by decide) (by decide) (Nat.zero_le _) (Nat.zero_le _) rfl rfl (s_isIn1 hL (by decide) (by decide) (by decide) (by omega)) ?_
      refine xz_if_eq (tgt := 35) dX11_frameOf_21 (by decide) (by omega) (fun c3 => ?_) (fun c3 => ?_)
      · exact absurd c3 (by omega)
      · refine xw_iload 4 dX11_frameOf_24 rfl ?_
        refine xz_iconst dX11_frameOf_26 ?_
        refine xz_bipush dX11_frameOf_27 (by decide) ?_
        refine yc_S (M' := mX11_isIn) (d := 0) (c := 0) (s := 0) (As := [.int (iI 0), .int (iI 0), .int (iI 29)]) (st := []) (v0 := some (.int (iI 1))) (G2 := Wd σ X) dX11_frameOf_29 okX11_isIn (Or.inl w_729) rfl (Nat.le_of_ble_eq_true rfl) (by decide) (by decide) (Nat.zero_le _) (Nat.zero_le _) rfl rfl (s_isIn1 hL (by decide) (by decide) (by decide) (by omega)) ?_
        refine xz_if_ne (tgt := 45) dX11_frameOf_32 (by decide) (by omega) (fun c4 => ?_) (fun c4 => ?_)
        · refine xw_iload 5 dX11_frameOf_45 rfl ?_
          refine xz_if_eq (tgt := 77) dX11_frameOf_47 (by decide) (by omega) (fun c5 => ?_) (fun c5 => ?_)
          · exact absurd c5 (by omega)
          · refine xw_iload_n 2 dX11_frameOf_50 rfl ?_
            refine xz_bipush dX11_frameOf_51 (by decide) ?_
            refine xz_irem dX11_frameOf_53 (by decide) (by decide) ?_
            refine xw_eq rfl rfl (s2 := [.int (iI 1)]) (by rw [show (1 % 10 : Int) = 1 from by decide] <;> rfl) rfl ?_
            refine xz_if_eq (tgt := 77) dX11_frameOf_54 (by decide) (by omega) (fun c6 => ?_) (fun c6 => ?_)
            · exact absurd c6 (by omega)
            · refine xw_iload_n 3 dX11_frameOf_57 rfl ?_
              refine xz_if_ne (tgt := 77) dX11_frameOf_58 (by decide) (by omega) (fun c7 => ?_) (fun c7 => ?_)
              · exact absurd c7 (by omega)
              · refine xw_iload 4 dX11_frameOf_61 rfl ?_
                refine xz_iconst dX11_frameOf_63 ?_
                refine xz_icmp_ge (tgt := 77) dX11_frameOf_64 (by decide) (by omega) (by omega) (fun c8 => ?_) (fun c8 => ?_)
                · exact absurd c8 (by omega)
                · exact yt_X11_79_86_83 rfl dX11_frameOf_67 dX11_frameOf_70 dX11_frameOf_71 dX11_frameOf_73 dX11_frameOf_76 rfl (Nat.le_of_ble_eq_true rfl) (Nat.le_of_ble_eq_true rfl) (Nat.le_of_ble_eq_true rfl) hX ⟨rfl, rfl⟩
        · exact absurd c4 (by omega))
theorem r_frameOf_0_9_0_1_1 (hL : L.stackTraces = false) (hX : X.length ≤ 1000000) : xMet L O mX11_frameOf (xR 1 1 6) [.ref 0, .int (iI 0), .int (iI 9), .int (iI 0), .int (iI 1), .int (iI 1)] (Wd σ X) (fun o G1 => o = .inr "java/lang/IllegalArgumentException" ∧ G1 = Wd σ (X ++ [(127, [])])) := xMet_of (by decide) hL (Nat.le_of_ble_eq_true rfl) (by
  refine xw_eq rfl (l2 := [(0, .ref 0), (1, .int (iI 0)), (2, .int (iI 9)), (3, .int (iI 0)), (4, .int (iI 1)), (5, .int (iI 1))]) rfl rfl rfl ?_
  refine xw_iload_n 1 dX11_frameOf_0 rfl ?_
  refine xz_if_lt (tgt := 35) dX11_frameOf_1 (by decide) (by omega) (fun c1 => ?_) (fun c1 => ?_)
  · exact absurd c1 (by omega)
  · refine xw_iload_n 2 dX11_frameOf_4 rfl ?_
    refine xz_iconst dX11_frameOf_5 ?_
    refine xz_bipush dX11_frameOf_6 (by decide) ?_
    refine yc_S (M' := mX11_isIn) (d := 0) (c := 0) (s := 0) (As := [.int (iI 9), .int (iI 0), .int (iI 59)]) (st := []) (v0 := some (.int (iI 1))) (G2 := Wd σ X) dX11_frameOf_8 okX11_isIn (Or.inl w_729) rfl (Nat.le_of_ble_eq_true rfl) (by decide) (by decide) (Nat.zero_le _) (Nat.zero_le _) rfl rfl (s_isIn1 hL (by decide) (by decide) (by decide) (by omega)) ?_
    refine xz_if_eq (tgt := 35) dX11_frameOf_11 (by decide) (by omega) (fun c2 => ?_) (fun c2 => ?_)
    · exact absurd c2 (by omega)
    · refine xw_iload_n 3 dX11_frameOf_14 rfl ?_
      refine xz_iconst dX11_frameOf_15 ?_
      refine xz_bipush dX11_frameOf_16 (by decide) ?_
      refine yc_S (M' := mX11_isIn) (d := 0) (c := 0) (s := 0) (As := [.int (iI 0), .int (iI 0), .int (iI 59)]) (st := []) (v0 := some (.int (iI 1))) (G2 := Wd σ X) dX11_frameOf_18 okX11_isIn (Or.inl w_729) rfl (Nat.le_of_ble_eq_true rfl) (by decide) (by decide) (Nat.zero_le _) (Nat.zero_le _) rfl rfl (s_isIn1 hL (by decide) (by decide) (by decide) (by omega)) ?_
      refine xz_if_eq (tgt := 35) dX11_frameOf_21 (by decide) (by omega) (fun c3 => ?_) (fun c3 => ?_)
      · exact absurd c3 (by omega)
      · refine xw_iload 4 dX11_frameOf_24 rfl ?_
        refine xz_iconst dX11_frameOf_26 ?_
        refine xz_bipush dX11_frameOf_27 (by decide) ?_
        refine yc_S (M' := mX11_isIn) (d := 0) (c := 0) (s := 0) (As := [.int (iI 1), .int (iI 0), .int (iI 29)]) (st := []) (v0 := some (.int (iI 1))) (G2 := Wd σ X) dX11_frameOf_29 okX11_isIn (Or.inl w_729) rfl (Nat.le_of_ble_eq_true rfl) (by decide) (by decide) (Nat.zero_le _) (Nat.zero_le _) rfl rfl (s_isIn1 hL (by decide) (by decide) (by decide) (by omega)) ?_
        refine xz_if_ne (tgt := 45) dX11_frameOf_32 (by decide) (by omega) (fun c4 => ?_) (fun c4 => ?_)
        · refine xw_iload 5 dX11_frameOf_45 rfl ?_
          refine xz_if_eq (tgt := 77) dX11_frameOf_47 (by decide) (by omega) (fun c5 => ?_) (fun c5 => ?_)
          · exact absurd c5 (by omega)
          · refine xw_iload_n 2 dX11_frameOf_50 rfl ?_
            refine xz_bipush dX11_frameOf_51 (by decide) ?_
            refine xz_irem dX11_frameOf_53 (by decide) (by decide) ?_
            refine xw_eq rfl rfl (s2 := [.int (iI 9)]) (by rw [show (9 % 10 : Int) = 9 from by decide] <;> rfl) rfl ?_
            refine xz_if_eq (tgt := 77) dX11_frameOf_54 (by decide) (by omega) (fun c6 => ?_) (fun c6 => ?_)
            · exact absurd c6 (by omega)
            · refine xw_iload_n 3 dX11_frameOf_57 rfl ?_
              refine xz_if_ne (tgt := 77) dX11_frameOf_58 (by decide) (by omega) (fun c7 => ?_) (fun c7 => ?_)
              · exact absurd c7 (by omega)
              · refine xw_iload 4 dX11_frameOf_61 rfl ?_
                refine xz_iconst dX11_frameOf_63 ?_
                refine xz_icmp_ge (tgt := 77) dX11_frameOf_64 (by decide) (by omega) (by omega) (fun c8 => ?_) (fun c8 => ?_)
                · exact absurd c8 (by omega)
                · exact yt_X11_79_86_83 rfl dX11_frameOf_67 dX11_frameOf_70 dX11_frameOf_71 dX11_frameOf_73 dX11_frameOf_76 rfl (Nat.le_of_ble_eq_true rfl) (Nat.le_of_ble_eq_true rfl) (Nat.le_of_ble_eq_true rfl) hX ⟨rfl, rfl⟩
        · exact absurd c4 (by omega))
theorem r_frameOf_0_60_0_0_0 (hL : L.stackTraces = false) (hX : X.length ≤ 1000000) : xMet L O mX11_frameOf (xR 1 1 6) [.ref 0, .int (iI 0), .int (iI 60), .int (iI 0), .int (iI 0), .int (iI 0)] (Wd σ X) (fun o G1 => o = .inr "java/lang/IllegalArgumentException" ∧ G1 = Wd σ (X ++ [(127, [])])) := xMet_of (by decide) hL (Nat.le_of_ble_eq_true rfl) (by
  refine xw_eq rfl (l2 := [(0, .ref 0), (1, .int (iI 0)), (2, .int (iI 60)), (3, .int (iI 0)), (4, .int (iI 0)), (5, .int (iI 0))]) rfl rfl rfl ?_
  refine xw_iload_n 1 dX11_frameOf_0 rfl ?_
  refine xz_if_lt (tgt := 35) dX11_frameOf_1 (by decide) (by omega) (fun c1 => ?_) (fun c1 => ?_)
  · exact absurd c1 (by omega)
  · refine xw_iload_n 2 dX11_frameOf_4 rfl ?_
    refine xz_iconst dX11_frameOf_5 ?_
    refine xz_bipush dX11_frameOf_6 (by decide) ?_
    refine yc_S (M' := mX11_isIn) (d := 0) (c := 0) (s := 0) (As := [.int (iI 60), .int (iI 0), .int (iI 59)]) (st := []) (v0 := some (.int (iI 0))) (G2 := Wd σ X) dX11_frameOf_8 okX11_isIn (Or.inl w_729) rfl (Nat.le_of_ble_eq_true rfl) (by decide) (by decide) (Nat.zero_le _) (Nat.zero_le _) rfl rfl (s_isIn0 hL (by decide) (by decide) (by decide) (by omega)) ?_
    refine xz_if_eq (tgt := 35) dX11_frameOf_11 (by decide) (by omega) (fun c2 => ?_) (fun c2 => ?_)
    · exact yt_X11_79_81_83 rfl dX11_frameOf_35 dX11_frameOf_38 dX11_frameOf_39 dX11_frameOf_41 dX11_frameOf_44 rfl (Nat.le_of_ble_eq_true rfl) (Nat.le_of_ble_eq_true rfl) (Nat.le_of_ble_eq_true rfl) hX ⟨rfl, rfl⟩
    · exact absurd c2 (by omega))
theorem r_frameOf_0_0_60_0_0 (hL : L.stackTraces = false) (hX : X.length ≤ 1000000) : xMet L O mX11_frameOf (xR 1 1 6) [.ref 0, .int (iI 0), .int (iI 0), .int (iI 60), .int (iI 0), .int (iI 0)] (Wd σ X) (fun o G1 => o = .inr "java/lang/IllegalArgumentException" ∧ G1 = Wd σ (X ++ [(127, [])])) := xMet_of (by decide) hL (Nat.le_of_ble_eq_true rfl) (by
  refine xw_eq rfl (l2 := [(0, .ref 0), (1, .int (iI 0)), (2, .int (iI 0)), (3, .int (iI 60)), (4, .int (iI 0)), (5, .int (iI 0))]) rfl rfl rfl ?_
  refine xw_iload_n 1 dX11_frameOf_0 rfl ?_
  refine xz_if_lt (tgt := 35) dX11_frameOf_1 (by decide) (by omega) (fun c1 => ?_) (fun c1 => ?_)
  · exact absurd c1 (by omega)
  · refine xw_iload_n 2 dX11_frameOf_4 rfl ?_
    refine xz_iconst dX11_frameOf_5 ?_
    refine xz_bipush dX11_frameOf_6 (by decide) ?_
    refine yc_S (M' := mX11_isIn) (d := 0) (c := 0) (s := 0) (As := [.int (iI 0), .int (iI 0), .int (iI 59)]) (st := []) (v0 := some (.int (iI 1))) (G2 := Wd σ X) dX11_frameOf_8 okX11_isIn (Or.inl w_729) rfl (Nat.le_of_ble_eq_true rfl) (by decide) (by decide) (Nat.zero_le _) (Nat.zero_le _) rfl rfl (s_isIn1 hL (by decide) (by decide) (by decide) (by omega)) ?_
    refine xz_if_eq (tgt := 35) dX11_frameOf_11 (by decide) (by omega) (fun c2 => ?_) (fun c2 => ?_)
    · exact absurd c2 (by omega)
    · refine xw_iload_n 3 dX11_frameOf_14 rfl ?_
      refine xz_iconst dX11_frameOf_15 ?_
      refine xz_bipush dX11_frameOf_16 (by decide) ?_
      refine yc_S (M' := mX11_isIn) (d := 0) (c := 0) (s := 0) (As := [.int (iI 60), .int (iI 0), .int (iI 59)]) (st := []) (v0 := some (.int (iI 0))) (G2 := Wd σ X) dX11_frameOf_18 okX11_isIn (Or.inl w_729) rfl (Nat.le_of_ble_eq_true rfl) (by decide) (by decide) (Nat.zero_le _) (Nat.zero_le _) rfl rfl (s_isIn0 hL (by decide) (by decide) (by decide) (by omega)) ?_
      refine xz_if_eq (tgt := 35) dX11_frameOf_21 (by decide) (by omega) (fun c3 => ?_) (fun c3 => ?_)
      · exact yt_X11_79_81_83 rfl dX11_frameOf_35 dX11_frameOf_38 dX11_frameOf_39 dX11_frameOf_41 dX11_frameOf_44 rfl (Nat.le_of_ble_eq_true rfl) (Nat.le_of_ble_eq_true rfl) (Nat.le_of_ble_eq_true rfl) hX ⟨rfl, rfl⟩
      · exact absurd c3 (by omega))
theorem r_frameOf_0_0_0_30_0 (hL : L.stackTraces = false) (hX : X.length ≤ 1000000) : xMet L O mX11_frameOf (xR 1 1 6) [.ref 0, .int (iI 0), .int (iI 0), .int (iI 0), .int (iI 30), .int (iI 0)] (Wd σ X) (fun o G1 => o = .inr "java/lang/IllegalArgumentException" ∧ G1 = Wd σ (X ++ [(127, [])])) := xMet_of (by decide) hL (Nat.le_of_ble_eq_true rfl) (by
  refine xw_eq rfl (l2 := [(0, .ref 0), (1, .int (iI 0)), (2, .int (iI 0)), (3, .int (iI 0)), (4, .int (iI 30)), (5, .int (iI 0))]) rfl rfl rfl ?_
  refine xw_iload_n 1 dX11_frameOf_0 rfl ?_
  refine xz_if_lt (tgt := 35) dX11_frameOf_1 (by decide) (by omega) (fun c1 => ?_) (fun c1 => ?_)
  · exact absurd c1 (by omega)
  · refine xw_iload_n 2 dX11_frameOf_4 rfl ?_
    refine xz_iconst dX11_frameOf_5 ?_
    refine xz_bipush dX11_frameOf_6 (by decide) ?_
    refine yc_S (M' := mX11_isIn) (d := 0) (c := 0) (s := 0) (As := [.int (iI 0), .int (iI 0), .int (iI 59)]) (st := []) (v0 := some (.int (iI 1))) (G2 := Wd σ X) dX11_frameOf_8 okX11_isIn (Or.inl w_729) rfl (Nat.le_of_ble_eq_true rfl) (by decide) (by decide) (Nat.zero_le _) (Nat.zero_le _) rfl rfl (s_isIn1 hL (by decide) (by decide) (by decide) (by omega)) ?_
    refine xz_if_eq (tgt := 35) dX11_frameOf_11 (by decide) (by omega) (fun c2 => ?_) (fun c2 => ?_)
    · exact absurd c2 (by omega)
    · refine xw_iload_n 3 dX11_frameOf_14 rfl ?_
      refine xz_iconst dX11_frameOf_15 ?_
      refine xz_bipush dX11_frameOf_16 (by decide) ?_
      refine yc_S (M' := mX11_isIn) (d := 0) (c := 0) (s := 0) (As := [.int (iI 0), .int (iI 0), .int (iI 59)]) (st := []) (v0 := some (.int (iI 1))) (G2 := Wd σ X) dX11_frameOf_18 okX11_isIn (Or.inl w_729) rfl (Nat.le_of_ble_eq_true rfl) (by decide) (by decide) (Nat.zero_le _) (Nat.zero_le _) rfl rfl (s_isIn1 hL (by decide) (by decide) (by decide) (by omega)) ?_
      refine xz_if_eq (tgt := 35) dX11_frameOf_21 (by decide) (by omega) (fun c3 => ?_) (fun c3 => ?_)
      · exact absurd c3 (by omega)
      · refine xw_iload 4 dX11_frameOf_24 rfl ?_
        refine xz_iconst dX11_frameOf_26 ?_
        refine xz_bipush dX11_frameOf_27 (by decide) ?_
        refine yc_S (M' := mX11_isIn) (d := 0) (c := 0) (s := 0) (As := [.int (iI 30), .int (iI 0), .int (iI 29)]) (st := []) (v0 := some (.int (iI 0))) (G2 := Wd σ X) dX11_frameOf_29 okX11_isIn (Or.inl w_729) rfl (Nat.le_of_ble_eq_true rfl) (by decide) (by decide) (Nat.zero_le _) (Nat.zero_le _) rfl rfl (s_isIn0 hL (by decide) (by decide) (by decide) (by omega)) ?_
        refine xz_if_ne (tgt := 45) dX11_frameOf_32 (by decide) (by omega) (fun c4 => ?_) (fun c4 => ?_)
        · exact absurd c4 (by omega)
        · exact yt_X11_79_81_83 rfl dX11_frameOf_35 dX11_frameOf_38 dX11_frameOf_39 dX11_frameOf_41 dX11_frameOf_44 rfl (Nat.le_of_ble_eq_true rfl) (Nat.le_of_ble_eq_true rfl) (Nat.le_of_ble_eq_true rfl) hX ⟨rfl, rfl⟩)
theorem r_frameOf_m1_0_0_0_0 (hL : L.stackTraces = false) (hX : X.length ≤ 1000000) : xMet L O mX11_frameOf (xR 1 1 6) [.ref 0, .int (iI ((-1))), .int (iI 0), .int (iI 0), .int (iI 0), .int (iI 0)] (Wd σ X) (fun o G1 => o = .inr "java/lang/IllegalArgumentException" ∧ G1 = Wd σ (X ++ [(127, [])])) := xMet_of (by decide) hL (Nat.le_of_ble_eq_true rfl) (by
  refine xw_eq rfl (l2 := [(0, .ref 0), (1, .int (iI ((-1)))), (2, .int (iI 0)), (3, .int (iI 0)), (4, .int (iI 0)), (5, .int (iI 0))]) rfl rfl rfl ?_
  refine xw_iload_n 1 dX11_frameOf_0 rfl ?_
  refine xz_if_lt (tgt := 35) dX11_frameOf_1 (by decide) (by omega) (fun c1 => ?_) (fun c1 => ?_)
  · exact yt_X11_79_81_83 rfl dX11_frameOf_35 dX11_frameOf_38 dX11_frameOf_39 dX11_frameOf_41 dX11_frameOf_44 rfl (Nat.le_of_ble_eq_true rfl) (Nat.le_of_ble_eq_true rfl) (Nat.le_of_ble_eq_true rfl) hX ⟨rfl, rfl⟩
  · exact absurd c1 (by omega))
theorem r_frameOf_1_0_0_0_0 (hL : L.stackTraces = false) (hX : X.length ≤ 1000000) : xMet L O mX11_frameOf (xR 1 1 6) [.ref 0, .int (iI 1), .int (iI 0), .int (iI 0), .int (iI 0), .int (iI 0)] (Wd σ X) (fun o G1 => o = .inr "java/lang/IllegalArgumentException" ∧ G1 = Wd σ (X ++ [(127, [])])) := xMet_of (by decide) hL (Nat.le_of_ble_eq_true rfl) (by
  refine xw_eq rfl (l2 := [(0, .ref 0), (1, .int (iI 1)), (2, .int (iI 0)), (3, .int (iI 0)), (4, .int (iI 0)), (5, .int (iI 0))]) rfl rfl rfl ?_
  refine xw_iload_n 1 dX11_frameOf_0 rfl ?_
  refine xz_if_lt (tgt := 35) dX11_frameOf_1 (by decide) (by omega) (fun c1 => ?_) (fun c1 => ?_)
  · exact absurd c1 (by omega)
  · refine xw_iload_n 2 dX11_frameOf_4 rfl ?_
    refine xz_iconst dX11_frameOf_5 ?_
    refine xz_bipush dX11_frameOf_6 (by decide) ?_
    refine yc_S (M' := mX11_isIn) (d := 0) (c := 0) (s := 0) (As := [.int (iI 0), .int (iI 0), .int (iI 59)]) (st := []) (v0 := some (.int (iI 1))) (G2 := Wd σ X) dX11_frameOf_8 okX11_isIn (Or.inl w_729) rfl (Nat.le_of_ble_eq_true rfl) (by decide) (by decide) (Nat.zero_le _) (Nat.zero_le _) rfl rfl (s_isIn1 hL (by decide) (by decide) (by decide) (by omega)) ?_
    refine xz_if_eq (tgt := 35) dX11_frameOf_11 (by decide) (by omega) (fun c2 => ?_) (fun c2 => ?_)
    · exact absurd c2 (by omega)
    · refine xw_iload_n 3 dX11_frameOf_14 rfl ?_
      refine xz_iconst dX11_frameOf_15 ?_
      refine xz_bipush dX11_frameOf_16 (by decide) ?_
      refine yc_S (M' := mX11_isIn) (d := 0) (c := 0) (s := 0) (As := [.int (iI 0), .int (iI 0), .int (iI 59)]) (st := []) (v0 := some (.int (iI 1))) (G2 := Wd σ X) dX11_frameOf_18 okX11_isIn (Or.inl w_729) rfl (Nat.le_of_ble_eq_true rfl) (by decide) (by decide) (Nat.zero_le _) (Nat.zero_le _) rfl rfl (s_isIn1 hL (by decide) (by decide) (by decide) (by omega)) ?_
      refine xz_if_eq (tgt := 35) dX11_frameOf_21 (by decide) (by omega) (fun c3 => ?_) (fun c3 => ?_)
      · exact absurd c3 (by omega)
      · refine xw_iload 4 dX11_frameOf_24 rfl ?_
        refine xz_iconst dX11_frameOf_26 ?_
        refine xz_bipush dX11_frameOf_27 (by decide) ?_
        refine yc_S (M' := mX11_isIn) (d := 0) (c := 0) (s := 0) (As := [.int (iI 0), .int (iI 0), .int (iI 29)]) (st := []) (v0 := some (.int (iI 1))) (G2 := Wd σ X) dX11_frameOf_29 okX11_isIn (Or.inl w_729) rfl (Nat.le_of_ble_eq_true rfl) (by decide) (by decide) (Nat.zero_le _) (Nat.zero_le _) rfl rfl (s_isIn1 hL (by decide) (by decide) (by decide) (by omega)) ?_
        refine xz_if_ne (tgt := 45) dX11_frameOf_32 (by decide) (by omega) (fun c4 => ?_) (fun c4 => ?_)
        · refine xw_iload 5 dX11_frameOf_45 rfl ?_
          refine xz_if_eq (tgt := 77) dX11_frameOf_47 (by decide) (by omega) (fun c5 => ?_) (fun c5 => ?_)
          · refine xz_ldc2 (z := 60) dX11_frameOf_77 w_1135 (by decide) ?_
            refine xw_iload_n 1 dX11_frameOf_80 rfl ?_
            refine xz_i2l dX11_frameOf_81 (by omega) ?_
            refine xz_lmul dX11_frameOf_82 ?_
            refine xw_eq rfl rfl (s2 := [.long (lI 60)]) rfl rfl ?_
            refine xw_iload_n 2 dX11_frameOf_83 rfl ?_
            refine xz_i2l dX11_frameOf_84 (by omega) ?_
            refine xz_ladd dX11_frameOf_85 ?_
            refine xw_eq rfl rfl (s2 := [.long (lI 60)]) rfl rfl ?_
            refine xw_lstore (l2 := [(0, .ref 0), (1, .int (iI 1)), (2, .int (iI 0)), (3, .int (iI 0)), (4, .int (iI 0)), (5, .int (iI 0)), (6, .long (lI 60))]) dX11_frameOf_86 (by decide) rfl rfl ?_
            refine xw_lload 6 dX11_frameOf_88 rfl ?_
            refine xz_ldc2 (z := 1800) dX11_frameOf_90 w_1136 (by decide) ?_
            refine xz_lmul dX11_frameOf_93 ?_
            refine xw_eq rfl rfl (s2 := [.long (lI 108000)]) rfl rfl ?_
            refine xw_iload_n 3 dX11_frameOf_94 rfl ?_
            refine xz_bipush dX11_frameOf_95 (by decide) ?_
            refine xz_imul dX11_frameOf_97 ?_
            refine xw_eq rfl rfl (s2 := [.int (iI 0), .long (lI 108000)]) rfl rfl ?_
            refine xz_i2l dX11_frameOf_98 (by omega) ?_
            refine xz_ladd dX11_frameOf_99 ?_
            refine xw_eq rfl rfl (s2 := [.long (lI 108000)]) rfl rfl ?_
            refine xw_iload 4 dX11_frameOf_100 rfl ?_
            refine xz_i2l dX11_frameOf_102 (by omega) ?_
            refine xz_ladd dX11_frameOf_103 ?_
            refine xw_eq rfl rfl (s2 := [.long (lI 108000)]) rfl rfl ?_
            refine xw_lstore (l2 := [(0, .ref 0), (1, .int (iI 1)), (2, .int (iI 0)), (3, .int (iI 0)), (4, .int (iI 0)), (5, .int (iI 0)), (6, .long (lI 60)), (8, .long (lI 108000))]) dX11_frameOf_104 (by decide) rfl rfl ?_
            refine xw_iload 5 dX11_frameOf_106 rfl ?_
            refine xz_if_eq (tgt := 129) dX11_frameOf_108 (by decide) (by omega) (fun c6 => ?_) (fun c6 => ?_)
            · refine xw_lload 7 dX11_frameOf_129 rfl ?_
              refine xz_ldc2 (z := 99999) dX11_frameOf_131 w_908 (by decide) ?_
              refine xz_lcmp dX11_frameOf_134 (by omega) (by omega) ?_
              refine xw_eq rfl rfl (s2 := [.int (iI 1)]) (by rw [show cmpI 108000 99999 = 1 from by decide] <;> rfl) rfl ?_
              refine xz_if_le (tgt := 148) dX11_frameOf_135 (by decide) (by omega) (fun c7 => ?_) (fun c7 => ?_)
              · exact absurd c7 (by omega)
              · exact yt_X11_79_98_83 rfl dX11_frameOf_138 dX11_frameOf_141 dX11_frameOf_142 dX11_frameOf_144 dX11_frameOf_147 rfl (Nat.le_of_ble_eq_true rfl) (Nat.le_of_ble_eq_true rfl) (Nat.le_of_ble_eq_true rfl) hX ⟨rfl, rfl⟩
            · exact absurd c6 (by omega)
          · exact absurd c5 (by omega)
        · exact absurd c4 (by omega))
theorem r_frameOf_2000000000_0_0_0_0 (hL : L.stackTraces = false) (hX : X.length ≤ 1000000) : xMet L O mX11_frameOf (xR 1 1 6) [.ref 0, .int (iI 2000000000), .int (iI 0), .int (iI 0), .int (iI 0), .int (iI 0)] (Wd σ X) (fun o G1 => o = .inr "java/lang/IllegalArgumentException" ∧ G1 = Wd σ (X ++ [(127, [])])) := xMet_of (by decide) hL (Nat.le_of_ble_eq_true rfl) (by
  refine xw_eq rfl (l2 := [(0, .ref 0), (1, .int (iI 2000000000)), (2, .int (iI 0)), (3, .int (iI 0)), (4, .int (iI 0)), (5, .int (iI 0))]) rfl rfl rfl ?_
  refine xw_iload_n 1 dX11_frameOf_0 rfl ?_
  refine xz_if_lt (tgt := 35) dX11_frameOf_1 (by decide) (by omega) (fun c1 => ?_) (fun c1 => ?_)
  · exact absurd c1 (by omega)
  · refine xw_iload_n 2 dX11_frameOf_4 rfl ?_
    refine xz_iconst dX11_frameOf_5 ?_
    refine xz_bipush dX11_frameOf_6 (by decide) ?_
    refine yc_S (M' := mX11_isIn) (d := 0) (c := 0) (s := 0) (As := [.int (iI 0), .int (iI 0), .int (iI 59)]) (st := []) (v0 := some (.int (iI 1))) (G2 := Wd σ X) dX11_frameOf_8 okX11_isIn (Or.inl w_729) rfl (Nat.le_of_ble_eq_true rfl) (by decide) (by decide) (Nat.zero_le _) (Nat.zero_le _) rfl rfl (s_isIn1 hL (by decide) (by decide) (by decide) (by omega)) ?_
    refine xz_if_eq (tgt := 35) dX11_frameOf_11 (by decide) (by omega) (fun c2 => ?_) (fun c2 => ?_)
    · exact absurd c2 (by omega)
    · refine xw_iload_n 3 dX11_frameOf_14 rfl ?_
      refine xz_iconst dX11_frameOf_15 ?_
      refine xz_bipush dX11_frameOf_16 (by decide) ?_
      refine yc_S (M' := mX11_isIn) (d := 0) (c := 0) (s := 0) (As := [.int (iI 0), .int (iI 0), .int (iI 59)]) (st := []) (v0 := some (.int (iI 1))) (G2 := Wd σ X) dX11_frameOf_18 okX11_isIn (Or.inl w_729) rfl (Nat.le_of_ble_eq_true rfl) (by decide) (by decide) (Nat.zero_le _) (Nat.zero_le _) rfl rfl (s_isIn1 hL (by decide) (by decide) (by decide) (by omega)) ?_
      refine xz_if_eq (tgt := 35) dX11_frameOf_21 (by decide) (by omega) (fun c3 => ?_) (fun c3 => ?_)
      · exact absurd c3 (by omega)
      · refine xw_iload 4 dX11_frameOf_24 rfl ?_
        refine xz_iconst dX11_frameOf_26 ?_
        refine xz_bipush dX11_frameOf_27 (by decide) ?_
        refine yc_S (M' := mX11_isIn) (d := 0) (c := 0) (s := 0) (As := [.int (iI 0), .int (iI 0), .int (iI 29)]) (st := []) (v0 := some (.int (iI 1))) (G2 := Wd σ X) dX11_frameOf_29 okX11_isIn (Or.inl w_729) rfl (Nat.le_of_ble_eq_true rfl) (by decide) (by decide) (Nat.zero_le _) (Nat.zero_le _) rfl rfl (s_isIn1 hL (by decide) (by decide) (by decide) (by omega)) ?_
        refine xz_if_ne (tgt := 45) dX11_frameOf_32 (by decide) (by omega) (fun c4 => ?_) (fun c4 => ?_)
        · refine xw_iload 5 dX11_frameOf_45 rfl ?_
          refine xz_if_eq (tgt := 77) dX11_frameOf_47 (by decide) (by omega) (fun c5 => ?_) (fun c5 => ?_)
          · refine xz_ldc2 (z := 60) dX11_frameOf_77 w_1135 (by decide) ?_
            refine xw_iload_n 1 dX11_frameOf_80 rfl ?_
            refine xz_i2l dX11_frameOf_81 (by omega) ?_
            refine xz_lmul dX11_frameOf_82 ?_
            refine xw_eq rfl rfl (s2 := [.long (lI 120000000000)]) rfl rfl ?_
            refine xw_iload_n 2 dX11_frameOf_83 rfl ?_
            refine xz_i2l dX11_frameOf_84 (by omega) ?_
            refine xz_ladd dX11_frameOf_85 ?_
            refine xw_eq rfl rfl (s2 := [.long (lI 120000000000)]) rfl rfl ?_
            refine xw_lstore (l2 := [(0, .ref 0), (1, .int (iI 2000000000)), (2, .int (iI 0)), (3, .int (iI 0)), (4, .int (iI 0)), (5, .int (iI 0)), (6, .long (lI 120000000000))]) dX11_frameOf_86 (by decide) rfl rfl ?_
            refine xw_lload 6 dX11_frameOf_88 rfl ?_
            refine xz_ldc2 (z := 1800) dX11_frameOf_90 w_1136 (by decide) ?_
            refine xz_lmul dX11_frameOf_93 ?_
            refine xw_eq rfl rfl (s2 := [.long (lI 216000000000000)]) rfl rfl ?_
            refine xw_iload_n 3 dX11_frameOf_94 rfl ?_
            refine xz_bipush dX11_frameOf_95 (by decide) ?_
            refine xz_imul dX11_frameOf_97 ?_
            refine xw_eq rfl rfl (s2 := [.int (iI 0), .long (lI 216000000000000)]) rfl rfl ?_
            refine xz_i2l dX11_frameOf_98 (by omega) ?_
            refine xz_ladd dX11_frameOf_99 ?_
            refine xw_eq rfl rfl (s2 := [.long (lI 216000000000000)]) rfl rfl ?_
            refine xw_iload 4 dX11_frameOf_100 rfl ?_
            refine xz_i2l dX11_frameOf_102 (by omega) ?_
            refine xz_ladd dX11_frameOf_103 ?_
            refine xw_eq rfl rfl (s2 := [.long (lI 216000000000000)]) rfl rfl ?_
            refine xw_lstore (l2 := [(0, .ref 0), (1, .int (iI 2000000000)), (2, .int (iI 0)), (3, .int (iI 0)), (4, .int (iI 0)), (5, .int (iI 0)), (6, .long (lI 120000000000)), (8, .long (lI 216000000000000))]) dX11_frameOf_104 (by decide) rfl rfl ?_
            refine xw_iload 5 dX11_frameOf_106 rfl ?_
            refine xz_if_eq (tgt := 129) dX11_frameOf_108 (by decide) (by omega) (fun c6 => ?_) (fun c6 => ?_)
            · refine xw_lload 7 dX11_frameOf_129 rfl ?_
              refine xz_ldc2 (z := 99999) dX11_frameOf_131 w_908 (by decide) ?_
              refine xz_lcmp dX11_frameOf_134 (by omega) (by omega) ?_
              refine xw_eq rfl rfl (s2 := [.int (iI 1)]) (by rw [show cmpI 216000000000000 99999 = 1 from by decide] <;> rfl) rfl ?_
              refine xz_if_le (tgt := 148) dX11_frameOf_135 (by decide) (by omega) (fun c7 => ?_) (fun c7 => ?_)
              · exact absurd c7 (by omega)
              · exact yt_X11_79_98_83 rfl dX11_frameOf_138 dX11_frameOf_141 dX11_frameOf_142 dX11_frameOf_144 dX11_frameOf_147 rfl (Nat.le_of_ble_eq_true rfl) (Nat.le_of_ble_eq_true rfl) (Nat.le_of_ble_eq_true rfl) hX ⟨rfl, rfl⟩
            · exact absurd c6 (by omega)
          · exact absurd c5 (by omega)
        · exact absurd c4 (by omega))
theorem g_frameOf_0_10_0_0_1 (hL : L.stackTraces = false) : xMet L O mX11_frameOf (xR 1 0 0) [.ref 0, .int (iI 0), .int (iI 10), .int (iI 0), .int (iI 0), .int (iI 1)] (Wd σ X) (fun o G1 => o = .inl (some (.int (iI 17982))) ∧ G1 = Wd σ X) := xMet_of (by decide) hL (Nat.le_of_ble_eq_true rfl) (by
  refine xw_eq rfl (l2 := [(0, .ref 0), (1, .int (iI 0)), (2, .int (iI 10)), (3, .int (iI 0)), (4, .int (iI 0)), (5, .int (iI 1))]) rfl rfl rfl ?_
  refine xw_iload_n 1 dX11_frameOf_0 rfl ?_
  refine xz_if_lt (tgt := 35) dX11_frameOf_1 (by decide) (by omega) (fun c1 => ?_) (fun c1 => ?_)
  · exact absurd c1 (by omega)
  · refine xw_iload_n 2 dX11_frameOf_4 rfl ?_
    refine xz_iconst dX11_frameOf_5 ?_
    refine xz_bipush dX11_frameOf_6 (by decide) ?_
    refine yc_S (M' := mX11_isIn) (d := 0) (c := 0) (s := 0) (As := [.int (iI 10), .int (iI 0), .int (iI 59)]) (st := []) (v0 := some (.int (iI 1))) (G2 := Wd σ X) dX11_frameOf_8 okX11_isIn (Or.inl w_729) rfl (Nat.le_of_ble_eq_true rfl) (by decide) (by decide) (Nat.zero_le _) (Nat.zero_le _) rfl rfl (s_isIn1 hL (by decide) (by decide) (by decide) (by omega)) ?_
    refine xz_if_eq (tgt := 35) dX11_frameOf_11 (by decide) (by omega) (fun c2 => ?_) (fun c2 => ?_)
    · exact absurd c2 (by omega)
    · refine xw_iload_n 3 dX11_frameOf_14 rfl ?_
      refine xz_iconst dX11_frameOf_15 ?_
      refine xz_bipush dX11_frameOf_16 (by decide) ?_
      refine yc_S (M' := mX11_isIn) (d := 0) (c := 0) (s := 0) (As := [.int (iI 0), .int (iI 0), .int (iI 59)]) (st := []) (v0 := some (.int (iI 1))) (G2 := Wd σ X) dX11_frameOf_18 okX11_isIn (Or.inl w_729) rfl (Nat.le_of_ble_eq_true rfl) (by decide) (by decide) (Nat.zero_le _) (Nat.zero_le _) rfl rfl (s_isIn1 hL (by decide) (by decide) (by decide) (by omega)) ?_
      refine xz_if_eq (tgt := 35) dX11_frameOf_21 (by decide) (by omega) (fun c3 => ?_) (fun c3 => ?_)
      · exact absurd c3 (by omega)
      · refine xw_iload 4 dX11_frameOf_24 rfl ?_
        refine xz_iconst dX11_frameOf_26 ?_
        refine xz_bipush dX11_frameOf_27 (by decide) ?_
        refine yc_S (M' := mX11_isIn) (d := 0) (c := 0) (s := 0) (As := [.int (iI 0), .int (iI 0), .int (iI 29)]) (st := []) (v0 := some (.int (iI 1))) (G2 := Wd σ X) dX11_frameOf_29 okX11_isIn (Or.inl w_729) rfl (Nat.le_of_ble_eq_true rfl) (by decide) (by decide) (Nat.zero_le _) (Nat.zero_le _) rfl rfl (s_isIn1 hL (by decide) (by decide) (by decide) (by omega)) ?_
        refine xz_if_ne (tgt := 45) dX11_frameOf_32 (by decide) (by omega) (fun c4 => ?_) (fun c4 => ?_)
        · refine xw_iload 5 dX11_frameOf_45 rfl ?_
          refine xz_if_eq (tgt := 77) dX11_frameOf_47 (by decide) (by omega) (fun c5 => ?_) (fun c5 => ?_)
          · exact absurd c5 (by omega)
          · refine xw_iload_n 2 dX11_frameOf_50 rfl ?_
            refine xz_bipush dX11_frameOf_51 (by decide) ?_
            refine xz_irem dX11_frameOf_53 (by decide) (by decide) ?_
            refine xw_eq rfl rfl (s2 := [.int (iI 0)]) (by rw [show (10 % 10 : Int) = 0 from by decide] <;> rfl) rfl ?_
            refine xz_if_eq (tgt := 77) dX11_frameOf_54 (by decide) (by omega) (fun c6 => ?_) (fun c6 => ?_)
            · refine xz_ldc2 (z := 60) dX11_frameOf_77 w_1135 (by decide) ?_
              refine xw_iload_n 1 dX11_frameOf_80 rfl ?_
              refine xz_i2l dX11_frameOf_81 (by omega) ?_
              refine xz_lmul dX11_frameOf_82 ?_
              refine xw_eq rfl rfl (s2 := [.long (lI 0)]) rfl rfl ?_
              refine xw_iload_n 2 dX11_frameOf_83 rfl ?_
              refine xz_i2l dX11_frameOf_84 (by omega) ?_
              refine xz_ladd dX11_frameOf_85 ?_
              refine xw_eq rfl rfl (s2 := [.long (lI 10)]) rfl rfl ?_
              refine xw_lstore (l2 := [(0, .ref 0), (1, .int (iI 0)), (2, .int (iI 10)), (3, .int (iI 0)), (4, .int (iI 0)), (5, .int (iI 1)), (6, .long (lI 10))]) dX11_frameOf_86 (by decide) rfl rfl ?_
              refine xw_lload 6 dX11_frameOf_88 rfl ?_
              refine xz_ldc2 (z := 1800) dX11_frameOf_90 w_1136 (by decide) ?_
              refine xz_lmul dX11_frameOf_93 ?_
              refine xw_eq rfl rfl (s2 := [.long (lI 18000)]) rfl rfl ?_
              refine xw_iload_n 3 dX11_frameOf_94 rfl ?_
              refine xz_bipush dX11_frameOf_95 (by decide) ?_
              refine xz_imul dX11_frameOf_97 ?_
              refine xw_eq rfl rfl (s2 := [.int (iI 0), .long (lI 18000)]) rfl rfl ?_
              refine xz_i2l dX11_frameOf_98 (by omega) ?_
              refine xz_ladd dX11_frameOf_99 ?_
              refine xw_eq rfl rfl (s2 := [.long (lI 18000)]) rfl rfl ?_
              refine xw_iload 4 dX11_frameOf_100 rfl ?_
              refine xz_i2l dX11_frameOf_102 (by omega) ?_
              refine xz_ladd dX11_frameOf_103 ?_
              refine xw_eq rfl rfl (s2 := [.long (lI 18000)]) rfl rfl ?_
              refine xw_lstore (l2 := [(0, .ref 0), (1, .int (iI 0)), (2, .int (iI 10)), (3, .int (iI 0)), (4, .int (iI 0)), (5, .int (iI 1)), (6, .long (lI 10)), (8, .long (lI 18000))]) dX11_frameOf_104 (by decide) rfl rfl ?_
              refine xw_iload 5 dX11_frameOf_106 rfl ?_
              refine xz_if_eq (tgt := 129) dX11_frameOf_108 (by decide) (by omega) (fun c7 => ?_) (fun c7 => ?_)
              · exact absurd c7 (by omega)
              · refine xw_lload 7 dX11_frameOf_111 rfl ?_
                refine xz_ldc2 (z := 2) dX11_frameOf_113 w_1137 (by decide) ?_
                refine xw_lload 6 dX11_frameOf_116 rfl ?_
                refine xw_lload 6 dX11_frameOf_118 rfl ?_
                refine xz_ldc2 (z := 10) dX11_frameOf_120 w_1138 (by decide) ?_
                refine xz_ldiv dX11_frameOf_123 (by decide) (by decide) ?_
                refine xw_eq rfl rfl (s2 := [.long (lI 1), .long (lI 10), .long (lI 2), .long (lI 18000)]) (by rw [show (10 / 10 : Int) = 1 from by decide] <;> rfl) rfl ?_
                refine xz_lsub dX11_frameOf_124 ?_
                refine xw_eq rfl rfl (s2 := [.long (lI 9), .long (lI 2), .long (lI 18000)]) rfl rfl ?_
                refine xz_lmul dX11_frameOf_125 ?_
                refine xw_eq rfl rfl (s2 := [.long (lI 18), .long (lI 18000)]) rfl rfl ?_
                refine xz_lsub dX11_frameOf_126 ?_
                refine xw_eq rfl rfl (s2 := [.long (lI 17982)]) rfl rfl ?_
                refine xw_lstore (l2 := [(0, .ref 0), (1, .int (iI 0)), (2, .int (iI 10)), (3, .int (iI 0)), (4, .int (iI 0)), (5, .int (iI 1)), (6, .long (lI 10)), (8, .long (lI 17982))]) dX11_frameOf_127 (by decide) rfl rfl ?_
                refine xw_lload 7 dX11_frameOf_129 rfl ?_
                refine xz_ldc2 (z := 99999) dX11_frameOf_131 w_908 (by decide) ?_
                refine xz_lcmp dX11_frameOf_134 (by omega) (by omega) ?_
                refine xw_eq rfl rfl (s2 := [.int (iI ((-1)))]) (by rw [show cmpI 17982 99999 = (-1) from by decide] <;> rfl) rfl ?_
                refine xz_if_le (tgt := 148) dX11_frameOf_135 (by decide) (by omega) (fun c8 => ?_) (fun c8 => ?_)
                · refine xw_lload 7 dX11_frameOf_148 rfl ?_
                  refine xz_l2i dX11_frameOf_150 (by omega) ?_
                  exact xz_iret dX11_frameOf_151 rfl (Nat.zero_le _) (Nat.zero_le _) ⟨rfl, rfl⟩
                · exact absurd c8 (by omega)
            · exact absurd c6 (by omega)
        · exact absurd c4 (by omega))
theorem g_frameOf_0_1_0_2_1 (hL : L.stackTraces = false) : xMet L O mX11_frameOf (xR 1 0 0) [.ref 0, .int (iI 0), .int (iI 1), .int (iI 0), .int (iI 2), .int (iI 1)] (Wd σ X) (fun o G1 => o = .inl (some (.int (iI 1800))) ∧ G1 = Wd σ X) := xMet_of (by decide) hL (Nat.le_of_ble_eq_true rfl) (by
  refine xw_eq rfl (l2 := [(0, .ref 0), (1, .int (iI 0)), (2, .int (iI 1)), (3, .int (iI 0)), (4, .int (iI 2)), (5, .int (iI 1))]) rfl rfl rfl ?_
  refine xw_iload_n 1 dX11_frameOf_0 rfl ?_
  refine xz_if_lt (tgt := 35) dX11_frameOf_1 (by decide) (by omega) (fun c1 => ?_) (fun c1 => ?_)
  · exact absurd c1 (by omega)
  · refine xw_iload_n 2 dX11_frameOf_4 rfl ?_
    refine xz_iconst dX11_frameOf_5 ?_
    refine xz_bipush dX11_frameOf_6 (by decide) ?_
    refine yc_S (M' := mX11_isIn) (d := 0) (c := 0) (s := 0) (As := [.int (iI 1), .int (iI 0), .int (iI 59)]) (st := []) (v0 := some (.int (iI 1))) (G2 := Wd σ X) dX11_frameOf_8 okX11_isIn (Or.inl w_729) rfl (Nat.le_of_ble_eq_true rfl) (by decide) (by decide) (Nat.zero_le _) (Nat.zero_le _) rfl rfl (s_isIn1 hL (by decide) (by decide) (by decide) (by omega)) ?_
    refine xz_if_eq (tgt := 35) dX11_frameOf_11 (by decide) (by omega) (fun c2 => ?_) (fun c2 => ?_)
    · exact absurd c2 (by omega)
    · refine xw_iload_n 3 dX11_frameOf_14 rfl ?_
      refine xz_iconst dX11_frameOf_15 ?_
      refine xz_bipush dX11_frameOf_16 (by decide) ?_
      refine yc_S (M' := mX11_isIn) (d := 0) (c := 0) (s := 0) (As := [.int (iI 0), .int (iI 0), .int (iI 59)]) (st := []) (v0 := some (.int (iI 1))) (G2 := Wd σ X) dX11_frameOf_18 okX11_isIn (Or.inl w_729) rfl (Nat.le_of_ble_eq_true rfl) (by decide) (by decide) (Nat.zero_le _) (Nat.zero_le _) rfl rfl (s_isIn1 hL (by decide) (by decide) (by decide) (by omega)) ?_
      refine xz_if_eq (tgt := 35) dX11_frameOf_21 (by decide) (by omega) (fun c3 => ?_) (fun c3 => ?_)
      · exact absurd c3 (by omega)
      · refine xw_iload 4 dX11_frameOf_24 rfl ?_
        refine xz_iconst dX11_frameOf_26 ?_
        refine xz_bipush dX11_frameOf_27 (by decide) ?_
        refine yc_S (M' := mX11_isIn) (d := 0) (c := 0) (s := 0) (As := [.int (iI 2), .int (iI 0), .int (iI 29)]) (st := []) (v0 := some (.int (iI 1))) (G2 := Wd σ X) dX11_frameOf_29 okX11_isIn (Or.inl w_729) rfl (Nat.le_of_ble_eq_true rfl) (by decide) (by decide) (Nat.zero_le _) (Nat.zero_le _) rfl rfl (s_isIn1 hL (by decide) (by decide) (by decide) (by omega)) ?_
        refine xz_if_ne (tgt := 45) dX11_frameOf_32 (by decide) (by omega) (fun c4 => ?_) (fun c4 => ?_)
        · refine xw_iload 5 dX11_frameOf_45 rfl ?_
          refine xz_if_eq (tgt := 77) dX11_frameOf_47 (by decide) (by omega) (fun c5 => ?_) (fun c5 => ?_)
          · exact absurd c5 (by omega)
          · refine xw_iload_n 2 dX11_frameOf_50 rfl ?_
            refine xz_bipush dX11_frameOf_51 (by decide) ?_
            refine xz_irem dX11_frameOf_53 (by decide) (by decide) ?_
            refine xw_eq rfl rfl (s2 := [.int (iI 1)]) (by rw [show (1 % 10 : Int) = 1 from by decide] <;> rfl) rfl ?_
            refine xz_if_eq (tgt := 77) dX11_frameOf_54 (by decide) (by omega) (fun c6 => ?_) (fun c6 => ?_)
            · exact absurd c6 (by omega)
            · refine xw_iload_n 3 dX11_frameOf_57 rfl ?_
              refine xz_if_ne (tgt := 77) dX11_frameOf_58 (by decide) (by omega) (fun c7 => ?_) (fun c7 => ?_)
              · exact absurd c7 (by omega)
              · refine xw_iload 4 dX11_frameOf_61 rfl ?_
                refine xz_iconst dX11_frameOf_63 ?_
                refine xz_icmp_ge (tgt := 77) dX11_frameOf_64 (by decide) (by omega) (by omega) (fun c8 => ?_) (fun c8 => ?_)
                · refine xz_ldc2 (z := 60) dX11_frameOf_77 w_1135 (by decide) ?_
                  refine xw_iload_n 1 dX11_frameOf_80 rfl ?_
                  refine xz_i2l dX11_frameOf_81 (by omega) ?_
                  refine xz_lmul dX11_frameOf_82 ?_
                  refine xw_eq rfl rfl (s2 := [.long (lI 0)]) rfl rfl ?_
                  refine xw_iload_n 2 dX11_frameOf_83 rfl ?_
                  refine xz_i2l dX11_frameOf_84 (by omega) ?_
                  refine xz_ladd dX11_frameOf_85 ?_
                  refine xw_eq rfl rfl (s2 := [.long (lI 1)]) rfl rfl ?_
                  refine xw_lstore (l2 := [(0, .ref 0), (1, .int (iI 0)), (2, .int (iI 1)), (3, .int (iI 0)), (4, .int (iI 2)), (5, .int (iI 1)), (6, .long (lI 1))]) dX11_frameOf_86 (by decide) rfl rfl ?_
                  refine xw_lload 6 dX11_frameOf_88 rfl ?_
                  refine xz_ldc2 (z := 1800) dX11_frameOf_90 w_1136 (by decide) ?_
                  refine xz_lmul dX11_frameOf_93 ?_
                  refine xw_eq rfl rfl (s2 := [.long (lI 1800)]) rfl rfl ?_
                  refine xw_iload_n 3 dX11_frameOf_94 rfl ?_
                  refine xz_bipush dX11_frameOf_95 (by decide) ?_
                  refine xz_imul dX11_frameOf_97 ?_
                  refine xw_eq rfl rfl (s2 := [.int (iI 0), .long (lI 1800)]) rfl rfl ?_
                  refine xz_i2l dX11_frameOf_98 (by omega) ?_
                  refine xz_ladd dX11_frameOf_99 ?_
                  refine xw_eq rfl rfl (s2 := [.long (lI 1800)]) rfl rfl ?_
                  refine xw_iload 4 dX11_frameOf_100 rfl ?_
                  refine xz_i2l dX11_frameOf_102 (by omega) ?_
                  refine xz_ladd dX11_frameOf_103 ?_
                  refine xw_eq rfl rfl (s2 := [.long (lI 1802)]) rfl rfl ?_
                  refine xw_lstore (l2 := [(0, .ref 0), (1, .int (iI 0)), (2, .int (iI 1)), (3, .int (iI 0)), (4, .int (iI 2)), (5, .int (iI 1)), (6, .long (lI 1)), (8, .long (lI 1802))]) dX11_frameOf_104 (by decide) rfl rfl ?_
                  refine xw_iload 5 dX11_frameOf_106 rfl ?_
                  refine xz_if_eq (tgt := 129) dX11_frameOf_108 (by decide) (by omega) (fun c9 => ?_) (fun c9 => ?_)
                  · exact absurd c9 (by omega)
                  · refine xw_lload 7 dX11_frameOf_111 rfl ?_
                    refine xz_ldc2 (z := 2) dX11_frameOf_113 w_1137 (by decide) ?_
                    refine xw_lload 6 dX11_frameOf_116 rfl ?_
                    refine xw_lload 6 dX11_frameOf_118 rfl ?_
                    refine xz_ldc2 (z := 10) dX11_frameOf_120 w_1138 (by decide) ?_
                    refine xz_ldiv dX11_frameOf_123 (by decide) (by decide) ?_
                    refine xw_eq rfl rfl (s2 := [.long (lI 0), .long (lI 1), .long (lI 2), .long (lI 1802)]) (by rw [show (1 / 10 : Int) = 0 from by decide] <;> rfl) rfl ?_
                    refine xz_lsub dX11_frameOf_124 ?_
                    refine xw_eq rfl rfl (s2 := [.long (lI 1), .long (lI 2), .long (lI 1802)]) rfl rfl ?_
                    refine xz_lmul dX11_frameOf_125 ?_
                    refine xw_eq rfl rfl (s2 := [.long (lI 2), .long (lI 1802)]) rfl rfl ?_
                    refine xz_lsub dX11_frameOf_126 ?_
                    refine xw_eq rfl rfl (s2 := [.long (lI 1800)]) rfl rfl ?_
                    refine xw_lstore (l2 := [(0, .ref 0), (1, .int (iI 0)), (2, .int (iI 1)), (3, .int (iI 0)), (4, .int (iI 2)), (5, .int (iI 1)), (6, .long (lI 1)), (8, .long (lI 1800))]) dX11_frameOf_127 (by decide) rfl rfl ?_
                    refine xw_lload 7 dX11_frameOf_129 rfl ?_
                    refine xz_ldc2 (z := 99999) dX11_frameOf_131 w_908 (by decide) ?_
                    refine xz_lcmp dX11_frameOf_134 (by omega) (by omega) ?_
                    refine xw_eq rfl rfl (s2 := [.int (iI ((-1)))]) (by rw [show cmpI 1800 99999 = (-1) from by decide] <;> rfl) rfl ?_
                    refine xz_if_le (tgt := 148) dX11_frameOf_135 (by decide) (by omega) (fun c10 => ?_) (fun c10 => ?_)
                    · refine xw_lload 7 dX11_frameOf_148 rfl ?_
                      refine xz_l2i dX11_frameOf_150 (by omega) ?_
                      exact xz_iret dX11_frameOf_151 rfl (Nat.zero_le _) (Nat.zero_le _) ⟨rfl, rfl⟩
                    · exact absurd c10 (by omega)
                · exact absurd c8 (by omega)
        · exact absurd c4 (by omega))
theorem r_stampOf_100000_0_0 (hL : L.stackTraces = false) (hX : X.length ≤ 1000000) : xMet L O mX11_stampOf (xR 2 1 6) [.ref 0, .int (iI 100000), .int (iI 0), .int (iI 0)] (Wd σ X) (fun o G1 => o = .inr "java/lang/IllegalArgumentException" ∧ G1 = Wd σ (X ++ [(127, [])])) := xMet_of (by decide) hL (Nat.le_of_ble_eq_true rfl) (by
  refine xw_eq rfl (l2 := [(0, .ref 0), (1, .int (iI 100000)), (2, .int (iI 0)), (3, .int (iI 0))]) rfl rfl rfl ?_
  refine xw_iload_n 1 dX11_stampOf_0 rfl ?_
  refine yc_ST (M' := mX11_needFrame) (d := 1) (c := 1) (s := 6) (As := [.int (iI 100000)]) (st := []) (E := "java/lang/IllegalArgumentException") (G2 := Wd σ (X ++ [(127, [])])) dX11_stampOf_1 okX11_needFrame (Or.inl w_725) rfl (Nat.le_of_ble_eq_true rfl) (by decide) (by decide) (Nat.le_of_ble_eq_true rfl) (Nat.le_of_ble_eq_true rfl) rfl (s_needFrame0 hL hX (by decide) (by decide)) ?_
  exact xth_out rfl (Nat.le_of_ble_eq_true rfl) (Nat.le_of_ble_eq_true rfl) ⟨rfl, rfl⟩)
theorem r_stampOf_0_4_0 (hL : L.stackTraces = false) (hX : X.length ≤ 1000000) : xMet L O mX11_stampOf (xR 2 1 6) [.ref 0, .int (iI 0), .int (iI 4), .int (iI 0)] (Wd σ X) (fun o G1 => o = .inr "java/lang/IllegalArgumentException" ∧ G1 = Wd σ (X ++ [(127, [])])) := xMet_of (by decide) hL (Nat.le_of_ble_eq_true rfl) (by
  refine xw_eq rfl (l2 := [(0, .ref 0), (1, .int (iI 0)), (2, .int (iI 4)), (3, .int (iI 0))]) rfl rfl rfl ?_
  refine xw_iload_n 1 dX11_stampOf_0 rfl ?_
  refine yc_S (M' := mX11_needFrame) (d := 1) (c := 0) (s := 0) (As := [.int (iI 0)]) (st := []) (v0 := none) (G2 := Wd σ X) dX11_stampOf_1 okX11_needFrame (Or.inl w_725) rfl (Nat.le_of_ble_eq_true rfl) (by decide) (by decide) (Nat.zero_le _) (Nat.zero_le _) rfl rfl (s_needFrame1 hL (by decide)) ?_
  refine xw_iload_n 2 dX11_stampOf_4 rfl ?_
  refine xz_iconst dX11_stampOf_5 ?_
  refine xz_iconst dX11_stampOf_6 ?_
  refine yc_S (M' := mX11_isIn) (d := 0) (c := 0) (s := 0) (As := [.int (iI 4), .int (iI 0), .int (iI 3)]) (st := []) (v0 := some (.int (iI 0))) (G2 := Wd σ X) dX11_stampOf_7 okX11_isIn (Or.inl w_729) rfl (Nat.le_of_ble_eq_true rfl) (by decide) (by decide) (Nat.zero_le _) (Nat.zero_le _) rfl rfl (s_isIn0 hL (by decide) (by decide) (by decide) (by omega)) ?_
  refine yc_ST (M' := mX11_needArgument) (d := 0) (c := 1) (s := 6) (As := [.int (iI 0)]) (st := []) (E := "java/lang/IllegalArgumentException") (G2 := Wd σ (X ++ [(127, [])])) dX11_stampOf_10 okX11_needArgument (Or.inl w_749) rfl (Nat.le_of_ble_eq_true rfl) (by decide) (by decide) (Nat.le_of_ble_eq_true rfl) (Nat.le_of_ble_eq_true rfl) rfl (s_needArg0 hL hX) ?_
  exact xth_out rfl (Nat.le_of_ble_eq_true rfl) (Nat.le_of_ble_eq_true rfl) ⟨rfl, rfl⟩)
theorem r_addCue_5_5_0 (hL : L.stackTraces = false) (hX : X.length ≤ 1000000) : xMet L O mX11_addCue (xR 2 1 6) [.ref 0, .int (iI 5), .int (iI 5), .int (iI 0)] (Wd σ X) (fun o G1 => o = .inr "java/lang/IllegalArgumentException" ∧ G1 = Wd σ (X ++ [(127, [])])) := xMet_of (by decide) hL (Nat.le_of_ble_eq_true rfl) (by
  refine xw_eq rfl (l2 := [(0, .ref 0), (1, .int (iI 5)), (2, .int (iI 5)), (3, .int (iI 0))]) rfl rfl rfl ?_
  refine xw_iload_n 1 dX11_addCue_0 rfl ?_
  refine yc_S (M' := mX11_needFrame) (d := 1) (c := 0) (s := 0) (As := [.int (iI 5)]) (st := []) (v0 := none) (G2 := Wd σ X) dX11_addCue_1 okX11_needFrame (Or.inl w_725) rfl (Nat.le_of_ble_eq_true rfl) (by decide) (by decide) (Nat.zero_le _) (Nat.zero_le _) rfl rfl (s_needFrame1 hL (by decide)) ?_
  refine xw_iload_n 2 dX11_addCue_4 rfl ?_
  refine yc_S (M' := mX11_needFrame) (d := 1) (c := 0) (s := 0) (As := [.int (iI 5)]) (st := []) (v0 := none) (G2 := Wd σ X) dX11_addCue_5 okX11_needFrame (Or.inl w_725) rfl (Nat.le_of_ble_eq_true rfl) (by decide) (by decide) (Nat.zero_le _) (Nat.zero_le _) rfl rfl (s_needFrame1 hL (by decide)) ?_
  refine xw_iload_n 2 dX11_addCue_8 rfl ?_
  refine xw_iload_n 1 dX11_addCue_9 rfl ?_
  refine xz_icmp_le (tgt := 26) dX11_addCue_10 (by decide) (by omega) (by omega) (fun c1 => ?_) (fun c1 => ?_)
  · refine xz_iconst dX11_addCue_26 ?_
    refine yc_ST (M' := mX11_needArgument) (d := 0) (c := 1) (s := 6) (As := [.int (iI 0)]) (st := []) (E := "java/lang/IllegalArgumentException") (G2 := Wd σ (X ++ [(127, [])])) dX11_addCue_27 okX11_needArgument (Or.inl w_749) rfl (Nat.le_of_ble_eq_true rfl) (by decide) (by decide) (Nat.le_of_ble_eq_true rfl) (Nat.le_of_ble_eq_true rfl) rfl (s_needArg0 hL hX) ?_
    exact xth_out rfl (Nat.le_of_ble_eq_true rfl) (Nat.le_of_ble_eq_true rfl) ⟨rfl, rfl⟩
  · exact absurd c1 (by omega))
theorem r_addCue_m1_5_0 (hL : L.stackTraces = false) (hX : X.length ≤ 1000000) : xMet L O mX11_addCue (xR 2 1 6) [.ref 0, .int (iI ((-1))), .int (iI 5), .int (iI 0)] (Wd σ X) (fun o G1 => o = .inr "java/lang/IllegalArgumentException" ∧ G1 = Wd σ (X ++ [(127, [])])) := xMet_of (by decide) hL (Nat.le_of_ble_eq_true rfl) (by
  refine xw_eq rfl (l2 := [(0, .ref 0), (1, .int (iI ((-1)))), (2, .int (iI 5)), (3, .int (iI 0))]) rfl rfl rfl ?_
  refine xw_iload_n 1 dX11_addCue_0 rfl ?_
  refine yc_ST (M' := mX11_needFrame) (d := 1) (c := 1) (s := 6) (As := [.int (iI ((-1)))]) (st := []) (E := "java/lang/IllegalArgumentException") (G2 := Wd σ (X ++ [(127, [])])) dX11_addCue_1 okX11_needFrame (Or.inl w_725) rfl (Nat.le_of_ble_eq_true rfl) (by decide) (by decide) (Nat.le_of_ble_eq_true rfl) (Nat.le_of_ble_eq_true rfl) rfl (s_needFrame0 hL hX (by decide) (by decide)) ?_
  exact xth_out rfl (Nat.le_of_ble_eq_true rfl) (Nat.le_of_ble_eq_true rfl) ⟨rfl, rfl⟩)
theorem r_addCue_5_100000_0 (hL : L.stackTraces = false) (hX : X.length ≤ 1000000) : xMet L O mX11_addCue (xR 2 1 6) [.ref 0, .int (iI 5), .int (iI 100000), .int (iI 0)] (Wd σ X) (fun o G1 => o = .inr "java/lang/IllegalArgumentException" ∧ G1 = Wd σ (X ++ [(127, [])])) := xMet_of (by decide) hL (Nat.le_of_ble_eq_true rfl) (by
  refine xw_eq rfl (l2 := [(0, .ref 0), (1, .int (iI 5)), (2, .int (iI 100000)), (3, .int (iI 0))]) rfl rfl rfl ?_
  refine xw_iload_n 1 dX11_addCue_0 rfl ?_
  refine yc_S (M' := mX11_needFrame) (d := 1) (c := 0) (s := 0) (As := [.int (iI 5)]) (st := []) (v0 := none) (G2 := Wd σ X) dX11_addCue_1 okX11_needFrame (Or.inl w_725) rfl (Nat.le_of_ble_eq_true rfl) (by decide) (by decide) (Nat.zero_le _) (Nat.zero_le _) rfl rfl (s_needFrame1 hL (by decide)) ?_
  refine xw_iload_n 2 dX11_addCue_4 rfl ?_
  refine yc_ST (M' := mX11_needFrame) (d := 1) (c := 1) (s := 6) (As := [.int (iI 100000)]) (st := []) (E := "java/lang/IllegalArgumentException") (G2 := Wd σ (X ++ [(127, [])])) dX11_addCue_5 okX11_needFrame (Or.inl w_725) rfl (Nat.le_of_ble_eq_true rfl) (by decide) (by decide) (Nat.le_of_ble_eq_true rfl) (Nat.le_of_ble_eq_true rfl) rfl (s_needFrame0 hL hX (by decide) (by decide)) ?_
  exact xth_out rfl (Nat.le_of_ble_eq_true rfl) (Nat.le_of_ble_eq_true rfl) ⟨rfl, rfl⟩)
theorem r_addCue_5_6_3 (hL : L.stackTraces = false) (hX : X.length ≤ 1000000) : xMet L O mX11_addCue (xR 2 1 6) [.ref 0, .int (iI 5), .int (iI 6), .int (iI 3)] (Wd σ X) (fun o G1 => o = .inr "java/lang/IllegalArgumentException" ∧ G1 = Wd σ (X ++ [(127, [])])) := xMet_of (by decide) hL (Nat.le_of_ble_eq_true rfl) (by
  refine xw_eq rfl (l2 := [(0, .ref 0), (1, .int (iI 5)), (2, .int (iI 6)), (3, .int (iI 3))]) rfl rfl rfl ?_
  refine xw_iload_n 1 dX11_addCue_0 rfl ?_
  refine yc_S (M' := mX11_needFrame) (d := 1) (c := 0) (s := 0) (As := [.int (iI 5)]) (st := []) (v0 := none) (G2 := Wd σ X) dX11_addCue_1 okX11_needFrame (Or.inl w_725) rfl (Nat.le_of_ble_eq_true rfl) (by decide) (by decide) (Nat.zero_le _) (Nat.zero_le _) rfl rfl (s_needFrame1 hL (by decide)) ?_
  refine xw_iload_n 2 dX11_addCue_4 rfl ?_
  refine yc_S (M' := mX11_needFrame) (d := 1) (c := 0) (s := 0) (As := [.int (iI 6)]) (st := []) (v0 := none) (G2 := Wd σ X) dX11_addCue_5 okX11_needFrame (Or.inl w_725) rfl (Nat.le_of_ble_eq_true rfl) (by decide) (by decide) (Nat.zero_le _) (Nat.zero_le _) rfl rfl (s_needFrame1 hL (by decide)) ?_
  refine xw_iload_n 2 dX11_addCue_8 rfl ?_
  refine xw_iload_n 1 dX11_addCue_9 rfl ?_
  refine xz_icmp_le (tgt := 26) dX11_addCue_10 (by decide) (by omega) (by omega) (fun c1 => ?_) (fun c1 => ?_)
  · exact absurd c1 (by omega)
  · refine xw_iload_n 3 dX11_addCue_13 rfl ?_
    refine xz_iconst dX11_addCue_14 ?_
    refine xz_iconst dX11_addCue_15 ?_
    refine yc_S (M' := mX11_isIn) (d := 0) (c := 0) (s := 0) (As := [.int (iI 3), .int (iI 0), .int (iI 2)]) (st := []) (v0 := some (.int (iI 0))) (G2 := Wd σ X) dX11_addCue_16 okX11_isIn (Or.inl w_729) rfl (Nat.le_of_ble_eq_true rfl) (by decide) (by decide) (Nat.zero_le _) (Nat.zero_le _) rfl rfl (s_isIn0 hL (by decide) (by decide) (by decide) (by omega)) ?_
    refine xz_if_eq (tgt := 26) dX11_addCue_19 (by decide) (by omega) (fun c2 => ?_) (fun c2 => ?_)
    · refine xz_iconst dX11_addCue_26 ?_
      refine yc_ST (M' := mX11_needArgument) (d := 0) (c := 1) (s := 6) (As := [.int (iI 0)]) (st := []) (E := "java/lang/IllegalArgumentException") (G2 := Wd σ (X ++ [(127, [])])) dX11_addCue_27 okX11_needArgument (Or.inl w_749) rfl (Nat.le_of_ble_eq_true rfl) (by decide) (by decide) (Nat.le_of_ble_eq_true rfl) (Nat.le_of_ble_eq_true rfl) rfl (s_needArg0 hL hX) ?_
      exact xth_out rfl (Nat.le_of_ble_eq_true rfl) (Nat.le_of_ble_eq_true rfl) ⟨rfl, rfl⟩
    · exact absurd c2 (by omega))
theorem r_setRegion_3_0_1_20 (hL : L.stackTraces = false) (hX : X.length ≤ 1000000) : xMet L O mX11_setRegion (xR 2 1 6) [.ref 0, .int (iI 3), .int (iI 0), .int (iI 1), .int (iI 20)] (Wd σ X) (fun o G1 => o = .inr "java/lang/IllegalArgumentException" ∧ G1 = Wd σ (X ++ [(127, [])])) := xMet_of (by decide) hL (Nat.le_of_ble_eq_true rfl) (by
  refine xw_eq rfl (l2 := [(0, .ref 0), (1, .int (iI 3)), (2, .int (iI 0)), (3, .int (iI 1)), (4, .int (iI 20))]) rfl rfl rfl ?_
  refine xw_iload_n 1 dX11_setRegion_0 rfl ?_
  refine xz_iconst dX11_setRegion_1 ?_
  refine xz_iconst dX11_setRegion_2 ?_
  refine yc_S (M' := mX11_isIn) (d := 0) (c := 0) (s := 0) (As := [.int (iI 3), .int (iI 0), .int (iI 2)]) (st := []) (v0 := some (.int (iI 0))) (G2 := Wd σ X) dX11_setRegion_3 okX11_isIn (Or.inl w_729) rfl (Nat.le_of_ble_eq_true rfl) (by decide) (by decide) (Nat.zero_le _) (Nat.zero_le _) rfl rfl (s_isIn0 hL (by decide) (by decide) (by decide) (by omega)) ?_
  refine xz_if_eq (tgt := 52) dX11_setRegion_6 (by decide) (by omega) (fun c1 => ?_) (fun c1 => ?_)
  · refine xz_iconst dX11_setRegion_52 ?_
    refine yc_ST (M' := mX11_needArgument) (d := 0) (c := 1) (s := 6) (As := [.int (iI 0)]) (st := []) (E := "java/lang/IllegalArgumentException") (G2 := Wd σ (X ++ [(127, [])])) dX11_setRegion_53 okX11_needArgument (Or.inl w_749) rfl (Nat.le_of_ble_eq_true rfl) (by decide) (by decide) (Nat.le_of_ble_eq_true rfl) (Nat.le_of_ble_eq_true rfl) rfl (s_needArg0 hL hX) ?_
    exact xth_out rfl (Nat.le_of_ble_eq_true rfl) (Nat.le_of_ble_eq_true rfl) ⟨rfl, rfl⟩
  · exact absurd c1 (by omega))
theorem r_setRegion_0_7_2_20 (hL : L.stackTraces = false) (hX : X.length ≤ 1000000) : xMet L O mX11_setRegion (xR 2 1 6) [.ref 0, .int (iI 0), .int (iI 7), .int (iI 2), .int (iI 20)] (Wd σ X) (fun o G1 => o = .inr "java/lang/IllegalArgumentException" ∧ G1 = Wd σ (X ++ [(127, [])])) := xMet_of (by decide) hL (Nat.le_of_ble_eq_true rfl) (by
  refine xw_eq rfl (l2 := [(0, .ref 0), (1, .int (iI 0)), (2, .int (iI 7)), (3, .int (iI 2)), (4, .int (iI 20))]) rfl rfl rfl ?_
  refine xw_iload_n 1 dX11_setRegion_0 rfl ?_
  refine xz_iconst dX11_setRegion_1 ?_
  refine xz_iconst dX11_setRegion_2 ?_
  refine yc_S (M' := mX11_isIn) (d := 0) (c := 0) (s := 0) (As := [.int (iI 0), .int (iI 0), .int (iI 2)]) (st := []) (v0 := some (.int (iI 1))) (G2 := Wd σ X) dX11_setRegion_3 okX11_isIn (Or.inl w_729) rfl (Nat.le_of_ble_eq_true rfl) (by decide) (by decide) (Nat.zero_le _) (Nat.zero_le _) rfl rfl (s_isIn1 hL (by decide) (by decide) (by decide) (by omega)) ?_
  refine xz_if_eq (tgt := 52) dX11_setRegion_6 (by decide) (by omega) (fun c1 => ?_) (fun c1 => ?_)
  · exact absurd c1 (by omega)
  · refine xw_iload_n 2 dX11_setRegion_9 rfl ?_
    refine xz_iconst dX11_setRegion_10 ?_
    refine xz_bipush dX11_setRegion_11 (by decide) ?_
    refine yc_S (M' := mX11_isIn) (d := 0) (c := 0) (s := 0) (As := [.int (iI 7), .int (iI 0), .int (iI 7)]) (st := []) (v0 := some (.int (iI 1))) (G2 := Wd σ X) dX11_setRegion_13 okX11_isIn (Or.inl w_729) rfl (Nat.le_of_ble_eq_true rfl) (by decide) (by decide) (Nat.zero_le _) (Nat.zero_le _) rfl rfl (s_isIn1 hL (by decide) (by decide) (by decide) (by omega)) ?_
    refine xz_if_eq (tgt := 52) dX11_setRegion_16 (by decide) (by omega) (fun c2 => ?_) (fun c2 => ?_)
    · exact absurd c2 (by omega)
    · refine xw_iload_n 3 dX11_setRegion_19 rfl ?_
      refine xz_iconst dX11_setRegion_20 ?_
      refine xz_bipush dX11_setRegion_21 (by decide) ?_
      refine yc_S (M' := mX11_isIn) (d := 0) (c := 0) (s := 0) (As := [.int (iI 2), .int (iI 1), .int (iI 8)]) (st := []) (v0 := some (.int (iI 1))) (G2 := Wd σ X) dX11_setRegion_23 okX11_isIn (Or.inl w_729) rfl (Nat.le_of_ble_eq_true rfl) (by decide) (by decide) (Nat.zero_le _) (Nat.zero_le _) rfl rfl (s_isIn1 hL (by decide) (by decide) (by decide) (by omega)) ?_
      refine xz_if_eq (tgt := 52) dX11_setRegion_26 (by decide) (by omega) (fun c3 => ?_) (fun c3 => ?_)
      · exact absurd c3 (by omega)
      · refine xw_iload_n 2 dX11_setRegion_29 rfl ?_
        refine xw_iload_n 3 dX11_setRegion_30 rfl ?_
        refine xz_iadd dX11_setRegion_31 ?_
        refine xw_eq rfl rfl (s2 := [.int (iI 9)]) rfl rfl ?_
        refine xz_bipush dX11_setRegion_32 (by decide) ?_
        refine xz_icmp_gt (tgt := 52) dX11_setRegion_34 (by decide) (by omega) (by omega) (fun c4 => ?_) (fun c4 => ?_)
        · refine xz_iconst dX11_setRegion_52 ?_
          refine yc_ST (M' := mX11_needArgument) (d := 0) (c := 1) (s := 6) (As := [.int (iI 0)]) (st := []) (E := "java/lang/IllegalArgumentException") (G2 := Wd σ (X ++ [(127, [])])) dX11_setRegion_53 okX11_needArgument (Or.inl w_749) rfl (Nat.le_of_ble_eq_true rfl) (by decide) (by decide) (Nat.le_of_ble_eq_true rfl) (Nat.le_of_ble_eq_true rfl) rfl (s_needArg0 hL hX) ?_
          exact xth_out rfl (Nat.le_of_ble_eq_true rfl) (Nat.le_of_ble_eq_true rfl) ⟨rfl, rfl⟩
        · exact absurd c4 (by omega))
theorem r_setRegion_0_0_0_20 (hL : L.stackTraces = false) (hX : X.length ≤ 1000000) : xMet L O mX11_setRegion (xR 2 1 6) [.ref 0, .int (iI 0), .int (iI 0), .int (iI 0), .int (iI 20)] (Wd σ X) (fun o G1 => o = .inr "java/lang/IllegalArgumentException" ∧ G1 = Wd σ (X ++ [(127, [])])) := xMet_of (by decide) hL (Nat.le_of_ble_eq_true rfl) (by
  refine xw_eq rfl (l2 := [(0, .ref 0), (1, .int (iI 0)), (2, .int (iI 0)), (3, .int (iI 0)), (4, .int (iI 20))]) rfl rfl rfl ?_
  refine xw_iload_n 1 dX11_setRegion_0 rfl ?_
  refine xz_iconst dX11_setRegion_1 ?_
  refine xz_iconst dX11_setRegion_2 ?_
  refine yc_S (M' := mX11_isIn) (d := 0) (c := 0) (s := 0) (As := [.int (iI 0), .int (iI 0), .int (iI 2)]) (st := []) (v0 := some (.int (iI 1))) (G2 := Wd σ X) dX11_setRegion_3 okX11_isIn (Or.inl w_729) rfl (Nat.le_of_ble_eq_true rfl) (by decide) (by decide) (Nat.zero_le _) (Nat.zero_le _) rfl rfl (s_isIn1 hL (by decide) (by decide) (by decide) (by omega)) ?_
  refine xz_if_eq (tgt := 52) dX11_setRegion_6 (by decide) (by omega) (fun c1 => ?_) (fun c1 => ?_)
  · exact absurd c1 (by omega)
  · refine xw_iload_n 2 dX11_setRegion_9 rfl ?_
    refine xz_iconst dX11_setRegion_10 ?_
    refine xz_bipush dX11_setRegion_11 (by decide) ?_
    refine yc_S (M' := mX11_isIn) (d := 0) (c := 0) (s := 0) (As := [.int (iI 0), .int (iI 0), .int (iI 7)]) (st := []) (v0 := some (.int (iI 1))) (G2 := Wd σ X) dX11_setRegion_13 okX11_isIn (Or.inl w_729) rfl (Nat.le_of_ble_eq_true rfl) (by decide) (by decide) (Nat.zero_le _) (Nat.zero_le _) rfl rfl (s_isIn1 hL (by decide) (by decide) (by decide) (by omega)) ?_
    refine xz_if_eq (tgt := 52) dX11_setRegion_16 (by decide) (by omega) (fun c2 => ?_) (fun c2 => ?_)
    · exact absurd c2 (by omega)
    · refine xw_iload_n 3 dX11_setRegion_19 rfl ?_
      refine xz_iconst dX11_setRegion_20 ?_
      refine xz_bipush dX11_setRegion_21 (by decide) ?_
      refine yc_S (M' := mX11_isIn) (d := 0) (c := 0) (s := 0) (As := [.int (iI 0), .int (iI 1), .int (iI 8)]) (st := []) (v0 := some (.int (iI 0))) (G2 := Wd σ X) dX11_setRegion_23 okX11_isIn (Or.inl w_729) rfl (Nat.le_of_ble_eq_true rfl) (by decide) (by decide) (Nat.zero_le _) (Nat.zero_le _) rfl rfl (s_isIn0 hL (by decide) (by decide) (by decide) (by omega)) ?_
      refine xz_if_eq (tgt := 52) dX11_setRegion_26 (by decide) (by omega) (fun c3 => ?_) (fun c3 => ?_)
      · refine xz_iconst dX11_setRegion_52 ?_
        refine yc_ST (M' := mX11_needArgument) (d := 0) (c := 1) (s := 6) (As := [.int (iI 0)]) (st := []) (E := "java/lang/IllegalArgumentException") (G2 := Wd σ (X ++ [(127, [])])) dX11_setRegion_53 okX11_needArgument (Or.inl w_749) rfl (Nat.le_of_ble_eq_true rfl) (by decide) (by decide) (Nat.le_of_ble_eq_true rfl) (Nat.le_of_ble_eq_true rfl) rfl (s_needArg0 hL hX) ?_
        exact xth_out rfl (Nat.le_of_ble_eq_true rfl) (Nat.le_of_ble_eq_true rfl) ⟨rfl, rfl⟩
      · exact absurd c3 (by omega))
theorem r_setRegion_0_0_8_4 (hL : L.stackTraces = false) (hX : X.length ≤ 1000000) : xMet L O mX11_setRegion (xR 2 1 6) [.ref 0, .int (iI 0), .int (iI 0), .int (iI 8), .int (iI 4)] (Wd σ X) (fun o G1 => o = .inr "java/lang/IllegalArgumentException" ∧ G1 = Wd σ (X ++ [(127, [])])) := xMet_of (by decide) hL (Nat.le_of_ble_eq_true rfl) (by
  refine xw_eq rfl (l2 := [(0, .ref 0), (1, .int (iI 0)), (2, .int (iI 0)), (3, .int (iI 8)), (4, .int (iI 4))]) rfl rfl rfl ?_
  refine xw_iload_n 1 dX11_setRegion_0 rfl ?_
  refine xz_iconst dX11_setRegion_1 ?_
  refine xz_iconst dX11_setRegion_2 ?_
  refine yc_S (M' := mX11_isIn) (d := 0) (c := 0) (s := 0) (As := [.int (iI 0), .int (iI 0), .int (iI 2)]) (st := []) (v0 := some (.int (iI 1))) (G2 := Wd σ X) dX11_setRegion_3 okX11_isIn (Or.inl w_729) rfl (Nat.le_of_ble_eq_true rfl) (by decide) (by decide) (Nat.zero_le _) (Nat.zero_le _) rfl rfl (s_isIn1 hL (by decide) (by decide) (by decide) (by omega)) ?_
  refine xz_if_eq (tgt := 52) dX11_setRegion_6 (by decide) (by omega) (fun c1 => ?_) (fun c1 => ?_)
  · exact absurd c1 (by omega)
  · refine xw_iload_n 2 dX11_setRegion_9 rfl ?_
    refine xz_iconst dX11_setRegion_10 ?_
    refine xz_bipush dX11_setRegion_11 (by decide) ?_
    refine yc_S (M' := mX11_isIn) (d := 0) (c := 0) (s := 0) (As := [.int (iI 0), .int (iI 0), .int (iI 7)]) (st := []) (v0 := some (.int (iI 1))) (G2 := Wd σ X) dX11_setRegion_13 okX11_isIn (Or.inl w_729) rfl (Nat.le_of_ble_eq_true rfl) (by decide) (by decide) (Nat.zero_le _) (Nat.zero_le _) rfl rfl (s_isIn1 hL (by decide) (by decide) (by decide) (by omega)) ?_
    refine xz_if_eq (tgt := 52) dX11_setRegion_16 (by decide) (by omega) (fun c2 => ?_) (fun c2 => ?_)
    · exact absurd c2 (by omega)
    · refine xw_iload_n 3 dX11_setRegion_19 rfl ?_
      refine xz_iconst dX11_setRegion_20 ?_
      refine xz_bipush dX11_setRegion_21 (by decide) ?_
      refine yc_S (M' := mX11_isIn) (d := 0) (c := 0) (s := 0) (As := [.int (iI 8), .int (iI 1), .int (iI 8)]) (st := []) (v0 := some (.int (iI 1))) (G2 := Wd σ X) dX11_setRegion_23 okX11_isIn (Or.inl w_729) rfl (Nat.le_of_ble_eq_true rfl) (by decide) (by decide) (Nat.zero_le _) (Nat.zero_le _) rfl rfl (s_isIn1 hL (by decide) (by decide) (by decide) (by omega)) ?_
      refine xz_if_eq (tgt := 52) dX11_setRegion_26 (by decide) (by omega) (fun c3 => ?_) (fun c3 => ?_)
      · exact absurd c3 (by omega)
      · refine xw_iload_n 2 dX11_setRegion_29 rfl ?_
        refine xw_iload_n 3 dX11_setRegion_30 rfl ?_
        refine xz_iadd dX11_setRegion_31 ?_
        refine xw_eq rfl rfl (s2 := [.int (iI 8)]) rfl rfl ?_
        refine xz_bipush dX11_setRegion_32 (by decide) ?_
        refine xz_icmp_gt (tgt := 52) dX11_setRegion_34 (by decide) (by omega) (by omega) (fun c4 => ?_) (fun c4 => ?_)
        · exact absurd c4 (by omega)
        · refine xw_iload 4 dX11_setRegion_37 rfl ?_
          refine xz_iconst dX11_setRegion_39 ?_
          refine xz_bipush dX11_setRegion_40 (by decide) ?_
          refine yc_S (M' := mX11_isIn) (d := 0) (c := 0) (s := 0) (As := [.int (iI 4), .int (iI 5), .int (iI 40)]) (st := []) (v0 := some (.int (iI 0))) (G2 := Wd σ X) dX11_setRegion_42 okX11_isIn (Or.inl w_729) rfl (Nat.le_of_ble_eq_true rfl) (by decide) (by decide) (Nat.zero_le _) (Nat.zero_le _) rfl rfl (s_isIn0 hL (by decide) (by decide) (by decide) (by omega)) ?_
          refine xz_if_eq (tgt := 52) dX11_setRegion_45 (by decide) (by omega) (fun c5 => ?_) (fun c5 => ?_)
          · refine xz_iconst dX11_setRegion_52 ?_
            refine yc_ST (M' := mX11_needArgument) (d := 0) (c := 1) (s := 6) (As := [.int (iI 0)]) (st := []) (E := "java/lang/IllegalArgumentException") (G2 := Wd σ (X ++ [(127, [])])) dX11_setRegion_53 okX11_needArgument (Or.inl w_749) rfl (Nat.le_of_ble_eq_true rfl) (by decide) (by decide) (Nat.le_of_ble_eq_true rfl) (Nat.le_of_ble_eq_true rfl) rfl (s_needArg0 hL hX) ?_
            exact xth_out rfl (Nat.le_of_ble_eq_true rfl) (Nat.le_of_ble_eq_true rfl) ⟨rfl, rfl⟩
          · exact absurd c5 (by omega))
theorem r_setRegion_0_0_8_41 (hL : L.stackTraces = false) (hX : X.length ≤ 1000000) : xMet L O mX11_setRegion (xR 2 1 6) [.ref 0, .int (iI 0), .int (iI 0), .int (iI 8), .int (iI 41)] (Wd σ X) (fun o G1 => o = .inr "java/lang/IllegalArgumentException" ∧ G1 = Wd σ (X ++ [(127, [])])) := xMet_of (by decide) hL (Nat.le_of_ble_eq_true rfl) (by
  refine xw_eq rfl (l2 := [(0, .ref 0), (1, .int (iI 0)), (2, .int (iI 0)), (3, .int (iI 8)), (4, .int (iI 41))]) rfl rfl rfl ?_
  refine xw_iload_n 1 dX11_setRegion_0 rfl ?_
  refine xz_iconst dX11_setRegion_1 ?_
  refine xz_iconst dX11_setRegion_2 ?_
  refine yc_S (M' := mX11_isIn) (d := 0) (c := 0) (s := 0) (As := [.int (iI 0), .int (iI 0), .int (iI 2)]) (st := []) (v0 := some (.int (iI 1))) (G2 := Wd σ X) dX11_setRegion_3 okX11_isIn (Or.inl w_729) rfl (Nat.le_of_ble_eq_true rfl) (by decide) (by decide) (Nat.zero_le _) (Nat.zero_le _) rfl rfl (s_isIn1 hL (by decide) (by decide) (by decide) (by omega)) ?_
  refine xz_if_eq (tgt := 52) dX11_setRegion_6 (by decide) (by omega) (fun c1 => ?_) (fun c1 => ?_)
  · exact absurd c1 (by omega)
  · refine xw_iload_n 2 dX11_setRegion_9 rfl ?_
    refine xz_iconst dX11_setRegion_10 ?_
    refine xz_bipush dX11_setRegion_11 (by decide) ?_
    refine yc_S (M' := mX11_isIn) (d := 0) (c := 0) (s := 0) (As := [.int (iI 0), .int (iI 0), .int (iI 7)]) (st := []) (v0 := some (.int (iI 1))) (G2 := Wd σ X) dX11_setRegion_13 okX11_isIn (Or.inl w_729) rfl (Nat.le_of_ble_eq_true rfl) (by decide) (by decide) (Nat.zero_le _) (Nat.zero_le _) rfl rfl (s_isIn1 hL (by decide) (by decide) (by decide) (by omega)) ?_
    refine xz_if_eq (tgt := 52) dX11_setRegion_16 (by decide) (by omega) (fun c2 => ?_) (fun c2 => ?_)
    · exact absurd c2 (by omega)
    · refine xw_iload_n 3 dX11_setRegion_19 rfl ?_
      refine xz_iconst dX11_setRegion_20 ?_
      refine xz_bipush dX11_setRegion_21 (by decide) ?_
      refine yc_S (M' := mX11_isIn) (d := 0) (c := 0) (s := 0) (As := [.int (iI 8), .int (iI 1), .int (iI 8)]) (st := []) (v0 := some (.int (iI 1))) (G2 := Wd σ X) dX11_setRegion_23 okX11_isIn (Or.inl w_729) rfl (Nat.le_of_ble_eq_true rfl) (by decide) (by decide) (Nat.zero_le _) (Nat.zero_le _) rfl rfl (s_isIn1 hL (by decide) (by decide) (by decide) (by omega)) ?_
      refine xz_if_eq (tgt := 52) dX11_setRegion_26 (by decide) (by omega) (fun c3 => ?_) (fun c3 => ?_)
      · exact absurd c3 (by omega)
      · refine xw_iload_n 2 dX11_setRegion_29 rfl ?_
        refine xw_iload_n 3 dX11_setRegion_30 rfl ?_
        refine xz_iadd dX11_setRegion_31 ?_
        refine xw_eq rfl rfl (s2 := [.int (iI 8)]) rfl rfl ?_
        refine xz_bipush dX11_setRegion_32 (by decide) ?_
        refine xz_icmp_gt (tgt := 52) dX11_setRegion_34 (by decide) (by omega) (by omega) (fun c4 => ?_) (fun c4 => ?_)
        · exact absurd c4 (by omega)
        · refine xw_iload 4 dX11_setRegion_37 rfl ?_
          refine xz_iconst dX11_setRegion_39 ?_
          refine xz_bipush dX11_setRegion_40 (by decide) ?_
          refine yc_S (M' := mX11_isIn) (d := 0) (c := 0) (s := 0) (As := [.int (iI 41), .int (iI 5), .int (iI 40)]) (st := []) (v0 := some (.int (iI 0))) (G2 := Wd σ X) dX11_setRegion_42 okX11_isIn (Or.inl w_729) rfl (Nat.le_of_ble_eq_true rfl) (by decide) (by decide) (Nat.zero_le _) (Nat.zero_le _) rfl rfl (s_isIn0 hL (by decide) (by decide) (by decide) (by omega)) ?_
          refine xz_if_eq (tgt := 52) dX11_setRegion_45 (by decide) (by omega) (fun c5 => ?_) (fun c5 => ?_)
          · refine xz_iconst dX11_setRegion_52 ?_
            refine yc_ST (M' := mX11_needArgument) (d := 0) (c := 1) (s := 6) (As := [.int (iI 0)]) (st := []) (E := "java/lang/IllegalArgumentException") (G2 := Wd σ (X ++ [(127, [])])) dX11_setRegion_53 okX11_needArgument (Or.inl w_749) rfl (Nat.le_of_ble_eq_true rfl) (by decide) (by decide) (Nat.le_of_ble_eq_true rfl) (Nat.le_of_ble_eq_true rfl) rfl (s_needArg0 hL hX) ?_
            exact xth_out rfl (Nat.le_of_ble_eq_true rfl) (Nat.le_of_ble_eq_true rfl) ⟨rfl, rfl⟩
          · exact absurd c5 (by omega))
theorem r_cueAt_100000_0 (hL : L.stackTraces = false) (hX : X.length ≤ 1000000) : xMet L O mX11_cueAt (xR 2 1 6) [.ref 0, .int (iI 100000), .int (iI 0)] (Wd σ X) (fun o G1 => o = .inr "java/lang/IllegalArgumentException" ∧ G1 = Wd σ (X ++ [(127, [])])) := xMet_of (by decide) hL (Nat.le_of_ble_eq_true rfl) (by
  refine xw_eq rfl (l2 := [(0, .ref 0), (1, .int (iI 100000)), (2, .int (iI 0))]) rfl rfl rfl ?_
  refine xw_iload_n 1 dX11_cueAt_0 rfl ?_
  refine yc_ST (M' := mX11_needFrame) (d := 1) (c := 1) (s := 6) (As := [.int (iI 100000)]) (st := []) (E := "java/lang/IllegalArgumentException") (G2 := Wd σ (X ++ [(127, [])])) dX11_cueAt_1 okX11_needFrame (Or.inl w_725) rfl (Nat.le_of_ble_eq_true rfl) (by decide) (by decide) (Nat.le_of_ble_eq_true rfl) (Nat.le_of_ble_eq_true rfl) rfl (s_needFrame0 hL hX (by decide) (by decide)) ?_
  exact xth_out rfl (Nat.le_of_ble_eq_true rfl) (Nat.le_of_ble_eq_true rfl) ⟨rfl, rfl⟩)
theorem r_cueAnew_0_8 (hL : L.stackTraces = false) (hX : X.length ≤ 1000000) : xMet L O mX11_cueAnew (xR 2 1 6) [.ref 0, .int (iI 0), .int (iI 8)] (Wd σ X) (fun o G1 => o = .inr "java/lang/IllegalArgumentException" ∧ G1 = Wd σ (X ++ [(127, [])])) := xMet_of (by decide) hL (Nat.le_of_ble_eq_true rfl) (by
  refine xw_eq rfl (l2 := [(0, .ref 0), (1, .int (iI 0)), (2, .int (iI 8))]) rfl rfl rfl ?_
  refine xw_iload_n 1 dX11_cueAnew_0 rfl ?_
  refine yc_S (M' := mX11_needFrame) (d := 1) (c := 0) (s := 0) (As := [.int (iI 0)]) (st := []) (v0 := none) (G2 := Wd σ X) dX11_cueAnew_1 okX11_needFrame (Or.inl w_725) rfl (Nat.le_of_ble_eq_true rfl) (by decide) (by decide) (Nat.zero_le _) (Nat.zero_le _) rfl rfl (s_needFrame1 hL (by decide)) ?_
  refine xw_iload_n 2 dX11_cueAnew_4 rfl ?_
  refine xz_iconst dX11_cueAnew_5 ?_
  refine xz_bipush dX11_cueAnew_6 (by decide) ?_
  refine yc_S (M' := mX11_isIn) (d := 0) (c := 0) (s := 0) (As := [.int (iI 8), .int (iI 0), .int (iI 7)]) (st := []) (v0 := some (.int (iI 0))) (G2 := Wd σ X) dX11_cueAnew_8 okX11_isIn (Or.inl w_729) rfl (Nat.le_of_ble_eq_true rfl) (by decide) (by decide) (Nat.zero_le _) (Nat.zero_le _) rfl rfl (s_isIn0 hL (by decide) (by decide) (by decide) (by omega)) ?_
  refine yc_ST (M' := mX11_needArgument) (d := 0) (c := 1) (s := 6) (As := [.int (iI 0)]) (st := []) (E := "java/lang/IllegalArgumentException") (G2 := Wd σ (X ++ [(127, [])])) dX11_cueAnew_11 okX11_needArgument (Or.inl w_749) rfl (Nat.le_of_ble_eq_true rfl) (by decide) (by decide) (Nat.le_of_ble_eq_true rfl) (Nat.le_of_ble_eq_true rfl) rfl (s_needArg0 hL hX) ?_
  exact xth_out rfl (Nat.le_of_ble_eq_true rfl) (Nat.le_of_ble_eq_true rfl) ⟨rfl, rfl⟩)
theorem r_addCut_m1 (hL : L.stackTraces = false) (hX : X.length ≤ 1000000) : xMet L O mX11_addCut (xR 2 1 6) [.ref 0, .int (iI ((-1)))] (Wd σ X) (fun o G1 => o = .inr "java/lang/IllegalArgumentException" ∧ G1 = Wd σ (X ++ [(127, [])])) := xMet_of (by decide) hL (Nat.le_of_ble_eq_true rfl) (by
  refine xw_eq rfl (l2 := [(0, .ref 0), (1, .int (iI ((-1))))]) rfl rfl rfl ?_
  refine xw_iload_n 1 dX11_addCut_0 rfl ?_
  refine yc_ST (M' := mX11_needFrame) (d := 1) (c := 1) (s := 6) (As := [.int (iI ((-1)))]) (st := []) (E := "java/lang/IllegalArgumentException") (G2 := Wd σ (X ++ [(127, [])])) dX11_addCut_1 okX11_needFrame (Or.inl w_725) rfl (Nat.le_of_ble_eq_true rfl) (by decide) (by decide) (Nat.le_of_ble_eq_true rfl) (Nat.le_of_ble_eq_true rfl) rfl (s_needFrame0 hL hX (by decide) (by decide)) ?_
  exact xth_out rfl (Nat.le_of_ble_eq_true rfl) (Nat.le_of_ble_eq_true rfl) ⟨rfl, rfl⟩)
theorem r_snap_100 (hL : L.stackTraces = false) (hX : X.length ≤ 1000000) : xMet L O mX11_snap (xR 2 1 6) [.ref 0, .int (iI 100)] (Wd σ X) (fun o G1 => o = .inr "java/lang/IllegalArgumentException" ∧ G1 = Wd σ (X ++ [(127, [])])) := xMet_of (by decide) hL (Nat.le_of_ble_eq_true rfl) (by
  refine xw_eq rfl (l2 := [(0, .ref 0), (1, .int (iI 100))]) rfl rfl rfl ?_
  refine xw_iload_n 1 dX11_snap_0 rfl ?_
  refine xz_iconst dX11_snap_1 ?_
  refine xz_bipush dX11_snap_2 (by decide) ?_
  refine yc_S (M' := mX11_isIn) (d := 0) (c := 0) (s := 0) (As := [.int (iI 100), .int (iI 0), .int (iI 99)]) (st := []) (v0 := some (.int (iI 0))) (G2 := Wd σ X) dX11_snap_4 okX11_isIn (Or.inl w_729) rfl (Nat.le_of_ble_eq_true rfl) (by decide) (by decide) (Nat.zero_le _) (Nat.zero_le _) rfl rfl (s_isIn0 hL (by decide) (by decide) (by decide) (by omega)) ?_
  refine yc_ST (M' := mX11_needArgument) (d := 0) (c := 1) (s := 6) (As := [.int (iI 0)]) (st := []) (E := "java/lang/IllegalArgumentException") (G2 := Wd σ (X ++ [(127, [])])) dX11_snap_7 okX11_needArgument (Or.inl w_749) rfl (Nat.le_of_ble_eq_true rfl) (by decide) (by decide) (Nat.le_of_ble_eq_true rfl) (Nat.le_of_ble_eq_true rfl) rfl (s_needArg0 hL hX) ?_
  exact xth_out rfl (Nat.le_of_ble_eq_true rfl) (Nat.le_of_ble_eq_true rfl) ⟨rfl, rfl⟩)
theorem r_stretch_0_0 (hL : L.stackTraces = false) (hX : X.length ≤ 1000000) : xMet L O mX11_stretch (xR 2 1 6) [.ref 0, .int (iI 0), .int (iI 0)] (Wd σ X) (fun o G1 => o = .inr "java/lang/IllegalArgumentException" ∧ G1 = Wd σ (X ++ [(127, [])])) := xMet_of (by decide) hL (Nat.le_of_ble_eq_true rfl) (by
  refine xw_eq rfl (l2 := [(0, .ref 0), (1, .int (iI 0)), (2, .int (iI 0))]) rfl rfl rfl ?_
  refine xw_iload_n 1 dX11_stretch_0 rfl ?_
  refine xz_iconst dX11_stretch_1 ?_
  refine xz_sipush dX11_stretch_2 (by decide) ?_
  refine yc_S (M' := mX11_isIn) (d := 0) (c := 0) (s := 0) (As := [.int (iI 0), .int (iI 1), .int (iI 999)]) (st := []) (v0 := some (.int (iI 0))) (G2 := Wd σ X) dX11_stretch_5 okX11_isIn (Or.inl w_729) rfl (Nat.le_of_ble_eq_true rfl) (by decide) (by decide) (Nat.zero_le _) (Nat.zero_le _) rfl rfl (s_isIn0 hL (by decide) (by decide) (by decide) (by omega)) ?_
  refine xz_if_eq (tgt := 25) dX11_stretch_8 (by decide) (by omega) (fun c1 => ?_) (fun c1 => ?_)
  · refine xz_iconst dX11_stretch_25 ?_
    refine yc_ST (M' := mX11_needArgument) (d := 0) (c := 1) (s := 6) (As := [.int (iI 0)]) (st := []) (E := "java/lang/IllegalArgumentException") (G2 := Wd σ (X ++ [(127, [])])) dX11_stretch_26 okX11_needArgument (Or.inl w_749) rfl (Nat.le_of_ble_eq_true rfl) (by decide) (by decide) (Nat.le_of_ble_eq_true rfl) (Nat.le_of_ble_eq_true rfl) rfl (s_needArg0 hL hX) ?_
    exact xth_out rfl (Nat.le_of_ble_eq_true rfl) (Nat.le_of_ble_eq_true rfl) ⟨rfl, rfl⟩
  · exact absurd c1 (by omega))
theorem r_stretch_1_100 (hL : L.stackTraces = false) (hX : X.length ≤ 1000000) : xMet L O mX11_stretch (xR 2 1 6) [.ref 0, .int (iI 1), .int (iI 100)] (Wd σ X) (fun o G1 => o = .inr "java/lang/IllegalArgumentException" ∧ G1 = Wd σ (X ++ [(127, [])])) := xMet_of (by decide) hL (Nat.le_of_ble_eq_true rfl) (by
  refine xw_eq rfl (l2 := [(0, .ref 0), (1, .int (iI 1)), (2, .int (iI 100))]) rfl rfl rfl ?_
  refine xw_iload_n 1 dX11_stretch_0 rfl ?_
  refine xz_iconst dX11_stretch_1 ?_
  refine xz_sipush dX11_stretch_2 (by decide) ?_
  refine yc_S (M' := mX11_isIn) (d := 0) (c := 0) (s := 0) (As := [.int (iI 1), .int (iI 1), .int (iI 999)]) (st := []) (v0 := some (.int (iI 1))) (G2 := Wd σ X) dX11_stretch_5 okX11_isIn (Or.inl w_729) rfl (Nat.le_of_ble_eq_true rfl) (by decide) (by decide) (Nat.zero_le _) (Nat.zero_le _) rfl rfl (s_isIn1 hL (by decide) (by decide) (by decide) (by omega)) ?_
  refine xz_if_eq (tgt := 25) dX11_stretch_8 (by decide) (by omega) (fun c1 => ?_) (fun c1 => ?_)
  · exact absurd c1 (by omega)
  · refine xw_iload_n 2 dX11_stretch_11 rfl ?_
    refine xz_iconst dX11_stretch_12 ?_
    refine xz_bipush dX11_stretch_13 (by decide) ?_
    refine yc_S (M' := mX11_isIn) (d := 0) (c := 0) (s := 0) (As := [.int (iI 100), .int (iI 0), .int (iI 99)]) (st := []) (v0 := some (.int (iI 0))) (G2 := Wd σ X) dX11_stretch_15 okX11_isIn (Or.inl w_729) rfl (Nat.le_of_ble_eq_true rfl) (by decide) (by decide) (Nat.zero_le _) (Nat.zero_le _) rfl rfl (s_isIn0 hL (by decide) (by decide) (by decide) (by omega)) ?_
    refine xz_if_eq (tgt := 25) dX11_stretch_18 (by decide) (by omega) (fun c2 => ?_) (fun c2 => ?_)
    · refine xz_iconst dX11_stretch_25 ?_
      refine yc_ST (M' := mX11_needArgument) (d := 0) (c := 1) (s := 6) (As := [.int (iI 0)]) (st := []) (E := "java/lang/IllegalArgumentException") (G2 := Wd σ (X ++ [(127, [])])) dX11_stretch_26 okX11_needArgument (Or.inl w_749) rfl (Nat.le_of_ble_eq_true rfl) (by decide) (by decide) (Nat.le_of_ble_eq_true rfl) (Nat.le_of_ble_eq_true rfl) rfl (s_needArg0 hL hX) ?_
      exact xth_out rfl (Nat.le_of_ble_eq_true rfl) (Nat.le_of_ble_eq_true rfl) ⟨rfl, rfl⟩
    · exact absurd c2 (by omega))
theorem r_convert_0_1 (hL : L.stackTraces = false) (hX : X.length ≤ 1000000) : xMet L O mX11_convert (xR 2 1 6) [.ref 0, .int (iI 0), .int (iI 1)] (Wd σ X) (fun o G1 => o = .inr "java/lang/IllegalArgumentException" ∧ G1 = Wd σ (X ++ [(127, [])])) := xMet_of (by decide) hL (Nat.le_of_ble_eq_true rfl) (by
  refine xw_eq rfl (l2 := [(0, .ref 0), (1, .int (iI 0)), (2, .int (iI 1))]) rfl rfl rfl ?_
  refine xw_iload_n 1 dX11_convert_0 rfl ?_
  refine xz_iconst dX11_convert_1 ?_
  refine xz_sipush dX11_convert_2 (by decide) ?_
  refine yc_S (M' := mX11_isIn) (d := 0) (c := 0) (s := 0) (As := [.int (iI 0), .int (iI 1), .int (iI 1001)]) (st := []) (v0 := some (.int (iI 0))) (G2 := Wd σ X) dX11_convert_5 okX11_isIn (Or.inl w_729) rfl (Nat.le_of_ble_eq_true rfl) (by decide) (by decide) (Nat.zero_le _) (Nat.zero_le _) rfl rfl (s_isIn0 hL (by decide) (by decide) (by decide) (by omega)) ?_
  refine xz_if_eq (tgt := 26) dX11_convert_8 (by decide) (by omega) (fun c1 => ?_) (fun c1 => ?_)
  · refine xz_iconst dX11_convert_26 ?_
    refine yc_ST (M' := mX11_needArgument) (d := 0) (c := 1) (s := 6) (As := [.int (iI 0)]) (st := []) (E := "java/lang/IllegalArgumentException") (G2 := Wd σ (X ++ [(127, [])])) dX11_convert_27 okX11_needArgument (Or.inl w_749) rfl (Nat.le_of_ble_eq_true rfl) (by decide) (by decide) (Nat.le_of_ble_eq_true rfl) (Nat.le_of_ble_eq_true rfl) rfl (s_needArg0 hL hX) ?_
    exact xth_out rfl (Nat.le_of_ble_eq_true rfl) (Nat.le_of_ble_eq_true rfl) ⟨rfl, rfl⟩
  · exact absurd c1 (by omega))
theorem r_convert_1_1002 (hL : L.stackTraces = false) (hX : X.length ≤ 1000000) : xMet L O mX11_convert (xR 2 1 6) [.ref 0, .int (iI 1), .int (iI 1002)] (Wd σ X) (fun o G1 => o = .inr "java/lang/IllegalArgumentException" ∧ G1 = Wd σ (X ++ [(127, [])])) := xMet_of (by decide) hL (Nat.le_of_ble_eq_true rfl) (by
  refine xw_eq rfl (l2 := [(0, .ref 0), (1, .int (iI 1)), (2, .int (iI 1002))]) rfl rfl rfl ?_
  refine xw_iload_n 1 dX11_convert_0 rfl ?_
  refine xz_iconst dX11_convert_1 ?_
  refine xz_sipush dX11_convert_2 (by decide) ?_
  refine yc_S (M' := mX11_isIn) (d := 0) (c := 0) (s := 0) (As := [.int (iI 1), .int (iI 1), .int (iI 1001)]) (st := []) (v0 := some (.int (iI 1))) (G2 := Wd σ X) dX11_convert_5 okX11_isIn (Or.inl w_729) rfl (Nat.le_of_ble_eq_true rfl) (by decide) (by decide) (Nat.zero_le _) (Nat.zero_le _) rfl rfl (s_isIn1 hL (by decide) (by decide) (by decide) (by omega)) ?_
  refine xz_if_eq (tgt := 26) dX11_convert_8 (by decide) (by omega) (fun c1 => ?_) (fun c1 => ?_)
  · exact absurd c1 (by omega)
  · refine xw_iload_n 2 dX11_convert_11 rfl ?_
    refine xz_iconst dX11_convert_12 ?_
    refine xz_sipush dX11_convert_13 (by decide) ?_
    refine yc_S (M' := mX11_isIn) (d := 0) (c := 0) (s := 0) (As := [.int (iI 1002), .int (iI 1), .int (iI 1001)]) (st := []) (v0 := some (.int (iI 0))) (G2 := Wd σ X) dX11_convert_16 okX11_isIn (Or.inl w_729) rfl (Nat.le_of_ble_eq_true rfl) (by decide) (by decide) (Nat.zero_le _) (Nat.zero_le _) rfl rfl (s_isIn0 hL (by decide) (by decide) (by decide) (by omega)) ?_
    refine xz_if_eq (tgt := 26) dX11_convert_19 (by decide) (by omega) (fun c2 => ?_) (fun c2 => ?_)
    · refine xz_iconst dX11_convert_26 ?_
      refine yc_ST (M' := mX11_needArgument) (d := 0) (c := 1) (s := 6) (As := [.int (iI 0)]) (st := []) (E := "java/lang/IllegalArgumentException") (G2 := Wd σ (X ++ [(127, [])])) dX11_convert_27 okX11_needArgument (Or.inl w_749) rfl (Nat.le_of_ble_eq_true rfl) (by decide) (by decide) (Nat.le_of_ble_eq_true rfl) (Nat.le_of_ble_eq_true rfl) rfl (s_needArg0 hL hX) ?_
      exact xth_out rfl (Nat.le_of_ble_eq_true rfl) (Nat.le_of_ble_eq_true rfl) ⟨rfl, rfl⟩
    · exact absurd c2 (by omega))
theorem r_addAnchor_100000_0 (hL : L.stackTraces = false) (hX : X.length ≤ 1000000) : xMet L O mX11_addAnchor (xR 2 1 6) [.ref 0, .int (iI 100000), .int (iI 0)] (Wd σ X) (fun o G1 => o = .inr "java/lang/IllegalArgumentException" ∧ G1 = Wd σ (X ++ [(127, [])])) := xMet_of (by decide) hL (Nat.le_of_ble_eq_true rfl) (by
  refine xw_eq rfl (l2 := [(0, .ref 0), (1, .int (iI 100000)), (2, .int (iI 0))]) rfl rfl rfl ?_
  refine xw_iload_n 1 dX11_addAnchor_0 rfl ?_
  refine yc_ST (M' := mX11_needFrame) (d := 1) (c := 1) (s := 6) (As := [.int (iI 100000)]) (st := []) (E := "java/lang/IllegalArgumentException") (G2 := Wd σ (X ++ [(127, [])])) dX11_addAnchor_1 okX11_needFrame (Or.inl w_725) rfl (Nat.le_of_ble_eq_true rfl) (by decide) (by decide) (Nat.le_of_ble_eq_true rfl) (Nat.le_of_ble_eq_true rfl) rfl (s_needFrame0 hL hX (by decide) (by decide)) ?_
  exact xth_out rfl (Nat.le_of_ble_eq_true rfl) (Nat.le_of_ble_eq_true rfl) ⟨rfl, rfl⟩)
theorem r_addHeard_0_0 (hL : L.stackTraces = false) (hX : X.length ≤ 1000000) : xMet L O mX11_addHeard (xR 2 1 6) [.ref 0, .int (iI 0), .int (iI 0)] (Wd σ X) (fun o G1 => o = .inr "java/lang/IllegalArgumentException" ∧ G1 = Wd σ (X ++ [(127, [])])) := xMet_of (by decide) hL (Nat.le_of_ble_eq_true rfl) (by
  refine xw_eq rfl (l2 := [(0, .ref 0), (1, .int (iI 0)), (2, .int (iI 0))]) rfl rfl rfl ?_
  refine xw_iload_n 1 dX11_addHeard_0 rfl ?_
  refine yc_S (M' := mX11_needFrame) (d := 1) (c := 0) (s := 0) (As := [.int (iI 0)]) (st := []) (v0 := none) (G2 := Wd σ X) dX11_addHeard_1 okX11_needFrame (Or.inl w_725) rfl (Nat.le_of_ble_eq_true rfl) (by decide) (by decide) (Nat.zero_le _) (Nat.zero_le _) rfl rfl (s_needFrame1 hL (by decide)) ?_
  refine xw_iload_n 2 dX11_addHeard_4 rfl ?_
  refine xz_iconst dX11_addHeard_5 ?_
  refine xz_bipush dX11_addHeard_6 (by decide) ?_
  refine yc_S (M' := mX11_isIn) (d := 0) (c := 0) (s := 0) (As := [.int (iI 0), .int (iI 1), .int (iI 99)]) (st := []) (v0 := some (.int (iI 0))) (G2 := Wd σ X) dX11_addHeard_8 okX11_isIn (Or.inl w_729) rfl (Nat.le_of_ble_eq_true rfl) (by decide) (by decide) (Nat.zero_le _) (Nat.zero_le _) rfl rfl (s_isIn0 hL (by decide) (by decide) (by decide) (by omega)) ?_
  refine yc_ST (M' := mX11_needArgument) (d := 0) (c := 1) (s := 6) (As := [.int (iI 0)]) (st := []) (E := "java/lang/IllegalArgumentException") (G2 := Wd σ (X ++ [(127, [])])) dX11_addHeard_11 okX11_needArgument (Or.inl w_749) rfl (Nat.le_of_ble_eq_true rfl) (by decide) (by decide) (Nat.le_of_ble_eq_true rfl) (Nat.le_of_ble_eq_true rfl) rfl (s_needArg0 hL hX) ?_
  exact xth_out rfl (Nat.le_of_ble_eq_true rfl) (Nat.le_of_ble_eq_true rfl) ⟨rfl, rfl⟩)
theorem r_addHeard_100000_1 (hL : L.stackTraces = false) (hX : X.length ≤ 1000000) : xMet L O mX11_addHeard (xR 2 1 6) [.ref 0, .int (iI 100000), .int (iI 1)] (Wd σ X) (fun o G1 => o = .inr "java/lang/IllegalArgumentException" ∧ G1 = Wd σ (X ++ [(127, [])])) := xMet_of (by decide) hL (Nat.le_of_ble_eq_true rfl) (by
  refine xw_eq rfl (l2 := [(0, .ref 0), (1, .int (iI 100000)), (2, .int (iI 1))]) rfl rfl rfl ?_
  refine xw_iload_n 1 dX11_addHeard_0 rfl ?_
  refine yc_ST (M' := mX11_needFrame) (d := 1) (c := 1) (s := 6) (As := [.int (iI 100000)]) (st := []) (E := "java/lang/IllegalArgumentException") (G2 := Wd σ (X ++ [(127, [])])) dX11_addHeard_1 okX11_needFrame (Or.inl w_725) rfl (Nat.le_of_ble_eq_true rfl) (by decide) (by decide) (Nat.le_of_ble_eq_true rfl) (Nat.le_of_ble_eq_true rfl) rfl (s_needFrame0 hL hX (by decide) (by decide)) ?_
  exact xth_out rfl (Nat.le_of_ble_eq_true rfl) (Nat.le_of_ble_eq_true rfl) ⟨rfl, rfl⟩)
theorem r_addWord_0_0 (hL : L.stackTraces = false) (hX : X.length ≤ 1000000) (hr : yRg σ) (hn : 0 < σ 0 5) (h1 : σ (cu 0) 0 = 1) : xMet L O mX11_addWord (xR 2 1 6) [.ref 0, .int (iI 0), .int (iI 0)] (Wd σ X) (fun o G1 => o = .inr "java/lang/IllegalArgumentException" ∧ G1 = Wd σ (X ++ [(127, [])])) := xMet_of (by decide) hL (Nat.le_of_ble_eq_true rfl) (by
  refine xw_eq rfl (l2 := [(0, .ref 0), (1, .int (iI 0)), (2, .int (iI 0))]) rfl rfl rfl ?_
  refine xw_aload_n 0 dX11_addWord_0 rfl ?_
  refine xw_iload_n 1 dX11_addWord_1 rfl ?_
  refine yc_V (M' := mX11_cueOf) (d := 0) (c := 0) (s := 0) (As := [.int (iI 0)]) (st := []) (v0 := some (.ref (cu 0))) (G2 := Wd σ X) dX11_addWord_2 okX11_cueOf (Or.inl w_503) (xBig_i is_0.1) (Wd_get is_0) ⟨by decide, rfl⟩ rfl (Nat.le_of_ble_eq_true rfl) (by decide) (by decide) (Nat.zero_le _) (Nat.zero_le _) rfl rfl (s_cueOf1 hL hr (by omega) (by omega) (by omega)) ?_
  refine xw_astore_n (l2 := [(0, .ref 0), (1, .int (iI 0)), (2, .int (iI 0)), (3, .ref (cu 0))]) dX11_addWord_5 (by decide) rfl rfl ?_
  refine xw_iload_n 2 dX11_addWord_6 rfl ?_
  refine xz_iconst dX11_addWord_7 ?_
  refine xz_bipush dX11_addWord_8 (by decide) ?_
  refine yc_S (M' := mX11_isIn) (d := 0) (c := 0) (s := 0) (As := [.int (iI 0), .int (iI 1), .int (iI 99)]) (st := []) (v0 := some (.int (iI 0))) (G2 := Wd σ X) dX11_addWord_10 okX11_isIn (Or.inl w_729) rfl (Nat.le_of_ble_eq_true rfl) (by decide) (by decide) (Nat.zero_le _) (Nat.zero_le _) rfl rfl (s_isIn0 hL (by decide) (by decide) (by decide) (by omega)) ?_
  refine yc_ST (M' := mX11_needArgument) (d := 0) (c := 1) (s := 6) (As := [.int (iI 0)]) (st := []) (E := "java/lang/IllegalArgumentException") (G2 := Wd σ (X ++ [(127, [])])) dX11_addWord_13 okX11_needArgument (Or.inl w_749) rfl (Nat.le_of_ble_eq_true rfl) (by decide) (by decide) (Nat.le_of_ble_eq_true rfl) (Nat.le_of_ble_eq_true rfl) rfl (s_needArg0 hL hX) ?_
  exact xth_out rfl (Nat.le_of_ble_eq_true rfl) (Nat.le_of_ble_eq_true rfl) ⟨rfl, rfl⟩)
theorem r_addWord_0_100 (hL : L.stackTraces = false) (hX : X.length ≤ 1000000) (hr : yRg σ) (hn : 0 < σ 0 5) (h1 : σ (cu 0) 0 = 1) : xMet L O mX11_addWord (xR 2 1 6) [.ref 0, .int (iI 0), .int (iI 100)] (Wd σ X) (fun o G1 => o = .inr "java/lang/IllegalArgumentException" ∧ G1 = Wd σ (X ++ [(127, [])])) := xMet_of (by decide) hL (Nat.le_of_ble_eq_true rfl) (by
  refine xw_eq rfl (l2 := [(0, .ref 0), (1, .int (iI 0)), (2, .int (iI 100))]) rfl rfl rfl ?_
  refine xw_aload_n 0 dX11_addWord_0 rfl ?_
  refine xw_iload_n 1 dX11_addWord_1 rfl ?_
  refine yc_V (M' := mX11_cueOf) (d := 0) (c := 0) (s := 0) (As := [.int (iI 0)]) (st := []) (v0 := some (.ref (cu 0))) (G2 := Wd σ X) dX11_addWord_2 okX11_cueOf (Or.inl w_503) (xBig_i is_0.1) (Wd_get is_0) ⟨by decide, rfl⟩ rfl (Nat.le_of_ble_eq_true rfl) (by decide) (by decide) (Nat.zero_le _) (Nat.zero_le _) rfl rfl (s_cueOf1 hL hr (by omega) (by omega) (by omega)) ?_
  refine xw_astore_n (l2 := [(0, .ref 0), (1, .int (iI 0)), (2, .int (iI 100)), (3, .ref (cu 0))]) dX11_addWord_5 (by decide) rfl rfl ?_
  refine xw_iload_n 2 dX11_addWord_6 rfl ?_
  refine xz_iconst dX11_addWord_7 ?_
  refine xz_bipush dX11_addWord_8 (by decide) ?_
  refine yc_S (M' := mX11_isIn) (d := 0) (c := 0) (s := 0) (As := [.int (iI 100), .int (iI 1), .int (iI 99)]) (st := []) (v0 := some (.int (iI 0))) (G2 := Wd σ X) dX11_addWord_10 okX11_isIn (Or.inl w_729) rfl (Nat.le_of_ble_eq_true rfl) (by decide) (by decide) (Nat.zero_le _) (Nat.zero_le _) rfl rfl (s_isIn0 hL (by decide) (by decide) (by decide) (by omega)) ?_
  refine yc_ST (M' := mX11_needArgument) (d := 0) (c := 1) (s := 6) (As := [.int (iI 0)]) (st := []) (E := "java/lang/IllegalArgumentException") (G2 := Wd σ (X ++ [(127, [])])) dX11_addWord_13 okX11_needArgument (Or.inl w_749) rfl (Nat.le_of_ble_eq_true rfl) (by decide) (by decide) (Nat.le_of_ble_eq_true rfl) (Nat.le_of_ble_eq_true rfl) rfl (s_needArg0 hL hX) ?_
  exact xth_out rfl (Nat.le_of_ble_eq_true rfl) (Nat.le_of_ble_eq_true rfl) ⟨rfl, rfl⟩)
theorem r_sung_0_100000 (hL : L.stackTraces = false) (hX : X.length ≤ 1000000) (hr : yRg σ) (hn : 0 < σ 0 5) (h1 : σ (cu 0) 0 = 1) : xMet L O mX11_sung (xR 2 1 6) [.ref 0, .int (iI 0), .int (iI 100000)] (Wd σ X) (fun o G1 => o = .inr "java/lang/IllegalArgumentException" ∧ G1 = Wd σ (X ++ [(127, [])])) := xMet_of (by decide) hL (Nat.le_of_ble_eq_true rfl) (by
  refine xw_eq rfl (l2 := [(0, .ref 0), (1, .int (iI 0)), (2, .int (iI 100000))]) rfl rfl rfl ?_
  refine xw_aload_n 0 dX11_sung_0 rfl ?_
  refine xw_iload_n 1 dX11_sung_1 rfl ?_
  refine yc_V (M' := mX11_cueOf) (d := 0) (c := 0) (s := 0) (As := [.int (iI 0)]) (st := []) (v0 := some (.ref (cu 0))) (G2 := Wd σ X) dX11_sung_2 okX11_cueOf (Or.inl w_503) (xBig_i is_0.1) (Wd_get is_0) ⟨by decide, rfl⟩ rfl (Nat.le_of_ble_eq_true rfl) (by decide) (by decide) (Nat.zero_le _) (Nat.zero_le _) rfl rfl (s_cueOf1 hL hr (by omega) (by omega) (by omega)) ?_
  refine xw_astore_n (l2 := [(0, .ref 0), (1, .int (iI 0)), (2, .int (iI 100000)), (3, .ref (cu 0))]) dX11_sung_5 (by decide) rfl rfl ?_
  refine xw_iload_n 2 dX11_sung_6 rfl ?_
  refine yc_ST (M' := mX11_needFrame) (d := 1) (c := 1) (s := 6) (As := [.int (iI 100000)]) (st := []) (E := "java/lang/IllegalArgumentException") (G2 := Wd σ (X ++ [(127, [])])) dX11_sung_7 okX11_needFrame (Or.inl w_725) rfl (Nat.le_of_ble_eq_true rfl) (by decide) (by decide) (Nat.le_of_ble_eq_true rfl) (Nat.le_of_ble_eq_true rfl) rfl (s_needFrame0 hL hX (by decide) (by decide)) ?_
  exact xth_out rfl (Nat.le_of_ble_eq_true rfl) (Nat.le_of_ble_eq_true rfl) ⟨rfl, rfl⟩)
end Y26

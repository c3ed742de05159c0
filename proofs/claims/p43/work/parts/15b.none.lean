section Y15b
variable {L : Launch} {O : xWd} {K : xOc → List xOb → Prop} {σ : ySg} {X : List xOb} {G : List xOb}
theorem s_cueOf0 (hL : L.stackTraces = false) (hr : yRg σ) (hX : X.length ≤ 1000000) {n : Int} (hn : -2147483648 ≤ n ∧ n < 2147483648) (h1 : n < 0 ∨ 24 ≤ n ∨ σ 0 5 ≤ n ∨ σ (cu n) 0 = 0) : xMet L O mX11_cueOf (xR 0 1 6) [.ref 0, .int (iI n)] (Wd σ X) (fun o G1 => o = .inr "java/util/NoSuchElementException" ∧ G1 = Wd σ (X ++ [(127, [])])) := xMet_of (by decide) hL (Nat.le_of_ble_eq_true rfl) (by
  refine xw_eq rfl (l2 := [(0, .ref 0), (1, .int (iI n))]) rfl rfl rfl ?_
  refine xw_iload_n 1 dX11_cueOf_0 rfl ?_
  refine xz_if_lt (tgt := 30) dX11_cueOf_1 (by decide) (by omega) (fun c1 => ?_) (fun c1 => ?_)
  · exact yt_X11_407_409_411 rfl dX11_cueOf_30 dX11_cueOf_33 dX11_cueOf_34 dX11_cueOf_37 dX11_cueOf_40 rfl (Nat.le_of_ble_eq_true rfl) (Nat.le_of_ble_eq_true rfl) (Nat.le_of_ble_eq_true rfl) hX ⟨rfl, rfl⟩
  · refine xw_iload_n 1 dX11_cueOf_4 rfl ?_
    refine xw_aload_n 0 dX11_cueOf_5 rfl ?_
    have r2 := hr 0 5
    refine yz_geti (z := 5) (v := σ 0 5) (fo_X11_402 rfl) dX11_cueOf_6 is_0 rfl rfl rfl ?_
    refine xz_icmp_ge (tgt := 30) dX11_cueOf_9 (by decide) (by omega) (by omega) (fun c3 => ?_) (fun c3 => ?_)
    · exact yt_X11_407_409_411 rfl dX11_cueOf_30 dX11_cueOf_33 dX11_cueOf_34 dX11_cueOf_37 dX11_cueOf_40 rfl (Nat.le_of_ble_eq_true rfl) (Nat.le_of_ble_eq_true rfl) (Nat.le_of_ble_eq_true rfl) hX ⟨rfl, rfl⟩
    · refine xw_iload_n 1 dX11_cueOf_12 rfl ?_
      refine xz_bipush dX11_cueOf_13 (by decide) ?_
      refine xz_icmp_ge (tgt := 30) dX11_cueOf_15 (by decide) (by omega) (by omega) (fun c4 => ?_) (fun c4 => ?_)
      · exact yt_X11_407_409_411 rfl dX11_cueOf_30 dX11_cueOf_33 dX11_cueOf_34 dX11_cueOf_37 dX11_cueOf_40 rfl (Nat.le_of_ble_eq_true rfl) (Nat.le_of_ble_eq_true rfl) (Nat.le_of_ble_eq_true rfl) hX ⟨rfl, rfl⟩
      · refine xw_aload_n 0 dX11_cueOf_18 rfl ?_
        refine yz_getr (fo_X11_37 rfl) dX11_cueOf_19 is_0 rfl ?_
        refine xw_iload_n 1 dX11_cueOf_22 rfl ?_
        refine yz_aald 3 dX11_cueOf_23 (by decide) rfl rfl is_21 (by omega) (by decide) (ks21_get (by omega)) ?_
        have r5 := hr (cu n) 0
        refine yz_geti (z := 0) (v := σ (cu n) 0) (fo_X11_218 rfl) dX11_cueOf_24 (is_cu (by omega)) rfl rfl rfl ?_
        refine xz_if_ne (tgt := 41) dX11_cueOf_27 (by decide) (by omega) (fun c6 => ?_) (fun c6 => ?_)
        · exact absurd c6 (by omega)
        · exact yt_X11_407_409_411 rfl dX11_cueOf_30 dX11_cueOf_33 dX11_cueOf_34 dX11_cueOf_37 dX11_cueOf_40 rfl (Nat.le_of_ble_eq_true rfl) (Nat.le_of_ble_eq_true rfl) (Nat.le_of_ble_eq_true rfl) hX ⟨rfl, rfl⟩)
end Y15b

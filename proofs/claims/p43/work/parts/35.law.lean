/-- what lay there lies there still; there is at most one thing more -/
def yXt (X X' : List xOb) : Prop := (∀ (i : Nat) (o : xOb), X[i]? = some o → X'[i]? = some o) ∧ X.length ≤ X'.length ∧ X'.length ≤ X.length + 1
theorem yXt_rfl (X : List xOb) : yXt X X := ⟨fun _ _ h => h, Nat.le_refl _, Nat.le_succ _⟩
theorem app_get {α : Type} {X Y : List α} {i : Nat} {o : α} (h : X[i]? = some o) : (X ++ Y)[i]? = some o := by
  rw [List.getElem?_append_left (List.getElem?_eq_some_iff.mp h).1]; exact h
theorem yXt_app (X : List xOb) (o : xOb) : yXt X (X ++ [o]) := ⟨fun _ _ h => app_get h, by simp, by simp⟩
theorem hp_mL_ask {E : String} {pc n : Nat} (h : ∀ z ∈ mL_ask.2.2.2.2.take n, covers ⟨z.1, z.2.1, z.2.2.1, z.2.2.2⟩ pc = false ∨ (z.2.2.2 = 71 ∧ (E, "java/lang/IllegalArgumentException") ∈ xNC) ∨ (z.2.2.2 = 73 ∧ (E, "java/lang/IllegalStateException") ∈ xNC) ∨ (z.2.2.2 = 75 ∧ (E, "java/lang/UnsupportedOperationException") ∈ xNC)) : ∀ z ∈ mL_ask.2.2.2.2.take n, covers ⟨z.1, z.2.1, z.2.2.1, z.2.2.2⟩ pc = false ∨ (z.2.2.2 ≠ 0 ∧ ∃ nm : String, Cond.classLink mL_ask.1.cls z.2.2.2 nm ∈ xTG ∧ (E, nm) ∈ xNC) := by
  intro z hz
  rcases h z hz with h1 | ⟨h1, h2⟩ | ⟨h1, h2⟩ | ⟨h1, h2⟩
  · exact Or.inl h1
  · exact Or.inr ⟨by rw [h1]; decide, "java/lang/IllegalArgumentException", by rw [h1]; exact w_718, h2⟩
  · exact Or.inr ⟨by rw [h1]; decide, "java/lang/IllegalStateException", by rw [h1]; exact w_719, h2⟩
  · exact Or.inr ⟨by rw [h1]; decide, "java/lang/UnsupportedOperationException", by rw [h1]; exact w_720, h2⟩
theorem hp_mL_cue {E : String} {pc n : Nat} (h : ∀ z ∈ mL_cue.2.2.2.2.take n, covers ⟨z.1, z.2.1, z.2.2.1, z.2.2.2⟩ pc = false ∨ (z.2.2.2 = 119 ∧ (E, "java/lang/IndexOutOfBoundsException") ∈ xNC) ∨ (z.2.2.2 = 71 ∧ (E, "java/lang/IllegalArgumentException") ∈ xNC) ∨ (z.2.2.2 = 73 ∧ (E, "java/lang/IllegalStateException") ∈ xNC) ∨ (z.2.2.2 = 75 ∧ (E, "java/lang/UnsupportedOperationException") ∈ xNC) ∨ (z.2.2.2 = 121 ∧ (E, "java/util/NoSuchElementException") ∈ xNC)) : ∀ z ∈ mL_cue.2.2.2.2.take n, covers ⟨z.1, z.2.1, z.2.2.1, z.2.2.2⟩ pc = false ∨ (z.2.2.2 ≠ 0 ∧ ∃ nm : String, Cond.classLink mL_cue.1.cls z.2.2.2 nm ∈ xTG ∧ (E, nm) ∈ xNC) := by
  intro z hz
  rcases h z hz with h1 | ⟨h1, h2⟩ | ⟨h1, h2⟩ | ⟨h1, h2⟩ | ⟨h1, h2⟩ | ⟨h1, h2⟩
  · exact Or.inl h1
  · exact Or.inr ⟨by rw [h1]; decide, "java/lang/IndexOutOfBoundsException", by rw [h1]; exact w_974, h2⟩
  · exact Or.inr ⟨by rw [h1]; decide, "java/lang/IllegalArgumentException", by rw [h1]; exact w_718, h2⟩
  · exact Or.inr ⟨by rw [h1]; decide, "java/lang/IllegalStateException", by rw [h1]; exact w_719, h2⟩
  · exact Or.inr ⟨by rw [h1]; decide, "java/lang/UnsupportedOperationException", by rw [h1]; exact w_720, h2⟩
  · exact Or.inr ⟨by rw [h1]; decide, "java/util/NoSuchElementException", by rw [h1]; exact w_998, h2⟩
theorem hp_mL_stamp {E : String} {pc n : Nat} (h : ∀ z ∈ mL_stamp.2.2.2.2.take n, covers ⟨z.1, z.2.1, z.2.2.1, z.2.2.2⟩ pc = false ∨ (z.2.2.2 = 71 ∧ (E, "java/lang/IllegalArgumentException") ∈ xNC)) : ∀ z ∈ mL_stamp.2.2.2.2.take n, covers ⟨z.1, z.2.1, z.2.2.1, z.2.2.2⟩ pc = false ∨ (z.2.2.2 ≠ 0 ∧ ∃ nm : String, Cond.classLink mL_stamp.1.cls z.2.2.2 nm ∈ xTG ∧ (E, nm) ∈ xNC) := by
  intro z hz
  rcases h z hz with h1 | ⟨h1, h2⟩
  · exact Or.inl h1
  · exact Or.inr ⟨by rw [h1]; decide, "java/lang/IllegalArgumentException", by rw [h1]; exact w_718, h2⟩
section Y35
variable {L : Launch} {O : xWd} {σ : ySg} {X : List xOb}
theorem a_setRegion (hL : L.stackTraces = false) {d c s v : Nat} {z0 z1 z2 z3 : Int} {Kc K' : xOc → List xOb → Prop} (hd : d < 8) (hc : c ≤ 1) (hs : s ≤ 24) (hv0 : 193 ≤ v) (hv : X[v - 193]? = some (64, [.int (iI z0), .int (iI z1), .int (iI z2), .int (iI z3)])) (hM : xMet L O mX11_setRegion (xR d c s) [.ref 0, .int (iI z0), .int (iI z1), .int (iI z2), .int (iI z3)] (Wd σ X) Kc)
    (hgood : ∀ (w : Option Value) (G : List xOb), Kc (.inl w) G → ∃ z : Int32, w = some (.int z) ∧ K' (.inl (some (.int z))) G) (hbad : ∀ (E : String) (G : List xOb), Kc (.inr E) G → (E = "java/lang/IllegalArgumentException" ∧ K' (.inl (some (.int (iI (-1002))))) G) ∨ (E = "java/lang/IllegalStateException" ∧ K' (.inl (some (.int (iI (-1003))))) G) ∨ (E = "java/lang/UnsupportedOperationException" ∧ K' (.inl (some (.int (iI (-1004))))) G)) : xMet L O mL_ask (xR 8 1 24) [.ref 0, .int (iI 114), .ref v] (Wd σ X) K' := xMet_of (by decide) hL (Nat.le_of_ble_eq_true rfl) (by
  refine xw_eq rfl (l2 := [(0, .ref 0), (1, .int (iI 114)), (2, .ref v)]) rfl rfl rfl ?_
  refine xw_big fun hb => ?_
  rw [Wd_len] at hb
  have hvl := (List.getElem?_eq_some_iff.mp hv).1
  have hg : (Wd σ X)[v]? = some (64, [.int (iI z0), .int (iI z1), .int (iI z2), .int (iI z3)]) := (Wd_getX hv0).trans hv
  refine xw_iload_n 1 dL_ask_0 rfl ?_
  refine xz_tabIn (off := 332) (tgt := 333) dL_ask_1 (by decide) (by decide) rfl (by decide) ?_
  refine xw_aload_n 0 dL_ask_333 rfl ?_
  refine xw_aload_n 2 dL_ask_334 rfl ?_
  refine xz_iconst dL_ask_335 ?_
  refine xw_iald (j := 0) (by omega) dL_ask_336 rfl hg rfl (by show 4 < 2147483648; decide) rfl ?_
  refine xw_aload_n 2 dL_ask_337 rfl ?_
  refine xz_iconst dL_ask_338 ?_
  refine xw_iald (j := 1) (by omega) dL_ask_339 rfl hg rfl (by show 4 < 2147483648; decide) rfl ?_
  refine xw_aload_n 2 dL_ask_340 rfl ?_
  refine xz_iconst dL_ask_341 ?_
  refine xw_iald (j := 2) (by omega) dL_ask_342 rfl hg rfl (by show 4 < 2147483648; decide) rfl ?_
  refine xw_aload_n 2 dL_ask_343 rfl ?_
  refine xz_iconst dL_ask_344 ?_
  refine xw_iald (j := 3) (by omega) dL_ask_345 rfl hg rfl (by show 4 < 2147483648; decide) rfl ?_
  refine yc_VE (M' := mX11_setRegion) (d := d) (c := c) (s := s) (As := [.int (iI z0), .int (iI z1), .int (iI z2), .int (iI z3)]) (st := []) dL_ask_346 okX11_setRegion (Or.inl w_849) (xBig_i is_0.1) (Wd_get is_0) ⟨by decide, rfl⟩ rfl (Nat.le_of_ble_eq_true rfl) hd (by decide) (by omega) (by omega) hM (fun w9 G9 h9 => ?_) (fun E9 G9 h9 => ?_)
  · obtain ⟨z, rfl, hk⟩ := hgood _ _ h9
    exact xw_iret dL_ask_349 rfl rfl (by simp only [xR]; omega) (by simp only [xR]; omega) hk
  · rcases hbad _ _ h9 with ⟨rfl, hk⟩ | ⟨rfl, hk⟩ | ⟨rfl, hk⟩
    · refine xth_catch (nm := "java/lang/IllegalArgumentException") 8 rfl (by decide) (by decide) w_718 w_732 (hp_mL_ask (by decide +kernel)) (Or.inl ⟨3, rfl, rfl, dL_ask_437⟩) (by decide) rfl (l2 := [(0, .ref 0), (1, .int (iI 114)), (2, .ref v)]) rfl ?_
      refine xz_sipush dL_ask_438 (by omega) ?_
      exact xz_iret dL_ask_441 rfl (by simp only [xR]; omega) (by simp only [xR]; omega) hk
    · refine xth_catch (nm := "java/lang/IllegalStateException") 26 rfl (by decide) (by decide) w_719 w_760 (hp_mL_ask (by decide +kernel)) (Or.inl ⟨3, rfl, rfl, dL_ask_442⟩) (by decide) rfl (l2 := [(0, .ref 0), (1, .int (iI 114)), (2, .ref v)]) rfl ?_
      refine xz_sipush dL_ask_443 (by omega) ?_
      exact xz_iret dL_ask_446 rfl (by simp only [xR]; omega) (by simp only [xR]; omega) hk
    · refine xth_catch (nm := "java/lang/UnsupportedOperationException") 44 rfl (by decide) (by decide) w_720 w_911 (hp_mL_ask (by decide +kernel)) (Or.inl ⟨3, rfl, rfl, dL_ask_447⟩) (by decide) rfl (l2 := [(0, .ref 0), (1, .int (iI 114)), (2, .ref v)]) rfl ?_
      refine xz_sipush dL_ask_448 (by omega) ?_
      exact xz_iret dL_ask_451 rfl (by simp only [xR]; omega) (by simp only [xR]; omega) hk)
theorem a_cueAt (hL : L.stackTraces = false) {d c s v : Nat} {z0 z1 : Int} {Kc K' : xOc → List xOb → Prop} (hd : d < 8) (hc : c ≤ 1) (hs : s ≤ 24) (hv0 : 193 ≤ v) (hv : X[v - 193]? = some (64, [.int (iI z0), .int (iI z1)])) (hM : xMet L O mX11_cueAt (xR d c s) [.ref 0, .int (iI z0), .int (iI z1)] (Wd σ X) Kc)
    (hgood : ∀ (w : Option Value) (G : List xOb), Kc (.inl w) G → ∃ z : Int32, w = some (.int z) ∧ K' (.inl (some (.int z))) G) (hbad : ∀ (E : String) (G : List xOb), Kc (.inr E) G → (E = "java/lang/IllegalArgumentException" ∧ K' (.inl (some (.int (iI (-1002))))) G) ∨ (E = "java/lang/IllegalStateException" ∧ K' (.inl (some (.int (iI (-1003))))) G) ∨ (E = "java/lang/UnsupportedOperationException" ∧ K' (.inl (some (.int (iI (-1004))))) G)) : xMet L O mL_ask (xR 8 1 24) [.ref 0, .int (iI 81), .ref v] (Wd σ X) K' := xMet_of (by decide) hL (Nat.le_of_ble_eq_true rfl) (by
  refine xw_eq rfl (l2 := [(0, .ref 0), (1, .int (iI 81)), (2, .ref v)]) rfl rfl rfl ?_
  refine xw_big fun hb => ?_
  rw [Wd_len] at hb
  have hvl := (List.getElem?_eq_some_iff.mp hv).1
  have hg : (Wd σ X)[v]? = some (64, [.int (iI z0), .int (iI z1)]) := (Wd_getX hv0).trans hv
  refine xw_iload_n 1 dL_ask_0 rfl ?_
  refine xz_tabIn (off := 349) (tgt := 350) dL_ask_1 (by decide) (by decide) rfl (by decide) ?_
  refine xw_aload_n 0 dL_ask_350 rfl ?_
  refine xw_aload_n 2 dL_ask_351 rfl ?_
  refine xz_iconst dL_ask_352 ?_
  refine xw_iald (j := 0) (by omega) dL_ask_353 rfl hg rfl (by show 2 < 2147483648; decide) rfl ?_
  refine xw_aload_n 2 dL_ask_354 rfl ?_
  refine xz_iconst dL_ask_355 ?_
  refine xw_iald (j := 1) (by omega) dL_ask_356 rfl hg rfl (by show 2 < 2147483648; decide) rfl ?_
  refine yc_VE (M' := mX11_cueAt) (d := d) (c := c) (s := s) (As := [.int (iI z0), .int (iI z1)]) (st := []) dL_ask_357 okX11_cueAt (Or.inl w_853) (xBig_i is_0.1) (Wd_get is_0) ⟨by decide, rfl⟩ rfl (Nat.le_of_ble_eq_true rfl) hd (by decide) (by omega) (by omega) hM (fun w9 G9 h9 => ?_) (fun E9 G9 h9 => ?_)
  · obtain ⟨z, rfl, hk⟩ := hgood _ _ h9
    exact xw_iret dL_ask_360 rfl rfl (by simp only [xR]; omega) (by simp only [xR]; omega) hk
  · rcases hbad _ _ h9 with ⟨rfl, hk⟩ | ⟨rfl, hk⟩ | ⟨rfl, hk⟩
    · refine xth_catch (nm := "java/lang/IllegalArgumentException") 9 rfl (by decide) (by decide) w_718 w_732 (hp_mL_ask (by decide +kernel)) (Or.inl ⟨3, rfl, rfl, dL_ask_437⟩) (by decide) rfl (l2 := [(0, .ref 0), (1, .int (iI 81)), (2, .ref v)]) rfl ?_
      refine xz_sipush dL_ask_438 (by omega) ?_
      exact xz_iret dL_ask_441 rfl (by simp only [xR]; omega) (by simp only [xR]; omega) hk
    · refine xth_catch (nm := "java/lang/IllegalStateException") 27 rfl (by decide) (by decide) w_719 w_760 (hp_mL_ask (by decide +kernel)) (Or.inl ⟨3, rfl, rfl, dL_ask_442⟩) (by decide) rfl (l2 := [(0, .ref 0), (1, .int (iI 81)), (2, .ref v)]) rfl ?_
      refine xz_sipush dL_ask_443 (by omega) ?_
      exact xz_iret dL_ask_446 rfl (by simp only [xR]; omega) (by simp only [xR]; omega) hk
    · refine xth_catch (nm := "java/lang/UnsupportedOperationException") 45 rfl (by decide) (by decide) w_720 w_911 (hp_mL_ask (by decide +kernel)) (Or.inl ⟨3, rfl, rfl, dL_ask_447⟩) (by decide) rfl (l2 := [(0, .ref 0), (1, .int (iI 81)), (2, .ref v)]) rfl ?_
      refine xz_sipush dL_ask_448 (by omega) ?_
      exact xz_iret dL_ask_451 rfl (by simp only [xR]; omega) (by simp only [xR]; omega) hk)
theorem a_cueAnew (hL : L.stackTraces = false) {d c s v : Nat} {z0 z1 : Int} {Kc K' : xOc → List xOb → Prop} (hd : d < 8) (hc : c ≤ 1) (hs : s ≤ 24) (hv0 : 193 ≤ v) (hv : X[v - 193]? = some (64, [.int (iI z0), .int (iI z1)])) (hM : xMet L O mX11_cueAnew (xR d c s) [.ref 0, .int (iI z0), .int (iI z1)] (Wd σ X) Kc)
    (hgood : ∀ (w : Option Value) (G : List xOb), Kc (.inl w) G → ∃ z : Int32, w = some (.int z) ∧ K' (.inl (some (.int z))) G) (hbad : ∀ (E : String) (G : List xOb), Kc (.inr E) G → (E = "java/lang/IllegalArgumentException" ∧ K' (.inl (some (.int (iI (-1002))))) G) ∨ (E = "java/lang/IllegalStateException" ∧ K' (.inl (some (.int (iI (-1003))))) G) ∨ (E = "java/lang/UnsupportedOperationException" ∧ K' (.inl (some (.int (iI (-1004))))) G)) : xMet L O mL_ask (xR 8 1 24) [.ref 0, .int (iI 113), .ref v] (Wd σ X) K' := xMet_of (by decide) hL (Nat.le_of_ble_eq_true rfl) (by
  refine xw_eq rfl (l2 := [(0, .ref 0), (1, .int (iI 113)), (2, .ref v)]) rfl rfl rfl ?_
  refine xw_big fun hb => ?_
  rw [Wd_len] at hb
  have hvl := (List.getElem?_eq_some_iff.mp hv).1
  have hg : (Wd σ X)[v]? = some (64, [.int (iI z0), .int (iI z1)]) := (Wd_getX hv0).trans hv
  refine xw_iload_n 1 dL_ask_0 rfl ?_
  refine xz_tabIn (off := 360) (tgt := 361) dL_ask_1 (by decide) (by decide) rfl (by decide) ?_
  refine xw_aload_n 0 dL_ask_361 rfl ?_
  refine xw_aload_n 2 dL_ask_362 rfl ?_
  refine xz_iconst dL_ask_363 ?_
  refine xw_iald (j := 0) (by omega) dL_ask_364 rfl hg rfl (by show 2 < 2147483648; decide) rfl ?_
  refine xw_aload_n 2 dL_ask_365 rfl ?_
  refine xz_iconst dL_ask_366 ?_
  refine xw_iald (j := 1) (by omega) dL_ask_367 rfl hg rfl (by show 2 < 2147483648; decide) rfl ?_
  refine yc_VE (M' := mX11_cueAnew) (d := d) (c := c) (s := s) (As := [.int (iI z0), .int (iI z1)]) (st := []) dL_ask_368 okX11_cueAnew (Or.inl w_857) (xBig_i is_0.1) (Wd_get is_0) ⟨by decide, rfl⟩ rfl (Nat.le_of_ble_eq_true rfl) hd (by decide) (by omega) (by omega) hM (fun w9 G9 h9 => ?_) (fun E9 G9 h9 => ?_)
  · obtain ⟨z, rfl, hk⟩ := hgood _ _ h9
    exact xw_iret dL_ask_371 rfl rfl (by simp only [xR]; omega) (by simp only [xR]; omega) hk
  · rcases hbad _ _ h9 with ⟨rfl, hk⟩ | ⟨rfl, hk⟩ | ⟨rfl, hk⟩
    · refine xth_catch (nm := "java/lang/IllegalArgumentException") 10 rfl (by decide) (by decide) w_718 w_732 (hp_mL_ask (by decide +kernel)) (Or.inl ⟨3, rfl, rfl, dL_ask_437⟩) (by decide) rfl (l2 := [(0, .ref 0), (1, .int (iI 113)), (2, .ref v)]) rfl ?_
      refine xz_sipush dL_ask_438 (by omega) ?_
      exact xz_iret dL_ask_441 rfl (by simp only [xR]; omega) (by simp only [xR]; omega) hk
    · refine xth_catch (nm := "java/lang/IllegalStateException") 28 rfl (by decide) (by decide) w_719 w_760 (hp_mL_ask (by decide +kernel)) (Or.inl ⟨3, rfl, rfl, dL_ask_442⟩) (by decide) rfl (l2 := [(0, .ref 0), (1, .int (iI 113)), (2, .ref v)]) rfl ?_
      refine xz_sipush dL_ask_443 (by omega) ?_
      exact xz_iret dL_ask_446 rfl (by simp only [xR]; omega) (by simp only [xR]; omega) hk
    · refine xth_catch (nm := "java/lang/UnsupportedOperationException") 46 rfl (by decide) (by decide) w_720 w_911 (hp_mL_ask (by decide +kernel)) (Or.inl ⟨3, rfl, rfl, dL_ask_447⟩) (by decide) rfl (l2 := [(0, .ref 0), (1, .int (iI 113)), (2, .ref v)]) rfl ?_
      refine xz_sipush dL_ask_448 (by omega) ?_
      exact xz_iret dL_ask_451 rfl (by simp only [xR]; omega) (by simp only [xR]; omega) hk)
theorem a_addCut (hL : L.stackTraces = false) {d c s v : Nat} {z0 : Int} {Kc K' : xOc → List xOb → Prop} (hd : d < 8) (hc : c ≤ 1) (hs : s ≤ 24) (hv0 : 193 ≤ v) (hv : X[v - 193]? = some (64, [.int (iI z0)])) (hM : xMet L O mX11_addCut (xR d c s) [.ref 0, .int (iI z0)] (Wd σ X) Kc)
    (hgood : ∀ (w : Option Value) (G : List xOb), Kc (.inl w) G → ∃ z : Int32, w = some (.int z) ∧ K' (.inl (some (.int z))) G) (hbad : ∀ (E : String) (G : List xOb), Kc (.inr E) G → (E = "java/lang/IllegalArgumentException" ∧ K' (.inl (some (.int (iI (-1002))))) G) ∨ (E = "java/lang/IllegalStateException" ∧ K' (.inl (some (.int (iI (-1003))))) G) ∨ (E = "java/lang/UnsupportedOperationException" ∧ K' (.inl (some (.int (iI (-1004))))) G)) : xMet L O mL_ask (xR 8 1 24) [.ref 0, .int (iI 67), .ref v] (Wd σ X) K' := xMet_of (by decide) hL (Nat.le_of_ble_eq_true rfl) (by
  refine xw_eq rfl (l2 := [(0, .ref 0), (1, .int (iI 67)), (2, .ref v)]) rfl rfl rfl ?_
  refine xw_big fun hb => ?_
  rw [Wd_len] at hb
  have hvl := (List.getElem?_eq_some_iff.mp hv).1
  have hg : (Wd σ X)[v]? = some (64, [.int (iI z0)]) := (Wd_getX hv0).trans hv
  refine xw_iload_n 1 dL_ask_0 rfl ?_
  refine xz_tabIn (off := 371) (tgt := 372) dL_ask_1 (by decide) (by decide) rfl (by decide) ?_
  refine xw_aload_n 0 dL_ask_372 rfl ?_
  refine xw_aload_n 2 dL_ask_373 rfl ?_
  refine xz_iconst dL_ask_374 ?_
  refine xw_iald (j := 0) (by omega) dL_ask_375 rfl hg rfl (by show 1 < 2147483648; decide) rfl ?_
  refine yc_VE (M' := mX11_addCut) (d := d) (c := c) (s := s) (As := [.int (iI z0)]) (st := []) dL_ask_376 okX11_addCut (Or.inl w_861) (xBig_i is_0.1) (Wd_get is_0) ⟨by decide, rfl⟩ rfl (Nat.le_of_ble_eq_true rfl) hd (by decide) (by omega) (by omega) hM (fun w9 G9 h9 => ?_) (fun E9 G9 h9 => ?_)
  · obtain ⟨z, rfl, hk⟩ := hgood _ _ h9
    exact xw_iret dL_ask_379 rfl rfl (by simp only [xR]; omega) (by simp only [xR]; omega) hk
  · rcases hbad _ _ h9 with ⟨rfl, hk⟩ | ⟨rfl, hk⟩ | ⟨rfl, hk⟩
    · refine xth_catch (nm := "java/lang/IllegalArgumentException") 11 rfl (by decide) (by decide) w_718 w_732 (hp_mL_ask (by decide +kernel)) (Or.inl ⟨3, rfl, rfl, dL_ask_437⟩) (by decide) rfl (l2 := [(0, .ref 0), (1, .int (iI 67)), (2, .ref v)]) rfl ?_
      refine xz_sipush dL_ask_438 (by omega) ?_
      exact xz_iret dL_ask_441 rfl (by simp only [xR]; omega) (by simp only [xR]; omega) hk
    · refine xth_catch (nm := "java/lang/IllegalStateException") 29 rfl (by decide) (by decide) w_719 w_760 (hp_mL_ask (by decide +kernel)) (Or.inl ⟨3, rfl, rfl, dL_ask_442⟩) (by decide) rfl (l2 := [(0, .ref 0), (1, .int (iI 67)), (2, .ref v)]) rfl ?_
      refine xz_sipush dL_ask_443 (by omega) ?_
      exact xz_iret dL_ask_446 rfl (by simp only [xR]; omega) (by simp only [xR]; omega) hk
    · refine xth_catch (nm := "java/lang/UnsupportedOperationException") 47 rfl (by decide) (by decide) w_720 w_911 (hp_mL_ask (by decide +kernel)) (Or.inl ⟨3, rfl, rfl, dL_ask_447⟩) (by decide) rfl (l2 := [(0, .ref 0), (1, .int (iI 67)), (2, .ref v)]) rfl ?_
      refine xz_sipush dL_ask_448 (by omega) ?_
      exact xz_iret dL_ask_451 rfl (by simp only [xR]; omega) (by simp only [xR]; omega) hk)
theorem a_snap (hL : L.stackTraces = false) {d c s v : Nat} {z0 : Int} {Kc K' : xOc → List xOb → Prop} (hd : d < 8) (hc : c ≤ 1) (hs : s ≤ 24) (hv0 : 193 ≤ v) (hv : X[v - 193]? = some (64, [.int (iI z0)])) (hM : xMet L O mX11_snap (xR d c s) [.ref 0, .int (iI z0)] (Wd σ X) Kc)
    (hgood : ∀ (w : Option Value) (G : List xOb), Kc (.inl w) G → ∃ z : Int32, w = some (.int z) ∧ K' (.inl (some (.int z))) G) (hbad : ∀ (E : String) (G : List xOb), Kc (.inr E) G → (E = "java/lang/IllegalArgumentException" ∧ K' (.inl (some (.int (iI (-1002))))) G) ∨ (E = "java/lang/IllegalStateException" ∧ K' (.inl (some (.int (iI (-1003))))) G) ∨ (E = "java/lang/UnsupportedOperationException" ∧ K' (.inl (some (.int (iI (-1004))))) G)) : xMet L O mL_ask (xR 8 1 24) [.ref 0, .int (iI 83), .ref v] (Wd σ X) K' := xMet_of (by decide) hL (Nat.le_of_ble_eq_true rfl) (by
  refine xw_eq rfl (l2 := [(0, .ref 0), (1, .int (iI 83)), (2, .ref v)]) rfl rfl rfl ?_
  refine xw_big fun hb => ?_
  rw [Wd_len] at hb
  have hvl := (List.getElem?_eq_some_iff.mp hv).1
  have hg : (Wd σ X)[v]? = some (64, [.int (iI z0)]) := (Wd_getX hv0).trans hv
  refine xw_iload_n 1 dL_ask_0 rfl ?_
  refine xz_tabIn (off := 379) (tgt := 380) dL_ask_1 (by decide) (by decide) rfl (by decide) ?_
  refine xw_aload_n 0 dL_ask_380 rfl ?_
  refine xw_aload_n 2 dL_ask_381 rfl ?_
  refine xz_iconst dL_ask_382 ?_
  refine xw_iald (j := 0) (by omega) dL_ask_383 rfl hg rfl (by show 1 < 2147483648; decide) rfl ?_
  refine yc_VE (M' := mX11_snap) (d := d) (c := c) (s := s) (As := [.int (iI z0)]) (st := []) dL_ask_384 okX11_snap (Or.inl w_875) (xBig_i is_0.1) (Wd_get is_0) ⟨by decide, rfl⟩ rfl (Nat.le_of_ble_eq_true rfl) hd (by decide) (by omega) (by omega) hM (fun w9 G9 h9 => ?_) (fun E9 G9 h9 => ?_)
  · obtain ⟨z, rfl, hk⟩ := hgood _ _ h9
    exact xw_iret dL_ask_387 rfl rfl (by simp only [xR]; omega) (by simp only [xR]; omega) hk
  · rcases hbad _ _ h9 with ⟨rfl, hk⟩ | ⟨rfl, hk⟩ | ⟨rfl, hk⟩
    · refine xth_catch (nm := "java/lang/IllegalArgumentException") 12 rfl (by decide) (by decide) w_718 w_732 (hp_mL_ask (by decide +kernel)) (Or.inl ⟨3, rfl, rfl, dL_ask_437⟩) (by decide) rfl (l2 := [(0, .ref 0), (1, .int (iI 83)), (2, .ref v)]) rfl ?_
      refine xz_sipush dL_ask_438 (by omega) ?_
      exact xz_iret dL_ask_441 rfl (by simp only [xR]; omega) (by simp only [xR]; omega) hk
    · refine xth_catch (nm := "java/lang/IllegalStateException") 30 rfl (by decide) (by decide) w_719 w_760 (hp_mL_ask (by decide +kernel)) (Or.inl ⟨3, rfl, rfl, dL_ask_442⟩) (by decide) rfl (l2 := [(0, .ref 0), (1, .int (iI 83)), (2, .ref v)]) rfl ?_
      refine xz_sipush dL_ask_443 (by omega) ?_
      exact xz_iret dL_ask_446 rfl (by simp only [xR]; omega) (by simp only [xR]; omega) hk
    · refine xth_catch (nm := "java/lang/UnsupportedOperationException") 48 rfl (by decide) (by decide) w_720 w_911 (hp_mL_ask (by decide +kernel)) (Or.inl ⟨3, rfl, rfl, dL_ask_447⟩) (by decide) rfl (l2 := [(0, .ref 0), (1, .int (iI 83)), (2, .ref v)]) rfl ?_
      refine xz_sipush dL_ask_448 (by omega) ?_
      exact xz_iret dL_ask_451 rfl (by simp only [xR]; omega) (by simp only [xR]; omega) hk)
theorem a_stretch (hL : L.stackTraces = false) {d c s v : Nat} {z0 z1 : Int} {Kc K' : xOc → List xOb → Prop} (hd : d < 8) (hc : c ≤ 1) (hs : s ≤ 24) (hv0 : 193 ≤ v) (hv : X[v - 193]? = some (64, [.int (iI z0), .int (iI z1)])) (hM : xMet L O mX11_stretch (xR d c s) [.ref 0, .int (iI z0), .int (iI z1)] (Wd σ X) Kc)
    (hgood : ∀ (w : Option Value) (G : List xOb), Kc (.inl w) G → ∃ z : Int32, w = some (.int z) ∧ K' (.inl (some (.int z))) G) (hbad : ∀ (E : String) (G : List xOb), Kc (.inr E) G → (E = "java/lang/IllegalArgumentException" ∧ K' (.inl (some (.int (iI (-1002))))) G) ∨ (E = "java/lang/IllegalStateException" ∧ K' (.inl (some (.int (iI (-1003))))) G) ∨ (E = "java/lang/UnsupportedOperationException" ∧ K' (.inl (some (.int (iI (-1004))))) G)) : xMet L O mL_ask (xR 8 1 24) [.ref 0, .int (iI 84), .ref v] (Wd σ X) K' := xMet_of (by decide) hL (Nat.le_of_ble_eq_true rfl) (by
  refine xw_eq rfl (l2 := [(0, .ref 0), (1, .int (iI 84)), (2, .ref v)]) rfl rfl rfl ?_
  refine xw_big fun hb => ?_
  rw [Wd_len] at hb
  have hvl := (List.getElem?_eq_some_iff.mp hv).1
  have hg : (Wd σ X)[v]? = some (64, [.int (iI z0), .int (iI z1)]) := (Wd_getX hv0).trans hv
  refine xw_iload_n 1 dL_ask_0 rfl ?_
  refine xz_tabIn (off := 387) (tgt := 388) dL_ask_1 (by decide) (by decide) rfl (by decide) ?_
  refine xw_aload_n 0 dL_ask_388 rfl ?_
  refine xw_aload_n 2 dL_ask_389 rfl ?_
  refine xz_iconst dL_ask_390 ?_
  refine xw_iald (j := 0) (by omega) dL_ask_391 rfl hg rfl (by show 2 < 2147483648; decide) rfl ?_
  refine xw_aload_n 2 dL_ask_392 rfl ?_
  refine xz_iconst dL_ask_393 ?_
  refine xw_iald (j := 1) (by omega) dL_ask_394 rfl hg rfl (by show 2 < 2147483648; decide) rfl ?_
  refine yc_VE (M' := mX11_stretch) (d := d) (c := c) (s := s) (As := [.int (iI z0), .int (iI z1)]) (st := []) dL_ask_395 okX11_stretch (Or.inl w_888) (xBig_i is_0.1) (Wd_get is_0) ⟨by decide, rfl⟩ rfl (Nat.le_of_ble_eq_true rfl) hd (by decide) (by omega) (by omega) hM (fun w9 G9 h9 => ?_) (fun E9 G9 h9 => ?_)
  · obtain ⟨z, rfl, hk⟩ := hgood _ _ h9
    exact xw_iret dL_ask_398 rfl rfl (by simp only [xR]; omega) (by simp only [xR]; omega) hk
  · rcases hbad _ _ h9 with ⟨rfl, hk⟩ | ⟨rfl, hk⟩ | ⟨rfl, hk⟩
    · refine xth_catch (nm := "java/lang/IllegalArgumentException") 13 rfl (by decide) (by decide) w_718 w_732 (hp_mL_ask (by decide +kernel)) (Or.inl ⟨3, rfl, rfl, dL_ask_437⟩) (by decide) rfl (l2 := [(0, .ref 0), (1, .int (iI 84)), (2, .ref v)]) rfl ?_
      refine xz_sipush dL_ask_438 (by omega) ?_
      exact xz_iret dL_ask_441 rfl (by simp only [xR]; omega) (by simp only [xR]; omega) hk
    · refine xth_catch (nm := "java/lang/IllegalStateException") 31 rfl (by decide) (by decide) w_719 w_760 (hp_mL_ask (by decide +kernel)) (Or.inl ⟨3, rfl, rfl, dL_ask_442⟩) (by decide) rfl (l2 := [(0, .ref 0), (1, .int (iI 84)), (2, .ref v)]) rfl ?_
      refine xz_sipush dL_ask_443 (by omega) ?_
      exact xz_iret dL_ask_446 rfl (by simp only [xR]; omega) (by simp only [xR]; omega) hk
    · refine xth_catch (nm := "java/lang/UnsupportedOperationException") 49 rfl (by decide) (by decide) w_720 w_911 (hp_mL_ask (by decide +kernel)) (Or.inl ⟨3, rfl, rfl, dL_ask_447⟩) (by decide) rfl (l2 := [(0, .ref 0), (1, .int (iI 84)), (2, .ref v)]) rfl ?_
      refine xz_sipush dL_ask_448 (by omega) ?_
      exact xz_iret dL_ask_451 rfl (by simp only [xR]; omega) (by simp only [xR]; omega) hk)
theorem a_convert (hL : L.stackTraces = false) {d c s v : Nat} {z0 z1 : Int} {Kc K' : xOc → List xOb → Prop} (hd : d < 8) (hc : c ≤ 1) (hs : s ≤ 24) (hv0 : 193 ≤ v) (hv : X[v - 193]? = some (64, [.int (iI z0), .int (iI z1)])) (hM : xMet L O mX11_convert (xR d c s) [.ref 0, .int (iI z0), .int (iI z1)] (Wd σ X) Kc)
    (hgood : ∀ (w : Option Value) (G : List xOb), Kc (.inl w) G → ∃ z : Int32, w = some (.int z) ∧ K' (.inl (some (.int z))) G) (hbad : ∀ (E : String) (G : List xOb), Kc (.inr E) G → (E = "java/lang/IllegalArgumentException" ∧ K' (.inl (some (.int (iI (-1002))))) G) ∨ (E = "java/lang/IllegalStateException" ∧ K' (.inl (some (.int (iI (-1003))))) G) ∨ (E = "java/lang/UnsupportedOperationException" ∧ K' (.inl (some (.int (iI (-1004))))) G)) : xMet L O mL_ask (xR 8 1 24) [.ref 0, .int (iI 86), .ref v] (Wd σ X) K' := xMet_of (by decide) hL (Nat.le_of_ble_eq_true rfl) (by
  refine xw_eq rfl (l2 := [(0, .ref 0), (1, .int (iI 86)), (2, .ref v)]) rfl rfl rfl ?_
  refine xw_big fun hb => ?_
  rw [Wd_len] at hb
  have hvl := (List.getElem?_eq_some_iff.mp hv).1
  have hg : (Wd σ X)[v]? = some (64, [.int (iI z0), .int (iI z1)]) := (Wd_getX hv0).trans hv
  refine xw_iload_n 1 dL_ask_0 rfl ?_
  refine xz_tabIn (off := 398) (tgt := 399) dL_ask_1 (by decide) (by decide) rfl (by decide) ?_
  refine xw_aload_n 0 dL_ask_399 rfl ?_
  refine xw_aload_n 2 dL_ask_400 rfl ?_
  refine xz_iconst dL_ask_401 ?_
  refine xw_iald (j := 0) (by omega) dL_ask_402 rfl hg rfl (by show 2 < 2147483648; decide) rfl ?_
  refine xw_aload_n 2 dL_ask_403 rfl ?_
  refine xz_iconst dL_ask_404 ?_
  refine xw_iald (j := 1) (by omega) dL_ask_405 rfl hg rfl (by show 2 < 2147483648; decide) rfl ?_
  refine yc_VE (M' := mX11_convert) (d := d) (c := c) (s := s) (As := [.int (iI z0), .int (iI z1)]) (st := []) dL_ask_406 okX11_convert (Or.inl w_897) (xBig_i is_0.1) (Wd_get is_0) ⟨by decide, rfl⟩ rfl (Nat.le_of_ble_eq_true rfl) hd (by decide) (by omega) (by omega) hM (fun w9 G9 h9 => ?_) (fun E9 G9 h9 => ?_)
  · obtain ⟨z, rfl, hk⟩ := hgood _ _ h9
    exact xw_iret dL_ask_409 rfl rfl (by simp only [xR]; omega) (by simp only [xR]; omega) hk
  · rcases hbad _ _ h9 with ⟨rfl, hk⟩ | ⟨rfl, hk⟩ | ⟨rfl, hk⟩
    · refine xth_catch (nm := "java/lang/IllegalArgumentException") 14 rfl (by decide) (by decide) w_718 w_732 (hp_mL_ask (by decide +kernel)) (Or.inl ⟨3, rfl, rfl, dL_ask_437⟩) (by decide) rfl (l2 := [(0, .ref 0), (1, .int (iI 86)), (2, .ref v)]) rfl ?_
      refine xz_sipush dL_ask_438 (by omega) ?_
      exact xz_iret dL_ask_441 rfl (by simp only [xR]; omega) (by simp only [xR]; omega) hk
    · refine xth_catch (nm := "java/lang/IllegalStateException") 32 rfl (by decide) (by decide) w_719 w_760 (hp_mL_ask (by decide +kernel)) (Or.inl ⟨3, rfl, rfl, dL_ask_442⟩) (by decide) rfl (l2 := [(0, .ref 0), (1, .int (iI 86)), (2, .ref v)]) rfl ?_
      refine xz_sipush dL_ask_443 (by omega) ?_
      exact xz_iret dL_ask_446 rfl (by simp only [xR]; omega) (by simp only [xR]; omega) hk
    · refine xth_catch (nm := "java/lang/UnsupportedOperationException") 50 rfl (by decide) (by decide) w_720 w_911 (hp_mL_ask (by decide +kernel)) (Or.inl ⟨3, rfl, rfl, dL_ask_447⟩) (by decide) rfl (l2 := [(0, .ref 0), (1, .int (iI 86)), (2, .ref v)]) rfl ?_
      refine xz_sipush dL_ask_448 (by omega) ?_
      exact xz_iret dL_ask_451 rfl (by simp only [xR]; omega) (by simp only [xR]; omega) hk)
theorem a_addAnchor (hL : L.stackTraces = false) {d c s v : Nat} {z0 z1 : Int} {Kc K' : xOc → List xOb → Prop} (hd : d < 8) (hc : c ≤ 1) (hs : s ≤ 24) (hv0 : 193 ≤ v) (hv : X[v - 193]? = some (64, [.int (iI z0), .int (iI z1)])) (hM : xMet L O mX11_addAnchor (xR d c s) [.ref 0, .int (iI z0), .int (iI z1)] (Wd σ X) Kc)
    (hgood : ∀ (w : Option Value) (G : List xOb), Kc (.inl w) G → ∃ z : Int32, w = some (.int z) ∧ K' (.inl (some (.int z))) G) (hbad : ∀ (E : String) (G : List xOb), Kc (.inr E) G → (E = "java/lang/IllegalArgumentException" ∧ K' (.inl (some (.int (iI (-1002))))) G) ∨ (E = "java/lang/IllegalStateException" ∧ K' (.inl (some (.int (iI (-1003))))) G) ∨ (E = "java/lang/UnsupportedOperationException" ∧ K' (.inl (some (.int (iI (-1004))))) G)) : xMet L O mL_ask (xR 8 1 24) [.ref 0, .int (iI 65), .ref v] (Wd σ X) K' := xMet_of (by decide) hL (Nat.le_of_ble_eq_true rfl) (by
  refine xw_eq rfl (l2 := [(0, .ref 0), (1, .int (iI 65)), (2, .ref v)]) rfl rfl rfl ?_
  refine xw_big fun hb => ?_
  rw [Wd_len] at hb
  have hvl := (List.getElem?_eq_some_iff.mp hv).1
  have hg : (Wd σ X)[v]? = some (64, [.int (iI z0), .int (iI z1)]) := (Wd_getX hv0).trans hv
  refine xw_iload_n 1 dL_ask_0 rfl ?_
  refine xz_tabIn (off := 409) (tgt := 410) dL_ask_1 (by decide) (by decide) rfl (by decide) ?_
  refine xw_aload_n 0 dL_ask_410 rfl ?_
  refine xw_aload_n 2 dL_ask_411 rfl ?_
  refine xz_iconst dL_ask_412 ?_
  refine xw_iald (j := 0) (by omega) dL_ask_413 rfl hg rfl (by show 2 < 2147483648; decide) rfl ?_
  refine xw_aload_n 2 dL_ask_414 rfl ?_
  refine xz_iconst dL_ask_415 ?_
  refine xw_iald (j := 1) (by omega) dL_ask_416 rfl hg rfl (by show 2 < 2147483648; decide) rfl ?_
  refine yc_VE (M' := mX11_addAnchor) (d := d) (c := c) (s := s) (As := [.int (iI z0), .int (iI z1)]) (st := []) dL_ask_417 okX11_addAnchor (Or.inl w_929) (xBig_i is_0.1) (Wd_get is_0) ⟨by decide, rfl⟩ rfl (Nat.le_of_ble_eq_true rfl) hd (by decide) (by omega) (by omega) hM (fun w9 G9 h9 => ?_) (fun E9 G9 h9 => ?_)
  · obtain ⟨z, rfl, hk⟩ := hgood _ _ h9
    exact xw_iret dL_ask_420 rfl rfl (by simp only [xR]; omega) (by simp only [xR]; omega) hk
  · rcases hbad _ _ h9 with ⟨rfl, hk⟩ | ⟨rfl, hk⟩ | ⟨rfl, hk⟩
    · refine xth_catch (nm := "java/lang/IllegalArgumentException") 15 rfl (by decide) (by decide) w_718 w_732 (hp_mL_ask (by decide +kernel)) (Or.inl ⟨3, rfl, rfl, dL_ask_437⟩) (by decide) rfl (l2 := [(0, .ref 0), (1, .int (iI 65)), (2, .ref v)]) rfl ?_
      refine xz_sipush dL_ask_438 (by omega) ?_
      exact xz_iret dL_ask_441 rfl (by simp only [xR]; omega) (by simp only [xR]; omega) hk
    · refine xth_catch (nm := "java/lang/IllegalStateException") 33 rfl (by decide) (by decide) w_719 w_760 (hp_mL_ask (by decide +kernel)) (Or.inl ⟨3, rfl, rfl, dL_ask_442⟩) (by decide) rfl (l2 := [(0, .ref 0), (1, .int (iI 65)), (2, .ref v)]) rfl ?_
      refine xz_sipush dL_ask_443 (by omega) ?_
      exact xz_iret dL_ask_446 rfl (by simp only [xR]; omega) (by simp only [xR]; omega) hk
    · refine xth_catch (nm := "java/lang/UnsupportedOperationException") 51 rfl (by decide) (by decide) w_720 w_911 (hp_mL_ask (by decide +kernel)) (Or.inl ⟨3, rfl, rfl, dL_ask_447⟩) (by decide) rfl (l2 := [(0, .ref 0), (1, .int (iI 65)), (2, .ref v)]) rfl ?_
      refine xz_sipush dL_ask_448 (by omega) ?_
      exact xz_iret dL_ask_451 rfl (by simp only [xR]; omega) (by simp only [xR]; omega) hk)
theorem a_drift (hL : L.stackTraces = false) {d c s v : Nat} {Kc K' : xOc → List xOb → Prop} (hd : d < 8) (hc : c ≤ 1) (hs : s ≤ 24) (hv0 : 193 ≤ v) (hv : X[v - 193]? = some (64, [])) (hM : xMet L O mX11_drift (xR d c s) [.ref 0] (Wd σ X) Kc)
    (hgood : ∀ (w : Option Value) (G : List xOb), Kc (.inl w) G → ∃ z : Int32, w = some (.int z) ∧ K' (.inl (some (.int z))) G) (hbad : ∀ (E : String) (G : List xOb), Kc (.inr E) G → (E = "java/lang/IllegalArgumentException" ∧ K' (.inl (some (.int (iI (-1002))))) G) ∨ (E = "java/lang/IllegalStateException" ∧ K' (.inl (some (.int (iI (-1003))))) G) ∨ (E = "java/lang/UnsupportedOperationException" ∧ K' (.inl (some (.int (iI (-1004))))) G)) : xMet L O mL_ask (xR 8 1 24) [.ref 0, .int (iI 68), .ref v] (Wd σ X) K' := xMet_of (by decide) hL (Nat.le_of_ble_eq_true rfl) (by
  refine xw_eq rfl (l2 := [(0, .ref 0), (1, .int (iI 68)), (2, .ref v)]) rfl rfl rfl ?_
  refine xw_big fun hb => ?_
  rw [Wd_len] at hb
  have hvl := (List.getElem?_eq_some_iff.mp hv).1
  have hg : (Wd σ X)[v]? = some (64, []) := (Wd_getX hv0).trans hv
  refine xw_iload_n 1 dL_ask_0 rfl ?_
  refine xz_tabIn (off := 420) (tgt := 421) dL_ask_1 (by decide) (by decide) rfl (by decide) ?_
  refine xw_aload_n 0 dL_ask_421 rfl ?_
  refine yc_VE (M' := mX11_drift) (d := d) (c := c) (s := s) (As := []) (st := []) dL_ask_422 okX11_drift (Or.inl w_942) (xBig_i is_0.1) (Wd_get is_0) ⟨by decide, rfl⟩ rfl (Nat.le_of_ble_eq_true rfl) hd (by decide) (by omega) (by omega) hM (fun w9 G9 h9 => ?_) (fun E9 G9 h9 => ?_)
  · obtain ⟨z, rfl, hk⟩ := hgood _ _ h9
    exact xw_iret dL_ask_425 rfl rfl (by simp only [xR]; omega) (by simp only [xR]; omega) hk
  · rcases hbad _ _ h9 with ⟨rfl, hk⟩ | ⟨rfl, hk⟩ | ⟨rfl, hk⟩
    · refine xth_catch (nm := "java/lang/IllegalArgumentException") 16 rfl (by decide) (by decide) w_718 w_732 (hp_mL_ask (by decide +kernel)) (Or.inl ⟨3, rfl, rfl, dL_ask_437⟩) (by decide) rfl (l2 := [(0, .ref 0), (1, .int (iI 68)), (2, .ref v)]) rfl ?_
      refine xz_sipush dL_ask_438 (by omega) ?_
      exact xz_iret dL_ask_441 rfl (by simp only [xR]; omega) (by simp only [xR]; omega) hk
    · refine xth_catch (nm := "java/lang/IllegalStateException") 34 rfl (by decide) (by decide) w_719 w_760 (hp_mL_ask (by decide +kernel)) (Or.inl ⟨3, rfl, rfl, dL_ask_442⟩) (by decide) rfl (l2 := [(0, .ref 0), (1, .int (iI 68)), (2, .ref v)]) rfl ?_
      refine xz_sipush dL_ask_443 (by omega) ?_
      exact xz_iret dL_ask_446 rfl (by simp only [xR]; omega) (by simp only [xR]; omega) hk
    · refine xth_catch (nm := "java/lang/UnsupportedOperationException") 52 rfl (by decide) (by decide) w_720 w_911 (hp_mL_ask (by decide +kernel)) (Or.inl ⟨3, rfl, rfl, dL_ask_447⟩) (by decide) rfl (l2 := [(0, .ref 0), (1, .int (iI 68)), (2, .ref v)]) rfl ?_
      refine xz_sipush dL_ask_448 (by omega) ?_
      exact xz_iret dL_ask_451 rfl (by simp only [xR]; omega) (by simp only [xR]; omega) hk)
theorem a_addHeard (hL : L.stackTraces = false) {d c s v : Nat} {z0 z1 : Int} {Kc K' : xOc → List xOb → Prop} (hd : d < 8) (hc : c ≤ 1) (hs : s ≤ 24) (hv0 : 193 ≤ v) (hv : X[v - 193]? = some (64, [.int (iI z0), .int (iI z1)])) (hM : xMet L O mX11_addHeard (xR d c s) [.ref 0, .int (iI z0), .int (iI z1)] (Wd σ X) Kc)
    (hgood : ∀ (w : Option Value) (G : List xOb), Kc (.inl w) G → ∃ z : Int32, w = some (.int z) ∧ K' (.inl (some (.int z))) G) (hbad : ∀ (E : String) (G : List xOb), Kc (.inr E) G → (E = "java/lang/IllegalArgumentException" ∧ K' (.inl (some (.int (iI (-1002))))) G) ∨ (E = "java/lang/IllegalStateException" ∧ K' (.inl (some (.int (iI (-1003))))) G) ∨ (E = "java/lang/UnsupportedOperationException" ∧ K' (.inl (some (.int (iI (-1004))))) G)) : xMet L O mL_ask (xR 8 1 24) [.ref 0, .int (iI 72), .ref v] (Wd σ X) K' := xMet_of (by decide) hL (Nat.le_of_ble_eq_true rfl) (by
  refine xw_eq rfl (l2 := [(0, .ref 0), (1, .int (iI 72)), (2, .ref v)]) rfl rfl rfl ?_
  refine xw_big fun hb => ?_
  rw [Wd_len] at hb
  have hvl := (List.getElem?_eq_some_iff.mp hv).1
  have hg : (Wd σ X)[v]? = some (64, [.int (iI z0), .int (iI z1)]) := (Wd_getX hv0).trans hv
  refine xw_iload_n 1 dL_ask_0 rfl ?_
  refine xz_tabIn (off := 425) (tgt := 426) dL_ask_1 (by decide) (by decide) rfl (by decide) ?_
  refine xw_aload_n 0 dL_ask_426 rfl ?_
  refine xw_aload_n 2 dL_ask_427 rfl ?_
  refine xz_iconst dL_ask_428 ?_
  refine xw_iald (j := 0) (by omega) dL_ask_429 rfl hg rfl (by show 2 < 2147483648; decide) rfl ?_
  refine xw_aload_n 2 dL_ask_430 rfl ?_
  refine xz_iconst dL_ask_431 ?_
  refine xw_iald (j := 1) (by omega) dL_ask_432 rfl hg rfl (by show 2 < 2147483648; decide) rfl ?_
  refine yc_VE (M' := mX11_addHeard) (d := d) (c := c) (s := s) (As := [.int (iI z0), .int (iI z1)]) (st := []) dL_ask_433 okX11_addHeard (Or.inl w_962) (xBig_i is_0.1) (Wd_get is_0) ⟨by decide, rfl⟩ rfl (Nat.le_of_ble_eq_true rfl) hd (by decide) (by omega) (by omega) hM (fun w9 G9 h9 => ?_) (fun E9 G9 h9 => ?_)
  · obtain ⟨z, rfl, hk⟩ := hgood _ _ h9
    exact xw_iret dL_ask_436 rfl rfl (by simp only [xR]; omega) (by simp only [xR]; omega) hk
  · rcases hbad _ _ h9 with ⟨rfl, hk⟩ | ⟨rfl, hk⟩ | ⟨rfl, hk⟩
    · refine xth_catch (nm := "java/lang/IllegalArgumentException") 17 rfl (by decide) (by decide) w_718 w_732 (hp_mL_ask (by decide +kernel)) (Or.inl ⟨3, rfl, rfl, dL_ask_437⟩) (by decide) rfl (l2 := [(0, .ref 0), (1, .int (iI 72)), (2, .ref v)]) rfl ?_
      refine xz_sipush dL_ask_438 (by omega) ?_
      exact xz_iret dL_ask_441 rfl (by simp only [xR]; omega) (by simp only [xR]; omega) hk
    · refine xth_catch (nm := "java/lang/IllegalStateException") 35 rfl (by decide) (by decide) w_719 w_760 (hp_mL_ask (by decide +kernel)) (Or.inl ⟨3, rfl, rfl, dL_ask_442⟩) (by decide) rfl (l2 := [(0, .ref 0), (1, .int (iI 72)), (2, .ref v)]) rfl ?_
      refine xz_sipush dL_ask_443 (by omega) ?_
      exact xz_iret dL_ask_446 rfl (by simp only [xR]; omega) (by simp only [xR]; omega) hk
    · refine xth_catch (nm := "java/lang/UnsupportedOperationException") 53 rfl (by decide) (by decide) w_720 w_911 (hp_mL_ask (by decide +kernel)) (Or.inl ⟨3, rfl, rfl, dL_ask_447⟩) (by decide) rfl (l2 := [(0, .ref 0), (1, .int (iI 72)), (2, .ref v)]) rfl ?_
      refine xz_sipush dL_ask_448 (by omega) ?_
      exact xz_iret dL_ask_451 rfl (by simp only [xR]; omega) (by simp only [xR]; omega) hk)
theorem a_addCue (hL : L.stackTraces = false) {d c s v : Nat} {z0 z1 z2 : Int} {Kc K' : xOc → List xOb → Prop} (hd : d < 8) (hc : c ≤ 1) (hs : s ≤ 24) (hv0 : 193 ≤ v) (hv : X[v - 193]? = some (64, [.int (iI z0), .int (iI z1), .int (iI z2)])) (hM : xMet L O mX11_addCue (xR d c s) [.ref 0, .int (iI z0), .int (iI z1), .int (iI z2)] (Wd σ X) Kc)
    (hgood : ∀ (w : Option Value) (G : List xOb), Kc (.inl w) G → ∃ z : Int32, w = some (.int z) ∧ K' (.inl (some (.int z))) G) (hbad : ∀ (E : String) (G : List xOb), Kc (.inr E) G → (E = "java/lang/IndexOutOfBoundsException" ∧ K' (.inl (some (.int (iI (-1001))))) G) ∨ (E = "java/lang/IllegalArgumentException" ∧ K' (.inl (some (.int (iI (-1002))))) G) ∨ (E = "java/lang/IllegalStateException" ∧ K' (.inl (some (.int (iI (-1003))))) G) ∨ (E = "java/lang/UnsupportedOperationException" ∧ K' (.inl (some (.int (iI (-1004))))) G) ∨ (E = "java/util/NoSuchElementException" ∧ K' (.inl (some (.int (iI (-1005))))) G)) : xMet L O mL_cue (xR 8 1 24) [.ref 0, .int (iI 97), .ref v] (Wd σ X) K' := xMet_of (by decide) hL (Nat.le_of_ble_eq_true rfl) (by
  refine xw_eq rfl (l2 := [(0, .ref 0), (1, .int (iI 97)), (2, .ref v)]) rfl rfl rfl ?_
  refine xw_big fun hb => ?_
  rw [Wd_len] at hb
  have hvl := (List.getElem?_eq_some_iff.mp hv).1
  have hg : (Wd σ X)[v]? = some (64, [.int (iI z0), .int (iI z1), .int (iI z2)]) := (Wd_getX hv0).trans hv
  refine xw_iload_n 1 dL_cue_0 rfl ?_
  refine xz_tabIn (off := 107) (tgt := 108) dL_cue_1 (by decide) (by decide) rfl (by decide) ?_
  refine xw_aload_n 0 dL_cue_108 rfl ?_
  refine xw_aload_n 2 dL_cue_109 rfl ?_
  refine xz_iconst dL_cue_110 ?_
  refine xw_iald (j := 0) (by omega) dL_cue_111 rfl hg rfl (by show 3 < 2147483648; decide) rfl ?_
  refine xw_aload_n 2 dL_cue_112 rfl ?_
  refine xz_iconst dL_cue_113 ?_
  refine xw_iald (j := 1) (by omega) dL_cue_114 rfl hg rfl (by show 3 < 2147483648; decide) rfl ?_
  refine xw_aload_n 2 dL_cue_115 rfl ?_
  refine xz_iconst dL_cue_116 ?_
  refine xw_iald (j := 2) (by omega) dL_cue_117 rfl hg rfl (by show 3 < 2147483648; decide) rfl ?_
  refine yc_VE (M' := mX11_addCue) (d := d) (c := c) (s := s) (As := [.int (iI z0), .int (iI z1), .int (iI z2)]) (st := []) dL_cue_118 okX11_addCue (Or.inl w_999) (xBig_i is_0.1) (Wd_get is_0) ⟨by decide, rfl⟩ rfl (Nat.le_of_ble_eq_true rfl) hd (by decide) (by omega) (by omega) hM (fun w9 G9 h9 => ?_) (fun E9 G9 h9 => ?_)
  · obtain ⟨z, rfl, hk⟩ := hgood _ _ h9
    exact xw_iret dL_cue_121 rfl rfl (by simp only [xR]; omega) (by simp only [xR]; omega) hk
  · rcases hbad _ _ h9 with ⟨rfl, hk⟩ | ⟨rfl, hk⟩ | ⟨rfl, hk⟩ | ⟨rfl, hk⟩ | ⟨rfl, hk⟩
    · refine xth_catch (nm := "java/lang/IndexOutOfBoundsException") 0 rfl (by decide) (by decide) w_974 w_1044 (hp_mL_cue (by decide +kernel)) (Or.inl ⟨3, rfl, rfl, dL_cue_244⟩) (by decide) rfl (l2 := [(0, .ref 0), (1, .int (iI 97)), (2, .ref v)]) rfl ?_
      refine xz_sipush dL_cue_245 (by omega) ?_
      exact xz_iret dL_cue_248 rfl (by simp only [xR]; omega) (by simp only [xR]; omega) hk
    · refine xth_catch (nm := "java/lang/IllegalArgumentException") 14 rfl (by decide) (by decide) w_718 w_732 (hp_mL_cue (by decide +kernel)) (Or.inl ⟨3, rfl, rfl, dL_cue_249⟩) (by decide) rfl (l2 := [(0, .ref 0), (1, .int (iI 97)), (2, .ref v)]) rfl ?_
      refine xz_sipush dL_cue_250 (by omega) ?_
      exact xz_iret dL_cue_253 rfl (by simp only [xR]; omega) (by simp only [xR]; omega) hk
    · refine xth_catch (nm := "java/lang/IllegalStateException") 28 rfl (by decide) (by decide) w_719 w_760 (hp_mL_cue (by decide +kernel)) (Or.inl ⟨3, rfl, rfl, dL_cue_254⟩) (by decide) rfl (l2 := [(0, .ref 0), (1, .int (iI 97)), (2, .ref v)]) rfl ?_
      refine xz_sipush dL_cue_255 (by omega) ?_
      exact xz_iret dL_cue_258 rfl (by simp only [xR]; omega) (by simp only [xR]; omega) hk
    · refine xth_catch (nm := "java/lang/UnsupportedOperationException") 42 rfl (by decide) (by decide) w_720 w_911 (hp_mL_cue (by decide +kernel)) (Or.inl ⟨3, rfl, rfl, dL_cue_259⟩) (by decide) rfl (l2 := [(0, .ref 0), (1, .int (iI 97)), (2, .ref v)]) rfl ?_
      refine xz_sipush dL_cue_260 (by omega) ?_
      exact xz_iret dL_cue_263 rfl (by simp only [xR]; omega) (by simp only [xR]; omega) hk
    · refine xth_catch (nm := "java/util/NoSuchElementException") 56 rfl (by decide) (by decide) w_998 w_509 (hp_mL_cue (by decide +kernel)) (Or.inl ⟨3, rfl, rfl, dL_cue_264⟩) (by decide) rfl (l2 := [(0, .ref 0), (1, .int (iI 97)), (2, .ref v)]) rfl ?_
      refine xz_sipush dL_cue_265 (by omega) ?_
      exact xz_iret dL_cue_268 rfl (by simp only [xR]; omega) (by simp only [xR]; omega) hk)
theorem a_addWord (hL : L.stackTraces = false) {d c s v : Nat} {z0 z1 : Int} {Kc K' : xOc → List xOb → Prop} (hd : d < 8) (hc : c ≤ 1) (hs : s ≤ 24) (hv0 : 193 ≤ v) (hv : X[v - 193]? = some (64, [.int (iI z0), .int (iI z1)])) (hM : xMet L O mX11_addWord (xR d c s) [.ref 0, .int (iI z0), .int (iI z1)] (Wd σ X) Kc)
    (hgood : ∀ (w : Option Value) (G : List xOb), Kc (.inl w) G → ∃ z : Int32, w = some (.int z) ∧ K' (.inl (some (.int z))) G) (hbad : ∀ (E : String) (G : List xOb), Kc (.inr E) G → (E = "java/lang/IndexOutOfBoundsException" ∧ K' (.inl (some (.int (iI (-1001))))) G) ∨ (E = "java/lang/IllegalArgumentException" ∧ K' (.inl (some (.int (iI (-1002))))) G) ∨ (E = "java/lang/IllegalStateException" ∧ K' (.inl (some (.int (iI (-1003))))) G) ∨ (E = "java/lang/UnsupportedOperationException" ∧ K' (.inl (some (.int (iI (-1004))))) G) ∨ (E = "java/util/NoSuchElementException" ∧ K' (.inl (some (.int (iI (-1005))))) G)) : xMet L O mL_cue (xR 8 1 24) [.ref 0, .int (iI 119), .ref v] (Wd σ X) K' := xMet_of (by decide) hL (Nat.le_of_ble_eq_true rfl) (by
  refine xw_eq rfl (l2 := [(0, .ref 0), (1, .int (iI 119)), (2, .ref v)]) rfl rfl rfl ?_
  refine xw_big fun hb => ?_
  rw [Wd_len] at hb
  have hvl := (List.getElem?_eq_some_iff.mp hv).1
  have hg : (Wd σ X)[v]? = some (64, [.int (iI z0), .int (iI z1)]) := (Wd_getX hv0).trans hv
  refine xw_iload_n 1 dL_cue_0 rfl ?_
  refine xz_tabIn (off := 121) (tgt := 122) dL_cue_1 (by decide) (by decide) rfl (by decide) ?_
  refine xw_aload_n 0 dL_cue_122 rfl ?_
  refine xw_aload_n 2 dL_cue_123 rfl ?_
  refine xz_iconst dL_cue_124 ?_
  refine xw_iald (j := 0) (by omega) dL_cue_125 rfl hg rfl (by show 2 < 2147483648; decide) rfl ?_
  refine xw_aload_n 2 dL_cue_126 rfl ?_
  refine xz_iconst dL_cue_127 ?_
  refine xw_iald (j := 1) (by omega) dL_cue_128 rfl hg rfl (by show 2 < 2147483648; decide) rfl ?_
  refine yc_VE (M' := mX11_addWord) (d := d) (c := c) (s := s) (As := [.int (iI z0), .int (iI z1)]) (st := []) dL_cue_129 okX11_addWord (Or.inl w_1012) (xBig_i is_0.1) (Wd_get is_0) ⟨by decide, rfl⟩ rfl (Nat.le_of_ble_eq_true rfl) hd (by decide) (by omega) (by omega) hM (fun w9 G9 h9 => ?_) (fun E9 G9 h9 => ?_)
  · obtain ⟨z, rfl, hk⟩ := hgood _ _ h9
    exact xw_iret dL_cue_132 rfl rfl (by simp only [xR]; omega) (by simp only [xR]; omega) hk
  · rcases hbad _ _ h9 with ⟨rfl, hk⟩ | ⟨rfl, hk⟩ | ⟨rfl, hk⟩ | ⟨rfl, hk⟩ | ⟨rfl, hk⟩
    · refine xth_catch (nm := "java/lang/IndexOutOfBoundsException") 1 rfl (by decide) (by decide) w_974 w_1044 (hp_mL_cue (by decide +kernel)) (Or.inl ⟨3, rfl, rfl, dL_cue_244⟩) (by decide) rfl (l2 := [(0, .ref 0), (1, .int (iI 119)), (2, .ref v)]) rfl ?_
      refine xz_sipush dL_cue_245 (by omega) ?_
      exact xz_iret dL_cue_248 rfl (by simp only [xR]; omega) (by simp only [xR]; omega) hk
    · refine xth_catch (nm := "java/lang/IllegalArgumentException") 15 rfl (by decide) (by decide) w_718 w_732 (hp_mL_cue (by decide +kernel)) (Or.inl ⟨3, rfl, rfl, dL_cue_249⟩) (by decide) rfl (l2 := [(0, .ref 0), (1, .int (iI 119)), (2, .ref v)]) rfl ?_
      refine xz_sipush dL_cue_250 (by omega) ?_
      exact xz_iret dL_cue_253 rfl (by simp only [xR]; omega) (by simp only [xR]; omega) hk
    · refine xth_catch (nm := "java/lang/IllegalStateException") 29 rfl (by decide) (by decide) w_719 w_760 (hp_mL_cue (by decide +kernel)) (Or.inl ⟨3, rfl, rfl, dL_cue_254⟩) (by decide) rfl (l2 := [(0, .ref 0), (1, .int (iI 119)), (2, .ref v)]) rfl ?_
      refine xz_sipush dL_cue_255 (by omega) ?_
      exact xz_iret dL_cue_258 rfl (by simp only [xR]; omega) (by simp only [xR]; omega) hk
    · refine xth_catch (nm := "java/lang/UnsupportedOperationException") 43 rfl (by decide) (by decide) w_720 w_911 (hp_mL_cue (by decide +kernel)) (Or.inl ⟨3, rfl, rfl, dL_cue_259⟩) (by decide) rfl (l2 := [(0, .ref 0), (1, .int (iI 119)), (2, .ref v)]) rfl ?_
      refine xz_sipush dL_cue_260 (by omega) ?_
      exact xz_iret dL_cue_263 rfl (by simp only [xR]; omega) (by simp only [xR]; omega) hk
    · refine xth_catch (nm := "java/util/NoSuchElementException") 57 rfl (by decide) (by decide) w_998 w_509 (hp_mL_cue (by decide +kernel)) (Or.inl ⟨3, rfl, rfl, dL_cue_264⟩) (by decide) rfl (l2 := [(0, .ref 0), (1, .int (iI 119)), (2, .ref v)]) rfl ?_
      refine xz_sipush dL_cue_265 (by omega) ?_
      exact xz_iret dL_cue_268 rfl (by simp only [xR]; omega) (by simp only [xR]; omega) hk)
theorem a_dropCue (hL : L.stackTraces = false) {d c s v : Nat} {z0 : Int} {Kc K' : xOc → List xOb → Prop} (hd : d < 8) (hc : c ≤ 1) (hs : s ≤ 24) (hv0 : 193 ≤ v) (hv : X[v - 193]? = some (64, [.int (iI z0)])) (hM : xMet L O mX11_dropCue (xR d c s) [.ref 0, .int (iI z0)] (Wd σ X) Kc)
    (hgood : ∀ (w : Option Value) (G : List xOb), Kc (.inl w) G → ∃ z : Int32, w = some (.int z) ∧ K' (.inl (some (.int z))) G) (hbad : ∀ (E : String) (G : List xOb), Kc (.inr E) G → (E = "java/lang/IndexOutOfBoundsException" ∧ K' (.inl (some (.int (iI (-1001))))) G) ∨ (E = "java/lang/IllegalArgumentException" ∧ K' (.inl (some (.int (iI (-1002))))) G) ∨ (E = "java/lang/IllegalStateException" ∧ K' (.inl (some (.int (iI (-1003))))) G) ∨ (E = "java/lang/UnsupportedOperationException" ∧ K' (.inl (some (.int (iI (-1004))))) G) ∨ (E = "java/util/NoSuchElementException" ∧ K' (.inl (some (.int (iI (-1005))))) G)) : xMet L O mL_cue (xR 8 1 24) [.ref 0, .int (iI 100), .ref v] (Wd σ X) K' := xMet_of (by decide) hL (Nat.le_of_ble_eq_true rfl) (by
  refine xw_eq rfl (l2 := [(0, .ref 0), (1, .int (iI 100)), (2, .ref v)]) rfl rfl rfl ?_
  refine xw_big fun hb => ?_
  rw [Wd_len] at hb
  have hvl := (List.getElem?_eq_some_iff.mp hv).1
  have hg : (Wd σ X)[v]? = some (64, [.int (iI z0)]) := (Wd_getX hv0).trans hv
  refine xw_iload_n 1 dL_cue_0 rfl ?_
  refine xz_tabIn (off := 132) (tgt := 133) dL_cue_1 (by decide) (by decide) rfl (by decide) ?_
  refine xw_aload_n 0 dL_cue_133 rfl ?_
  refine xw_aload_n 2 dL_cue_134 rfl ?_
  refine xz_iconst dL_cue_135 ?_
  refine xw_iald (j := 0) (by omega) dL_cue_136 rfl hg rfl (by show 1 < 2147483648; decide) rfl ?_
  refine yc_VE (M' := mX11_dropCue) (d := d) (c := c) (s := s) (As := [.int (iI z0)]) (st := []) dL_cue_137 okX11_dropCue (Or.inl w_1022) (xBig_i is_0.1) (Wd_get is_0) ⟨by decide, rfl⟩ rfl (Nat.le_of_ble_eq_true rfl) hd (by decide) (by omega) (by omega) hM (fun w9 G9 h9 => ?_) (fun E9 G9 h9 => ?_)
  · obtain ⟨z, rfl, hk⟩ := hgood _ _ h9
    exact xw_iret dL_cue_140 rfl rfl (by simp only [xR]; omega) (by simp only [xR]; omega) hk
  · rcases hbad _ _ h9 with ⟨rfl, hk⟩ | ⟨rfl, hk⟩ | ⟨rfl, hk⟩ | ⟨rfl, hk⟩ | ⟨rfl, hk⟩
    · refine xth_catch (nm := "java/lang/IndexOutOfBoundsException") 2 rfl (by decide) (by decide) w_974 w_1044 (hp_mL_cue (by decide +kernel)) (Or.inl ⟨3, rfl, rfl, dL_cue_244⟩) (by decide) rfl (l2 := [(0, .ref 0), (1, .int (iI 100)), (2, .ref v)]) rfl ?_
      refine xz_sipush dL_cue_245 (by omega) ?_
      exact xz_iret dL_cue_248 rfl (by simp only [xR]; omega) (by simp only [xR]; omega) hk
    · refine xth_catch (nm := "java/lang/IllegalArgumentException") 16 rfl (by decide) (by decide) w_718 w_732 (hp_mL_cue (by decide +kernel)) (Or.inl ⟨3, rfl, rfl, dL_cue_249⟩) (by decide) rfl (l2 := [(0, .ref 0), (1, .int (iI 100)), (2, .ref v)]) rfl ?_
      refine xz_sipush dL_cue_250 (by omega) ?_
      exact xz_iret dL_cue_253 rfl (by simp only [xR]; omega) (by simp only [xR]; omega) hk
    · refine xth_catch (nm := "java/lang/IllegalStateException") 30 rfl (by decide) (by decide) w_719 w_760 (hp_mL_cue (by decide +kernel)) (Or.inl ⟨3, rfl, rfl, dL_cue_254⟩) (by decide) rfl (l2 := [(0, .ref 0), (1, .int (iI 100)), (2, .ref v)]) rfl ?_
      refine xz_sipush dL_cue_255 (by omega) ?_
      exact xz_iret dL_cue_258 rfl (by simp only [xR]; omega) (by simp only [xR]; omega) hk
    · refine xth_catch (nm := "java/lang/UnsupportedOperationException") 44 rfl (by decide) (by decide) w_720 w_911 (hp_mL_cue (by decide +kernel)) (Or.inl ⟨3, rfl, rfl, dL_cue_259⟩) (by decide) rfl (l2 := [(0, .ref 0), (1, .int (iI 100)), (2, .ref v)]) rfl ?_
      refine xz_sipush dL_cue_260 (by omega) ?_
      exact xz_iret dL_cue_263 rfl (by simp only [xR]; omega) (by simp only [xR]; omega) hk
    · refine xth_catch (nm := "java/util/NoSuchElementException") 58 rfl (by decide) (by decide) w_998 w_509 (hp_mL_cue (by decide +kernel)) (Or.inl ⟨3, rfl, rfl, dL_cue_264⟩) (by decide) rfl (l2 := [(0, .ref 0), (1, .int (iI 100)), (2, .ref v)]) rfl ?_
      refine xz_sipush dL_cue_265 (by omega) ?_
      exact xz_iret dL_cue_268 rfl (by simp only [xR]; omega) (by simp only [xR]; omega) hk)
theorem a_startOf (hL : L.stackTraces = false) {d c s v : Nat} {z0 : Int} {Kc K' : xOc → List xOb → Prop} (hd : d < 8) (hc : c ≤ 1) (hs : s ≤ 24) (hv0 : 193 ≤ v) (hv : X[v - 193]? = some (64, [.int (iI z0)])) (hM : xMet L O mX11_startOf (xR d c s) [.ref 0, .int (iI z0)] (Wd σ X) Kc)
    (hgood : ∀ (w : Option Value) (G : List xOb), Kc (.inl w) G → ∃ z : Int32, w = some (.int z) ∧ K' (.inl (some (.int z))) G) (hbad : ∀ (E : String) (G : List xOb), Kc (.inr E) G → (E = "java/lang/IndexOutOfBoundsException" ∧ K' (.inl (some (.int (iI (-1001))))) G) ∨ (E = "java/lang/IllegalArgumentException" ∧ K' (.inl (some (.int (iI (-1002))))) G) ∨ (E = "java/lang/IllegalStateException" ∧ K' (.inl (some (.int (iI (-1003))))) G) ∨ (E = "java/lang/UnsupportedOperationException" ∧ K' (.inl (some (.int (iI (-1004))))) G) ∨ (E = "java/util/NoSuchElementException" ∧ K' (.inl (some (.int (iI (-1005))))) G)) : xMet L O mL_cue (xR 8 1 24) [.ref 0, .int (iI 115), .ref v] (Wd σ X) K' := xMet_of (by decide) hL (Nat.le_of_ble_eq_true rfl) (by
  refine xw_eq rfl (l2 := [(0, .ref 0), (1, .int (iI 115)), (2, .ref v)]) rfl rfl rfl ?_
  refine xw_big fun hb => ?_
  rw [Wd_len] at hb
  have hvl := (List.getElem?_eq_some_iff.mp hv).1
  have hg : (Wd σ X)[v]? = some (64, [.int (iI z0)]) := (Wd_getX hv0).trans hv
  refine xw_iload_n 1 dL_cue_0 rfl ?_
  refine xz_tabIn (off := 140) (tgt := 141) dL_cue_1 (by decide) (by decide) rfl (by decide) ?_
  refine xw_aload_n 0 dL_cue_141 rfl ?_
  refine xw_aload_n 2 dL_cue_142 rfl ?_
  refine xz_iconst dL_cue_143 ?_
  refine xw_iald (j := 0) (by omega) dL_cue_144 rfl hg rfl (by show 1 < 2147483648; decide) rfl ?_
  refine yc_VE (M' := mX11_startOf) (d := d) (c := c) (s := s) (As := [.int (iI z0)]) (st := []) dL_cue_145 okX11_startOf (Or.inl w_1026) (xBig_i is_0.1) (Wd_get is_0) ⟨by decide, rfl⟩ rfl (Nat.le_of_ble_eq_true rfl) hd (by decide) (by omega) (by omega) hM (fun w9 G9 h9 => ?_) (fun E9 G9 h9 => ?_)
  · obtain ⟨z, rfl, hk⟩ := hgood _ _ h9
    exact xw_iret dL_cue_148 rfl rfl (by simp only [xR]; omega) (by simp only [xR]; omega) hk
  · rcases hbad _ _ h9 with ⟨rfl, hk⟩ | ⟨rfl, hk⟩ | ⟨rfl, hk⟩ | ⟨rfl, hk⟩ | ⟨rfl, hk⟩
    · refine xth_catch (nm := "java/lang/IndexOutOfBoundsException") 3 rfl (by decide) (by decide) w_974 w_1044 (hp_mL_cue (by decide +kernel)) (Or.inl ⟨3, rfl, rfl, dL_cue_244⟩) (by decide) rfl (l2 := [(0, .ref 0), (1, .int (iI 115)), (2, .ref v)]) rfl ?_
      refine xz_sipush dL_cue_245 (by omega) ?_
      exact xz_iret dL_cue_248 rfl (by simp only [xR]; omega) (by simp only [xR]; omega) hk
    · refine xth_catch (nm := "java/lang/IllegalArgumentException") 17 rfl (by decide) (by decide) w_718 w_732 (hp_mL_cue (by decide +kernel)) (Or.inl ⟨3, rfl, rfl, dL_cue_249⟩) (by decide) rfl (l2 := [(0, .ref 0), (1, .int (iI 115)), (2, .ref v)]) rfl ?_
      refine xz_sipush dL_cue_250 (by omega) ?_
      exact xz_iret dL_cue_253 rfl (by simp only [xR]; omega) (by simp only [xR]; omega) hk
    · refine xth_catch (nm := "java/lang/IllegalStateException") 31 rfl (by decide) (by decide) w_719 w_760 (hp_mL_cue (by decide +kernel)) (Or.inl ⟨3, rfl, rfl, dL_cue_254⟩) (by decide) rfl (l2 := [(0, .ref 0), (1, .int (iI 115)), (2, .ref v)]) rfl ?_
      refine xz_sipush dL_cue_255 (by omega) ?_
      exact xz_iret dL_cue_258 rfl (by simp only [xR]; omega) (by simp only [xR]; omega) hk
    · refine xth_catch (nm := "java/lang/UnsupportedOperationException") 45 rfl (by decide) (by decide) w_720 w_911 (hp_mL_cue (by decide +kernel)) (Or.inl ⟨3, rfl, rfl, dL_cue_259⟩) (by decide) rfl (l2 := [(0, .ref 0), (1, .int (iI 115)), (2, .ref v)]) rfl ?_
      refine xz_sipush dL_cue_260 (by omega) ?_
      exact xz_iret dL_cue_263 rfl (by simp only [xR]; omega) (by simp only [xR]; omega) hk
    · refine xth_catch (nm := "java/util/NoSuchElementException") 59 rfl (by decide) (by decide) w_998 w_509 (hp_mL_cue (by decide +kernel)) (Or.inl ⟨3, rfl, rfl, dL_cue_264⟩) (by decide) rfl (l2 := [(0, .ref 0), (1, .int (iI 115)), (2, .ref v)]) rfl ?_
      refine xz_sipush dL_cue_265 (by omega) ?_
      exact xz_iret dL_cue_268 rfl (by simp only [xR]; omega) (by simp only [xR]; omega) hk)
theorem a_endOf (hL : L.stackTraces = false) {d c s v : Nat} {z0 : Int} {Kc K' : xOc → List xOb → Prop} (hd : d < 8) (hc : c ≤ 1) (hs : s ≤ 24) (hv0 : 193 ≤ v) (hv : X[v - 193]? = some (64, [.int (iI z0)])) (hM : xMet L O mX11_endOf (xR d c s) [.ref 0, .int (iI z0)] (Wd σ X) Kc)
    (hgood : ∀ (w : Option Value) (G : List xOb), Kc (.inl w) G → ∃ z : Int32, w = some (.int z) ∧ K' (.inl (some (.int z))) G) (hbad : ∀ (E : String) (G : List xOb), Kc (.inr E) G → (E = "java/lang/IndexOutOfBoundsException" ∧ K' (.inl (some (.int (iI (-1001))))) G) ∨ (E = "java/lang/IllegalArgumentException" ∧ K' (.inl (some (.int (iI (-1002))))) G) ∨ (E = "java/lang/IllegalStateException" ∧ K' (.inl (some (.int (iI (-1003))))) G) ∨ (E = "java/lang/UnsupportedOperationException" ∧ K' (.inl (some (.int (iI (-1004))))) G) ∨ (E = "java/util/NoSuchElementException" ∧ K' (.inl (some (.int (iI (-1005))))) G)) : xMet L O mL_cue (xR 8 1 24) [.ref 0, .int (iI 101), .ref v] (Wd σ X) K' := xMet_of (by decide) hL (Nat.le_of_ble_eq_true rfl) (by
  refine xw_eq rfl (l2 := [(0, .ref 0), (1, .int (iI 101)), (2, .ref v)]) rfl rfl rfl ?_
  refine xw_big fun hb => ?_
  rw [Wd_len] at hb
  have hvl := (List.getElem?_eq_some_iff.mp hv).1
  have hg : (Wd σ X)[v]? = some (64, [.int (iI z0)]) := (Wd_getX hv0).trans hv
  refine xw_iload_n 1 dL_cue_0 rfl ?_
  refine xz_tabIn (off := 148) (tgt := 149) dL_cue_1 (by decide) (by decide) rfl (by decide) ?_
  refine xw_aload_n 0 dL_cue_149 rfl ?_
  refine xw_aload_n 2 dL_cue_150 rfl ?_
  refine xz_iconst dL_cue_151 ?_
  refine xw_iald (j := 0) (by omega) dL_cue_152 rfl hg rfl (by show 1 < 2147483648; decide) rfl ?_
  refine yc_VE (M' := mX11_endOf) (d := d) (c := c) (s := s) (As := [.int (iI z0)]) (st := []) dL_cue_153 okX11_endOf (Or.inl w_1030) (xBig_i is_0.1) (Wd_get is_0) ⟨by decide, rfl⟩ rfl (Nat.le_of_ble_eq_true rfl) hd (by decide) (by omega) (by omega) hM (fun w9 G9 h9 => ?_) (fun E9 G9 h9 => ?_)
  · obtain ⟨z, rfl, hk⟩ := hgood _ _ h9
    exact xw_iret dL_cue_156 rfl rfl (by simp only [xR]; omega) (by simp only [xR]; omega) hk
  · rcases hbad _ _ h9 with ⟨rfl, hk⟩ | ⟨rfl, hk⟩ | ⟨rfl, hk⟩ | ⟨rfl, hk⟩ | ⟨rfl, hk⟩
    · refine xth_catch (nm := "java/lang/IndexOutOfBoundsException") 4 rfl (by decide) (by decide) w_974 w_1044 (hp_mL_cue (by decide +kernel)) (Or.inl ⟨3, rfl, rfl, dL_cue_244⟩) (by decide) rfl (l2 := [(0, .ref 0), (1, .int (iI 101)), (2, .ref v)]) rfl ?_
      refine xz_sipush dL_cue_245 (by omega) ?_
      exact xz_iret dL_cue_248 rfl (by simp only [xR]; omega) (by simp only [xR]; omega) hk
    · refine xth_catch (nm := "java/lang/IllegalArgumentException") 18 rfl (by decide) (by decide) w_718 w_732 (hp_mL_cue (by decide +kernel)) (Or.inl ⟨3, rfl, rfl, dL_cue_249⟩) (by decide) rfl (l2 := [(0, .ref 0), (1, .int (iI 101)), (2, .ref v)]) rfl ?_
      refine xz_sipush dL_cue_250 (by omega) ?_
      exact xz_iret dL_cue_253 rfl (by simp only [xR]; omega) (by simp only [xR]; omega) hk
    · refine xth_catch (nm := "java/lang/IllegalStateException") 32 rfl (by decide) (by decide) w_719 w_760 (hp_mL_cue (by decide +kernel)) (Or.inl ⟨3, rfl, rfl, dL_cue_254⟩) (by decide) rfl (l2 := [(0, .ref 0), (1, .int (iI 101)), (2, .ref v)]) rfl ?_
      refine xz_sipush dL_cue_255 (by omega) ?_
      exact xz_iret dL_cue_258 rfl (by simp only [xR]; omega) (by simp only [xR]; omega) hk
    · refine xth_catch (nm := "java/lang/UnsupportedOperationException") 46 rfl (by decide) (by decide) w_720 w_911 (hp_mL_cue (by decide +kernel)) (Or.inl ⟨3, rfl, rfl, dL_cue_259⟩) (by decide) rfl (l2 := [(0, .ref 0), (1, .int (iI 101)), (2, .ref v)]) rfl ?_
      refine xz_sipush dL_cue_260 (by omega) ?_
      exact xz_iret dL_cue_263 rfl (by simp only [xR]; omega) (by simp only [xR]; omega) hk
    · refine xth_catch (nm := "java/util/NoSuchElementException") 60 rfl (by decide) (by decide) w_998 w_509 (hp_mL_cue (by decide +kernel)) (Or.inl ⟨3, rfl, rfl, dL_cue_264⟩) (by decide) rfl (l2 := [(0, .ref 0), (1, .int (iI 101)), (2, .ref v)]) rfl ?_
      refine xz_sipush dL_cue_265 (by omega) ?_
      exact xz_iret dL_cue_268 rfl (by simp only [xR]; omega) (by simp only [xR]; omega) hk)
theorem a_lines (hL : L.stackTraces = false) {d c s v : Nat} {z0 : Int} {Kc K' : xOc → List xOb → Prop} (hd : d < 8) (hc : c ≤ 1) (hs : s ≤ 24) (hv0 : 193 ≤ v) (hv : X[v - 193]? = some (64, [.int (iI z0)])) (hM : xMet L O mX11_lines (xR d c s) [.ref 0, .int (iI z0)] (Wd σ X) Kc)
    (hgood : ∀ (w : Option Value) (G : List xOb), Kc (.inl w) G → ∃ z : Int32, w = some (.int z) ∧ K' (.inl (some (.int z))) G) (hbad : ∀ (E : String) (G : List xOb), Kc (.inr E) G → (E = "java/lang/IndexOutOfBoundsException" ∧ K' (.inl (some (.int (iI (-1001))))) G) ∨ (E = "java/lang/IllegalArgumentException" ∧ K' (.inl (some (.int (iI (-1002))))) G) ∨ (E = "java/lang/IllegalStateException" ∧ K' (.inl (some (.int (iI (-1003))))) G) ∨ (E = "java/lang/UnsupportedOperationException" ∧ K' (.inl (some (.int (iI (-1004))))) G) ∨ (E = "java/util/NoSuchElementException" ∧ K' (.inl (some (.int (iI (-1005))))) G)) : xMet L O mL_cue (xR 8 1 24) [.ref 0, .int (iI 108), .ref v] (Wd σ X) K' := xMet_of (by decide) hL (Nat.le_of_ble_eq_true rfl) (by
  refine xw_eq rfl (l2 := [(0, .ref 0), (1, .int (iI 108)), (2, .ref v)]) rfl rfl rfl ?_
  refine xw_big fun hb => ?_
  rw [Wd_len] at hb
  have hvl := (List.getElem?_eq_some_iff.mp hv).1
  have hg : (Wd σ X)[v]? = some (64, [.int (iI z0)]) := (Wd_getX hv0).trans hv
  refine xw_iload_n 1 dL_cue_0 rfl ?_
  refine xz_tabIn (off := 156) (tgt := 157) dL_cue_1 (by decide) (by decide) rfl (by decide) ?_
  refine xw_aload_n 0 dL_cue_157 rfl ?_
  refine xw_aload_n 2 dL_cue_158 rfl ?_
  refine xz_iconst dL_cue_159 ?_
  refine xw_iald (j := 0) (by omega) dL_cue_160 rfl hg rfl (by show 1 < 2147483648; decide) rfl ?_
  refine yc_VE (M' := mX11_lines) (d := d) (c := c) (s := s) (As := [.int (iI z0)]) (st := []) dL_cue_161 okX11_lines (Or.inl w_1034) (xBig_i is_0.1) (Wd_get is_0) ⟨by decide, rfl⟩ rfl (Nat.le_of_ble_eq_true rfl) hd (by decide) (by omega) (by omega) hM (fun w9 G9 h9 => ?_) (fun E9 G9 h9 => ?_)
  · obtain ⟨z, rfl, hk⟩ := hgood _ _ h9
    exact xw_iret dL_cue_164 rfl rfl (by simp only [xR]; omega) (by simp only [xR]; omega) hk
  · rcases hbad _ _ h9 with ⟨rfl, hk⟩ | ⟨rfl, hk⟩ | ⟨rfl, hk⟩ | ⟨rfl, hk⟩ | ⟨rfl, hk⟩
    · refine xth_catch (nm := "java/lang/IndexOutOfBoundsException") 5 rfl (by decide) (by decide) w_974 w_1044 (hp_mL_cue (by decide +kernel)) (Or.inl ⟨3, rfl, rfl, dL_cue_244⟩) (by decide) rfl (l2 := [(0, .ref 0), (1, .int (iI 108)), (2, .ref v)]) rfl ?_
      refine xz_sipush dL_cue_245 (by omega) ?_
      exact xz_iret dL_cue_248 rfl (by simp only [xR]; omega) (by simp only [xR]; omega) hk
    · refine xth_catch (nm := "java/lang/IllegalArgumentException") 19 rfl (by decide) (by decide) w_718 w_732 (hp_mL_cue (by decide +kernel)) (Or.inl ⟨3, rfl, rfl, dL_cue_249⟩) (by decide) rfl (l2 := [(0, .ref 0), (1, .int (iI 108)), (2, .ref v)]) rfl ?_
      refine xz_sipush dL_cue_250 (by omega) ?_
      exact xz_iret dL_cue_253 rfl (by simp only [xR]; omega) (by simp only [xR]; omega) hk
    · refine xth_catch (nm := "java/lang/IllegalStateException") 33 rfl (by decide) (by decide) w_719 w_760 (hp_mL_cue (by decide +kernel)) (Or.inl ⟨3, rfl, rfl, dL_cue_254⟩) (by decide) rfl (l2 := [(0, .ref 0), (1, .int (iI 108)), (2, .ref v)]) rfl ?_
      refine xz_sipush dL_cue_255 (by omega) ?_
      exact xz_iret dL_cue_258 rfl (by simp only [xR]; omega) (by simp only [xR]; omega) hk
    · refine xth_catch (nm := "java/lang/UnsupportedOperationException") 47 rfl (by decide) (by decide) w_720 w_911 (hp_mL_cue (by decide +kernel)) (Or.inl ⟨3, rfl, rfl, dL_cue_259⟩) (by decide) rfl (l2 := [(0, .ref 0), (1, .int (iI 108)), (2, .ref v)]) rfl ?_
      refine xz_sipush dL_cue_260 (by omega) ?_
      exact xz_iret dL_cue_263 rfl (by simp only [xR]; omega) (by simp only [xR]; omega) hk
    · refine xth_catch (nm := "java/util/NoSuchElementException") 61 rfl (by decide) (by decide) w_998 w_509 (hp_mL_cue (by decide +kernel)) (Or.inl ⟨3, rfl, rfl, dL_cue_264⟩) (by decide) rfl (l2 := [(0, .ref 0), (1, .int (iI 108)), (2, .ref v)]) rfl ?_
      refine xz_sipush dL_cue_265 (by omega) ?_
      exact xz_iret dL_cue_268 rfl (by simp only [xR]; omega) (by simp only [xR]; omega) hk)
theorem a_wordsIn (hL : L.stackTraces = false) {d c s v : Nat} {z0 z1 : Int} {Kc K' : xOc → List xOb → Prop} (hd : d < 8) (hc : c ≤ 1) (hs : s ≤ 24) (hv0 : 193 ≤ v) (hv : X[v - 193]? = some (64, [.int (iI z0), .int (iI z1)])) (hM : xMet L O mX11_wordsIn (xR d c s) [.ref 0, .int (iI z0), .int (iI z1)] (Wd σ X) Kc)
    (hgood : ∀ (w : Option Value) (G : List xOb), Kc (.inl w) G → ∃ z : Int32, w = some (.int z) ∧ K' (.inl (some (.int z))) G) (hbad : ∀ (E : String) (G : List xOb), Kc (.inr E) G → (E = "java/lang/IndexOutOfBoundsException" ∧ K' (.inl (some (.int (iI (-1001))))) G) ∨ (E = "java/lang/IllegalArgumentException" ∧ K' (.inl (some (.int (iI (-1002))))) G) ∨ (E = "java/lang/IllegalStateException" ∧ K' (.inl (some (.int (iI (-1003))))) G) ∨ (E = "java/lang/UnsupportedOperationException" ∧ K' (.inl (some (.int (iI (-1004))))) G) ∨ (E = "java/util/NoSuchElementException" ∧ K' (.inl (some (.int (iI (-1005))))) G)) : xMet L O mL_cue (xR 8 1 24) [.ref 0, .int (iI 105), .ref v] (Wd σ X) K' := xMet_of (by decide) hL (Nat.le_of_ble_eq_true rfl) (by
  refine xw_eq rfl (l2 := [(0, .ref 0), (1, .int (iI 105)), (2, .ref v)]) rfl rfl rfl ?_
  refine xw_big fun hb => ?_
  rw [Wd_len] at hb
  have hvl := (List.getElem?_eq_some_iff.mp hv).1
  have hg : (Wd σ X)[v]? = some (64, [.int (iI z0), .int (iI z1)]) := (Wd_getX hv0).trans hv
  refine xw_iload_n 1 dL_cue_0 rfl ?_
  refine xz_tabIn (off := 164) (tgt := 165) dL_cue_1 (by decide) (by decide) rfl (by decide) ?_
  refine xw_aload_n 0 dL_cue_165 rfl ?_
  refine xw_aload_n 2 dL_cue_166 rfl ?_
  refine xz_iconst dL_cue_167 ?_
  refine xw_iald (j := 0) (by omega) dL_cue_168 rfl hg rfl (by show 2 < 2147483648; decide) rfl ?_
  refine xw_aload_n 2 dL_cue_169 rfl ?_
  refine xz_iconst dL_cue_170 ?_
  refine xw_iald (j := 1) (by omega) dL_cue_171 rfl hg rfl (by show 2 < 2147483648; decide) rfl ?_
  refine yc_VE (M' := mX11_wordsIn) (d := d) (c := c) (s := s) (As := [.int (iI z0), .int (iI z1)]) (st := []) dL_cue_172 okX11_wordsIn (Or.inl w_1038) (xBig_i is_0.1) (Wd_get is_0) ⟨by decide, rfl⟩ rfl (Nat.le_of_ble_eq_true rfl) hd (by decide) (by omega) (by omega) hM (fun w9 G9 h9 => ?_) (fun E9 G9 h9 => ?_)
  · obtain ⟨z, rfl, hk⟩ := hgood _ _ h9
    exact xw_iret dL_cue_175 rfl rfl (by simp only [xR]; omega) (by simp only [xR]; omega) hk
  · rcases hbad _ _ h9 with ⟨rfl, hk⟩ | ⟨rfl, hk⟩ | ⟨rfl, hk⟩ | ⟨rfl, hk⟩ | ⟨rfl, hk⟩
    · refine xth_catch (nm := "java/lang/IndexOutOfBoundsException") 6 rfl (by decide) (by decide) w_974 w_1044 (hp_mL_cue (by decide +kernel)) (Or.inl ⟨3, rfl, rfl, dL_cue_244⟩) (by decide) rfl (l2 := [(0, .ref 0), (1, .int (iI 105)), (2, .ref v)]) rfl ?_
      refine xz_sipush dL_cue_245 (by omega) ?_
      exact xz_iret dL_cue_248 rfl (by simp only [xR]; omega) (by simp only [xR]; omega) hk
    · refine xth_catch (nm := "java/lang/IllegalArgumentException") 20 rfl (by decide) (by decide) w_718 w_732 (hp_mL_cue (by decide +kernel)) (Or.inl ⟨3, rfl, rfl, dL_cue_249⟩) (by decide) rfl (l2 := [(0, .ref 0), (1, .int (iI 105)), (2, .ref v)]) rfl ?_
      refine xz_sipush dL_cue_250 (by omega) ?_
      exact xz_iret dL_cue_253 rfl (by simp only [xR]; omega) (by simp only [xR]; omega) hk
    · refine xth_catch (nm := "java/lang/IllegalStateException") 34 rfl (by decide) (by decide) w_719 w_760 (hp_mL_cue (by decide +kernel)) (Or.inl ⟨3, rfl, rfl, dL_cue_254⟩) (by decide) rfl (l2 := [(0, .ref 0), (1, .int (iI 105)), (2, .ref v)]) rfl ?_
      refine xz_sipush dL_cue_255 (by omega) ?_
      exact xz_iret dL_cue_258 rfl (by simp only [xR]; omega) (by simp only [xR]; omega) hk
    · refine xth_catch (nm := "java/lang/UnsupportedOperationException") 48 rfl (by decide) (by decide) w_720 w_911 (hp_mL_cue (by decide +kernel)) (Or.inl ⟨3, rfl, rfl, dL_cue_259⟩) (by decide) rfl (l2 := [(0, .ref 0), (1, .int (iI 105)), (2, .ref v)]) rfl ?_
      refine xz_sipush dL_cue_260 (by omega) ?_
      exact xz_iret dL_cue_263 rfl (by simp only [xR]; omega) (by simp only [xR]; omega) hk
    · refine xth_catch (nm := "java/util/NoSuchElementException") 62 rfl (by decide) (by decide) w_998 w_509 (hp_mL_cue (by decide +kernel)) (Or.inl ⟨3, rfl, rfl, dL_cue_264⟩) (by decide) rfl (l2 := [(0, .ref 0), (1, .int (iI 105)), (2, .ref v)]) rfl ?_
      refine xz_sipush dL_cue_265 (by omega) ?_
      exact xz_iret dL_cue_268 rfl (by simp only [xR]; omega) (by simp only [xR]; omega) hk)
theorem a_rowOf (hL : L.stackTraces = false) {d c s v : Nat} {z0 : Int} {Kc K' : xOc → List xOb → Prop} (hd : d < 8) (hc : c ≤ 1) (hs : s ≤ 24) (hv0 : 193 ≤ v) (hv : X[v - 193]? = some (64, [.int (iI z0)])) (hM : xMet L O mX11_rowOf (xR d c s) [.ref 0, .int (iI z0)] (Wd σ X) Kc)
    (hgood : ∀ (w : Option Value) (G : List xOb), Kc (.inl w) G → ∃ z : Int32, w = some (.int z) ∧ K' (.inl (some (.int z))) G) (hbad : ∀ (E : String) (G : List xOb), Kc (.inr E) G → (E = "java/lang/IndexOutOfBoundsException" ∧ K' (.inl (some (.int (iI (-1001))))) G) ∨ (E = "java/lang/IllegalArgumentException" ∧ K' (.inl (some (.int (iI (-1002))))) G) ∨ (E = "java/lang/IllegalStateException" ∧ K' (.inl (some (.int (iI (-1003))))) G) ∨ (E = "java/lang/UnsupportedOperationException" ∧ K' (.inl (some (.int (iI (-1004))))) G) ∨ (E = "java/util/NoSuchElementException" ∧ K' (.inl (some (.int (iI (-1005))))) G)) : xMet L O mL_cue (xR 8 1 24) [.ref 0, .int (iI 114), .ref v] (Wd σ X) K' := xMet_of (by decide) hL (Nat.le_of_ble_eq_true rfl) (by
  refine xw_eq rfl (l2 := [(0, .ref 0), (1, .int (iI 114)), (2, .ref v)]) rfl rfl rfl ?_
  refine xw_big fun hb => ?_
  rw [Wd_len] at hb
  have hvl := (List.getElem?_eq_some_iff.mp hv).1
  have hg : (Wd σ X)[v]? = some (64, [.int (iI z0)]) := (Wd_getX hv0).trans hv
  refine xw_iload_n 1 dL_cue_0 rfl ?_
  refine xz_tabIn (off := 175) (tgt := 176) dL_cue_1 (by decide) (by decide) rfl (by decide) ?_
  refine xw_aload_n 0 dL_cue_176 rfl ?_
  refine xw_aload_n 2 dL_cue_177 rfl ?_
  refine xz_iconst dL_cue_178 ?_
  refine xw_iald (j := 0) (by omega) dL_cue_179 rfl hg rfl (by show 1 < 2147483648; decide) rfl ?_
  refine yc_VE (M' := mX11_rowOf) (d := d) (c := c) (s := s) (As := [.int (iI z0)]) (st := []) dL_cue_180 okX11_rowOf (Or.inl w_1055) (xBig_i is_0.1) (Wd_get is_0) ⟨by decide, rfl⟩ rfl (Nat.le_of_ble_eq_true rfl) hd (by decide) (by omega) (by omega) hM (fun w9 G9 h9 => ?_) (fun E9 G9 h9 => ?_)
  · obtain ⟨z, rfl, hk⟩ := hgood _ _ h9
    exact xw_iret dL_cue_183 rfl rfl (by simp only [xR]; omega) (by simp only [xR]; omega) hk
  · rcases hbad _ _ h9 with ⟨rfl, hk⟩ | ⟨rfl, hk⟩ | ⟨rfl, hk⟩ | ⟨rfl, hk⟩ | ⟨rfl, hk⟩
    · refine xth_catch (nm := "java/lang/IndexOutOfBoundsException") 7 rfl (by decide) (by decide) w_974 w_1044 (hp_mL_cue (by decide +kernel)) (Or.inl ⟨3, rfl, rfl, dL_cue_244⟩) (by decide) rfl (l2 := [(0, .ref 0), (1, .int (iI 114)), (2, .ref v)]) rfl ?_
      refine xz_sipush dL_cue_245 (by omega) ?_
      exact xz_iret dL_cue_248 rfl (by simp only [xR]; omega) (by simp only [xR]; omega) hk
    · refine xth_catch (nm := "java/lang/IllegalArgumentException") 21 rfl (by decide) (by decide) w_718 w_732 (hp_mL_cue (by decide +kernel)) (Or.inl ⟨3, rfl, rfl, dL_cue_249⟩) (by decide) rfl (l2 := [(0, .ref 0), (1, .int (iI 114)), (2, .ref v)]) rfl ?_
      refine xz_sipush dL_cue_250 (by omega) ?_
      exact xz_iret dL_cue_253 rfl (by simp only [xR]; omega) (by simp only [xR]; omega) hk
    · refine xth_catch (nm := "java/lang/IllegalStateException") 35 rfl (by decide) (by decide) w_719 w_760 (hp_mL_cue (by decide +kernel)) (Or.inl ⟨3, rfl, rfl, dL_cue_254⟩) (by decide) rfl (l2 := [(0, .ref 0), (1, .int (iI 114)), (2, .ref v)]) rfl ?_
      refine xz_sipush dL_cue_255 (by omega) ?_
      exact xz_iret dL_cue_258 rfl (by simp only [xR]; omega) (by simp only [xR]; omega) hk
    · refine xth_catch (nm := "java/lang/UnsupportedOperationException") 49 rfl (by decide) (by decide) w_720 w_911 (hp_mL_cue (by decide +kernel)) (Or.inl ⟨3, rfl, rfl, dL_cue_259⟩) (by decide) rfl (l2 := [(0, .ref 0), (1, .int (iI 114)), (2, .ref v)]) rfl ?_
      refine xz_sipush dL_cue_260 (by omega) ?_
      exact xz_iret dL_cue_263 rfl (by simp only [xR]; omega) (by simp only [xR]; omega) hk
    · refine xth_catch (nm := "java/util/NoSuchElementException") 63 rfl (by decide) (by decide) w_998 w_509 (hp_mL_cue (by decide +kernel)) (Or.inl ⟨3, rfl, rfl, dL_cue_264⟩) (by decide) rfl (l2 := [(0, .ref 0), (1, .int (iI 114)), (2, .ref v)]) rfl ?_
      refine xz_sipush dL_cue_265 (by omega) ?_
      exact xz_iret dL_cue_268 rfl (by simp only [xR]; omega) (by simp only [xR]; omega) hk)
theorem a_merge (hL : L.stackTraces = false) {d c s v : Nat} {z0 z1 : Int} {Kc K' : xOc → List xOb → Prop} (hd : d < 8) (hc : c ≤ 1) (hs : s ≤ 24) (hv0 : 193 ≤ v) (hv : X[v - 193]? = some (64, [.int (iI z0), .int (iI z1)])) (hM : xMet L O mX11_merge (xR d c s) [.ref 0, .int (iI z0), .int (iI z1)] (Wd σ X) Kc)
    (hgood : ∀ (w : Option Value) (G : List xOb), Kc (.inl w) G → ∃ z : Int32, w = some (.int z) ∧ K' (.inl (some (.int z))) G) (hbad : ∀ (E : String) (G : List xOb), Kc (.inr E) G → (E = "java/lang/IndexOutOfBoundsException" ∧ K' (.inl (some (.int (iI (-1001))))) G) ∨ (E = "java/lang/IllegalArgumentException" ∧ K' (.inl (some (.int (iI (-1002))))) G) ∨ (E = "java/lang/IllegalStateException" ∧ K' (.inl (some (.int (iI (-1003))))) G) ∨ (E = "java/lang/UnsupportedOperationException" ∧ K' (.inl (some (.int (iI (-1004))))) G) ∨ (E = "java/util/NoSuchElementException" ∧ K' (.inl (some (.int (iI (-1005))))) G)) : xMet L O mL_cue (xR 8 1 24) [.ref 0, .int (iI 109), .ref v] (Wd σ X) K' := xMet_of (by decide) hL (Nat.le_of_ble_eq_true rfl) (by
  refine xw_eq rfl (l2 := [(0, .ref 0), (1, .int (iI 109)), (2, .ref v)]) rfl rfl rfl ?_
  refine xw_big fun hb => ?_
  rw [Wd_len] at hb
  have hvl := (List.getElem?_eq_some_iff.mp hv).1
  have hg : (Wd σ X)[v]? = some (64, [.int (iI z0), .int (iI z1)]) := (Wd_getX hv0).trans hv
  refine xw_iload_n 1 dL_cue_0 rfl ?_
  refine xz_tabIn (off := 183) (tgt := 184) dL_cue_1 (by decide) (by decide) rfl (by decide) ?_
  refine xw_aload_n 0 dL_cue_184 rfl ?_
  refine xw_aload_n 2 dL_cue_185 rfl ?_
  refine xz_iconst dL_cue_186 ?_
  refine xw_iald (j := 0) (by omega) dL_cue_187 rfl hg rfl (by show 2 < 2147483648; decide) rfl ?_
  refine xw_aload_n 2 dL_cue_188 rfl ?_
  refine xz_iconst dL_cue_189 ?_
  refine xw_iald (j := 1) (by omega) dL_cue_190 rfl hg rfl (by show 2 < 2147483648; decide) rfl ?_
  refine yc_VE (M' := mX11_merge) (d := d) (c := c) (s := s) (As := [.int (iI z0), .int (iI z1)]) (st := []) dL_cue_191 okX11_merge (Or.inl w_1059) (xBig_i is_0.1) (Wd_get is_0) ⟨by decide, rfl⟩ rfl (Nat.le_of_ble_eq_true rfl) hd (by decide) (by omega) (by omega) hM (fun w9 G9 h9 => ?_) (fun E9 G9 h9 => ?_)
  · obtain ⟨z, rfl, hk⟩ := hgood _ _ h9
    exact xw_iret dL_cue_194 rfl rfl (by simp only [xR]; omega) (by simp only [xR]; omega) hk
  · rcases hbad _ _ h9 with ⟨rfl, hk⟩ | ⟨rfl, hk⟩ | ⟨rfl, hk⟩ | ⟨rfl, hk⟩ | ⟨rfl, hk⟩
    · refine xth_catch (nm := "java/lang/IndexOutOfBoundsException") 8 rfl (by decide) (by decide) w_974 w_1044 (hp_mL_cue (by decide +kernel)) (Or.inl ⟨3, rfl, rfl, dL_cue_244⟩) (by decide) rfl (l2 := [(0, .ref 0), (1, .int (iI 109)), (2, .ref v)]) rfl ?_
      refine xz_sipush dL_cue_245 (by omega) ?_
      exact xz_iret dL_cue_248 rfl (by simp only [xR]; omega) (by simp only [xR]; omega) hk
    · refine xth_catch (nm := "java/lang/IllegalArgumentException") 22 rfl (by decide) (by decide) w_718 w_732 (hp_mL_cue (by decide +kernel)) (Or.inl ⟨3, rfl, rfl, dL_cue_249⟩) (by decide) rfl (l2 := [(0, .ref 0), (1, .int (iI 109)), (2, .ref v)]) rfl ?_
      refine xz_sipush dL_cue_250 (by omega) ?_
      exact xz_iret dL_cue_253 rfl (by simp only [xR]; omega) (by simp only [xR]; omega) hk
    · refine xth_catch (nm := "java/lang/IllegalStateException") 36 rfl (by decide) (by decide) w_719 w_760 (hp_mL_cue (by decide +kernel)) (Or.inl ⟨3, rfl, rfl, dL_cue_254⟩) (by decide) rfl (l2 := [(0, .ref 0), (1, .int (iI 109)), (2, .ref v)]) rfl ?_
      refine xz_sipush dL_cue_255 (by omega) ?_
      exact xz_iret dL_cue_258 rfl (by simp only [xR]; omega) (by simp only [xR]; omega) hk
    · refine xth_catch (nm := "java/lang/UnsupportedOperationException") 50 rfl (by decide) (by decide) w_720 w_911 (hp_mL_cue (by decide +kernel)) (Or.inl ⟨3, rfl, rfl, dL_cue_259⟩) (by decide) rfl (l2 := [(0, .ref 0), (1, .int (iI 109)), (2, .ref v)]) rfl ?_
      refine xz_sipush dL_cue_260 (by omega) ?_
      exact xz_iret dL_cue_263 rfl (by simp only [xR]; omega) (by simp only [xR]; omega) hk
    · refine xth_catch (nm := "java/util/NoSuchElementException") 64 rfl (by decide) (by decide) w_998 w_509 (hp_mL_cue (by decide +kernel)) (Or.inl ⟨3, rfl, rfl, dL_cue_264⟩) (by decide) rfl (l2 := [(0, .ref 0), (1, .int (iI 109)), (2, .ref v)]) rfl ?_
      refine xz_sipush dL_cue_265 (by omega) ?_
      exact xz_iret dL_cue_268 rfl (by simp only [xR]; omega) (by simp only [xR]; omega) hk)
theorem a_split (hL : L.stackTraces = false) {d c s v : Nat} {z0 z1 : Int} {Kc K' : xOc → List xOb → Prop} (hd : d < 8) (hc : c ≤ 1) (hs : s ≤ 24) (hv0 : 193 ≤ v) (hv : X[v - 193]? = some (64, [.int (iI z0), .int (iI z1)])) (hM : xMet L O mX11_split (xR d c s) [.ref 0, .int (iI z0), .int (iI z1)] (Wd σ X) Kc)
    (hgood : ∀ (w : Option Value) (G : List xOb), Kc (.inl w) G → ∃ z : Int32, w = some (.int z) ∧ K' (.inl (some (.int z))) G) (hbad : ∀ (E : String) (G : List xOb), Kc (.inr E) G → (E = "java/lang/IndexOutOfBoundsException" ∧ K' (.inl (some (.int (iI (-1001))))) G) ∨ (E = "java/lang/IllegalArgumentException" ∧ K' (.inl (some (.int (iI (-1002))))) G) ∨ (E = "java/lang/IllegalStateException" ∧ K' (.inl (some (.int (iI (-1003))))) G) ∨ (E = "java/lang/UnsupportedOperationException" ∧ K' (.inl (some (.int (iI (-1004))))) G) ∨ (E = "java/util/NoSuchElementException" ∧ K' (.inl (some (.int (iI (-1005))))) G)) : xMet L O mL_cue (xR 8 1 24) [.ref 0, .int (iI 112), .ref v] (Wd σ X) K' := xMet_of (by decide) hL (Nat.le_of_ble_eq_true rfl) (by
  refine xw_eq rfl (l2 := [(0, .ref 0), (1, .int (iI 112)), (2, .ref v)]) rfl rfl rfl ?_
  refine xw_big fun hb => ?_
  rw [Wd_len] at hb
  have hvl := (List.getElem?_eq_some_iff.mp hv).1
  have hg : (Wd σ X)[v]? = some (64, [.int (iI z0), .int (iI z1)]) := (Wd_getX hv0).trans hv
  refine xw_iload_n 1 dL_cue_0 rfl ?_
  refine xz_tabIn (off := 194) (tgt := 195) dL_cue_1 (by decide) (by decide) rfl (by decide) ?_
  refine xw_aload_n 0 dL_cue_195 rfl ?_
  refine xw_aload_n 2 dL_cue_196 rfl ?_
  refine xz_iconst dL_cue_197 ?_
  refine xw_iald (j := 0) (by omega) dL_cue_198 rfl hg rfl (by show 2 < 2147483648; decide) rfl ?_
  refine xw_aload_n 2 dL_cue_199 rfl ?_
  refine xz_iconst dL_cue_200 ?_
  refine xw_iald (j := 1) (by omega) dL_cue_201 rfl hg rfl (by show 2 < 2147483648; decide) rfl ?_
  refine yc_VE (M' := mX11_split) (d := d) (c := c) (s := s) (As := [.int (iI z0), .int (iI z1)]) (st := []) dL_cue_202 okX11_split (Or.inl w_1070) (xBig_i is_0.1) (Wd_get is_0) ⟨by decide, rfl⟩ rfl (Nat.le_of_ble_eq_true rfl) hd (by decide) (by omega) (by omega) hM (fun w9 G9 h9 => ?_) (fun E9 G9 h9 => ?_)
  · obtain ⟨z, rfl, hk⟩ := hgood _ _ h9
    exact xw_iret dL_cue_205 rfl rfl (by simp only [xR]; omega) (by simp only [xR]; omega) hk
  · rcases hbad _ _ h9 with ⟨rfl, hk⟩ | ⟨rfl, hk⟩ | ⟨rfl, hk⟩ | ⟨rfl, hk⟩ | ⟨rfl, hk⟩
    · refine xth_catch (nm := "java/lang/IndexOutOfBoundsException") 9 rfl (by decide) (by decide) w_974 w_1044 (hp_mL_cue (by decide +kernel)) (Or.inl ⟨3, rfl, rfl, dL_cue_244⟩) (by decide) rfl (l2 := [(0, .ref 0), (1, .int (iI 112)), (2, .ref v)]) rfl ?_
      refine xz_sipush dL_cue_245 (by omega) ?_
      exact xz_iret dL_cue_248 rfl (by simp only [xR]; omega) (by simp only [xR]; omega) hk
    · refine xth_catch (nm := "java/lang/IllegalArgumentException") 23 rfl (by decide) (by decide) w_718 w_732 (hp_mL_cue (by decide +kernel)) (Or.inl ⟨3, rfl, rfl, dL_cue_249⟩) (by decide) rfl (l2 := [(0, .ref 0), (1, .int (iI 112)), (2, .ref v)]) rfl ?_
      refine xz_sipush dL_cue_250 (by omega) ?_
      exact xz_iret dL_cue_253 rfl (by simp only [xR]; omega) (by simp only [xR]; omega) hk
    · refine xth_catch (nm := "java/lang/IllegalStateException") 37 rfl (by decide) (by decide) w_719 w_760 (hp_mL_cue (by decide +kernel)) (Or.inl ⟨3, rfl, rfl, dL_cue_254⟩) (by decide) rfl (l2 := [(0, .ref 0), (1, .int (iI 112)), (2, .ref v)]) rfl ?_
      refine xz_sipush dL_cue_255 (by omega) ?_
      exact xz_iret dL_cue_258 rfl (by simp only [xR]; omega) (by simp only [xR]; omega) hk
    · refine xth_catch (nm := "java/lang/UnsupportedOperationException") 51 rfl (by decide) (by decide) w_720 w_911 (hp_mL_cue (by decide +kernel)) (Or.inl ⟨3, rfl, rfl, dL_cue_259⟩) (by decide) rfl (l2 := [(0, .ref 0), (1, .int (iI 112)), (2, .ref v)]) rfl ?_
      refine xz_sipush dL_cue_260 (by omega) ?_
      exact xz_iret dL_cue_263 rfl (by simp only [xR]; omega) (by simp only [xR]; omega) hk
    · refine xth_catch (nm := "java/util/NoSuchElementException") 65 rfl (by decide) (by decide) w_998 w_509 (hp_mL_cue (by decide +kernel)) (Or.inl ⟨3, rfl, rfl, dL_cue_264⟩) (by decide) rfl (l2 := [(0, .ref 0), (1, .int (iI 112)), (2, .ref v)]) rfl ?_
      refine xz_sipush dL_cue_265 (by omega) ?_
      exact xz_iret dL_cue_268 rfl (by simp only [xR]; omega) (by simp only [xR]; omega) hk)
theorem a_hear (hL : L.stackTraces = false) {d c s v : Nat} {z0 : Int} {Kc K' : xOc → List xOb → Prop} (hd : d < 8) (hc : c ≤ 1) (hs : s ≤ 24) (hv0 : 193 ≤ v) (hv : X[v - 193]? = some (64, [.int (iI z0)])) (hM : xMet L O mX11_hear (xR d c s) [.ref 0, .int (iI z0)] (Wd σ X) Kc)
    (hgood : ∀ (w : Option Value) (G : List xOb), Kc (.inl w) G → ∃ z : Int32, w = some (.int z) ∧ K' (.inl (some (.int z))) G) (hbad : ∀ (E : String) (G : List xOb), Kc (.inr E) G → (E = "java/lang/IndexOutOfBoundsException" ∧ K' (.inl (some (.int (iI (-1001))))) G) ∨ (E = "java/lang/IllegalArgumentException" ∧ K' (.inl (some (.int (iI (-1002))))) G) ∨ (E = "java/lang/IllegalStateException" ∧ K' (.inl (some (.int (iI (-1003))))) G) ∨ (E = "java/lang/UnsupportedOperationException" ∧ K' (.inl (some (.int (iI (-1004))))) G) ∨ (E = "java/util/NoSuchElementException" ∧ K' (.inl (some (.int (iI (-1005))))) G)) : xMet L O mL_cue (xR 8 1 24) [.ref 0, .int (iI 104), .ref v] (Wd σ X) K' := xMet_of (by decide) hL (Nat.le_of_ble_eq_true rfl) (by
  refine xw_eq rfl (l2 := [(0, .ref 0), (1, .int (iI 104)), (2, .ref v)]) rfl rfl rfl ?_
  refine xw_big fun hb => ?_
  rw [Wd_len] at hb
  have hvl := (List.getElem?_eq_some_iff.mp hv).1
  have hg : (Wd σ X)[v]? = some (64, [.int (iI z0)]) := (Wd_getX hv0).trans hv
  refine xw_iload_n 1 dL_cue_0 rfl ?_
  refine xz_tabIn (off := 205) (tgt := 206) dL_cue_1 (by decide) (by decide) rfl (by decide) ?_
  refine xw_aload_n 0 dL_cue_206 rfl ?_
  refine xw_aload_n 2 dL_cue_207 rfl ?_
  refine xz_iconst dL_cue_208 ?_
  refine xw_iald (j := 0) (by omega) dL_cue_209 rfl hg rfl (by show 1 < 2147483648; decide) rfl ?_
  refine yc_VE (M' := mX11_hear) (d := d) (c := c) (s := s) (As := [.int (iI z0)]) (st := []) dL_cue_210 okX11_hear (Or.inl w_1079) (xBig_i is_0.1) (Wd_get is_0) ⟨by decide, rfl⟩ rfl (Nat.le_of_ble_eq_true rfl) hd (by decide) (by omega) (by omega) hM (fun w9 G9 h9 => ?_) (fun E9 G9 h9 => ?_)
  · obtain ⟨z, rfl, hk⟩ := hgood _ _ h9
    exact xw_iret dL_cue_213 rfl rfl (by simp only [xR]; omega) (by simp only [xR]; omega) hk
  · rcases hbad _ _ h9 with ⟨rfl, hk⟩ | ⟨rfl, hk⟩ | ⟨rfl, hk⟩ | ⟨rfl, hk⟩ | ⟨rfl, hk⟩
    · refine xth_catch (nm := "java/lang/IndexOutOfBoundsException") 10 rfl (by decide) (by decide) w_974 w_1044 (hp_mL_cue (by decide +kernel)) (Or.inl ⟨3, rfl, rfl, dL_cue_244⟩) (by decide) rfl (l2 := [(0, .ref 0), (1, .int (iI 104)), (2, .ref v)]) rfl ?_
      refine xz_sipush dL_cue_245 (by omega) ?_
      exact xz_iret dL_cue_248 rfl (by simp only [xR]; omega) (by simp only [xR]; omega) hk
    · refine xth_catch (nm := "java/lang/IllegalArgumentException") 24 rfl (by decide) (by decide) w_718 w_732 (hp_mL_cue (by decide +kernel)) (Or.inl ⟨3, rfl, rfl, dL_cue_249⟩) (by decide) rfl (l2 := [(0, .ref 0), (1, .int (iI 104)), (2, .ref v)]) rfl ?_
      refine xz_sipush dL_cue_250 (by omega) ?_
      exact xz_iret dL_cue_253 rfl (by simp only [xR]; omega) (by simp only [xR]; omega) hk
    · refine xth_catch (nm := "java/lang/IllegalStateException") 38 rfl (by decide) (by decide) w_719 w_760 (hp_mL_cue (by decide +kernel)) (Or.inl ⟨3, rfl, rfl, dL_cue_254⟩) (by decide) rfl (l2 := [(0, .ref 0), (1, .int (iI 104)), (2, .ref v)]) rfl ?_
      refine xz_sipush dL_cue_255 (by omega) ?_
      exact xz_iret dL_cue_258 rfl (by simp only [xR]; omega) (by simp only [xR]; omega) hk
    · refine xth_catch (nm := "java/lang/UnsupportedOperationException") 52 rfl (by decide) (by decide) w_720 w_911 (hp_mL_cue (by decide +kernel)) (Or.inl ⟨3, rfl, rfl, dL_cue_259⟩) (by decide) rfl (l2 := [(0, .ref 0), (1, .int (iI 104)), (2, .ref v)]) rfl ?_
      refine xz_sipush dL_cue_260 (by omega) ?_
      exact xz_iret dL_cue_263 rfl (by simp only [xR]; omega) (by simp only [xR]; omega) hk
    · refine xth_catch (nm := "java/util/NoSuchElementException") 66 rfl (by decide) (by decide) w_998 w_509 (hp_mL_cue (by decide +kernel)) (Or.inl ⟨3, rfl, rfl, dL_cue_264⟩) (by decide) rfl (l2 := [(0, .ref 0), (1, .int (iI 104)), (2, .ref v)]) rfl ?_
      refine xz_sipush dL_cue_265 (by omega) ?_
      exact xz_iret dL_cue_268 rfl (by simp only [xR]; omega) (by simp only [xR]; omega) hk)
theorem a_timeOf (hL : L.stackTraces = false) {d c s v : Nat} {z0 z1 : Int} {Kc K' : xOc → List xOb → Prop} (hd : d < 8) (hc : c ≤ 1) (hs : s ≤ 24) (hv0 : 193 ≤ v) (hv : X[v - 193]? = some (64, [.int (iI z0), .int (iI z1)])) (hM : xMet L O mX11_timeOf (xR d c s) [.ref 0, .int (iI z0), .int (iI z1)] (Wd σ X) Kc)
    (hgood : ∀ (w : Option Value) (G : List xOb), Kc (.inl w) G → ∃ z : Int32, w = some (.int z) ∧ K' (.inl (some (.int z))) G) (hbad : ∀ (E : String) (G : List xOb), Kc (.inr E) G → (E = "java/lang/IndexOutOfBoundsException" ∧ K' (.inl (some (.int (iI (-1001))))) G) ∨ (E = "java/lang/IllegalArgumentException" ∧ K' (.inl (some (.int (iI (-1002))))) G) ∨ (E = "java/lang/IllegalStateException" ∧ K' (.inl (some (.int (iI (-1003))))) G) ∨ (E = "java/lang/UnsupportedOperationException" ∧ K' (.inl (some (.int (iI (-1004))))) G) ∨ (E = "java/util/NoSuchElementException" ∧ K' (.inl (some (.int (iI (-1005))))) G)) : xMet L O mL_cue (xR 8 1 24) [.ref 0, .int (iI 116), .ref v] (Wd σ X) K' := xMet_of (by decide) hL (Nat.le_of_ble_eq_true rfl) (by
  refine xw_eq rfl (l2 := [(0, .ref 0), (1, .int (iI 116)), (2, .ref v)]) rfl rfl rfl ?_
  refine xw_big fun hb => ?_
  rw [Wd_len] at hb
  have hvl := (List.getElem?_eq_some_iff.mp hv).1
  have hg : (Wd σ X)[v]? = some (64, [.int (iI z0), .int (iI z1)]) := (Wd_getX hv0).trans hv
  refine xw_iload_n 1 dL_cue_0 rfl ?_
  refine xz_tabIn (off := 213) (tgt := 214) dL_cue_1 (by decide) (by decide) rfl (by decide) ?_
  refine xw_aload_n 0 dL_cue_214 rfl ?_
  refine xw_aload_n 2 dL_cue_215 rfl ?_
  refine xz_iconst dL_cue_216 ?_
  refine xw_iald (j := 0) (by omega) dL_cue_217 rfl hg rfl (by show 2 < 2147483648; decide) rfl ?_
  refine xw_aload_n 2 dL_cue_218 rfl ?_
  refine xz_iconst dL_cue_219 ?_
  refine xw_iald (j := 1) (by omega) dL_cue_220 rfl hg rfl (by show 2 < 2147483648; decide) rfl ?_
  refine yc_VE (M' := mX11_timeOf) (d := d) (c := c) (s := s) (As := [.int (iI z0), .int (iI z1)]) (st := []) dL_cue_221 okX11_timeOf (Or.inl w_1102) (xBig_i is_0.1) (Wd_get is_0) ⟨by decide, rfl⟩ rfl (Nat.le_of_ble_eq_true rfl) hd (by decide) (by omega) (by omega) hM (fun w9 G9 h9 => ?_) (fun E9 G9 h9 => ?_)
  · obtain ⟨z, rfl, hk⟩ := hgood _ _ h9
    exact xw_iret dL_cue_224 rfl rfl (by simp only [xR]; omega) (by simp only [xR]; omega) hk
  · rcases hbad _ _ h9 with ⟨rfl, hk⟩ | ⟨rfl, hk⟩ | ⟨rfl, hk⟩ | ⟨rfl, hk⟩ | ⟨rfl, hk⟩
    · refine xth_catch (nm := "java/lang/IndexOutOfBoundsException") 11 rfl (by decide) (by decide) w_974 w_1044 (hp_mL_cue (by decide +kernel)) (Or.inl ⟨3, rfl, rfl, dL_cue_244⟩) (by decide) rfl (l2 := [(0, .ref 0), (1, .int (iI 116)), (2, .ref v)]) rfl ?_
      refine xz_sipush dL_cue_245 (by omega) ?_
      exact xz_iret dL_cue_248 rfl (by simp only [xR]; omega) (by simp only [xR]; omega) hk
    · refine xth_catch (nm := "java/lang/IllegalArgumentException") 25 rfl (by decide) (by decide) w_718 w_732 (hp_mL_cue (by decide +kernel)) (Or.inl ⟨3, rfl, rfl, dL_cue_249⟩) (by decide) rfl (l2 := [(0, .ref 0), (1, .int (iI 116)), (2, .ref v)]) rfl ?_
      refine xz_sipush dL_cue_250 (by omega) ?_
      exact xz_iret dL_cue_253 rfl (by simp only [xR]; omega) (by simp only [xR]; omega) hk
    · refine xth_catch (nm := "java/lang/IllegalStateException") 39 rfl (by decide) (by decide) w_719 w_760 (hp_mL_cue (by decide +kernel)) (Or.inl ⟨3, rfl, rfl, dL_cue_254⟩) (by decide) rfl (l2 := [(0, .ref 0), (1, .int (iI 116)), (2, .ref v)]) rfl ?_
      refine xz_sipush dL_cue_255 (by omega) ?_
      exact xz_iret dL_cue_258 rfl (by simp only [xR]; omega) (by simp only [xR]; omega) hk
    · refine xth_catch (nm := "java/lang/UnsupportedOperationException") 53 rfl (by decide) (by decide) w_720 w_911 (hp_mL_cue (by decide +kernel)) (Or.inl ⟨3, rfl, rfl, dL_cue_259⟩) (by decide) rfl (l2 := [(0, .ref 0), (1, .int (iI 116)), (2, .ref v)]) rfl ?_
      refine xz_sipush dL_cue_260 (by omega) ?_
      exact xz_iret dL_cue_263 rfl (by simp only [xR]; omega) (by simp only [xR]; omega) hk
    · refine xth_catch (nm := "java/util/NoSuchElementException") 67 rfl (by decide) (by decide) w_998 w_509 (hp_mL_cue (by decide +kernel)) (Or.inl ⟨3, rfl, rfl, dL_cue_264⟩) (by decide) rfl (l2 := [(0, .ref 0), (1, .int (iI 116)), (2, .ref v)]) rfl ?_
      refine xz_sipush dL_cue_265 (by omega) ?_
      exact xz_iret dL_cue_268 rfl (by simp only [xR]; omega) (by simp only [xR]; omega) hk)
theorem a_sung (hL : L.stackTraces = false) {d c s v : Nat} {z0 z1 : Int} {Kc K' : xOc → List xOb → Prop} (hd : d < 8) (hc : c ≤ 1) (hs : s ≤ 24) (hv0 : 193 ≤ v) (hv : X[v - 193]? = some (64, [.int (iI z0), .int (iI z1)])) (hM : xMet L O mX11_sung (xR d c s) [.ref 0, .int (iI z0), .int (iI z1)] (Wd σ X) Kc)
    (hgood : ∀ (w : Option Value) (G : List xOb), Kc (.inl w) G → ∃ z : Int32, w = some (.int z) ∧ K' (.inl (some (.int z))) G) (hbad : ∀ (E : String) (G : List xOb), Kc (.inr E) G → (E = "java/lang/IndexOutOfBoundsException" ∧ K' (.inl (some (.int (iI (-1001))))) G) ∨ (E = "java/lang/IllegalArgumentException" ∧ K' (.inl (some (.int (iI (-1002))))) G) ∨ (E = "java/lang/IllegalStateException" ∧ K' (.inl (some (.int (iI (-1003))))) G) ∨ (E = "java/lang/UnsupportedOperationException" ∧ K' (.inl (some (.int (iI (-1004))))) G) ∨ (E = "java/util/NoSuchElementException" ∧ K' (.inl (some (.int (iI (-1005))))) G)) : xMet L O mL_cue (xR 8 1 24) [.ref 0, .int (iI 103), .ref v] (Wd σ X) K' := xMet_of (by decide) hL (Nat.le_of_ble_eq_true rfl) (by
  refine xw_eq rfl (l2 := [(0, .ref 0), (1, .int (iI 103)), (2, .ref v)]) rfl rfl rfl ?_
  refine xw_big fun hb => ?_
  rw [Wd_len] at hb
  have hvl := (List.getElem?_eq_some_iff.mp hv).1
  have hg : (Wd σ X)[v]? = some (64, [.int (iI z0), .int (iI z1)]) := (Wd_getX hv0).trans hv
  refine xw_iload_n 1 dL_cue_0 rfl ?_
  refine xz_tabIn (off := 224) (tgt := 225) dL_cue_1 (by decide) (by decide) rfl (by decide) ?_
  refine xw_aload_n 0 dL_cue_225 rfl ?_
  refine xw_aload_n 2 dL_cue_226 rfl ?_
  refine xz_iconst dL_cue_227 ?_
  refine xw_iald (j := 0) (by omega) dL_cue_228 rfl hg rfl (by show 2 < 2147483648; decide) rfl ?_
  refine xw_aload_n 2 dL_cue_229 rfl ?_
  refine xz_iconst dL_cue_230 ?_
  refine xw_iald (j := 1) (by omega) dL_cue_231 rfl hg rfl (by show 2 < 2147483648; decide) rfl ?_
  refine yc_VE (M' := mX11_sung) (d := d) (c := c) (s := s) (As := [.int (iI z0), .int (iI z1)]) (st := []) dL_cue_232 okX11_sung (Or.inl w_1107) (xBig_i is_0.1) (Wd_get is_0) ⟨by decide, rfl⟩ rfl (Nat.le_of_ble_eq_true rfl) hd (by decide) (by omega) (by omega) hM (fun w9 G9 h9 => ?_) (fun E9 G9 h9 => ?_)
  · obtain ⟨z, rfl, hk⟩ := hgood _ _ h9
    exact xw_iret dL_cue_235 rfl rfl (by simp only [xR]; omega) (by simp only [xR]; omega) hk
  · rcases hbad _ _ h9 with ⟨rfl, hk⟩ | ⟨rfl, hk⟩ | ⟨rfl, hk⟩ | ⟨rfl, hk⟩ | ⟨rfl, hk⟩
    · refine xth_catch (nm := "java/lang/IndexOutOfBoundsException") 12 rfl (by decide) (by decide) w_974 w_1044 (hp_mL_cue (by decide +kernel)) (Or.inl ⟨3, rfl, rfl, dL_cue_244⟩) (by decide) rfl (l2 := [(0, .ref 0), (1, .int (iI 103)), (2, .ref v)]) rfl ?_
      refine xz_sipush dL_cue_245 (by omega) ?_
      exact xz_iret dL_cue_248 rfl (by simp only [xR]; omega) (by simp only [xR]; omega) hk
    · refine xth_catch (nm := "java/lang/IllegalArgumentException") 26 rfl (by decide) (by decide) w_718 w_732 (hp_mL_cue (by decide +kernel)) (Or.inl ⟨3, rfl, rfl, dL_cue_249⟩) (by decide) rfl (l2 := [(0, .ref 0), (1, .int (iI 103)), (2, .ref v)]) rfl ?_
      refine xz_sipush dL_cue_250 (by omega) ?_
      exact xz_iret dL_cue_253 rfl (by simp only [xR]; omega) (by simp only [xR]; omega) hk
    · refine xth_catch (nm := "java/lang/IllegalStateException") 40 rfl (by decide) (by decide) w_719 w_760 (hp_mL_cue (by decide +kernel)) (Or.inl ⟨3, rfl, rfl, dL_cue_254⟩) (by decide) rfl (l2 := [(0, .ref 0), (1, .int (iI 103)), (2, .ref v)]) rfl ?_
      refine xz_sipush dL_cue_255 (by omega) ?_
      exact xz_iret dL_cue_258 rfl (by simp only [xR]; omega) (by simp only [xR]; omega) hk
    · refine xth_catch (nm := "java/lang/UnsupportedOperationException") 54 rfl (by decide) (by decide) w_720 w_911 (hp_mL_cue (by decide +kernel)) (Or.inl ⟨3, rfl, rfl, dL_cue_259⟩) (by decide) rfl (l2 := [(0, .ref 0), (1, .int (iI 103)), (2, .ref v)]) rfl ?_
      refine xz_sipush dL_cue_260 (by omega) ?_
      exact xz_iret dL_cue_263 rfl (by simp only [xR]; omega) (by simp only [xR]; omega) hk
    · refine xth_catch (nm := "java/util/NoSuchElementException") 68 rfl (by decide) (by decide) w_998 w_509 (hp_mL_cue (by decide +kernel)) (Or.inl ⟨3, rfl, rfl, dL_cue_264⟩) (by decide) rfl (l2 := [(0, .ref 0), (1, .int (iI 103)), (2, .ref v)]) rfl ?_
      refine xz_sipush dL_cue_265 (by omega) ?_
      exact xz_iret dL_cue_268 rfl (by simp only [xR]; omega) (by simp only [xR]; omega) hk)
theorem a_pairOf (hL : L.stackTraces = false) {d c s v : Nat} {z0 : Int} {Kc K' : xOc → List xOb → Prop} (hd : d < 8) (hc : c ≤ 1) (hs : s ≤ 24) (hv0 : 193 ≤ v) (hv : X[v - 193]? = some (64, [.int (iI z0)])) (hM : xMet L O mX11_pairOf (xR d c s) [.ref 0, .int (iI z0)] (Wd σ X) Kc)
    (hgood : ∀ (w : Option Value) (G : List xOb), Kc (.inl w) G → ∃ z : Int32, w = some (.int z) ∧ K' (.inl (some (.int z))) G) (hbad : ∀ (E : String) (G : List xOb), Kc (.inr E) G → (E = "java/lang/IndexOutOfBoundsException" ∧ K' (.inl (some (.int (iI (-1001))))) G) ∨ (E = "java/lang/IllegalArgumentException" ∧ K' (.inl (some (.int (iI (-1002))))) G) ∨ (E = "java/lang/IllegalStateException" ∧ K' (.inl (some (.int (iI (-1003))))) G) ∨ (E = "java/lang/UnsupportedOperationException" ∧ K' (.inl (some (.int (iI (-1004))))) G) ∨ (E = "java/util/NoSuchElementException" ∧ K' (.inl (some (.int (iI (-1005))))) G)) : xMet L O mL_cue (xR 8 1 24) [.ref 0, .int (iI 99), .ref v] (Wd σ X) K' := xMet_of (by decide) hL (Nat.le_of_ble_eq_true rfl) (by
  refine xw_eq rfl (l2 := [(0, .ref 0), (1, .int (iI 99)), (2, .ref v)]) rfl rfl rfl ?_
  refine xw_big fun hb => ?_
  rw [Wd_len] at hb
  have hvl := (List.getElem?_eq_some_iff.mp hv).1
  have hg : (Wd σ X)[v]? = some (64, [.int (iI z0)]) := (Wd_getX hv0).trans hv
  refine xw_iload_n 1 dL_cue_0 rfl ?_
  refine xz_tabIn (off := 235) (tgt := 236) dL_cue_1 (by decide) (by decide) rfl (by decide) ?_
  refine xw_aload_n 0 dL_cue_236 rfl ?_
  refine xw_aload_n 2 dL_cue_237 rfl ?_
  refine xz_iconst dL_cue_238 ?_
  refine xw_iald (j := 0) (by omega) dL_cue_239 rfl hg rfl (by show 1 < 2147483648; decide) rfl ?_
  refine yc_VE (M' := mX11_pairOf) (d := d) (c := c) (s := s) (As := [.int (iI z0)]) (st := []) dL_cue_240 okX11_pairOf (Or.inl w_1111) (xBig_i is_0.1) (Wd_get is_0) ⟨by decide, rfl⟩ rfl (Nat.le_of_ble_eq_true rfl) hd (by decide) (by omega) (by omega) hM (fun w9 G9 h9 => ?_) (fun E9 G9 h9 => ?_)
  · obtain ⟨z, rfl, hk⟩ := hgood _ _ h9
    exact xw_iret dL_cue_243 rfl rfl (by simp only [xR]; omega) (by simp only [xR]; omega) hk
  · rcases hbad _ _ h9 with ⟨rfl, hk⟩ | ⟨rfl, hk⟩ | ⟨rfl, hk⟩ | ⟨rfl, hk⟩ | ⟨rfl, hk⟩
    · refine xth_catch (nm := "java/lang/IndexOutOfBoundsException") 13 rfl (by decide) (by decide) w_974 w_1044 (hp_mL_cue (by decide +kernel)) (Or.inl ⟨3, rfl, rfl, dL_cue_244⟩) (by decide) rfl (l2 := [(0, .ref 0), (1, .int (iI 99)), (2, .ref v)]) rfl ?_
      refine xz_sipush dL_cue_245 (by omega) ?_
      exact xz_iret dL_cue_248 rfl (by simp only [xR]; omega) (by simp only [xR]; omega) hk
    · refine xth_catch (nm := "java/lang/IllegalArgumentException") 27 rfl (by decide) (by decide) w_718 w_732 (hp_mL_cue (by decide +kernel)) (Or.inl ⟨3, rfl, rfl, dL_cue_249⟩) (by decide) rfl (l2 := [(0, .ref 0), (1, .int (iI 99)), (2, .ref v)]) rfl ?_
      refine xz_sipush dL_cue_250 (by omega) ?_
      exact xz_iret dL_cue_253 rfl (by simp only [xR]; omega) (by simp only [xR]; omega) hk
    · refine xth_catch (nm := "java/lang/IllegalStateException") 41 rfl (by decide) (by decide) w_719 w_760 (hp_mL_cue (by decide +kernel)) (Or.inl ⟨3, rfl, rfl, dL_cue_254⟩) (by decide) rfl (l2 := [(0, .ref 0), (1, .int (iI 99)), (2, .ref v)]) rfl ?_
      refine xz_sipush dL_cue_255 (by omega) ?_
      exact xz_iret dL_cue_258 rfl (by simp only [xR]; omega) (by simp only [xR]; omega) hk
    · refine xth_catch (nm := "java/lang/UnsupportedOperationException") 55 rfl (by decide) (by decide) w_720 w_911 (hp_mL_cue (by decide +kernel)) (Or.inl ⟨3, rfl, rfl, dL_cue_259⟩) (by decide) rfl (l2 := [(0, .ref 0), (1, .int (iI 99)), (2, .ref v)]) rfl ?_
      refine xz_sipush dL_cue_260 (by omega) ?_
      exact xz_iret dL_cue_263 rfl (by simp only [xR]; omega) (by simp only [xR]; omega) hk
    · refine xth_catch (nm := "java/util/NoSuchElementException") 69 rfl (by decide) (by decide) w_998 w_509 (hp_mL_cue (by decide +kernel)) (Or.inl ⟨3, rfl, rfl, dL_cue_264⟩) (by decide) rfl (l2 := [(0, .ref 0), (1, .int (iI 99)), (2, .ref v)]) rfl ?_
      refine xz_sipush dL_cue_265 (by omega) ?_
      exact xz_iret dL_cue_268 rfl (by simp only [xR]; omega) (by simp only [xR]; omega) hk)
theorem a_frameOf (hL : L.stackTraces = false) {d c s v : Nat} {z0 z1 z2 z3 dr : Int} {Kc K' : xOc → List xOb → Prop} (hd : d < 8) (hc : c ≤ 1) (hs : s ≤ 24) (hv0 : 193 ≤ v) (hv : X[v - 193]? = some (64, [.int (iI z0), .int (iI z1), .int (iI z2), .int (iI z3)])) (hM : xMet L O mX11_frameOf (xR d c s) [.ref 0, .int (iI z0), .int (iI z1), .int (iI z2), .int (iI z3), .int (iI dr)] (Wd σ X) Kc)
    (hgood : ∀ (w : Option Value) (G : List xOb), Kc (.inl w) G → ∃ z : Int32, w = some (.int z) ∧ K' (.inl (some (.int z))) G) (hbad : ∀ (E : String) (G : List xOb), Kc (.inr E) G → (E = "java/lang/IllegalArgumentException" ∧ K' (.inl (some (.int (iI (-1002))))) G)) : xMet L O mL_stamp (xR 8 1 24) [.ref 0, .int (iI 1), .int (iI dr), .ref v] (Wd σ X) K' := xMet_of (by decide) hL (Nat.le_of_ble_eq_true rfl) (by
  refine xw_eq rfl (l2 := [(0, .ref 0), (1, .int (iI 1)), (2, .int (iI dr)), (3, .ref v)]) rfl rfl rfl ?_
  refine xw_big fun hb => ?_
  rw [Wd_len] at hb
  have hvl := (List.getElem?_eq_some_iff.mp hv).1
  have hg : (Wd σ X)[v]? = some (64, [.int (iI z0), .int (iI z1), .int (iI z2), .int (iI z3)]) := (Wd_getX hv0).trans hv
  refine xw_iload_n 1 dL_stamp_0 rfl ?_
  refine xz_if_eq (tgt := 24) dL_stamp_1 (by decide) (by decide) (fun c1 => ?_) (fun c1 => ?_)
  · exact absurd c1 (by decide)
  · refine xw_aload_n 0 dL_stamp_4 rfl ?_
    refine xw_aload_n 3 dL_stamp_5 rfl ?_
    refine xz_iconst dL_stamp_6 ?_
    refine xw_iald (j := 0) (by omega) dL_stamp_7 rfl hg rfl (by show 4 < 2147483648; decide) rfl ?_
    refine xw_aload_n 3 dL_stamp_8 rfl ?_
    refine xz_iconst dL_stamp_9 ?_
    refine xw_iald (j := 1) (by omega) dL_stamp_10 rfl hg rfl (by show 4 < 2147483648; decide) rfl ?_
    refine xw_aload_n 3 dL_stamp_11 rfl ?_
    refine xz_iconst dL_stamp_12 ?_
    refine xw_iald (j := 2) (by omega) dL_stamp_13 rfl hg rfl (by show 4 < 2147483648; decide) rfl ?_
    refine xw_aload_n 3 dL_stamp_14 rfl ?_
    refine xz_iconst dL_stamp_15 ?_
    refine xw_iald (j := 3) (by omega) dL_stamp_16 rfl hg rfl (by show 4 < 2147483648; decide) rfl ?_
    refine xw_iload_n 2 dL_stamp_17 rfl ?_
    refine yc_VE (M' := mX11_frameOf) (d := d) (c := c) (s := s) (As := [.int (iI z0), .int (iI z1), .int (iI z2), .int (iI z3), .int (iI dr)]) (st := []) dL_stamp_18 okX11_frameOf (Or.inl w_1129) (xBig_i is_0.1) (Wd_get is_0) ⟨by decide, rfl⟩ rfl (Nat.le_of_ble_eq_true rfl) hd (by decide) (by omega) (by omega) hM (fun w9 G9 h9 => ?_) (fun E9 G9 h9 => ?_)
    · obtain ⟨z, rfl, hk⟩ := hgood _ _ h9
      refine xw_goto (tgt := 35) dL_stamp_21 (by decide) ?_
      exact xw_iret dL_stamp_35 rfl rfl (by simp only [xR]; omega) (by simp only [xR]; omega) hk
    · obtain ⟨rfl, hk⟩ := hbad _ _ h9
      refine xth_catch (nm := "java/lang/IllegalArgumentException") 0 rfl (by decide) (by decide) w_718 w_732 (hp_mL_stamp (by decide +kernel)) (Or.inr ⟨rfl, dL_stamp_36⟩) (by decide) rfl (l2 := [(0, .ref 0), (1, .int (iI 1)), (2, .int (iI dr)), (3, .ref v)]) rfl ?_
      refine xz_sipush dL_stamp_38 (by omega) ?_
      exact xz_iret dL_stamp_41 rfl (by simp only [xR]; omega) (by simp only [xR]; omega) hk)
theorem a_stampOf (hL : L.stackTraces = false) {d c s v : Nat} {z0 z1 dr : Int} {Kc K' : xOc → List xOb → Prop} (hd : d < 8) (hc : c ≤ 1) (hs : s ≤ 24) (hv0 : 193 ≤ v) (hv : X[v - 193]? = some (64, [.int (iI z0), .int (iI z1)])) (hM : xMet L O mX11_stampOf (xR d c s) [.ref 0, .int (iI z0), .int (iI z1), .int (iI dr)] (Wd σ X) Kc)
    (hgood : ∀ (w : Option Value) (G : List xOb), Kc (.inl w) G → ∃ z : Int32, w = some (.int z) ∧ K' (.inl (some (.int z))) G) (hbad : ∀ (E : String) (G : List xOb), Kc (.inr E) G → (E = "java/lang/IllegalArgumentException" ∧ K' (.inl (some (.int (iI (-1002))))) G)) : xMet L O mL_stamp (xR 8 1 24) [.ref 0, .int (iI 0), .int (iI dr), .ref v] (Wd σ X) K' := xMet_of (by decide) hL (Nat.le_of_ble_eq_true rfl) (by
  refine xw_eq rfl (l2 := [(0, .ref 0), (1, .int (iI 0)), (2, .int (iI dr)), (3, .ref v)]) rfl rfl rfl ?_
  refine xw_big fun hb => ?_
  rw [Wd_len] at hb
  have hvl := (List.getElem?_eq_some_iff.mp hv).1
  have hg : (Wd σ X)[v]? = some (64, [.int (iI z0), .int (iI z1)]) := (Wd_getX hv0).trans hv
  refine xw_iload_n 1 dL_stamp_0 rfl ?_
  refine xz_if_eq (tgt := 24) dL_stamp_1 (by decide) (by decide) (fun c1 => ?_) (fun c1 => ?_)
  · refine xw_aload_n 0 dL_stamp_24 rfl ?_
    refine xw_aload_n 3 dL_stamp_25 rfl ?_
    refine xz_iconst dL_stamp_26 ?_
    refine xw_iald (j := 0) (by omega) dL_stamp_27 rfl hg rfl (by show 2 < 2147483648; decide) rfl ?_
    refine xw_aload_n 3 dL_stamp_28 rfl ?_
    refine xz_iconst dL_stamp_29 ?_
    refine xw_iald (j := 1) (by omega) dL_stamp_30 rfl hg rfl (by show 2 < 2147483648; decide) rfl ?_
    refine xw_iload_n 2 dL_stamp_31 rfl ?_
    refine yc_VE (M' := mX11_stampOf) (d := d) (c := c) (s := s) (As := [.int (iI z0), .int (iI z1), .int (iI dr)]) (st := []) dL_stamp_32 okX11_stampOf (Or.inl w_1140) (xBig_i is_0.1) (Wd_get is_0) ⟨by decide, rfl⟩ rfl (Nat.le_of_ble_eq_true rfl) hd (by decide) (by omega) (by omega) hM (fun w9 G9 h9 => ?_) (fun E9 G9 h9 => ?_)
    · obtain ⟨z, rfl, hk⟩ := hgood _ _ h9
      exact xw_iret dL_stamp_35 rfl rfl (by simp only [xR]; omega) (by simp only [xR]; omega) hk
    · obtain ⟨rfl, hk⟩ := hbad _ _ h9
      refine xth_catch (nm := "java/lang/IllegalArgumentException") 0 rfl (by decide) (by decide) w_718 w_732 (hp_mL_stamp (by decide +kernel)) (Or.inr ⟨rfl, dL_stamp_36⟩) (by decide) rfl (l2 := [(0, .ref 0), (1, .int (iI 0)), (2, .int (iI dr)), (3, .ref v)]) rfl ?_
      refine xz_sipush dL_stamp_38 (by omega) ?_
      exact xz_iret dL_stamp_41 rfl (by simp only [xR]; omega) (by simp only [xR]; omega) hk
  · exact absurd rfl c1)
end Y35

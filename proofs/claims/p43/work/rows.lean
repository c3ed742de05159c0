section
-- ===== PART A: goes FIRST, ahead of the names: the tables' words, and 'selects' of the private methods out of them =====
/-- a private method of a class that the tables say can be made, by its rows of tables_1 -/
def lw_okq (q : MethodName × Nat) : Prop := (q.1.cls ≠ "java/lang/invoke/MethodHandle" ∧ q.1.cls ≠ "java/lang/invoke/VarHandle") ∧ Cond.instantiable q.1.cls q.2 ∈ tables_1 ∧ Cond.privateMethod q.1 ∈ tables_1 ∧ Cond.instanceMethod q.1 ∈ tables_1
theorem lw_p0 : lw_okq (⟨"SubtitleHarbour", "arrange", "()V"⟩, 12) := ⟨⟨by decide +kernel, by decide +kernel⟩, List.mem_of_getElem? (i := 27) (by decide +kernel), List.mem_of_getElem? (i := 374) (by decide +kernel), List.mem_of_getElem? (i := 375) (by decide +kernel)⟩
theorem lw_p1 : lw_okq (⟨"SubtitleHarbour$Stage", "sortCues", "()V"⟩, 9) := ⟨⟨by decide +kernel, by decide +kernel⟩, List.mem_of_getElem? (i := 116) (by decide +kernel), List.mem_of_getElem? (i := 382) (by decide +kernel), List.mem_of_getElem? (i := 383) (by decide +kernel)⟩
theorem lw_p2 : lw_okq (⟨"SubtitleHarbour$Stage", "insert", "(I)V"⟩, 9) := ⟨⟨by decide +kernel, by decide +kernel⟩, List.mem_of_getElem? (i := 116) (by decide +kernel), List.mem_of_getElem? (i := 386) (by decide +kernel), List.mem_of_getElem? (i := 387) (by decide +kernel)⟩
theorem lw_p3 : lw_okq (⟨"SubtitleHarbour$LineBreaker", "chooseLine", "(LSubtitleHarbour$Cue;III)V"⟩, 3) := ⟨⟨by decide +kernel, by decide +kernel⟩, List.mem_of_getElem? (i := 124) (by decide +kernel), List.mem_of_getElem? (i := 405) (by decide +kernel), List.mem_of_getElem? (i := 406) (by decide +kernel)⟩
theorem lw_p4 : lw_okq (⟨"SubtitleHarbour$LineBreaker", "consider", "(IIIZ)V"⟩, 3) := ⟨⟨by decide +kernel, by decide +kernel⟩, List.mem_of_getElem? (i := 124) (by decide +kernel), List.mem_of_getElem? (i := 416) (by decide +kernel), List.mem_of_getElem? (i := 417) (by decide +kernel)⟩
theorem lw_p5 : lw_okq (⟨"SubtitleHarbour$Stage", "takeRows", "(LSubtitleHarbour$Cue;I)V"⟩, 9) := ⟨⟨by decide +kernel, by decide +kernel⟩, List.mem_of_getElem? (i := 116) (by decide +kernel), List.mem_of_getElem? (i := 420) (by decide +kernel), List.mem_of_getElem? (i := 421) (by decide +kernel)⟩
theorem lw_p6 : lw_okq (⟨"SubtitleHarbour$Stage", "lowestRows", "(LSubtitleHarbour$Cue;)I"⟩, 9) := ⟨⟨by decide +kernel, by decide +kernel⟩, List.mem_of_getElem? (i := 116) (by decide +kernel), List.mem_of_getElem? (i := 428) (by decide +kernel), List.mem_of_getElem? (i := 429) (by decide +kernel)⟩
theorem lw_p7 : lw_okq (⟨"SubtitleHarbour$Alignment", "pairedCost", "(II)I"⟩, 3) := ⟨⟨by decide +kernel, by decide +kernel⟩, List.mem_of_getElem? (i := 268) (by decide +kernel), List.mem_of_getElem? (i := 459) (by decide +kernel), List.mem_of_getElem? (i := 460) (by decide +kernel)⟩
theorem lw_p8 : lw_okq (⟨"SubtitleHarbour$Alignment", "choose", "(III)V"⟩, 3) := ⟨⟨by decide +kernel, by decide +kernel⟩, List.mem_of_getElem? (i := 268) (by decide +kernel), List.mem_of_getElem? (i := 463) (by decide +kernel), List.mem_of_getElem? (i := 464) (by decide +kernel)⟩
theorem lw_p9 : lw_okq (⟨"SubtitleHarbour", "cueOf", "(I)LSubtitleHarbour$Cue;"⟩, 12) := ⟨⟨by decide +kernel, by decide +kernel⟩, List.mem_of_getElem? (i := 27) (by decide +kernel), List.mem_of_getElem? (i := 471) (by decide +kernel), List.mem_of_getElem? (i := 472) (by decide +kernel)⟩
theorem lw_p10 : lw_okq (⟨"java/lang/Throwable", "fillInStackTrace", "(I)Ljava/lang/Throwable;"⟩, 6) := ⟨⟨by decide +kernel, by decide +kernel⟩, List.mem_of_getElem? (i := 516) (by decide +kernel), List.mem_of_getElem? (i := 514) (by decide +kernel), List.mem_of_getElem? (i := 515) (by decide +kernel)⟩
theorem lw_p11 : lw_okq (⟨"SubtitleHarbour", "isSameAtCodes", "()Z"⟩, 12) := ⟨⟨by decide +kernel, by decide +kernel⟩, List.mem_of_getElem? (i := 27) (by decide +kernel), List.mem_of_getElem? (i := 574) (by decide +kernel), List.mem_of_getElem? (i := 575) (by decide +kernel)⟩
theorem lw_p12 : lw_okq (⟨"SubtitleHarbour$Memory", "emptyRows", "(II)V"⟩, 2) := ⟨⟨by decide +kernel, by decide +kernel⟩, List.mem_of_getElem? (i := 71) (by decide +kernel), List.mem_of_getElem? (i := 586) (by decide +kernel), List.mem_of_getElem? (i := 587) (by decide +kernel)⟩
theorem lw_p13 : lw_okq (⟨"SubtitleHarbour$Screen", "obey", "(CI)V"⟩, 8) := ⟨⟨by decide +kernel, by decide +kernel⟩, List.mem_of_getElem? (i := 65) (by decide +kernel), List.mem_of_getElem? (i := 599) (by decide +kernel), List.mem_of_getElem? (i := 600) (by decide +kernel)⟩
theorem lw_p14 : lw_okq (⟨"SubtitleHarbour$Screen", "write", "(I)V"⟩, 8) := ⟨⟨by decide +kernel, by decide +kernel⟩, List.mem_of_getElem? (i := 65) (by decide +kernel), List.mem_of_getElem? (i := 603) (by decide +kernel), List.mem_of_getElem? (i := 604) (by decide +kernel)⟩
theorem lw_p15 : lw_okq (⟨"SubtitleHarbour$Screen", "written", "()LSubtitleHarbour$Memory;"⟩, 8) := ⟨⟨by decide +kernel, by decide +kernel⟩, List.mem_of_getElem? (i := 65) (by decide +kernel), List.mem_of_getElem? (i := 607) (by decide +kernel), List.mem_of_getElem? (i := 608) (by decide +kernel)⟩
def lw_privs_1 : List (MethodName × Nat) := [(⟨"SubtitleHarbour", "arrange", "()V"⟩, 12), (⟨"SubtitleHarbour$Stage", "sortCues", "()V"⟩, 9), (⟨"SubtitleHarbour$Stage", "insert", "(I)V"⟩, 9), (⟨"SubtitleHarbour$LineBreaker", "chooseLine", "(LSubtitleHarbour$Cue;III)V"⟩, 3), (⟨"SubtitleHarbour$LineBreaker", "consider", "(IIIZ)V"⟩, 3), (⟨"SubtitleHarbour$Stage", "takeRows", "(LSubtitleHarbour$Cue;I)V"⟩, 9), (⟨"SubtitleHarbour$Stage", "lowestRows", "(LSubtitleHarbour$Cue;)I"⟩, 9), (⟨"SubtitleHarbour$Alignment", "pairedCost", "(II)I"⟩, 3), (⟨"SubtitleHarbour$Alignment", "choose", "(III)V"⟩, 3), (⟨"SubtitleHarbour", "cueOf", "(I)LSubtitleHarbour$Cue;"⟩, 12), (⟨"java/lang/Throwable", "fillInStackTrace", "(I)Ljava/lang/Throwable;"⟩, 6), (⟨"SubtitleHarbour", "isSameAtCodes", "()Z"⟩, 12), (⟨"SubtitleHarbour$Memory", "emptyRows", "(II)V"⟩, 2), (⟨"SubtitleHarbour$Screen", "obey", "(CI)V"⟩, 8), (⟨"SubtitleHarbour$Screen", "write", "(I)V"⟩, 8), (⟨"SubtitleHarbour$Screen", "written", "()LSubtitleHarbour$Memory;"⟩, 8)]
theorem lw_r1 : ∀ q ∈ lw_privs_1, lw_okq q := List.forall_mem_cons.mpr ⟨lw_p0, List.forall_mem_cons.mpr ⟨lw_p1, List.forall_mem_cons.mpr ⟨lw_p2, List.forall_mem_cons.mpr ⟨lw_p3, List.forall_mem_cons.mpr ⟨lw_p4, List.forall_mem_cons.mpr ⟨lw_p5, List.forall_mem_cons.mpr ⟨lw_p6, List.forall_mem_cons.mpr ⟨lw_p7, List.forall_mem_cons.mpr ⟨lw_p8, List.forall_mem_cons.mpr ⟨lw_p9, List.forall_mem_cons.mpr ⟨lw_p10, List.forall_mem_cons.mpr ⟨lw_p11, List.forall_mem_cons.mpr ⟨lw_p12, List.forall_mem_cons.mpr ⟨lw_p13, List.forall_mem_cons.mpr ⟨lw_p14, List.forall_mem_cons.mpr ⟨lw_p15, fun _ h => absurd h List.not_mem_nil⟩⟩⟩⟩⟩⟩⟩⟩⟩⟩⟩⟩⟩⟩⟩⟩
theorem lw_p16 : lw_okq (⟨"SubtitleHarbour$Screen", "startRolling", "(I)V"⟩, 8) := ⟨⟨by decide +kernel, by decide +kernel⟩, List.mem_of_getElem? (i := 65) (by decide +kernel), List.mem_of_getElem? (i := 619) (by decide +kernel), List.mem_of_getElem? (i := 620) (by decide +kernel)⟩
theorem lw_p17 : lw_okq (⟨"SubtitleHarbour$Screen", "exchange", "()V"⟩, 8) := ⟨⟨by decide +kernel, by decide +kernel⟩, List.mem_of_getElem? (i := 65) (by decide +kernel), List.mem_of_getElem? (i := 623) (by decide +kernel), List.mem_of_getElem? (i := 624) (by decide +kernel)⟩
theorem lw_p18 : lw_okq (⟨"SubtitleHarbour$Screen", "newLine", "()V"⟩, 8) := ⟨⟨by decide +kernel, by decide +kernel⟩, List.mem_of_getElem? (i := 65) (by decide +kernel), List.mem_of_getElem? (i := 627) (by decide +kernel), List.mem_of_getElem? (i := 628) (by decide +kernel)⟩
theorem lw_p19 : lw_okq (⟨"SubtitleHarbour$Screen", "stepBack", "()V"⟩, 8) := ⟨⟨by decide +kernel, by decide +kernel⟩, List.mem_of_getElem? (i := 65) (by decide +kernel), List.mem_of_getElem? (i := 636) (by decide +kernel), List.mem_of_getElem? (i := 637) (by decide +kernel)⟩
theorem lw_p20 : lw_okq (⟨"SubtitleHarbour$Screen", "moveCursor", "(II)V"⟩, 8) := ⟨⟨by decide +kernel, by decide +kernel⟩, List.mem_of_getElem? (i := 65) (by decide +kernel), List.mem_of_getElem? (i := 640) (by decide +kernel), List.mem_of_getElem? (i := 641) (by decide +kernel)⟩
theorem lw_p21 : lw_okq (⟨"SubtitleHarbour", "hasSameCuesAt", "(I)Z"⟩, 12) := ⟨⟨by decide +kernel, by decide +kernel⟩, List.mem_of_getElem? (i := 27) (by decide +kernel), List.mem_of_getElem? (i := 648) (by decide +kernel), List.mem_of_getElem? (i := 649) (by decide +kernel)⟩
theorem lw_p22 : lw_okq (⟨"SubtitleHarbour$Stage", "letGo", "(I)V"⟩, 9) := ⟨⟨by decide +kernel, by decide +kernel⟩, List.mem_of_getElem? (i := 116) (by decide +kernel), List.mem_of_getElem? (i := 656) (by decide +kernel), List.mem_of_getElem? (i := 657) (by decide +kernel)⟩
theorem lw_p23 : lw_okq (⟨"SubtitleHarbour", "isSameAtCues", "()Z"⟩, 12) := ⟨⟨by decide +kernel, by decide +kernel⟩, List.mem_of_getElem? (i := 27) (by decide +kernel), List.mem_of_getElem? (i := 672) (by decide +kernel), List.mem_of_getElem? (i := 673) (by decide +kernel)⟩
theorem lw_p24 : lw_okq (⟨"SubtitleHarbour$Codes", "shift", "(II)V"⟩, 5) := ⟨⟨by decide +kernel, by decide +kernel⟩, List.mem_of_getElem? (i := 35) (by decide +kernel), List.mem_of_getElem? (i := 750) (by decide +kernel), List.mem_of_getElem? (i := 751) (by decide +kernel)⟩
theorem lw_p25 : lw_okq (⟨"SubtitleHarbour$Codes", "markRepeats", "()V"⟩, 5) := ⟨⟨by decide +kernel, by decide +kernel⟩, List.mem_of_getElem? (i := 35) (by decide +kernel), List.mem_of_getElem? (i := 757) (by decide +kernel), List.mem_of_getElem? (i := 758) (by decide +kernel)⟩
theorem lw_p26 : lw_okq (⟨"SubtitleHarbour$Codes", "isTwinOfFormer", "(I)Z"⟩, 5) := ⟨⟨by decide +kernel, by decide +kernel⟩, List.mem_of_getElem? (i := 35) (by decide +kernel), List.mem_of_getElem? (i := 761) (by decide +kernel), List.mem_of_getElem? (i := 762) (by decide +kernel)⟩
theorem lw_p27 : lw_okq (⟨"SubtitleHarbour", "jumpTo", "(I)LSubtitleHarbour$Screen;"⟩, 12) := ⟨⟨by decide +kernel, by decide +kernel⟩, List.mem_of_getElem? (i := 27) (by decide +kernel), List.mem_of_getElem? (i := 781) (by decide +kernel), List.mem_of_getElem? (i := 782) (by decide +kernel)⟩
theorem lw_p28 : lw_okq (⟨"SubtitleHarbour", "greatestFrame", "()I"⟩, 12) := ⟨⟨by decide +kernel, by decide +kernel⟩, List.mem_of_getElem? (i := 27) (by decide +kernel), List.mem_of_getElem? (i := 869) (by decide +kernel), List.mem_of_getElem? (i := 870) (by decide +kernel)⟩
theorem lw_p29 : lw_okq (⟨"SubtitleHarbour", "needRoomForCue", "()V"⟩, 12) := ⟨⟨by decide +kernel, by decide +kernel⟩, List.mem_of_getElem? (i := 27) (by decide +kernel), List.mem_of_getElem? (i := 971) (by decide +kernel), List.mem_of_getElem? (i := 972) (by decide +kernel)⟩
theorem lw_p30 : lw_okq (⟨"SubtitleHarbour", "makeCue", "(III)I"⟩, 12) := ⟨⟨by decide +kernel, by decide +kernel⟩, List.mem_of_getElem? (i := 27) (by decide +kernel), List.mem_of_getElem? (i := 976) (by decide +kernel), List.mem_of_getElem? (i := 977) (by decide +kernel)⟩
theorem lw_p31 : lw_okq (⟨"SubtitleHarbour$Hearing", "gatherNear", "(II)V"⟩, 5) := ⟨⟨by decide +kernel, by decide +kernel⟩, List.mem_of_getElem? (i := 286) (by decide +kernel), List.mem_of_getElem? (i := 1055) (by decide +kernel), List.mem_of_getElem? (i := 1056) (by decide +kernel)⟩
def lw_privs_2 : List (MethodName × Nat) := [(⟨"SubtitleHarbour$Screen", "startRolling", "(I)V"⟩, 8), (⟨"SubtitleHarbour$Screen", "exchange", "()V"⟩, 8), (⟨"SubtitleHarbour$Screen", "newLine", "()V"⟩, 8), (⟨"SubtitleHarbour$Screen", "stepBack", "()V"⟩, 8), (⟨"SubtitleHarbour$Screen", "moveCursor", "(II)V"⟩, 8), (⟨"SubtitleHarbour", "hasSameCuesAt", "(I)Z"⟩, 12), (⟨"SubtitleHarbour$Stage", "letGo", "(I)V"⟩, 9), (⟨"SubtitleHarbour", "isSameAtCues", "()Z"⟩, 12), (⟨"SubtitleHarbour$Codes", "shift", "(II)V"⟩, 5), (⟨"SubtitleHarbour$Codes", "markRepeats", "()V"⟩, 5), (⟨"SubtitleHarbour$Codes", "isTwinOfFormer", "(I)Z"⟩, 5), (⟨"SubtitleHarbour", "jumpTo", "(I)LSubtitleHarbour$Screen;"⟩, 12), (⟨"SubtitleHarbour", "greatestFrame", "()I"⟩, 12), (⟨"SubtitleHarbour", "needRoomForCue", "()V"⟩, 12), (⟨"SubtitleHarbour", "makeCue", "(III)I"⟩, 12), (⟨"SubtitleHarbour$Hearing", "gatherNear", "(II)V"⟩, 5)]
theorem lw_r2 : ∀ q ∈ lw_privs_2, lw_okq q := List.forall_mem_cons.mpr ⟨lw_p16, List.forall_mem_cons.mpr ⟨lw_p17, List.forall_mem_cons.mpr ⟨lw_p18, List.forall_mem_cons.mpr ⟨lw_p19, List.forall_mem_cons.mpr ⟨lw_p20, List.forall_mem_cons.mpr ⟨lw_p21, List.forall_mem_cons.mpr ⟨lw_p22, List.forall_mem_cons.mpr ⟨lw_p23, List.forall_mem_cons.mpr ⟨lw_p24, List.forall_mem_cons.mpr ⟨lw_p25, List.forall_mem_cons.mpr ⟨lw_p26, List.forall_mem_cons.mpr ⟨lw_p27, List.forall_mem_cons.mpr ⟨lw_p28, List.forall_mem_cons.mpr ⟨lw_p29, List.forall_mem_cons.mpr ⟨lw_p30, List.forall_mem_cons.mpr ⟨lw_p31, fun _ h => absurd h List.not_mem_nil⟩⟩⟩⟩⟩⟩⟩⟩⟩⟩⟩⟩⟩⟩⟩⟩
theorem lw_p32 : lw_okq (⟨"SubtitleHarbour$Hearing", "insert", "(I)V"⟩, 5) := ⟨⟨by decide +kernel, by decide +kernel⟩, List.mem_of_getElem? (i := 286) (by decide +kernel), List.mem_of_getElem? (i := 1059) (by decide +kernel), List.mem_of_getElem? (i := 1060) (by decide +kernel)⟩
def lw_privs_3 : List (MethodName × Nat) := [(⟨"SubtitleHarbour$Hearing", "insert", "(I)V"⟩, 5)]
theorem lw_r3 : ∀ q ∈ lw_privs_3, lw_okq q := List.forall_mem_cons.mpr ⟨lw_p32, fun _ h => absurd h List.not_mem_nil⟩
def lw_privs : List (MethodName × Nat) := lw_privs_1 ++ (lw_privs_2 ++ (lw_privs_3))
def lw_tbl : List Cond := k2_sels lw_privs ++ tables_1
theorem lw_privs_ok : ∀ q ∈ lw_privs, lw_okq q := by
  show ∀ q ∈ lw_privs_1 ++ (lw_privs_2 ++ (lw_privs_3)), lw_okq q
  exact List.forall_mem_append.mpr ⟨lw_r1, List.forall_mem_append.mpr ⟨lw_r2, lw_r3⟩⟩
/-- the streams that the claim lets the run draw from -/
abbrev lw_cs : List Choice := [Jvm.Choice.named "NaN.bits"]
theorem lw_bits : nanBits ∈ lw_cs := by first | decide | exact List.mem_cons_self | simp [lw_cs, nanBits]
/-- the tables know the arrays of arrays of t -/
def va_AOA (t : FieldType) (U : State) : Prop := (Cond.arrayOver (.array t)).before #[] U = true
theorem va_AOA.use {t : FieldType} {A : Array Value} {U : State} (h : va_AOA t U) : (Cond.arrayOver (.array t)).before A U = true := h
/-! ===== BEGIN new T[n][m]: the outer array a place, the inner ones among the pooled ===== -/
/-- f, but v at every address of l -/
def vr_up {α : Type} (f : Nat → α) (l : List Nat) (v : α) : Nat → α := fun a => if a ∈ l then v else f a
theorem vr_up_in {α : Type} {f : Nat → α} {l : List Nat} {v : α} {a : Nat} (h : a ∈ l) : vr_up f l v a = v := if_pos h
theorem vr_up_ne {α : Type} {f : Nat → α} {l : List Nat} {v : α} {a : Nat} (h : a ∉ l) : vr_up f l v a = f a := if_neg h
theorem vr_rows {L l : List Nat} {f : Nat → va_E} {e : va_E} (h : ∀ a, a ∈ l → a ∉ L) : va_pl L f ++ l.map (fun a => (a, e)) = va_pl (L ++ l) (vr_up f l e) := by
  unfold va_pl
  rw [List.map_append]
  congr 1
  · apply List.map_congr_left
    intro a ha
    rw [vr_up_ne (fun q => h a q ha)]
  · apply List.map_congr_left
    intro a ha
    rw [vr_up_in ha]
theorem vr_lay {X rows : va_W} {x : Nat × va_E} {pl : va_W} {D : va_G} {cl : List vw_C} {H : Heap} (hP : va_P D cl (((X ++ pl) ++ [x]) ++ rows) H) : va_P D cl ((X ++ [x]) ++ (pl ++ rows)) H := by
  rw [List.append_assoc (X ++ pl)] at hP
  have h := va_P.swap hP
  rw [← List.append_assoc X] at h
  have h2 := va_P.swap h
  rw [List.append_assoc (X ++ [x])] at h2
  exact h2
theorem vr_layD {X rows : va_W} {x : Nat × va_E} {pl : va_W} {A : Nat → Prop} (hD : va_D A (((X ++ pl) ++ [x]) ++ rows)) : va_D A ((X ++ [x]) ++ (pl ++ rows)) := by
  rw [List.append_assoc (X ++ pl)] at hD
  have h := va_D.swap hD
  rw [← List.append_assoc X] at h
  have h2 := va_D.swap h
  rw [List.append_assoc (X ++ [x])] at h2
  exact h2
theorem vr_outer (c : ClassId) (N h0 : Nat) : ∀ i : Nat, Jvm.Free.Multi.outerC c N h0 i = arrV c N (fun j => va_rf (if j < i then some (h0 + 1 + j) else none))
  | 0 => by
    show ({ cls := c, slots := Array.replicate N .null, vm := .none } : Cell) = _
    rw [arrV_new]
    refine congrArg (arrV c N) (funext fun j => ?_)
    simp [va_rf]
  | i + 1 => by
    show (Jvm.Free.Multi.outerC c N h0 i).setSlot i (.ref (h0 + 1 + i)) = _
    rw [vr_outer c N h0 i, arrV_store]
    refine congrArg (arrV c N) (funext fun j => ?_)
    by_cases e : j = i
    · subst e
      simp [updV, va_rf]
    · by_cases h : j < i
      · simp [updV, e, h, Nat.lt_succ_of_lt h]
      · simp [updV, e, h, show ¬ j < i + 1 by omega]
section VGM
variable {p : Program} {l : Launch} {e : Env} {R : Room} {s : State} {m : MethodId} {args : Array Value} {below : List Frame} {meth : Method} {c : Code} {H : Heap} {locs : List Loc} {cells slots : Nat} {Q : State → Prop}
variable {cc : ByteArray} {pc : Nat} {ls : Array Slot} {rest : List Value} {D : va_G} {cl : List vw_C} {A : Nat → Prop} {a : Nat} {tys : List (ClassId × FieldType)} {ws : va_W} {H0 : Heap}
theorem va_mna {X : va_W} {L : List Nat} {f : Nat → va_E} {cc : ByteArray} (hexec : p.tables.exec = Jvm.exec) (hb : c.code = cc) {own : String} {index : Nat} {ty : FieldType} {cy : ClassId} (hown : s.vm.findClass own = some m.cls) (hclink : (Cond.classLink own index ("[" ++ (FieldType.array ty).toString)).before args s = true) (hover : va_AOA ty s) (harr : (Cond.arrayClass ty).before args s = true) (hcy : s.vm.findClass (FieldType.array ty).toString = some cy)
    (hK : va_K D cl tys s) (hP : va_P D cl (X ++ va_pl L f) H) (hD : va_D A (X ++ va_pl L f)) (hS : va_S A H0 H locs) (hA : ∀ q, H0.size ≤ q → A q) {n k : Int32} {N' K' : Nat} {z : vp_A} (hn : ¬ n < 0) (hk : ¬ k < 0) (hN : n.toNatClampNeg = N') (hM : k.toNatClampNeg = K')
    (hb1 : N' * 4 ≤ 536870912) (hb2 : K' * componentBytes ty ≤ 536870912) (hb3 : K' ≤ 536870912) (hdf : fits ty (defaultValue ty) = true) (hdd : (defaultValue ty).isDefault = true) (hcells : cells + (1 + N') ≤ R.cells) (hslots : slots + (N' + N' * K') ≤ R.slots) (hz : ∀ c : ClassId, Jvm.Free.Multi.innerC c K' (defaultValue ty) = vp_cell c z) (hdg : decode cc pc = .ok (.multianewarray index 2, 4))
    (kk : ∀ (q : Nat) (r : Nat → Nat) (cA : ClassId) (H1 : Heap), (∀ i j : Nat, i < N' → j < N' → r i = r j → i = j) → (∀ i : Nat, i < N' → r i ∉ L) → va_K D cl (tys ++ [(cA, .array ty)]) s →
      va_P D cl ((X ++ [(q, .inl (cA, N', .inr (.inr (.inr (.inr (fun i => if i < N' then some (r i) else none))))))]) ++ va_pl (L ++ (List.range N').map r) (vr_up f ((List.range N').map r) (.inl (cy, z)))) H1 → va_D A ((X ++ [(q, .inl (cA, N', .inr (.inr (.inr (.inr (fun i => if i < N' then some (r i) else none))))))]) ++ va_pl (L ++ (List.range N').map r) (vr_up f ((List.range N').map r) (.inl (cy, z)))) → va_S A H0 H1 locs →
      W p l e R s m args below meth c H1 locs (cells + 1 + N') (slots + N' + N' * K') Q (F0 m (pc + 4) ls (.ref q :: rest))) : W p l e R s m args below meth c H locs cells slots Q (F0 m pc ls (.int k :: .int n :: rest)) := by
  subst hN
  subst hM
  intro T hT Xs
  obtain ⟨vm₁, cA, comp, -, fA, fC, hO, -, X', step⟩ := Xs.multianewarray2F hexec hown hclink (va_AOA.use hover) harr (g := F0 m pc ls (.int k :: .int n :: rest)) rfl (by rw [hb]; exact hdg) rfl hn hk hb1 hb2 hb3 hdf hdd hcells hslots
  have ec : some cy = some comp := hcy.symm.trans fC
  cases ec
  generalize hF : Jvm.Free.Multi.fill (T.setVm vm₁) cA cy n.toNatClampNeg k.toNatClampNeg (defaultValue ty) n.toNatClampNeg = F at X' step
  have hTh : (T.setVm vm₁).heap = H := hT
  obtain ⟨f1, f2, -, -⟩ := Jvm.Free.Multi.fill_facts (T.setVm vm₁) cA cy n.toNatClampNeg k.toNatClampNeg (defaultValue ty) n.toNatClampNeg
  rw [hF, hTh] at f1 f2
  have hold : ∀ x : Nat, x < H.size → F.heap[x]? = H[x]? := fun x hx => by
    have := Jvm.Free.Multi.fill_old (T.setVm vm₁) cA cy n.toNatClampNeg k.toNatClampNeg (defaultValue ty) (a := x) (by rw [hTh]; exact hx) n.toNatClampNeg
    rw [hF, hTh] at this
    exact this
  have hrow : ∀ j : Nat, j < n.toNatClampNeg → F.heap[H.size + 1 + j]? = some (vp_cell cy z) := fun j hj => by
    have := Jvm.Free.Multi.fill_inner (T.setVm vm₁) cA cy n.toNatClampNeg k.toNatClampNeg (defaultValue ty) n.toNatClampNeg j hj
    rw [hF, hTh, hz] at this
    exact this
  have hout : Jvm.Free.Multi.outerC cA n.toNatClampNeg H.size n.toNatClampNeg = vp_cell cA (n.toNatClampNeg, .inr (.inr (.inr (.inr (fun i => if i < n.toNatClampNeg then some (H.size + 1 + i) else none))))) := by
    rw [vp_cell_q]
    exact vr_outer cA n.toNatClampNeg H.size n.toNatClampNeg
  rw [hout] at f2
  have hlt : ∀ a, a ∈ L → a < H.size := fun a ha => by
    obtain ⟨k9, hk9⟩ := va_pl_get (X := X) (f := f) ha
    exact (hP k9 _ hk9).lt
  have hnl : ∀ i : Nat, i < n.toNatClampNeg → H.size + 1 + i ∉ L := fun i _ h => by
    have := hlt _ h
    omega
  have hnm : ∀ a, a ∈ (List.range n.toNatClampNeg).map (fun i => H.size + 1 + i) → a ∉ L := fun a ha h => by
    obtain ⟨i, -, rfl⟩ := List.mem_map.mp ha
    have := hlt _ h
    omega
  have hP0 : va_P D cl (X ++ va_pl L f) F.heap := hP.kept (fun k9 x hx => hold x.1 ((hP k9 x hx).lt))
  have hP1 : va_P D cl ((X ++ va_pl L f) ++ [(H.size, .inl (cA, n.toNatClampNeg, .inr (.inr (.inr (.inr (fun i => if i < n.toNatClampNeg then some (H.size + 1 + i) else none))))))]) F.heap := hP0.app (fun k9 x hx => by
    have h0 : k9 < 1 := (List.getElem?_eq_some_iff.mp hx).1
    rw [show k9 = 0 by omega] at hx
    cases hx
    exact f2)
  have hP2 : va_P D cl (((X ++ va_pl L f) ++ [(H.size, .inl (cA, n.toNatClampNeg, .inr (.inr (.inr (.inr (fun i => if i < n.toNatClampNeg then some (H.size + 1 + i) else none))))))]) ++ ((List.range n.toNatClampNeg).map (fun i => H.size + 1 + i)).map (fun a => (a, .inl (cy, z)))) F.heap := hP1.app (fun k9 x hx => by
    obtain ⟨a, ha, rfl⟩ := List.mem_map.mp (List.mem_of_getElem? hx)
    obtain ⟨i, hi, rfl⟩ := List.mem_map.mp ha
    exact hrow i (List.mem_range.mp hi))
  have hD2 : va_D A (((X ++ va_pl L f) ++ [(H.size, .inl (cA, n.toNatClampNeg, .inr (.inr (.inr (.inr (fun i => if i < n.toNatClampNeg then some (H.size + 1 + i) else none))))))]) ++ ((List.range n.toNatClampNeg).map (fun i => H.size + 1 + i)).map (fun a => (a, .inl (cy, z)))) := by
    have hD1 := hD.push (e := .inl (cA, n.toNatClampNeg, .inr (.inr (.inr (.inr (fun i => if i < n.toNatClampNeg then some (H.size + 1 + i) else none)))))) hP rfl (hA _ hS.1)
    generalize hW1 : (X ++ va_pl L f) ++ [(H.size, .inl (cA, n.toNatClampNeg, .inr (.inr (.inr (.inr (fun i => if i < n.toNatClampNeg then some (H.size + 1 + i) else none))))))] = W1 at hD1 hP1 ⊢
    have hle : ∀ (k9 : Nat) (x : Nat × va_E), W1[k9]? = some x → x.1 ≤ H.size := fun k9 x hx => by
      rw [← hW1] at hx
      by_cases hl : k9 < (X ++ va_pl L f).length
      · rw [List.getElem?_append_left hl] at hx
        exact Nat.le_of_lt ((hP k9 x hx).lt)
      · rw [List.getElem?_append_right (by omega)] at hx
        have h0 : k9 - (X ++ va_pl L f).length < 1 := (List.getElem?_eq_some_iff.mp hx).1
        rw [show k9 - (X ++ va_pl L f).length = 0 by omega] at hx
        cases hx
        exact Nat.le_refl _
    have hr : ∀ (k9 : Nat) (x : Nat × va_E), (((List.range n.toNatClampNeg).map (fun i => H.size + 1 + i)).map (fun a => ((a, .inl (cy, z)) : Nat × va_E)))[k9]? = some x → x.1 = H.size + 1 + k9 := fun k9 x hx => by
      rw [List.getElem?_map, List.getElem?_map] at hx
      by_cases h9 : k9 < n.toNatClampNeg
      · rw [List.getElem?_range h9] at hx
        cases hx
        rfl
      · have hn0 : (List.range n.toNatClampNeg)[k9]? = none := List.getElem?_eq_none (by rw [List.length_range]; omega)
        rw [hn0] at hx
        cases hx
    refine ⟨fun i j x y hi hj hxy => ?_, fun k9 x hx => ?_⟩
    · by_cases h1 : i < W1.length <;> by_cases h2 : j < W1.length
      · rw [List.getElem?_append_left h1] at hi
        rw [List.getElem?_append_left h2] at hj
        exact hD1.1 i j x y hi hj hxy
      · rw [List.getElem?_append_left h1] at hi
        rw [List.getElem?_append_right (by omega)] at hj
        have := hle _ _ hi
        have := hr _ _ hj
        omega
      · rw [List.getElem?_append_right (by omega)] at hi
        rw [List.getElem?_append_left h2] at hj
        have := hle _ _ hj
        have := hr _ _ hi
        omega
      · rw [List.getElem?_append_right (by omega)] at hi hj
        have := hr _ _ hi
        have := hr _ _ hj
        omega
    · by_cases h1 : k9 < W1.length
      · rw [List.getElem?_append_left h1] at hx
        exact hD1.2 k9 x hx
      · rw [List.getElem?_append_right (by omega)] at hx
        have := hr _ _ hx
        exact hA _ (by have := hS.1; omega)
  have hAr : ArrOfT s cA (.array ty) := fun N9 z9 => by
    obtain ⟨-, k9, hk9, cm9, hkk9⟩ := (hO 0 0 0).1
    exact ⟨(fun q hq => by cases hq), k9, hk9, cm9, hkk9⟩
  have hK2 : va_K D cl (tys ++ [(cA, .array ty)]) s := ⟨hK.1, fun k9 x hx => by
    by_cases hl : k9 < tys.length
    · rw [List.getElem?_append_left hl] at hx
      exact hK.2 k9 x hx
    · rw [List.getElem?_append_right (by omega)] at hx
      have h0 : k9 - tys.length < 1 := (List.getElem?_eq_some_iff.mp hx).1
      rw [show k9 - tys.length = 0 by omega] at hx
      cases hx
      exact ⟨hAr, fA⟩⟩
  obtain ⟨t, a1, b1⟩ := kk H.size (fun i => H.size + 1 + i) cA F.heap (fun i j _ _ h => by have h9 : H.size + 1 + i = H.size + 1 + j := h; omega) hnl hK2 (by rw [← vr_rows hnm]; exact vr_lay hP2) (by rw [← vr_rows hnm]; exact vr_layD hD2) ⟨by rw [f1]; have := hS.1; omega, fun x h1 h2 => (hold x (Nat.lt_of_lt_of_le h1 hS.1)).trans (hS.2.1 x h1 h2), hS.2.2⟩ F rfl X'
  refine ⟨t, step t ?_, b1⟩
  have e : T.heap.size = H.size := by rw [hT]
  rw [e]
  exact a1
end VGM
/-! ===== END ===== -/
/-! ===== BEGIN words of one list among another's, by their places ===== -/
theorem goodIn_r {big : List Cond} (ws : List Cond) (ps : List Nat) (hp : ws = ps.filterMap (fun i => big[i]?)) (h : ws.all goodWord = true) : GoodIn big ws := by
  intro w hw
  have h1 := List.all_eq_true.mp h w hw
  rw [hp] at hw
  obtain ⟨i, -, hi⟩ := List.mem_filterMap.mp hw
  have hm : w ∈ big := by first | exact List.mem_of_getElem? hi | exact List.getElem?_mem hi
  exact ⟨hm, good_of_word h1⟩
theorem goodIn_app {big a b : List Cond} (ha : GoodIn big a) (hb : GoodIn big b) : GoodIn big (a ++ b) := fun w h => (List.mem_append.mp h).elim (ha w) (hb w)
theorem goodIn_ca {big a b : List Cond} {c : Cond} (ha : GoodIn big (c :: a)) (hb : GoodIn big b) : GoodIn big (c :: (a ++ b)) := fun w h => (List.mem_cons.mp h).elim (fun e => ha w (List.mem_cons.mpr (Or.inl e))) (fun h => (List.mem_append.mp h).elim (fun h => ha w (List.mem_cons.mpr (Or.inr h))) (hb w))
theorem goodIn_sub {big ws : List Cond} (hm : ∀ w ∈ ws, w ∈ big) (h : ws.all goodWord = true) : GoodIn big ws := fun w hw => ⟨hm w hw, good_of_word (List.all_eq_true.mp h w hw)⟩
/-! ===== END ===== -/
/-! ===== BEGIN exceptions that leave a method, and their catching by the caller (launches without stack traces) ===== -/
section VXA
/-! The laws vx_back, vx_callV, vx_callS, vx_callSW, vx_throw0, vx_throwS follow proofs of the library, with one case more: JvmDerived/Free/Laws.lean (Back.of_free), Shelf42/LK1.lean (callV, callS), Shelf/KitTraced.lean (throwNew0V, throwNewS). -/
/-- where a method has thrown q: the class by its name, the cell, what was written, the world -/
def vx_T (XC : String → State → State → Prop) (st : State) (q : Addr) (t : State) (mc ms : Nat) (free : Addr → Prop) : Prop :=
  ∃ (E : String) (ce : Cell) (L : List Loc), XC E st t ∧ t.heap[q]? = some ce ∧ ce.vm = .none ∧ st.vm.findClass E = some ce.cls ∧ st.WarmedH t.vm ∧ st.sameButNew ({ t with vm := st.vm } : State) L mc ms ∧ ∀ z ∈ L, free z.base
def vx_Q (Qc : Array Value → State → Outcome → State → Prop) (XC : String → State → State → Prop) (mc ms : Nat) (free : Addr → Prop) : Array Value → State → Outcome → State → Prop := fun a st o t =>
  (Qc a st o t ∧ ∃ L, FrameEnd st o t L mc ms ∧ ∀ q ∈ L, free q.base) ∨ ∃ q, o = .threw q ∧ vx_T XC st q t mc ms free
/-- a callee that returns or throws -/
def vx_Met (l : Launch) (y : MethodName) (ws : List Cond) (rm : Room) (Pc : Array Value → State → Prop) (Qc : Array Value → State → Outcome → State → Prop) (XC : String → State → State → Prop) (mc ms : Nat) (free : Addr → Prop) : Prop :=
  MetFree l y (headSpec ws rm) Pc (fun _ _ _ _ _ => True) (vx_Q Qc XC mc ms free)
def vx_Post (XC : String → State → State → Prop) (mc ms : Nat) (free : Addr → Prop) : Pt → Array Value → Addr → Pt → Prop := fun A a q B =>
  ∃ (g : JFrame) (mk : MethodId) (t : State) (L : List Loc) (E : String) (ce : Cell), B.U.heap = t.heap ∧ B.U.vm = t.vm ∧ XC E (A.U.calling g mk a) t ∧ t.heap[q]? = some ce ∧ ce.vm = .none ∧ A.U.vm.findClass E = some ce.cls ∧ B.locs = A.locs ++ L ∧ (∀ z ∈ L, free z.base) ∧ B.cells = A.cells + mc ∧ B.slots = A.slots + ms
def vx_Back (l : Launch) (R : Room) (p : Program) (e : Env) (below : List Frame) (s : State) (sargs : Array Value) (y : MethodName) (len W9 : Nat)
    (Pre : Pt → Array Value → Prop) (Post : Pt → Array Value → Option Value → Pt → Prop) (PostX : Pt → Array Value → Addr → Pt → Prop) : Prop :=
  ∀ (m : MethodId) (meth : Method) (c : Code) (A : Pt) (g : JFrame) (ig : Instr) (mk : MethodId) (a : Array Value),
    Stand p l e R s m sargs below meth c A.U A.locs A.cells A.slots → g.method = m → g.locals.size = c.maxLocals → decode c.code g.pc = .ok (ig, len) →
    2 * g.monitorRoom + (g.stack.map fun v => v.category).sum ≤ W9 → A.U.methodNamed? y = some mk → Pre A a →
    (∃ (v : Option Value) (B : Pt), Stand p l e R s m sargs below meth c B.U B.locs B.cells B.slots ∧ Post A a v B ∧
      Steps p.tables e below (doInvoke e (A.U.setTop g) [] mk a).1 (B.U.setTop { g with pc := g.pc + len, stack := v.toList ++ g.stack })) ∨
    (∃ (q : Addr) (B : Pt), Stand p l e R s m sargs below meth c B.U B.locs B.cells B.slots ∧ PostX A a q B ∧
      Steps p.tables e below (doInvoke e (A.U.setTop g) [] mk a).1 ((B.U.setTop g).pushFrame (.throwing q)))
section Payer
variable {l : Launch} {R : Room} {p : Program} {e : Env} {below : List Frame} {s : State} {sargs : Array Value} {y : MethodName} {len W9 : Nat}
theorem vx_back {ws : List Cond} {rm : Room} {Pc : Array Value → State → Prop} {Qc : Array Value → State → Outcome → State → Prop} {XC : String → State → State → Prop} {mc ms : Nat} {free : Addr → Prop} {bytes : ByteArray} {maxL : Nat} {ret : Option FieldType}
    (hM : vx_Met l y ws rm Pc Qc XC mc ms free) (hblind : FrameBlind Pc) (hrc : rm.cells = mc) (hrs : rm.slots = ms)
    (hframes : rm.frames + 1 ≤ R.frames) (hlocals : W9 + (maxL + 11) + rm.locals ≤ R.locals)
    (hws : ∀ w ∈ ws, ∀ a' U, s.WarmedH U.vm → w.before a' U = true) (hcode : Cond.code y bytes maxL ret ∈ ws) (hinit : ∀ a' U, s.WarmedH U.vm → (Cond.initialized y.cls).before a' U = true) :
    vx_Back l R p e below s sargs y len W9 (PreOf R mc ms Pc) (PostOf Qc mc ms free) (vx_Post XC mc ms free) := by
  intro m meth c A g ig mk a X hg hsize hdg hW hn hp
  have h1 : (headSpec ws rm).pre.before a A.U = true := atoms_intro fun w hw => hws w hw _ _ X.warmed
  have h2 : (Cond.code y bytes maxL ret).before a A.U = true := hws _ hcode _ _ X.warmed
  have h3 : (Cond.initialized y.cls).before a A.U = true := hinit _ _ X.warmed
  have h4 : A.cells + (headSpec ws rm).room.cells ≤ R.cells := by rw [show (headSpec ws rm).room.cells = mc from hrc]; exact hp.1
  have h5 : A.slots + (headSpec ws rm).room.slots ≤ R.slots := by rw [show (headSpec ws rm).room.slots = ms from hrs]; exact hp.2.1
  have hPc : Pc a (A.U.calling g mk a) := hblind _ _ _ _ hp.2.2
  obtain ⟨U, Ls, c0, s0⟩ := A
  dsimp only [Pt.U, Pt.locs, Pt.cells, Pt.slots] at h1 h2 h3 h4 h5 X hn hPc ⊢
  obtain ⟨methY, cY, hmY, hcY, -, hlY, -, -, -, -⟩ := Cond.code_spec hn h2
  obtain ⟨kY, hkY, -⟩ := className_of_methodNamed hn
  have hinitY : kY.init = .initialized := Cond.initialized_spec (findClass_of_methodNamed hn) hkY h3
  have h : At U g.method c below := by rw [hg]; exact X.here
  have hlocals9 : W9 + (maxL + 11) + (headSpec ws rm).room.locals ≤ R.locals := hlocals
  have happ : (headSpec ws rm).appliesLoose y e.platform (U.calling g mk a) = true :=
    Spec.appliesLoose_calling (g := g) h hdg hn hkY hinitY
      (X.room_calling (g := g) (R' := (headSpec ws rm).room) hsize hmY hcY hframes (by rw [hlY]; omega) h4 h5) h1
  obtain ⟨mid, hmid⟩ := h.above
  have hfr : (U.setTop g).frames = (.java g :: mid) ++ below := by rw [State.frames_setTop' g h.top, hmid]; rfl
  obtain ⟨o, s₂, hsteps, -, hend, hq⟩ := Steps.callFree hM p X.admits X.cas X.clock (acts := []) hfr happ hPc trivial
  have hq' : vx_Q Qc XC mc ms free a (U.calling g mk a) o s₂ := hq
  rw [State.frames_setTop' g h.top] at hend
  obtain ⟨g₀, hg0⟩ := Option.isSome_iff_exists.mp h.top
  obtain ⟨r, hr⟩ := State.topJava?_eq_some.mp hg0
  have hr' : (({ U with heap := s₂.heap, slotsUsed := s₂.slotsUsed } : State).setVm s₂.vm).frames = .java g₀ :: r := hr
  rcases hq' with ⟨hqc, L, hfe, hL⟩ | ⟨q, rfl, E, ce, L, hx, hce, hcv, hcl, hW₂, hsm, hL⟩
  · obtain ⟨⟨v, rfl⟩, hW₂, e2, q2, q3, q4, q5, q6⟩ := id hfe
    have e3 : s₂ = ({ (U.calling g mk a).setFrames s₂.frames with heap := s₂.heap, slotsUsed := s₂.slotsUsed } : State).setVm s₂.vm := by
      have : s₂ = ({ s₂ with vm := (U.calling g mk a).vm } : State).setVm s₂.vm := rfl
      rw [e2] at this
      exact this
    obtain ⟨c₂, i₂, len₂, hc₂, hd₂, hf₂⟩ := hend
    have hW' : U.WarmedH s₂.vm := hW₂
    have hcc : c₂ = c := by
      have h1 : s₂.code? g.method = U.code? g.method := by
        rw [State.code?_eq, State.code?_eq, hW'.alike.method?]
      exact Option.some.inj (hc₂.symm.trans (h1.trans h.code))
    subst hcc
    have hlen : len₂ = len := by rw [hdg] at hd₂; cases hd₂; rfl
    subst hlen
    have hs₂ : s₂ = (({ U with heap := s₂.heap, slotsUsed := s₂.slotsUsed } : State).setVm s₂.vm).setTop { g with pc := g.pc + len₂, stack := v.toList ++ g.stack } := by
      refine e3.trans ?_
      rw [hf₂, State.calling_eq h.top, State.setFrames_setFrames, State.setTop_of_frames _ hr', hr]
      rfl
    have hsame : U.sameButNew ({ U with heap := s₂.heap, slotsUsed := s₂.slotsUsed } : State) L mc ms := by
      refine ⟨?_, q2, q3, q4, q5, q6⟩
      obtain ⟨t, ht, -⟩ := State.frames_cons hr
      show ({ U with heap := s₂.heap, slotsUsed := s₂.slotsUsed } : State) = { U.setFrames U.frames with heap := s₂.heap, slotsUsed := s₂.slotsUsed }
      rw [State.setFrames_self ht]
    subst hg
    refine Or.inl ⟨v, ⟨(({ U with heap := s₂.heap, slotsUsed := s₂.slotsUsed } : State).setVm s₂.vm), Ls ++ L, c0 + mc, s0 + ms⟩,
      ⟨X.admits, X.cas, X.clock, X.frames, X.room, X.hears, X.method, X.code, (X.here.setHeapUsed s₂.heap s₂.slotsUsed).setVm hW'.alike, X.tail, State.WarmedH.trans X.warmed hW', X.limits, X.bytes, X.same.trans (hsame.setVm s.vm)⟩,
      ⟨g, mk, s₂, L, rfl, rfl, hqc, rfl, hL, rfl, rfl⟩, ?_⟩
    show Steps p.tables e below _ ((({ U with heap := s₂.heap, slotsUsed := s₂.slotsUsed } : State).setVm s₂.vm).setTop { g with pc := g.pc + len₂, stack := v.toList ++ g.stack })
    rw [← hs₂]
    exact hsteps
  · obtain ⟨e2, q2, q3, q4, q5, q6⟩ := id hsm
    have e3 : s₂ = ({ (U.calling g mk a).setFrames s₂.frames with heap := s₂.heap, slotsUsed := s₂.slotsUsed } : State).setVm s₂.vm := by
      have : s₂ = ({ s₂ with vm := (U.calling g mk a).vm } : State).setVm s₂.vm := rfl
      rw [e2] at this
      exact this
    have hf₂ : s₂.frames = .throwing q :: .java g :: U.frames.tail := hend
    have hW' : U.WarmedH s₂.vm := hW₂
    have hs₂ : s₂ = ((({ U with heap := s₂.heap, slotsUsed := s₂.slotsUsed } : State).setVm s₂.vm).setTop g).pushFrame (.throwing q) := by
      refine e3.trans ?_
      rw [hf₂, State.calling_eq h.top, State.setFrames_setFrames, State.pushFrame, State.frames_setTop _ hr', State.setTop_of_frames _ hr', State.setFrames_setFrames, hr]
      rfl
    have hsame : U.sameButNew ({ U with heap := s₂.heap, slotsUsed := s₂.slotsUsed } : State) L mc ms := by
      refine ⟨?_, q2, q3, q4, q5, q6⟩
      obtain ⟨t, ht, -⟩ := State.frames_cons hr
      show ({ U with heap := s₂.heap, slotsUsed := s₂.slotsUsed } : State) = { U.setFrames U.frames with heap := s₂.heap, slotsUsed := s₂.slotsUsed }
      rw [State.setFrames_self ht]
    subst hg
    refine Or.inr ⟨q, ⟨(({ U with heap := s₂.heap, slotsUsed := s₂.slotsUsed } : State).setVm s₂.vm), Ls ++ L, c0 + mc, s0 + ms⟩,
      ⟨X.admits, X.cas, X.clock, X.frames, X.room, X.hears, X.method, X.code, (X.here.setHeapUsed s₂.heap s₂.slotsUsed).setVm hW'.alike, X.tail, State.WarmedH.trans X.warmed hW', X.limits, X.bytes, X.same.trans (hsame.setVm s.vm)⟩,
      ⟨g, mk, s₂, L, E, ce, rfl, rfl, hx, hce, hcv, hcl, rfl, hL, rfl, rfl⟩, ?_⟩
    show Steps p.tables e below _ (((({ U with heap := s₂.heap, slotsUsed := s₂.slotsUsed } : State).setVm s₂.vm).setTop g).pushFrame (.throwing q))
    rw [← hs₂]
    exact hsteps
end Payer
section Calls
variable {p : Program} {l : Launch} {e : Env} {R : Room} {s : State} {m : MethodId} {args : Array Value} {below : List Frame} {meth : Method} {c : Code} {T : State} {locs : List Loc} {cells slots : Nat}
theorem vx_callV (X : Stand p l e R s m args below meth c T locs cells slots) (hexec : p.tables.exec = Jvm.exec) {own C : String} {index : Nat} {y : MethodName} {bytes : ByteArray} {maxL : Nat} {ret : Option FieldType}
    (hown : s.vm.findClass own = some m.cls) (hlink : (Cond.methodLink own index y).before args s = true) (hinst : (Cond.instanceMethod y).before args s = true) (hsel : (Cond.selects C y y).before args s = true)
    (hcode : (Cond.code y bytes maxL ret).before args s = true) (hy : y.cls ≠ "java/lang/invoke/MethodHandle" ∧ y.cls ≠ "java/lang/invoke/VarHandle")
    {W9 : Nat} {Pre : Pt → Array Value → Prop} {Post : Pt → Array Value → Option Value → Pt → Prop} {PostX : Pt → Array Value → Addr → Pt → Prop} (hK : vx_Back l R p e below s args y 3 W9 Pre Post PostX)
    {b : Addr} {cellB : Cell} (hcell : T.heap[b]? = some cellB) (hobj : cellB.vm.isStatics = false) (hcls : s.vm.findClass C = some cellB.cls)
    {g : JFrame} (hg : g.method = m) (hsize : g.locals.size = c.maxLocals) {argsL rest : List Value} (hlen : ∀ sig, parseMethodDescriptor y.desc = some sig → argsL.length = sig.parameters.length)
    (hstack : g.stack = argsL.reverse ++ .ref b :: rest) (hW : 2 * g.monitorRoom + (rest.map fun v => v.category).sum ≤ W9) (hdg : decode c.code g.pc = .ok (.invokevirtual index, 3))
    (hpre : ∀ vm₁, s.WarmedH vm₁ → Pre ⟨T.setVm vm₁, locs, cells, slots⟩ (Value.ref b :: argsL).toArray) :
    (∃ (v : Option Value) (vm₁ : Vm) (B : Pt), s.WarmedH vm₁ ∧ Stand p l e R s m args below meth c B.U B.locs B.cells B.slots ∧ Post ⟨T.setVm vm₁, locs, cells, slots⟩ (Value.ref b :: argsL).toArray v B ∧
      ∀ target, Steps p.tables e below (B.U.setTop { g with pc := g.pc + 3, stack := v.toList ++ rest }) target → Steps p.tables e below (T.setTop g) target) ∨
    (∃ (q : Addr) (vm₁ : Vm) (B : Pt), s.WarmedH vm₁ ∧ Stand p l e R s m args below meth c B.U B.locs B.cells B.slots ∧ PostX ⟨T.setVm vm₁, locs, cells, slots⟩ (Value.ref b :: argsL).toArray q B ∧
      Steps p.tables e below (T.setTop g) ((B.U.setTop { g with stack := rest }).pushFrame (.throwing q))) := by
  obtain ⟨mk, methM, hnamed, hmethM, hstM, habM⟩ := Cond.instanceMethod_spec hinst
  obtain ⟨methM', cM, hmethM', -, -, -, -, -, -, hsigM⟩ := Cond.code_spec hnamed hcode
  cases hmethM.symm.trans hmethM'
  obtain ⟨c2, r2, m2, q1, q2, q3, q4, kP, hkP, hkPi⟩ := Cond.selects_spec hsel
  cases hcls.symm.trans q1
  cases (State.methodFound?_of_named hnamed hy).symm.trans q2
  cases hnamed.symm.trans q3
  have hselP : selectMethod e.platform s.vm cellB.cls mk = .method mk := by rw [Launch.admits_selectMethod X.admits]; exact q4
  obtain ⟨vm₁, X₁, hstep₁⟩ := X.invokevirtual hexec hown hlink hnamed hmethM hstM hkP hkPi hy (a := b) (cell := cellB) hcell
    (fun z h => by rw [h] at hobj; cases hobj) hselP hmethM habM hkP hkPi (g := g) hg (argsL := argsL) (rest := rest) (hlen _ hsigM) hstack hdg
  rcases hK m meth c ⟨T.setVm vm₁, locs, cells, slots⟩ { g with stack := rest } (.invokevirtual index) mk (Value.ref b :: argsL).toArray X₁ hg hsize hdg hW (X₁.named hnamed) (hpre vm₁ X₁.warmed) with ⟨v, B, X', hpost, hsteps⟩ | ⟨q, B, X', hpost, hsteps⟩
  · exact Or.inl ⟨v, vm₁, B, X₁.warmed, X', hpost, fun target h => hstep₁ _ fun acts => by rw [doInvoke_state]; exact hsteps.trans h⟩
  · exact Or.inr ⟨q, vm₁, B, X₁.warmed, X', hpost, hstep₁ _ fun acts => by rw [doInvoke_state]; exact hsteps⟩
theorem vx_callS (X : Stand p l e R s m args below meth c T locs cells slots) (hexec : p.tables.exec = Jvm.exec) {own : String} {index : Nat} {y : MethodName} {bytes : ByteArray} {maxL : Nat} {ret : Option FieldType}
    (hown : s.vm.findClass own = some m.cls) (hlink : (Cond.methodLink own index y).before args s = true) (hstat : (Cond.static y).before args s = true) (hinit : (Cond.initialized y.cls).before args s = true)
    (hcode : (Cond.code y bytes maxL ret).before args s = true) (hy : y.cls ≠ "java/lang/invoke/MethodHandle" ∧ y.cls ≠ "java/lang/invoke/VarHandle")
    {W9 : Nat} {Pre : Pt → Array Value → Prop} {Post : Pt → Array Value → Option Value → Pt → Prop} {PostX : Pt → Array Value → Addr → Pt → Prop} (hK : vx_Back l R p e below s args y 3 W9 Pre Post PostX)
    {g : JFrame} (hg : g.method = m) (hsize : g.locals.size = c.maxLocals) {argsL rest : List Value} (hlen : ∀ sig, parseMethodDescriptor y.desc = some sig → argsL.length = sig.parameters.length)
    (hstack : g.stack = argsL.reverse ++ rest) (hW : 2 * g.monitorRoom + (rest.map fun v => v.category).sum ≤ W9) (hdg : decode c.code g.pc = .ok (.invokestatic index, 3))
    (hpre : ∀ vm₁, s.WarmedH vm₁ → Pre ⟨T.setVm vm₁, locs, cells, slots⟩ argsL.toArray) :
    (∃ (v : Option Value) (vm₁ : Vm) (B : Pt), s.WarmedH vm₁ ∧ Stand p l e R s m args below meth c B.U B.locs B.cells B.slots ∧ Post ⟨T.setVm vm₁, locs, cells, slots⟩ argsL.toArray v B ∧
      ∀ target, Steps p.tables e below (B.U.setTop { g with pc := g.pc + 3, stack := v.toList ++ rest }) target → Steps p.tables e below (T.setTop g) target) ∨
    (∃ (q : Addr) (vm₁ : Vm) (B : Pt), s.WarmedH vm₁ ∧ Stand p l e R s m args below meth c B.U B.locs B.cells B.slots ∧ PostX ⟨T.setVm vm₁, locs, cells, slots⟩ argsL.toArray q B ∧
      Steps p.tables e below (T.setTop g) ((B.U.setTop { g with stack := rest }).pushFrame (.throwing q))) := by
  obtain ⟨mk, hnamed⟩ := Cond.code_named hcode
  obtain ⟨methM, cM, hmethM, -, -, -, -, -, -, hsigM⟩ := Cond.code_spec hnamed hcode
  have hstatic : methM.isStatic = true := Cond.static_spec hnamed hmethM hstat
  obtain ⟨kP, hkP, -⟩ := className_of_methodNamed hnamed
  have hinitP : kP.init = .initialized := Cond.initialized_spec (findClass_of_methodNamed hnamed) hkP hinit
  obtain ⟨vm₁, X₁, hstep₁⟩ := X.invokestatic hexec hown hlink hnamed hmethM hstatic hkP hinitP hy (g := g) hg (argsL := argsL) (rest := rest) (hlen _ hsigM) hstack hdg
  rcases hK m meth c ⟨T.setVm vm₁, locs, cells, slots⟩ { g with stack := rest } (.invokestatic index) mk argsL.toArray X₁ hg hsize hdg hW (X₁.named hnamed) (hpre vm₁ X₁.warmed) with ⟨v, B, X', hpost, hsteps⟩ | ⟨q, B, X', hpost, hsteps⟩
  · exact Or.inl ⟨v, vm₁, B, X₁.warmed, X', hpost, fun target h => hstep₁ _ fun acts => by rw [doInvoke_state]; exact hsteps.trans h⟩
  · exact Or.inr ⟨q, vm₁, B, X₁.warmed, X', hpost, hstep₁ _ fun acts => by rw [doInvoke_state]; exact hsteps⟩
end Calls
theorem vx_cls {s : State} {T : State} {vm₁ : Vm} {E : String} {k : ClassId} (hW : s.WarmedH vm₁) (h : (T.setVm vm₁).vm.findClass E = some k) : s.vm.findClass E = some k := by
  have h1 : vm₁.findClass E = some k := h
  rw [hW.alike.findClass] at h1
  exact h1
/-- the method's frame g, with q thrown over it -/
def vx_W (p : Program) (l : Launch) (e : Env) (R : Room) (s : State) (m : MethodId) (args : Array Value) (below : List Frame) (meth : Method) (c : Code) (H : Heap) (locs : List Loc) (cells slots : Nat) (Q : State → Prop) (g : JFrame) (q : Addr) : Prop :=
  ∀ T : State, T.heap = H → Stand p l e R s m args below meth c T locs cells slots → ∃ t, Steps p.tables e below ((T.setTop g).pushFrame (.throwing q)) t ∧ Q t
def vx_Run (p : Program) (l : Launch) (e : Env) (R : Room) (s : State) (m : MethodId) (args : Array Value) (below : List Frame) (meth : Method) (c : Code) (H : Heap) (locs : List Loc) (cells slots mc ms : Nat) (g : JFrame) (rest : List Value) (Qa : State → Outcome → State → Prop) (XC : String → State → State → Prop) (free : Addr → Prop) : Prop :=
  ∀ T : State, T.heap = H → Stand p l e R s m args below meth c T locs cells slots →
    (∃ (v : Option Value) (st₀ t T' : State) (L : List Loc), st₀.heap = H ∧ Stand p l e R s m args below meth c T' (locs ++ L) (cells + mc) (slots + ms) ∧ (∀ q ∈ L, free q.base) ∧ T'.heap = t.heap ∧ T'.vm = t.vm ∧ Qa st₀ (.returned v) t ∧
      Goes p e below T g T' { g with pc := g.pc + 3, stack := v.toList ++ rest }) ∨
    (∃ (q : Addr) (st₀ t T' : State) (L : List Loc) (E : String) (ce : Cell), st₀.heap = H ∧ Stand p l e R s m args below meth c T' (locs ++ L) (cells + mc) (slots + ms) ∧ (∀ z ∈ L, free z.base) ∧ T'.heap = t.heap ∧ T'.vm = t.vm ∧ XC E st₀ t ∧ t.heap[q]? = some ce ∧ ce.vm = .none ∧ s.vm.findClass E = some ce.cls ∧
      Steps p.tables e below (T.setTop g) ((T'.setTop { g with stack := rest }).pushFrame (.throwing q)))
def vx_X {S : Type} (px : S → Prop) (B : String → S → State → Prop) (A : Nat → Prop) : String → State → State → Prop := fun E st t => ∃ u : S, px u ∧ B E u t ∧ va_F A st t
section Runs
variable {p : Program} {l : Launch} {e : Env} {R : Room} {s : State} {m : MethodId} {args : Array Value} {below : List Frame} {meth : Method} {c : Code} {H : Heap} {locs : List Loc} {cells slots : Nat}
variable {y : MethodName} {bytes cc : ByteArray} {maxL nL mc ms n index : Nat} {ret : Option FieldType} {ws : List Cond} {rm : Room} {Pc : Array Value → State → Prop} {Qc : Array Value → State → Outcome → State → Prop} {XC : String → State → State → Prop} {free : Addr → Prop} {Ts : List Cond} {own C : String} {b : Addr} {As rest : List Value} {g : JFrame}
theorem vx_callBack (cb : CallB R s args own index y bytes maxL ret ws rm mc ms n) (hM : vx_Met l y ws rm Pc Qc XC mc ms free) (hbl : FrameBlind Pc) : vx_Back l R p e below s args y 3 8 (PreOf R mc ms Pc) (PostOf Qc mc ms free) (vx_Post XC mc ms free) := by
  obtain ⟨hrc, hrs, hfr, hlo, hws, hcw, -, hini, -⟩ := cb
  exact vx_back (bytes := bytes) (maxL := maxL) (ret := ret) hM hbl hrc hrs hfr hlo hws hcw (fun a' U hW => word_at hW (Or.inl (by first | rfl | simp [Cond.onTables, Cond.keeps, Cond.steady])) hini)
theorem vx_runV (S : CallFix p m c cc nL s args Ts own) (hM : vx_Met l y ws rm Pc Qc XC mc ms free) (cw : CallW R s args own C index y bytes maxL ret ws rm mc ms n) (hp : PreV s H C b Pc As)
    (hg : g.method = m) (hn : As.length = n) (hsize : g.locals.size = nL) (hstack : g.stack = As.reverse ++ .ref b :: rest) (hW : 2 * g.monitorRoom + (rest.map fun v => v.category).sum ≤ 8) (hdg : decode cc g.pc = .ok (.invokevirtual index, 3)) (hf : cells + mc ≤ R.cells ∧ slots + ms ≤ R.slots) :
    vx_Run p l e R s m args below meth c H locs cells slots mc ms g rest (Qc (Value.ref b :: As).toArray) XC free := by
  have hK : vx_Back l R p e below s args y 3 8 (PreOf R mc ms Pc) (PostOf Qc mc ms free) (vx_Post XC mc ms free) := vx_callBack cw.1 hM hp.1
  obtain ⟨⟨-, -, -, -, -, -, hcode, -, hy, hlen, hl⟩, hin, hse⟩ := cw
  obtain ⟨hx, hb, hml, ho, -⟩ := S
  obtain ⟨-, ⟨cellB, hcB, hoB, hclB⟩, hPc⟩ := hp
  intro T hT X
  rcases vx_callV X hx (C := C) (bytes := bytes) (maxL := maxL) (ret := ret) ho hl hin hse hcode hy hK (by rw [hT]; exact hcB) hoB hclB hg (hsize.trans hml.symm) (argsL := As) (rest := rest) (fun sig h => hn.trans (hlen sig h)) hstack hW (by rw [hb]; exact hdg)
    (fun vm₁ hW₁ => ⟨hf.1, hf.2, hPc (T.setVm vm₁) hT hW₁⟩) with ⟨v, vm₁, ⟨U', l2, c2, s2⟩, hW₁, X', ⟨g', mk, t, L, e1, e2, hq, h1, hL, h2, h3⟩, st⟩ | ⟨q, vm₁, ⟨U', l2, c2, s2⟩, hW₁, X', ⟨g', mk, t, L, E, ce, e1, e2, hq, hce, hcv, hcl, h1, hL, h2, h3⟩, st⟩
  · dsimp only [Pt.U, Pt.locs, Pt.cells, Pt.slots] at X' e1 e2 h1 h2 h3 st
    subst h1; subst h2; subst h3
    exact Or.inl ⟨v, (T.setVm vm₁).calling g' mk (Value.ref b :: As).toArray, t, U', L, hT, X', hL, e1, e2, hq, st⟩
  · dsimp only [Pt.U, Pt.locs, Pt.cells, Pt.slots] at X' e1 e2 h1 h2 h3 st hcl
    subst h1; subst h2; subst h3
    exact Or.inr ⟨q, (T.setVm vm₁).calling g' mk (Value.ref b :: As).toArray, t, U', L, E, ce, hT, X', hL, e1, e2, hq, hce, hcv, vx_cls hW₁ hcl, st⟩
theorem vx_runS (S : CallFix p m c cc nL s args Ts own) (hM : vx_Met l y ws rm Pc Qc XC mc ms free) (cw : CallB R s args own index y bytes maxL ret ws rm mc ms n ∧ (Cond.static y).before args s = true) (hp : PreS s H Pc As)
    (hg : g.method = m) (hn : As.length = n) (hsize : g.locals.size = nL) (hstack : g.stack = As.reverse ++ rest) (hW : 2 * g.monitorRoom + (rest.map fun v => v.category).sum ≤ 8) (hdg : decode cc g.pc = .ok (.invokestatic index, 3)) (hf : cells + mc ≤ R.cells ∧ slots + ms ≤ R.slots) :
    vx_Run p l e R s m args below meth c H locs cells slots mc ms g rest (Qc As.toArray) XC free := by
  have hK : vx_Back l R p e below s args y 3 8 (PreOf R mc ms Pc) (PostOf Qc mc ms free) (vx_Post XC mc ms free) := vx_callBack cw.1 hM hp.1
  obtain ⟨⟨-, -, -, -, -, -, hcode, hini, hy, hlen, hl⟩, hstt⟩ := cw
  obtain ⟨hx, hb, hml, ho, -⟩ := S
  intro T hT X
  rcases vx_callS X hx (bytes := bytes) (maxL := maxL) (ret := ret) ho hl hstt hini hcode hy hK hg (hsize.trans hml.symm) (argsL := As) (rest := rest) (fun sig h => hn.trans (hlen sig h)) hstack hW (by rw [hb]; exact hdg)
    (fun vm₁ hW₁ => ⟨hf.1, hf.2, hp.2 (T.setVm vm₁) hT hW₁⟩) with ⟨v, vm₁, ⟨U', l2, c2, s2⟩, hW₁, X', ⟨g', mk, t, L, e1, e2, hq, h1, hL, h2, h3⟩, st⟩ | ⟨q, vm₁, ⟨U', l2, c2, s2⟩, hW₁, X', ⟨g', mk, t, L, E, ce, e1, e2, hq, hce, hcv, hcl, h1, hL, h2, h3⟩, st⟩
  · dsimp only [Pt.U, Pt.locs, Pt.cells, Pt.slots] at X' e1 e2 h1 h2 h3 st
    subst h1; subst h2; subst h3
    exact Or.inl ⟨v, (T.setVm vm₁).calling g' mk As.toArray, t, U', L, hT, X', hL, e1, e2, hq, st⟩
  · dsimp only [Pt.U, Pt.locs, Pt.cells, Pt.slots] at X' e1 e2 h1 h2 h3 st hcl
    subst h1; subst h2; subst h3
    exact Or.inr ⟨q, (T.setVm vm₁).calling g' mk As.toArray, t, U', L, E, ce, hT, X', hL, e1, e2, hq, hce, hcv, vx_cls hW₁ hcl, st⟩
end Runs
section Rows
variable {p : Program} {l : Launch} {e : Env} {R : Room} {s : State} {m : MethodId} {args : Array Value} {below : List Frame} {meth : Method} {c : Code} {H : Heap} {locs : List Loc} {cells slots : Nat} {Q : State → Prop}
variable {mc ms : Nat} {free : Addr → Prop} {A0 A1 : Nat → Prop} {H0 : Heap} {a : Array Value} {pc : Nat} {ls : Array Slot} {st0 rest : List Value}
theorem vx_keep {st₀ t T' : State} {L : List Loc} (h0 : st₀.heap = H) (e1 : T'.heap = t.heap) (hS : va_S A0 H0 H locs) (hA : ∀ q, q < H.size → A1 q → A0 q) (hf : ∀ q, free q → A0 q) (hL : ∀ q ∈ L, free q.base) (hF : va_F A1 st₀ t) :
    H.size ≤ T'.heap.size ∧ (∀ q : Nat, q < H.size → ¬ A1 q → T'.heap[q]? = H[q]?) ∧ va_S A0 H0 T'.heap (locs ++ L) := by
  obtain ⟨hz, hk⟩ := hF
  rw [h0] at hz hk
  exact ⟨by rw [e1]; exact hz, fun q h1 h2 => by rw [e1]; exact hk q h1 h2,
    ⟨Nat.le_trans hS.1 (by rw [e1]; exact hz), fun q h1 h2 => by rw [e1, hk q (Nat.lt_of_lt_of_le h1 hS.1) (fun z => h2 (hA q (Nat.lt_of_lt_of_le h1 hS.1) z))]; exact hS.2.1 q h1 h2, fun q hq => by
      rcases List.mem_append.mp hq with h | h
      · exact hS.2.2 q h
      · exact hf _ (hL q h)⟩⟩
theorem vx_calli {S SX : Type} {post : Int32 → S → Prop} {px : SX → Prop} {B : S → State → Prop} {BX : String → SX → State → Prop} {AX : Nat → Prop} (hr : vx_Run p l e R s m args below meth c H locs cells slots mc ms (F0 m pc ls st0) rest (va_Qi post B A1 a) (vx_X px BX AX) free) (hS : va_S A0 H0 H locs) (hA : ∀ q, q < H.size → A1 q → A0 q) (hf : ∀ q, free q → A0 q) (hAX : ∀ q, q < H.size → AX q → A0 q)
    (kx : ∀ (E : String) (ce : Cell) (q9 : Addr) (u : SX) (t : State) (H1 : Heap) (locs1 : List Loc), t.heap = H1 → s.vm.Alike t.vm → px u → BX E u t → H.size ≤ H1.size → (∀ q : Nat, q < H.size → ¬ AX q → H1[q]? = H[q]?) → va_S A0 H0 H1 locs1 → H1[q9]? = some ce → ce.vm = .none → s.vm.findClass E = some ce.cls → vx_W p l e R s m args below meth c H1 locs1 (cells + mc) (slots + ms) Q (F0 m pc ls rest) q9)
    (kk : ∀ (r : Int32) (u : S) (t : State) (H1 : Heap) (locs1 : List Loc), t.heap = H1 → s.vm.Alike t.vm → post r u → B u t → H.size ≤ H1.size → (∀ q : Nat, q < H.size → ¬ A1 q → H1[q]? = H[q]?) → va_S A0 H0 H1 locs1 → W p l e R s m args below meth c H1 locs1 (cells + mc) (slots + ms) Q (F0 m (pc + 3) ls (.int r :: rest))) : W p l e R s m args below meth c H locs cells slots Q (F0 m pc ls st0) := by
  intro T hT X
  rcases hr T hT X with ⟨v, st₀, t, T', L, h0, X', hL, e1, e2, ⟨⟨r, u, hv, hp, hb⟩, hF⟩, st⟩ | ⟨q, st₀, t, T', L, E, ce, h0, X', hL, e1, e2, ⟨u, hp, hb, hF⟩, hce, hcv, hcl, st⟩
  · cases hv
    obtain ⟨k1, k2, k3⟩ := vx_keep h0 e1 hS hA hf hL hF
    obtain ⟨t2, a1, b1⟩ := kk r u t T'.heap (locs ++ L) e1.symm (by rw [← e2]; exact X'.warmed.alike) hp hb k1 k2 k3 T' rfl X'
    exact ⟨t2, st t2 a1, b1⟩
  · obtain ⟨k1, k2, k3⟩ := vx_keep h0 e1 hS hAX hf hL hF
    obtain ⟨t2, a1, b1⟩ := kx E ce q u t T'.heap (locs ++ L) e1.symm (by rw [← e2]; exact X'.warmed.alike) hp hb k1 k2 k3 (by rw [e1]; exact hce) hcv hcl T' rfl X'
    exact ⟨t2, st.trans a1, b1⟩
theorem vx_calll {S SX : Type} {post : Int64 → S → Prop} {px : SX → Prop} {B : S → State → Prop} {BX : String → SX → State → Prop} {AX : Nat → Prop} (hr : vx_Run p l e R s m args below meth c H locs cells slots mc ms (F0 m pc ls st0) rest (va_Ql post B A1 a) (vx_X px BX AX) free) (hS : va_S A0 H0 H locs) (hA : ∀ q, q < H.size → A1 q → A0 q) (hf : ∀ q, free q → A0 q) (hAX : ∀ q, q < H.size → AX q → A0 q)
    (kx : ∀ (E : String) (ce : Cell) (q9 : Addr) (u : SX) (t : State) (H1 : Heap) (locs1 : List Loc), t.heap = H1 → s.vm.Alike t.vm → px u → BX E u t → H.size ≤ H1.size → (∀ q : Nat, q < H.size → ¬ AX q → H1[q]? = H[q]?) → va_S A0 H0 H1 locs1 → H1[q9]? = some ce → ce.vm = .none → s.vm.findClass E = some ce.cls → vx_W p l e R s m args below meth c H1 locs1 (cells + mc) (slots + ms) Q (F0 m pc ls rest) q9)
    (kk : ∀ (r : Int64) (u : S) (t : State) (H1 : Heap) (locs1 : List Loc), t.heap = H1 → s.vm.Alike t.vm → post r u → B u t → H.size ≤ H1.size → (∀ q : Nat, q < H.size → ¬ A1 q → H1[q]? = H[q]?) → va_S A0 H0 H1 locs1 → W p l e R s m args below meth c H1 locs1 (cells + mc) (slots + ms) Q (F0 m (pc + 3) ls (.long r :: rest))) : W p l e R s m args below meth c H locs cells slots Q (F0 m pc ls st0) := by
  intro T hT X
  rcases hr T hT X with ⟨v, st₀, t, T', L, h0, X', hL, e1, e2, ⟨⟨r, u, hv, hp, hb⟩, hF⟩, st⟩ | ⟨q, st₀, t, T', L, E, ce, h0, X', hL, e1, e2, ⟨u, hp, hb, hF⟩, hce, hcv, hcl, st⟩
  · cases hv
    obtain ⟨k1, k2, k3⟩ := vx_keep h0 e1 hS hA hf hL hF
    obtain ⟨t2, a1, b1⟩ := kk r u t T'.heap (locs ++ L) e1.symm (by rw [← e2]; exact X'.warmed.alike) hp hb k1 k2 k3 T' rfl X'
    exact ⟨t2, st t2 a1, b1⟩
  · obtain ⟨k1, k2, k3⟩ := vx_keep h0 e1 hS hAX hf hL hF
    obtain ⟨t2, a1, b1⟩ := kx E ce q u t T'.heap (locs ++ L) e1.symm (by rw [← e2]; exact X'.warmed.alike) hp hb k1 k2 k3 (by rw [e1]; exact hce) hcv hcl T' rfl X'
    exact ⟨t2, st.trans a1, b1⟩
theorem vx_callf {S SX : Type} {post : UInt32 → S → Prop} {px : SX → Prop} {B : S → State → Prop} {BX : String → SX → State → Prop} {AX : Nat → Prop} (hr : vx_Run p l e R s m args below meth c H locs cells slots mc ms (F0 m pc ls st0) rest (va_Qf post B A1 a) (vx_X px BX AX) free) (hS : va_S A0 H0 H locs) (hA : ∀ q, q < H.size → A1 q → A0 q) (hf : ∀ q, free q → A0 q) (hAX : ∀ q, q < H.size → AX q → A0 q)
    (kx : ∀ (E : String) (ce : Cell) (q9 : Addr) (u : SX) (t : State) (H1 : Heap) (locs1 : List Loc), t.heap = H1 → s.vm.Alike t.vm → px u → BX E u t → H.size ≤ H1.size → (∀ q : Nat, q < H.size → ¬ AX q → H1[q]? = H[q]?) → va_S A0 H0 H1 locs1 → H1[q9]? = some ce → ce.vm = .none → s.vm.findClass E = some ce.cls → vx_W p l e R s m args below meth c H1 locs1 (cells + mc) (slots + ms) Q (F0 m pc ls rest) q9)
    (kk : ∀ (r : UInt32) (u : S) (t : State) (H1 : Heap) (locs1 : List Loc), t.heap = H1 → s.vm.Alike t.vm → post r u → B u t → H.size ≤ H1.size → (∀ q : Nat, q < H.size → ¬ A1 q → H1[q]? = H[q]?) → va_S A0 H0 H1 locs1 → W p l e R s m args below meth c H1 locs1 (cells + mc) (slots + ms) Q (F0 m (pc + 3) ls (.float r :: rest))) : W p l e R s m args below meth c H locs cells slots Q (F0 m pc ls st0) := by
  intro T hT X
  rcases hr T hT X with ⟨v, st₀, t, T', L, h0, X', hL, e1, e2, ⟨⟨r, u, hv, hp, hb⟩, hF⟩, st⟩ | ⟨q, st₀, t, T', L, E, ce, h0, X', hL, e1, e2, ⟨u, hp, hb, hF⟩, hce, hcv, hcl, st⟩
  · cases hv
    obtain ⟨k1, k2, k3⟩ := vx_keep h0 e1 hS hA hf hL hF
    obtain ⟨t2, a1, b1⟩ := kk r u t T'.heap (locs ++ L) e1.symm (by rw [← e2]; exact X'.warmed.alike) hp hb k1 k2 k3 T' rfl X'
    exact ⟨t2, st t2 a1, b1⟩
  · obtain ⟨k1, k2, k3⟩ := vx_keep h0 e1 hS hAX hf hL hF
    obtain ⟨t2, a1, b1⟩ := kx E ce q u t T'.heap (locs ++ L) e1.symm (by rw [← e2]; exact X'.warmed.alike) hp hb k1 k2 k3 (by rw [e1]; exact hce) hcv hcl T' rfl X'
    exact ⟨t2, st.trans a1, b1⟩
theorem vx_calld {S SX : Type} {post : UInt64 → S → Prop} {px : SX → Prop} {B : S → State → Prop} {BX : String → SX → State → Prop} {AX : Nat → Prop} (hr : vx_Run p l e R s m args below meth c H locs cells slots mc ms (F0 m pc ls st0) rest (va_Qd post B A1 a) (vx_X px BX AX) free) (hS : va_S A0 H0 H locs) (hA : ∀ q, q < H.size → A1 q → A0 q) (hf : ∀ q, free q → A0 q) (hAX : ∀ q, q < H.size → AX q → A0 q)
    (kx : ∀ (E : String) (ce : Cell) (q9 : Addr) (u : SX) (t : State) (H1 : Heap) (locs1 : List Loc), t.heap = H1 → s.vm.Alike t.vm → px u → BX E u t → H.size ≤ H1.size → (∀ q : Nat, q < H.size → ¬ AX q → H1[q]? = H[q]?) → va_S A0 H0 H1 locs1 → H1[q9]? = some ce → ce.vm = .none → s.vm.findClass E = some ce.cls → vx_W p l e R s m args below meth c H1 locs1 (cells + mc) (slots + ms) Q (F0 m pc ls rest) q9)
    (kk : ∀ (r : UInt64) (u : S) (t : State) (H1 : Heap) (locs1 : List Loc), t.heap = H1 → s.vm.Alike t.vm → post r u → B u t → H.size ≤ H1.size → (∀ q : Nat, q < H.size → ¬ A1 q → H1[q]? = H[q]?) → va_S A0 H0 H1 locs1 → W p l e R s m args below meth c H1 locs1 (cells + mc) (slots + ms) Q (F0 m (pc + 3) ls (.double r :: rest))) : W p l e R s m args below meth c H locs cells slots Q (F0 m pc ls st0) := by
  intro T hT X
  rcases hr T hT X with ⟨v, st₀, t, T', L, h0, X', hL, e1, e2, ⟨⟨r, u, hv, hp, hb⟩, hF⟩, st⟩ | ⟨q, st₀, t, T', L, E, ce, h0, X', hL, e1, e2, ⟨u, hp, hb, hF⟩, hce, hcv, hcl, st⟩
  · cases hv
    obtain ⟨k1, k2, k3⟩ := vx_keep h0 e1 hS hA hf hL hF
    obtain ⟨t2, a1, b1⟩ := kk r u t T'.heap (locs ++ L) e1.symm (by rw [← e2]; exact X'.warmed.alike) hp hb k1 k2 k3 T' rfl X'
    exact ⟨t2, st t2 a1, b1⟩
  · obtain ⟨k1, k2, k3⟩ := vx_keep h0 e1 hS hAX hf hL hF
    obtain ⟨t2, a1, b1⟩ := kx E ce q u t T'.heap (locs ++ L) e1.symm (by rw [← e2]; exact X'.warmed.alike) hp hb k1 k2 k3 (by rw [e1]; exact hce) hcv hcl T' rfl X'
    exact ⟨t2, st.trans a1, b1⟩
theorem vx_callv {S SX : Type} {post : S → Prop} {px : SX → Prop} {B : S → State → Prop} {BX : String → SX → State → Prop} {AX : Nat → Prop} (hr : vx_Run p l e R s m args below meth c H locs cells slots mc ms (F0 m pc ls st0) rest (va_Qv post B A1 a) (vx_X px BX AX) free) (hS : va_S A0 H0 H locs) (hA : ∀ q, q < H.size → A1 q → A0 q) (hf : ∀ q, free q → A0 q) (hAX : ∀ q, q < H.size → AX q → A0 q)
    (kx : ∀ (E : String) (ce : Cell) (q9 : Addr) (u : SX) (t : State) (H1 : Heap) (locs1 : List Loc), t.heap = H1 → s.vm.Alike t.vm → px u → BX E u t → H.size ≤ H1.size → (∀ q : Nat, q < H.size → ¬ AX q → H1[q]? = H[q]?) → va_S A0 H0 H1 locs1 → H1[q9]? = some ce → ce.vm = .none → s.vm.findClass E = some ce.cls → vx_W p l e R s m args below meth c H1 locs1 (cells + mc) (slots + ms) Q (F0 m pc ls rest) q9)
    (kk : ∀ (u : S) (t : State) (H1 : Heap) (locs1 : List Loc), t.heap = H1 → s.vm.Alike t.vm → post u → B u t → H.size ≤ H1.size → (∀ q : Nat, q < H.size → ¬ A1 q → H1[q]? = H[q]?) → va_S A0 H0 H1 locs1 → W p l e R s m args below meth c H1 locs1 (cells + mc) (slots + ms) Q (F0 m (pc + 3) ls (rest))) : W p l e R s m args below meth c H locs cells slots Q (F0 m pc ls st0) := by
  intro T hT X
  rcases hr T hT X with ⟨v, st₀, t, T', L, h0, X', hL, e1, e2, ⟨⟨u, hv, hp, hb⟩, hF⟩, st⟩ | ⟨q, st₀, t, T', L, E, ce, h0, X', hL, e1, e2, ⟨u, hp, hb, hF⟩, hce, hcv, hcl, st⟩
  · cases hv
    obtain ⟨k1, k2, k3⟩ := vx_keep h0 e1 hS hA hf hL hF
    obtain ⟨t2, a1, b1⟩ := kk u t T'.heap (locs ++ L) e1.symm (by rw [← e2]; exact X'.warmed.alike) hp hb k1 k2 k3 T' rfl X'
    exact ⟨t2, st t2 a1, b1⟩
  · obtain ⟨k1, k2, k3⟩ := vx_keep h0 e1 hS hAX hf hL hF
    obtain ⟨t2, a1, b1⟩ := kx E ce q u t T'.heap (locs ++ L) e1.symm (by rw [← e2]; exact X'.warmed.alike) hp hb k1 k2 k3 (by rw [e1]; exact hce) hcv hcl T' rfl X'
    exact ⟨t2, st.trans a1, b1⟩
/-- caught by the row x of this method's table; the rows ahead don't take it -/
theorem vx_catch {own name : String} {E : String} {ce : Cell} {q : Addr} (hown : s.vm.findClass own = some m.cls) (pre : List ExceptionTableEntry) (x : ExceptionTableEntry) (suf : List ExceptionTableEntry) (hsplit : c.exceptionTable.toList = pre ++ x :: suf)
    (hpass : ∀ z ∈ pre, covers z pc = false ∨ (z.catchType ≠ 0 ∧ ∃ nm : String, (Cond.classLink own z.catchType nm).before args s = true ∧ va_Nc E nm s)) (hx : covers x pc = true) (h0 : x.catchType ≠ 0)
    (hlink : (Cond.classLink own x.catchType name).before args s = true) (hcast : (Cond.castable E name).before args s = true) (hcell : H[q]? = some ce) (hv : ce.vm = .none) (hcl : s.vm.findClass E = some ce.cls)
    (kk : W p l e R s m args below meth c H locs cells slots Q (F0 m x.handlerPc ls [.ref q])) : vx_W p l e R s m args below meth c H locs cells slots Q (F0 m pc ls rest) q := by
  intro T hT X
  have hpl : e.platform.magicAccessors = ({} : Platform).magicAccessors := by rw [X.admits.platform]
  obtain ⟨c3, c4, hc3, hc4, hasg⟩ := Cond.castable_spec hcast
  cases Option.some.inj (hc3.symm.trans hcl)
  obtain ⟨c5, hc5, hcl5⟩ := Cond.classLink_spec hown hlink e.platform hpl
  cases Option.some.inj (hc4.symm.trans hc5)
  obtain ⟨vm', X', st⟩ := X.thenCaughtThrough q (g := F0 m pc ls rest) rfl (Steps.refl _) (by rw [hT]; exact hcell) (by rw [hv]; rfl) (by obtain ⟨k9, h9, -⟩ := Vm.findClass_spec hcl; exact ⟨k9, h9⟩) pre x suf hsplit
    (fun z hz => by
      rcases hpass z hz with h | ⟨hz0, nm, hl1, hn1⟩
      · exact Or.inl h
      · obtain ⟨c6, hc6, hcl6⟩ := Cond.classLink_spec hown hl1 e.platform hpl
        obtain ⟨a8, b8, h1, h2, h3⟩ := hn1
        cases Option.some.inj (h1.symm.trans hcl)
        cases Option.some.inj (h2.symm.trans hc6)
        exact Or.inr ⟨hz0, _, hcl6, h3⟩) hx (Or.inr ⟨h0, c4, hcl5, hasg⟩)
  obtain ⟨t, a1, b1⟩ := kk (T.setVm vm') hT X'
  exact ⟨t, st.trans a1, b1⟩
end Rows
section Ends
variable {p : Program} {l : Launch} {e : Env} {R : Room} {s : State} {m : MethodId} {args : Array Value} {below : List Frame} {meth : Method} {c : Code} {H : Heap} {locs : List Loc} {cells slots : Nat} {Q : State → Prop}
variable {mc ms : Nat} {free : Addr → Prop} {A0 A1 : Nat → Prop} {H0 : Heap} {a : Array Value} {ls : Array Slot} {st0 rest : List Value}
variable {Qc : Array Value → State → Outcome → State → Prop} {XC : String → State → State → Prop}
/-- what a body that may throw owes at its end -/
def vx_MQ (below : List Frame) (Qc : Array Value → State → Outcome → State → Prop) (XC : String → State → State → Prop) (a : Array Value) (s : State) (mc ms : Nat) (free : Addr → Prop) : State → Prop := fun t =>
  ∃ o, t.status = .running ∧ Ended t below o ∧ vx_Q Qc XC mc ms free a s o t
theorem vx_ret {g : JFrame} {mc ms : Nat} (k : W p l e R s m args below meth c H locs cells slots (MQ below Qc args s mc ms free) g) : W p l e R s m args below meth c H locs cells slots (vx_MQ below Qc XC args s mc ms free) g := by
  intro T hT X
  obtain ⟨t, a1, o, b1, b2, b3, b4⟩ := k T hT X
  exact ⟨t, a1, o, b1, b2, Or.inl ⟨b3, b4⟩⟩
/-- not caught here: it goes on to the caller -/
theorem vx_widen {g : JFrame} {q : Addr} {k n : Nat} (h1 : cells ≤ k) (h2 : slots ≤ n) (kk : vx_W p l e R s m args below meth c H locs k n Q g q) : vx_W p l e R s m args below meth c H locs cells slots Q g q := fun T hT X => kk T hT (stand_widen X h1 h2)
theorem vx_out {pc : Nat} {E : String} {ce : Cell} {q : Addr} {mc ms : Nat} (hout : ∀ x ∈ c.exceptionTable.toList, covers x pc = false) (hlocks : meth.locks = false) (hcell : H[q]? = some ce) (hv : ce.vm = .none) (hcl : s.vm.findClass E = some ce.cls)
    (hx : ∀ t : State, t.heap = H → s.vm.Alike t.vm → XC E s t) (hf : ∀ z ∈ locs, free z.base) (hc : cells ≤ mc) (hs : slots ≤ ms) :
    vx_W p l e R s m args below meth c H locs cells slots (vx_MQ below Qc XC args s mc ms free) (F0 m pc ls rest) q := by
  intro T hT X
  obtain ⟨st1, hrun, hend, hW, hsm⟩ := X.leaveThrown q (g := F0 m pc ls rest) rfl rfl rfl hout hlocks
  have hcell9 : (T.setFrames (.throwing q :: below)).heap[q]? = some ce := by
    show T.heap[q]? = some ce
    rw [hT]; exact hcell
  exact ⟨_, st1, .threw q, hrun, hend, Or.inr ⟨q, rfl, E, ce, locs, hx _ hT hW.alike, hcell9, hv, hcl, hW, hsm.mono hc hs, hf⟩⟩
theorem vx_frame {U : State} {k n : Nat} (h : s.sameButNew ({ U with vm := s.vm } : State) locs k n) : s.heap.size ≤ U.heap.size ∧ ∀ q : Nat, q < s.heap.size → (∀ z ∈ locs, z.base ≠ q) → U.heap[q]? = s.heap[q]? := by
  obtain ⟨-, h2, -, -, -, h6⟩ := h
  refine ⟨h2, fun q hq hz => ?_⟩
  obtain ⟨c9, e1, e2, e3, e4⟩ := h6 q _ (Array.getElem?_eq_getElem hq)
  have hs : c9.slots = (s.heap[q]).slots := Array.ext_getElem? fun i => e4 i fun hm => hz _ hm rfl
  have h9 : c9 = s.heap[q] := by
    rw [hs] at e2
    exact e2
  have e5 : U.heap[q]? = some c9 := e1
  rw [e5, h9, Array.getElem?_eq_getElem hq]
/-- the words of a throw but the four that speak of the heap -/
def vx_no (w : Cond) : Bool := decide (w ≠ .isRef (.static Bundle.tN "UNASSIGNED_STACK" Bundle.steD)) && decide (w ≠ .isRef (.static Bundle.tN "SUPPRESSED_SENTINEL" Bundle.listD)) && decide (w ≠ .laysStatic Bundle.tN "UNASSIGNED_STACK" Bundle.steD) && decide (w ≠ .laysStatic Bundle.tN "SUPPRESSED_SENTINEL" Bundle.listD)
def vx_at0 (own : String) (ic : Nat) (X : String) (names : List String) : List Cond := (Bundle.ownAtoms0 own ic X names).filter vx_no
def vx_atS (own : String) (ic : Nat) (X : String) (names : List String) : List Cond := (Bundle.ownAtoms own ic X names).filter vx_no
/-- a word that the tables alone decide, or a good one -/
def vx_ot (w : Cond) : Bool := w.onTables || goodWord w
theorem vx_ot_at {args a' : Array Value} {s U : State} {w : Cond} (hW : s.WarmedH U.vm) (hvm : s.vm = U.vm) (hg : vx_ot w = true) (h : w.before args s = true) : w.before a' U = true := by
  simp only [vx_ot, Bool.or_eq_true] at hg
  rcases hg with hg | hg
  · exact va_tabs hg hvm h
  · exact word_at hW (good_of_word hg) h
/-- a list's words: the good ones out of the method's own list, the others by premises of their own -/
theorem vx_hat {args : Array Value} {s : State} {L B : List Cond} (h1 : ∀ w ∈ L.filter goodWord, w.before args s = true) (h2 : ∀ w ∈ L.filter (fun w => !goodWord w), w ∈ B) (h3 : ∀ w ∈ B, w.before args s = true) : ∀ w ∈ L, w.before args s = true := by
  intro w hw
  by_cases g : goodWord w = true
  · exact h1 w (List.mem_filter.mpr ⟨hw, g⟩)
  · refine h3 w (h2 w (List.mem_filter.mpr ⟨hw, ?_⟩))
    show (!goodWord w) = true
    cases hgw : goodWord w
    · rfl
    · exact absurd hgw g
theorem vx_c {args : Array Value} {s : State} {w : Cond} {B : List Cond} (h : w.before args s = true) (t : ∀ w ∈ B, w.before args s = true) : ∀ w' ∈ w :: B, w'.before args s = true := fun w' h' => (List.mem_cons.mp h').elim (fun e => by rw [e]; exact h) (t w')
theorem vx_n {args : Array Value} {s : State} : ∀ w ∈ ([] : List Cond), w.before args s = true := fun _ h => nomatch h
theorem vx_own {args : Array Value} {s : State} {L : List Cond} (h1 : ∀ w ∈ L.filter vx_no, w.before args s = true)
    (hU : (Cond.isRef (.static Bundle.tN "UNASSIGNED_STACK" Bundle.steD)).before args s = true) (hN : (Cond.isRef (.static Bundle.tN "SUPPRESSED_SENTINEL" Bundle.listD)).before args s = true)
    (lU : (Cond.laysStatic Bundle.tN "UNASSIGNED_STACK" Bundle.steD).before args s = true) (lN : (Cond.laysStatic Bundle.tN "SUPPRESSED_SENTINEL" Bundle.listD).before args s = true) : ∀ w ∈ L, w.before args s = true := by
  intro w hw
  by_cases e1 : w = .isRef (.static Bundle.tN "UNASSIGNED_STACK" Bundle.steD)
  · rw [e1]; exact hU
  · by_cases e2 : w = .isRef (.static Bundle.tN "SUPPRESSED_SENTINEL" Bundle.listD)
    · rw [e2]; exact hN
    · by_cases e3 : w = .laysStatic Bundle.tN "UNASSIGNED_STACK" Bundle.steD
      · rw [e3]; exact lU
      · by_cases e4 : w = .laysStatic Bundle.tN "SUPPRESSED_SENTINEL" Bundle.listD
        · rw [e4]; exact lN
        · exact h1 w (List.mem_filter.mpr ⟨hw, by unfold vx_no; rw [decide_eq_true e1, decide_eq_true e2, decide_eq_true e3, decide_eq_true e4]; rfl⟩)
/-- where a static field lies, its class's statics cell in H -/
def vx_L (C n d : String) (A : Nat → Prop) (U : State) (H : Heap) : Prop := ∃ (c : ClassId) (k : Class) (i : Nat) (f : Field) (a : Nat) (cell : Cell), U.vm.findClass C = some c ∧ U.fieldFound? C n d = some (c, k, i, f) ∧ f.isStatic = true ∧ k.statics = some a ∧ H[a]? = some cell ∧ cell.vm.isStatics = true ∧ cell.cls = c ∧ f.slot < cell.slots.size ∧ k.staticTypes[f.slot]? = some f.type ∧ ¬ A a
theorem vx_L.moved {C n d : String} {A : Nat → Prop} {u U : State} {H : Heap} (hvm : u.vm.Alike U.vm) (h : vx_L C n d A u H) : vx_L C n d A U H := by
  obtain ⟨c, k, i, f, a, cell, h1, h2, h3, h4, h5, h6, h7, h8, h9, h10⟩ := h
  obtain ⟨k', hi', he⟩ := State.fieldFound?_setVm hvm h2
  exact ⟨c, k', i, f, a, cell, by rw [hvm.findClass]; exact h1, hi', h3, by rw [he]; exact h4, h5, h6, h7, h8, by rw [he]; exact h9, h10⟩
theorem vx_L.kept {C n d : String} {A : Nat → Prop} {U : State} {H H1 : Heap} (h : vx_L C n d A U H) (hq : ∀ a : Nat, a < H.size → ¬ A a → H1[a]? = H[a]?) : vx_L C n d A U H1 := by
  obtain ⟨c, k, i, f, a, cell, h1, h2, h3, h4, h5, h6, h7, h8, h9, h10⟩ := h
  exact ⟨c, k, i, f, a, cell, h1, h2, h3, h4, by rw [hq a (Array.getElem?_eq_some_iff.mp h5).1 h10]; exact h5, h6, h7, h8, h9, h10⟩
theorem vx_L.narrow {C n d : String} {A B : Nat → Prop} {U : State} {H : Heap} (h : vx_L C n d A U H) (hAB : ∀ q, B q → A q) : vx_L C n d B U H := by
  obtain ⟨c, k, i, f, a, cell, h1, h2, h3, h4, h5, h6, h7, h8, h9, h10⟩ := h
  exact ⟨c, k, i, f, a, cell, h1, h2, h3, h4, h5, h6, h7, h8, h9, fun z => h10 (hAB _ z)⟩
theorem vx_L.word {C n d : String} {A : Nat → Prop} {s : State} {args : Array Value} (h : vx_L C n d A s s.heap) : (Cond.laysStatic C n d).before args s = true := by
  obtain ⟨c, k, i, f, a, cell, h1, h2, h3, h4, h5, h6, h7, h8, h9, -⟩ := h
  show (Cond.laysStatic C n d).holds args s none s [] = true
  exact Cond.laysStatic_of h1 h2 h3 h4 h5 h6 h7 h8 h9
/-- .. and what it holds: null or some reference -/
def vx_Zq (C n d : String) (A : Nat → Prop) (U : State) (H : Heap) : Prop := va_Zq C n d A U H ∧ vx_L C n d A U H
theorem vx_Zq.moved {C n d : String} {A : Nat → Prop} {u U : State} {H : Heap} (hvm : u.vm.Alike U.vm) (h : vx_Zq C n d A u H) : vx_Zq C n d A U H := ⟨va_Zq.moved hvm h.1, vx_L.moved hvm h.2⟩
theorem vx_Zq.kept {C n d : String} {A : Nat → Prop} {U : State} {H H1 : Heap} (h : vx_Zq C n d A U H) (hq : ∀ a : Nat, a < H.size → ¬ A a → H1[a]? = H[a]?) : vx_Zq C n d A U H1 := ⟨va_Zq.kept h.1 hq, vx_L.kept h.2 hq⟩
theorem vx_Zq.narrow {C n d : String} {A B : Nat → Prop} {U : State} {H : Heap} (h : vx_Zq C n d A U H) (hAB : ∀ q, B q → A q) : vx_Zq C n d B U H := ⟨va_Zq.narrow h.1 hAB, vx_L.narrow h.2 hAB⟩
theorem vx_Zqof {args : Array Value} {s : State} {C n d : String} {A : Nat → Prop} (hl : (Cond.laysStatic C n d).before args s = true) (hini : (Cond.initialized C).before args s = true) (h : (Cond.isRef (.static C n d)).before args s = true) (hA : ∀ a : Nat, a < s.heap.size → ¬ A a) : vx_Zq C n d A s s.heap := by
  refine ⟨va_Zqof hl hini h hA, ?_⟩
  obtain ⟨c, k, i, f, a, cell, h1, h2, h3, h4, h5, h6, h7, h8, h9⟩ := Cond.laysStatic_spec hl
  exact ⟨c, k, i, f, a, cell, h1, h2, h3, h4, h5, h6, h7, h8, h9, hA a (Array.getElem?_eq_some_iff.mp h5).1⟩
theorem vx_isRef {C n d : String} {v : Value} {A : Nat → Prop} {s : State} {args : Array Value} (h : va_Z C n d v A s s.heap) (hv : v.isRef = true) : (Cond.isRef (.static C n d)).before args s = true := by
  obtain ⟨cf, kf, fi, f, a, cell, h1, h2, h3, h4, h5, h6, h7, -⟩ := h
  have he : (Term.static C n d).eval args s none [] s = some v := by
    simp [Term.eval, State.fieldNamed?, h1, h2, h4, h5, h6, h7]
  simp only [Cond.before, Cond.holds, Cond.value, he]
  cases v <;> simp_all [Value.isRef]
theorem vx_isRefq {C n d : String} {A : Nat → Prop} {s : State} {args : Array Value} (h : va_Zq C n d A s s.heap) : (Cond.isRef (.static C n d)).before args s = true := by
  rcases h with h | ⟨t, h⟩
  · exact vx_isRef h rfl
  · exact vx_isRef h rfl
/-- the same frame, seen from here: as if the method were called anew in this heap -/
theorem vx_rebase {T : State} (X : Stand p l e R s m args below meth c T locs cells slots) {R' : Room} (hf : R'.frames ≤ R.frames) (hl : R'.locals ≤ R.locals) (hc : cells + R'.cells ≤ R.cells) (hs : slots + R'.slots ≤ R.slots) :
    Stand p l e R' ((T.setVm s.vm).setFrames (.invoking m args :: below)) m args below meth c T [] 0 0 := by
  have htop : (T.setVm s.vm).topJava?.isSome := X.here.top
  have hF : ((T.setVm s.vm).setFrames (.invoking m args :: below)).frames = .invoking m args :: below := State.frames_setFrames _ (State.cur_lt_of_top htop)
  obtain ⟨g₀, hg0⟩ := Option.isSome_iff_exists.mp htop
  obtain ⟨r, hr⟩ := State.topJava?_eq_some.mp hg0
  have hl9 : e.platform.stackLimits (T.setVm s.vm).me = e.platform.stackLimits s.me := X.limits
  have hb9 : (T.setVm s.vm).me.stackBytes = s.me.stackBytes := X.bytes
  refine ⟨X.admits, X.cas, X.clock, hF, ?_, X.hears, X.method, X.code, X.here, X.tail, X.warmed, ?_, ?_, ?_⟩
  · have h := X.room
    have hU : ((T.setVm s.vm).setFrames (.invoking m args :: below)).localsInUse = s.localsInUse := by
      rw [State.localsInUse_invoking hF (meth := meth) (c := c) X.method X.code, State.localsInUse_invoking X.frames X.method X.code]
    simp only [State.hasRoom, Bool.and_eq_true, decide_eq_true_eq] at h ⊢
    obtain ⟨⟨⟨⟨h1, h2, h3, h4, h5, h6⟩, h7⟩, h8⟩, h9⟩ := h
    rw [X.frames, List.length_cons] at h2 h3
    have q1 := X.heapSize
    have q2 := X.used
    simp only [hF, hU, List.length_cons, State.stackLimits_setFrames, State.stackBytes_setFrames, hl9, hb9]
    refine ⟨⟨⟨⟨by omega, by omega, by omega, by omega, by omega, h6⟩, ?_⟩, ?_⟩, X.book⟩
    · show T.heap.size + R'.cells ≤ e.platform.maxCells
      omega
    · show T.slotsUsed + R'.slots ≤ e.platform.maxSlots
      omega
  · rw [State.stackLimits_setFrames]; rfl
  · rw [State.stackBytes_setFrames]; rfl
  · refine ⟨?_, Nat.le_refl _, Nat.le_refl _, ?_, ?_, fun a c9 h9 => ⟨c9, h9, rfl, rfl, fun _ _ => rfl⟩⟩
    · obtain ⟨t, ht, -⟩ := State.frames_cons hr
      show T.setVm s.vm = { ((T.setVm s.vm).setFrames (.invoking m args :: below)).setFrames (T.setVm s.vm).frames with heap := T.heap, slotsUsed := T.slotsUsed }
      rw [State.setFrames_setFrames, State.setFrames_self ht]
      rfl
    · show T.slotsUsed = T.slotsUsed + ((T.heap.toList.drop T.heap.size).map (·.slots.size)).sum
      rw [List.drop_eq_nil_of_le (Nat.le_of_eq Array.length_toList)]
      rfl
    · show ((T.heap.toList.drop T.heap.size).map (·.slots.size)).sum ≤ 0
      rw [List.drop_eq_nil_of_le (Nat.le_of_eq Array.length_toList)]
      exact Nat.le_refl _
/-- 'throw new E("text")': new; dup; ldc; invokespecial; athrow -/
theorem vx_throwS {cc : ByteArray} {pc : Nat} (hexec : p.tables.exec = Jvm.exec) (hb : c.code = cc) (hl : l.stackTraces = false) {own cls text : String} {names : List String} {ik is ic mc ms sa : Nat} {A : Nat → Prop}
    (hown : s.vm.findClass own = some m.cls) (hcls : Bundle.fit cls = true) (hnames : ∀ n ∈ names, Bundle.fit n = true)
    (hk : (Cond.classLink own ik cls).before args s = true) (hini : (Cond.initialized cls).before args s = true) (hstr : vk_R own is text sa s) (hat : ∀ w ∈ vx_atS own ic cls names, w.before args s = true)
    (hgood : ∀ w ∈ Cond.classLink own ik cls :: Cond.initialized cls :: vx_atS own ic cls names, vx_ot w = true)
    (hU : vx_Zq Bundle.tN "UNASSIGNED_STACK" Bundle.steD A s s.heap) (hN : vx_Zq Bundle.tN "SUPPRESSED_SENTINEL" Bundle.listD A s s.heap) (hS : va_S A s.heap H locs) (hsize : ls.size = c.maxLocals)
    (d0 : decode cc pc = .ok (.new ik, 3)) (d3 : decode cc (pc + 3) = .ok (.dup, 1)) (d4 : decode cc (pc + 4) = .ok (.ldc is, 2)) (d6 : decode cc (pc + 6) = .ok (.invokespecial ic, 3)) (d9 : decode cc (pc + 9) = .ok (.athrow, 1))
    (hout : ∀ x ∈ c.exceptionTable.toList, covers x (pc + 9) = false)
    (hRframes : names.length + 3 < R.frames) (hRlocals : (rest.map fun v => v.category).sum + (13 * (names.length + 1) + 43) ≤ R.locals) (hRcells : cells + 1 ≤ R.cells) (hRslots : slots + 6 ≤ R.slots) (hlocks : meth.locks = false)
    (hx : ∀ t : State, s.vm.Alike t.vm → t.heap.size = H.size + 1 → (∀ q : Nat, q < H.size → t.heap[q]? = H[q]?) → XC cls s t)
    (hf : ∀ z ∈ locs, free z.base) (hc : cells + 1 ≤ mc) (hs : slots + 6 ≤ ms) :
    W p l e R s m args below meth c H locs cells slots (vx_MQ below Qc XC args s mc ms free) (F0 m pc ls rest) := by
  intro T hT X
  have htr : e.platform.stackTraces = false := (show e.platform.stackTraces = l.stackTraces by rw [X.admits.platform]).trans hl
  have Y := vx_rebase X (R' := { frames := R.frames, locals := R.locals, cells := 1, slots := 6 }) (Nat.le_refl _) (Nat.le_refl _) hRcells hRslots
  obtain ⟨s', hA⟩ : ∃ z, z = (T.setVm s.vm).setFrames (.invoking m args :: below) := ⟨_, rfl⟩
  rw [← hA] at Y
  have hvm : s'.vm = s.vm := by rw [hA]; rfl
  have hhp : s'.heap = H := by rw [hA]; exact hT
  have hW0 : s.WarmedH s'.vm := by rw [hvm]; exact State.WarmedH.refl s
  have hat' : ∀ w ∈ vx_atS own ic cls names, w.before args s' = true := fun w hw => vx_ot_at hW0 hvm.symm (hgood w (List.mem_cons_of_mem _ (List.mem_cons_of_mem _ hw))) (hat w hw)
  have hk' : (Cond.classLink own ik cls).before args s' = true := vx_ot_at hW0 hvm.symm (hgood _ List.mem_cons_self) hk
  have hini' : (Cond.initialized cls).before args s' = true := vx_ot_at hW0 hvm.symm (hgood _ (List.mem_cons_of_mem _ List.mem_cons_self)) hini
  have hU' : vx_Zq Bundle.tN "UNASSIGNED_STACK" Bundle.steD A s' s'.heap := by rw [hhp]; exact vx_Zq.moved hW0.alike (hU.kept hS.2.1)
  have hN' : vx_Zq Bundle.tN "SUPPRESSED_SENTINEL" Bundle.listD A s' s'.heap := by rw [hhp]; exact vx_Zq.moved hW0.alike (hN.kept hS.2.1)
  have h : ∀ w ∈ Bundle.ownAtoms own ic cls names, w.before args s' = true := vx_own hat' (vx_isRefq hU'.1) (vx_isRefq hN'.1) hU'.2.word hN'.2.word
  have hown' : s'.vm.findClass own = some m.cls := by rw [hvm]; exact hown
  have hins : (Cond.instantiable cls 6).before args s' = true := h _ (by simp [Bundle.ownAtoms])
  obtain ⟨vm₁, cX, kX, hfX, hkX, -, -, X₁, st1⟩ := Y.newCold hexec (own := own) (C := cls) (index := ik) (n := 6) hown' hk' hins hini'
    (g := F0 m pc ls rest) rfl (by rw [hb]; exact d0) (Nat.le_refl _) (Nat.le_refl _)
  generalize hT1 : (T.setVm vm₁).pushCell { cls := cX, slots := kX.instanceTypes.map defaultValue, vm := .none } = T1 at X₁ st1
  have hcat : (Value.ref T.heap.size).category = 1 := rfl
  have hcellA : T1.heap[T.heap.size]? = some (freshCell cX kX) := by rw [← hT1]; exact State.heap_pushCell_size _ _
  have d3' : decode c.code (pc + 3) = .ok (.dup, 1) := by rw [hb]; exact d3
  have d4' : decode c.code (pc + 4) = .ok (.ldc is, 2) := by rw [hb]; exact d4
  have hstr' : vk_R own is text sa s' := vk_R.warm hW0 hstr
  obtain ⟨U, hsteps, hrun, hend, hW, hsame, ce, hce, hO⟩ := X₁.ctorThrowS hexec htr (own := own) (cls := cls) (names := names) (ic := ic) hown' hcls hnames h (fun x hx => nomatch hx) hfX hkX hcellA (by rw [hhp, hT]; exact Nat.le_refl _) (msg := .ref sa) rfl
    (g := { method := m, pc := pc + 6, locals := ls, stack := .ref sa :: .ref T.heap.size :: .ref T.heap.size :: rest, locked := none }) rfl hsize rfl rfl (rest := rest) rfl
    (by rw [hb]; exact d6) (by rw [hb]; exact d9) hout hRframes (by simp only [List.map_cons, List.sum_cons, hcat]; omega) hlocks
  obtain ⟨f1, f2⟩ := vx_frame hsame
  rw [hhp] at f1 f2
  have f3 : U.heap.size = H.size + 1 := by
    have g1 : U.heap.size ≤ s'.heap.size + (0 + 1) := hsame.2.2.1
    have g2 : T.heap.size < U.heap.size := (Array.getElem?_eq_some_iff.mp hce).1
    rw [hhp] at g1
    rw [hT] at g2
    omega
  have hWs : s.WarmedH U.vm := State.WarmedH.trans hW0 hW
  have hcl : s.vm.findClass cls = some ce.cls := by
    have h9 := hO.cls
    rw [hvm] at h9
    exact h9
  have hall : s.sameButNew ({ U with vm := s.vm } : State) locs mc ms := by
    subst hA
    obtain ⟨e1, e2⟩ := hsame
    rw [State.setFrames_setFrames] at e1
    have h2 : (T.setVm s.vm).sameButNew ({ U with vm := s.vm } : State) [] (0 + 1) (0 + 6) := ⟨e1, e2⟩
    have h3 := X.same.trans h2
    rw [List.append_nil] at h3
    exact h3.mono hc hs
  refine ⟨U, ?_, .threw T.heap.size, hrun, hend, Or.inr ⟨T.heap.size, rfl, cls, ce, locs, hx U hWs.alike f3 (fun q hq => f2 q hq (fun z hz => nomatch hz)), hce, hO.vm, hcl, hWs, hall, hf⟩⟩
  refine st1 _ ?_
  show Steps p.tables e below (T1.setTop { method := m, pc := pc + 3, locals := ls, stack := .ref T.heap.size :: rest, locked := none }) _
  jvm_step X₁.here [X₁.here.top, hexec, d3', Value.category]
  exact X₁.ldcString hexec (own := own) (text := text) (index := is) (a := sa) hown' hstr'.1 hstr'.2
    (g := { method := m, pc := pc + 4, locals := ls, stack := .ref T.heap.size :: .ref T.heap.size :: rest, locked := none }) rfl d4' _ hsteps
end Ends
section Bodies
variable {l : Launch}
theorem vx_ofW {y : MethodName} {ws ws' : List Cond} {rm : Room} {Pc : Array Value → State → Prop} {Qc : Array Value → State → Outcome → State → Prop} {XC : String → State → State → Prop} {mc ms : Nat} {free : Addr → Prop} {cc : ByteArray} {maxL : Nat} {ret : Option FieldType}
    (hy : plainName y.cls = true) (hw : ws = Cond.code y cc maxL ret :: ws')
    (body : ∀ p e s m args below meth c s₁, BodyLoose p l y (headSpec ws rm) cc maxL ret e s m args below meth c s₁ → c.maxLocals = maxL → (∀ x ∈ c.exceptionTable.toList, False) → Pc args s →
      W p l e (headSpec ws rm).room s m args below meth c s.heap [] 0 0 (vx_MQ below Qc XC args s mc ms free) (entryFrame m args maxL)) : vx_Met l y ws rm Pc Qc XC mc ms free := by
  refine MetFree.of_bodyS (code := cc) (maxLocals := maxL) (ret := ret) hy ?_ ?_
  · intro args s m h hn
    obtain ⟨meth, c, h1, h2, h3, h4, h5, h6, -, -⟩ := Cond.code_spec hn (atoms_spec (ws := ws) h _ (by rw [hw]; exact List.mem_cons_self))
    exact ⟨meth, c, h1, h2, h3, h4, h5, h6⟩
  · intro p e s m args below meth c s₁ B hml hP _
    have hh0 : s₁.heap = s.heap := by rw [B.state]; rfl
    have ht : ∀ x ∈ c.exceptionTable.toList, False := by
      obtain ⟨meth9, c9, h1, h2, -, -, -, -, h7, -⟩ := Cond.code_spec B.named (atoms_spec (ws := ws) B.pre _ (by rw [hw]; exact List.mem_cons_self))
      cases Option.some.inj (h1.symm.trans B.method)
      cases Option.some.inj (h2.symm.trans (Stand.of_body B).code)
      intro x hx
      rw [Array.isEmpty_iff.mp h7] at hx
      cases hx
    obtain ⟨t, a1, o, b1, b2, b3⟩ := body p e s m args below meth c s₁ B hml ht hP s₁ hh0 (Stand.of_body B)
    exact ⟨t, o, a1, b1, b2, b3⟩
/-- the table of a body with handlers -/
theorem vx_table {p : Program} {x y : MethodName} {S : Spec} {cc bytes : ByteArray} {maxL maxL' : Nat} {ret ret' : Option FieldType} {e : Env} {s s₁ : State} {m : MethodId} {args : Array Value} {below : List Frame} {meth : Method} {c : Code} {hh : List (Nat × Nat × Nat × Nat)}
    (B : BodyLoose p l y S cc maxL ret e s m args below meth c s₁) (h : (Cond.codeWith y bytes maxL' ret' hh).before args s = true) : c.exceptionTable.toList = tableOf hh := by
  obtain ⟨m9, meth9, c9, hn9, h1, h2, -, -, h6, -⟩ := Cond.codeWith_spec h
  cases Option.some.inj (hn9.symm.trans B.named)
  cases Option.some.inj (h1.symm.trans B.method)
  cases Option.some.inj (h2.symm.trans (Stand.of_body B).code)
  rw [← h6, table_eq]
end Bodies
end VXA
/-! ===== END ===== -/
/-! ===== BEGIN a static call of a method with an exception table ===== -/
section VXS
variable {p : Program} {l : Launch} {e : Env} {R : Room} {s : State} {m : MethodId} {args : Array Value} {below : List Frame} {meth : Method} {c : Code} {T : State} {H : Heap} {locs : List Loc} {cells slots : Nat}
abbrev vx_CSW (R : Room) (s : State) (args : Array Value) (own : String) (index : Nat) (y : MethodName) (bytes : ByteArray) (maxL : Nat) (ret : Option FieldType) (hh : List (Nat × Nat × Nat × Nat)) (ws : List Cond) (rm : Room) (mc ms n : Nat) : Prop :=
  (rm.cells = mc ∧ rm.slots = ms ∧ rm.frames + 1 ≤ R.frames ∧ 8 + (maxL + 11) + rm.locals ≤ R.locals ∧ (∀ w ∈ ws, ∀ (a' : Array Value) (U : State), s.WarmedH U.vm → w.before a' U = true) ∧ Cond.codeWith y bytes maxL ret hh ∈ ws) ∧
  (Cond.codeWith y bytes maxL ret hh).before args s = true ∧ (Cond.initialized y.cls).before args s = true ∧ (y.cls ≠ "java/lang/invoke/MethodHandle" ∧ y.cls ≠ "java/lang/invoke/VarHandle") ∧
  (∀ sig, parseMethodDescriptor y.desc = some sig → n = sig.parameters.length) ∧ (Cond.methodLink own index y).before args s = true ∧ (Cond.static y).before args s = true
theorem vx_cwSW {own : String} {index maxL mc ms : Nat} {y : MethodName} {bytes : ByteArray} {ret : Option FieldType} {hh : List (Nat × Nat × Nat × Nat)} {Ts ws ws' : List Cond} {rm : Room} (n : Nat) (ht : ∀ w ∈ Ts, w.before args s = true) (hT : GoodIn Ts (va_wsS own index y ws)) (hw : ws = Cond.codeWith y bytes maxL ret hh :: ws') (hrc : rm.cells = mc) (hrs : rm.slots = ms)
    (hd : y.cls ≠ "java/lang/invoke/MethodHandle" ∧ y.cls ≠ "java/lang/invoke/VarHandle" ∧ (parseMethodDescriptor y.desc).map (fun d => d.parameters.length) = some n) (hR : rm.frames + 1 ≤ R.frames ∧ 8 + (maxL + 11) + rm.locals ≤ R.locals) :
    vx_CSW R s args own index y bytes maxL ret hh ws rm mc ms n := by
  have ok : ∀ w ∈ va_wsS own index y ws, w.before args s = true := fun w h => ht w (hT w h).1
  have hG : GoodIn Ts ws := fun w h => hT w (by unfold va_wsS; exact List.mem_append_right _ h)
  have hc : Cond.codeWith y bytes maxL ret hh ∈ ws := by rw [hw]; exact List.mem_cons_self
  refine ⟨⟨hrc, hrs, hR.1, hR.2, pay_in ht hG, hc⟩, ht _ (hG _ hc).1, ok _ (by simp [va_wsS]), ⟨hd.1, hd.2.1⟩, fun sig h => ?_, ok _ (by simp [va_wsS]), ok _ (by simp [va_wsS])⟩
  have h2 := hd.2.2
  rw [h] at h2
  exact (Option.some.inj h2).symm
theorem vx_callSW (X : Stand p l e R s m args below meth c T locs cells slots) (hexec : p.tables.exec = Jvm.exec) {own : String} {index : Nat} {y : MethodName} {bytes : ByteArray} {maxL : Nat} {ret : Option FieldType} {hh : List (Nat × Nat × Nat × Nat)}
    (hown : s.vm.findClass own = some m.cls) (hlink : (Cond.methodLink own index y).before args s = true) (hstat : (Cond.static y).before args s = true) (hinit : (Cond.initialized y.cls).before args s = true)
    (hcode : (Cond.codeWith y bytes maxL ret hh).before args s = true) (hy : y.cls ≠ "java/lang/invoke/MethodHandle" ∧ y.cls ≠ "java/lang/invoke/VarHandle")
    {W9 : Nat} {Pre : Pt → Array Value → Prop} {Post : Pt → Array Value → Option Value → Pt → Prop} (hK : Back l R p e below s args y 3 W9 Pre Post)
    {g : JFrame} (hg : g.method = m) (hsize : g.locals.size = c.maxLocals) {argsL rest : List Value} (hlen : ∀ sig, parseMethodDescriptor y.desc = some sig → argsL.length = sig.parameters.length)
    (hstack : g.stack = argsL.reverse ++ rest) (hW : 2 * g.monitorRoom + (rest.map fun v => v.category).sum ≤ W9) (hdg : decode c.code g.pc = .ok (.invokestatic index, 3))
    (hpre : ∀ vm₁, s.WarmedH vm₁ → Pre ⟨T.setVm vm₁, locs, cells, slots⟩ argsL.toArray) :
    ∃ (v : Option Value) (vm₁ : Vm) (B : Pt), s.WarmedH vm₁ ∧ Stand p l e R s m args below meth c B.U B.locs B.cells B.slots ∧ Post ⟨T.setVm vm₁, locs, cells, slots⟩ argsL.toArray v B ∧
      ∀ target, Steps p.tables e below (B.U.setTop { g with pc := g.pc + 3, stack := v.toList ++ rest }) target → Steps p.tables e below (T.setTop g) target := by
  obtain ⟨mk, methM, cM, hnamed, hmethM, -, -, -, -, -, -, hsigM⟩ := Cond.codeWith_spec hcode
  have hstatic : methM.isStatic = true := Cond.static_spec hnamed hmethM hstat
  obtain ⟨kP, hkP, -⟩ := className_of_methodNamed hnamed
  have hinitP : kP.init = .initialized := Cond.initialized_spec (findClass_of_methodNamed hnamed) hkP hinit
  obtain ⟨vm₁, X₁, hstep₁⟩ := X.invokestatic hexec hown hlink hnamed hmethM hstatic hkP hinitP hy (g := g) hg (argsL := argsL) (rest := rest) (hlen _ hsigM) hstack hdg
  obtain ⟨v, B, X', hpost, hsteps⟩ := hK m meth c ⟨T.setVm vm₁, locs, cells, slots⟩ { g with stack := rest } (.invokestatic index) mk argsL.toArray X₁ hg hsize hdg hW (X₁.named hnamed) (hpre vm₁ X₁.warmed)
  exact ⟨v, vm₁, B, X₁.warmed, X', hpost, fun target h => hstep₁ _ fun acts => by rw [doInvoke_state]; exact hsteps.trans h⟩
theorem vx_runSW {y : MethodName} {bytes cc : ByteArray} {maxL nL mc ms n index : Nat} {ret : Option FieldType} {hh : List (Nat × Nat × Nat × Nat)} {ws : List Cond} {rm : Room} {Pc : Array Value → State → Prop} {Qc : Array Value → State → Outcome → State → Prop} {free : Addr → Prop} {Ts : List Cond} {own : String} {As rest : List Value} {g : JFrame}
    (S : CallFix p m c cc nL s args Ts own) (hM : Met l y ws rm Pc Qc mc ms free) (cw : vx_CSW R s args own index y bytes maxL ret hh ws rm mc ms n) (hp : PreS s H Pc As)
    (hg : g.method = m) (hn : As.length = n) (hsize : g.locals.size = nL) (hstack : g.stack = As.reverse ++ rest) (hW : 2 * g.monitorRoom + (rest.map fun v => v.category).sum ≤ 8) (hdg : decode cc g.pc = .ok (.invokestatic index, 3)) (hf : cells + mc ≤ R.cells ∧ slots + ms ≤ R.slots) :
    va_Run p l e R s m args below meth c H locs cells slots mc ms g rest (Qc As.toArray) (free) := by
  obtain ⟨⟨hrc, hrs, hfr, hlo, hws, hcw⟩, hcode, hini, hy, hlen, hl, hstt⟩ := cw
  have hK : Back l R p e below s args y 3 8 (PreOf R mc ms Pc) (PostOf Qc mc ms free) := va_backW (hh := hh) (bytes := bytes) (maxL := maxL) (ret := ret) hM hp.1 hrc hrs hfr hlo hws hcw (fun a' U hW => word_at hW (Or.inl (by first | rfl | simp [Cond.onTables, Cond.keeps, Cond.steady])) hini)
  obtain ⟨hx, hb, hml, ho, -⟩ := S
  intro T hT X
  obtain ⟨v, vm₁, ⟨U', l2, c2, s2⟩, hW₁, X', ⟨g', mk, t, L, e1, e2, hq, h1, hL, h2, h3⟩, st⟩ := vx_callSW X hx (hh := hh) (bytes := bytes) (maxL := maxL) (ret := ret) ho hl hstt hini hcode hy hK hg (hsize.trans hml.symm) (argsL := As) (rest := rest) (fun sig h => hn.trans (hlen sig h)) hstack hW (by rw [hb]; exact hdg)
    (fun vm₁ hW₁ => ⟨hf.1, hf.2, hp.2 (T.setVm vm₁) hT hW₁⟩)
  dsimp only [Pt.U, Pt.locs, Pt.cells, Pt.slots] at X' e1 e2 h1 h2 h3 st
  subst h1; subst h2; subst h3
  exact ⟨v, (T.setVm vm₁).calling g' mk As.toArray, t, U', L, hT, X', hL, e1, e2, hq, st⟩
/-- not caught here, past rows that name other classes: it goes on to the caller -/
theorem vx_outP {p : Program} {l : Launch} {e : Env} {R : Room} {s : State} {m : MethodId} {args : Array Value} {below : List Frame} {meth : Method} {c : Code} {H : Heap} {locs : List Loc} {cells slots : Nat} {free : Addr → Prop} {ls : Array Slot} {rest : List Value} {Qc : Array Value → State → Outcome → State → Prop} {XC : String → State → State → Prop}
    {pc : Nat} {own E : String} {ce : Cell} {q : Addr} {mc ms : Nat} (hown : s.vm.findClass own = some m.cls) (hlocks : meth.locks = false)
    (hpass : ∀ z ∈ c.exceptionTable.toList, covers z pc = false ∨ (z.catchType ≠ 0 ∧ ∃ nm : String, (Cond.classLink own z.catchType nm).before args s = true ∧ va_Nc E nm s)) (hcell : H[q]? = some ce) (hv : ce.vm = .none) (hcl : s.vm.findClass E = some ce.cls)
    (hx : ∀ t : State, t.heap = H → s.vm.Alike t.vm → XC E s t) (hf : ∀ z ∈ locs, free z.base) (hc : cells ≤ mc) (hs : slots ≤ ms) :
    vx_W p l e R s m args below meth c H locs cells slots (vx_MQ below Qc XC args s mc ms free) (F0 m pc ls rest) q := by
  intro T hT X
  have hpl : e.platform.magicAccessors = ({} : Platform).magicAccessors := by rw [X.admits.platform]
  obtain ⟨vm', hW', X', st⟩ := X.outThrough hlocks q (g := F0 m pc ls rest) rfl rfl rfl (cell := ce) (by rw [hT]; exact hcell) (by rw [hv]; rfl)
    (by obtain ⟨k9, h9, -⟩ := Vm.findClass_spec hcl; exact ⟨k9, h9⟩) (fun z hz => by
      rcases hpass z hz with h | ⟨hz0, nm, hl1, hn1⟩
      · exact Or.inl h
      · obtain ⟨c6, hc6, hcl6⟩ := Cond.classLink_spec hown hl1 e.platform hpl
        obtain ⟨a8, b8, h1, h2, h3⟩ := hn1
        cases Option.some.inj (h1.symm.trans hcl)
        cases Option.some.inj (h2.symm.trans hc6)
        exact Or.inr ⟨hz0, _, hcl6, h3⟩)
  obtain ⟨g₀, hfr⟩ := X'.frames_eq
  have hcell9 : ((T.setVm vm').setFrames (.throwing q :: below)).heap[q]? = some ce := by
    show T.heap[q]? = some ce
    rw [hT]; exact hcell
  have hend : Ended ((T.setVm vm').setFrames (.throwing q :: below)) below (.threw q) := State.frames_setFrames _ (State.cur_lt_of_frames hfr)
  refine ⟨(T.setVm vm').setFrames (.throwing q :: below), ?_, .threw q, X'.here.running, hend, Or.inr ⟨q, rfl, E, ce, locs, hx _ hT (X'.ends _).1.alike, hcell9, hv, hcl, (X'.ends _).1, (X'.ends _).2.mono hc hs, hf⟩⟩
  rw [X.pushThrowing_eq]
  exact st
/-- a thing of a world lies in the heap -/
theorem vx_lt {D : va_G} {cl : List vw_C} {ws : va_W} {H1 : Heap} (h : va_P D cl ws H1) {k : Nat} {q : Nat × va_E} (hk : ws[k]? = some q) : q.1 < H1.size := (h k q hk).lt
end VXS
/-! ===== END ===== -/
/-! ===== BEGIN methods with a table of their own: called by a name, returning or throwing ===== -/
section VXH
/-! vx_backW, vx_callVX, vx_callSX, vx_callVW, vx_runVW, vx_runVX, vx_runSX, vx_ofWH follow the same proofs as their sisters above (Free/Laws.lean, Shelf42/LK1.lean); vx_outP calls Shelf42/NT130.lean (outThrough). -/
section
variable {l : Launch} {R : Room} {p : Program} {e : Env} {below : List Frame} {s : State} {sargs : Array Value} {y : MethodName} {len W9 : Nat}
theorem vx_backW {ws : List Cond} {rm : Room} {Pc : Array Value → State → Prop} {Qc : Array Value → State → Outcome → State → Prop} {XC : String → State → State → Prop} {mc ms : Nat} {free : Addr → Prop} {bytes : ByteArray} {maxL : Nat} {ret : Option FieldType} {hh : List (Nat × Nat × Nat × Nat)}
    (hM : vx_Met l y ws rm Pc Qc XC mc ms free) (hblind : FrameBlind Pc) (hrc : rm.cells = mc) (hrs : rm.slots = ms)
    (hframes : rm.frames + 1 ≤ R.frames) (hlocals : W9 + (maxL + 11) + rm.locals ≤ R.locals)
    (hws : ∀ w ∈ ws, ∀ a' U, s.WarmedH U.vm → w.before a' U = true) (hcode : Cond.codeWith y bytes maxL ret hh ∈ ws) (hinit : ∀ a' U, s.WarmedH U.vm → (Cond.initialized y.cls).before a' U = true) :
    vx_Back l R p e below s sargs y len W9 (PreOf R mc ms Pc) (PostOf Qc mc ms free) (vx_Post XC mc ms free) := by
  intro m meth c A g ig mk a X hg hsize hdg hW hn hp
  have h1 : (headSpec ws rm).pre.before a A.U = true := atoms_intro fun w hw => hws w hw _ _ X.warmed
  have h2 : (Cond.codeWith y bytes maxL ret hh).before a A.U = true := hws _ hcode _ _ X.warmed
  have h3 : (Cond.initialized y.cls).before a A.U = true := hinit _ _ X.warmed
  have h4 : A.cells + (headSpec ws rm).room.cells ≤ R.cells := by rw [show (headSpec ws rm).room.cells = mc from hrc]; exact hp.1
  have h5 : A.slots + (headSpec ws rm).room.slots ≤ R.slots := by rw [show (headSpec ws rm).room.slots = ms from hrs]; exact hp.2.1
  have hPc : Pc a (A.U.calling g mk a) := hblind _ _ _ _ hp.2.2
  obtain ⟨U, Ls, c0, s0⟩ := A
  dsimp only [Pt.U, Pt.locs, Pt.cells, Pt.slots] at h1 h2 h3 h4 h5 X hn hPc ⊢
  obtain ⟨m9, methY, cY, hn9, hmY, hcY, -, hlY, -⟩ := Cond.codeWith_spec h2
  cases Option.some.inj (hn9.symm.trans hn)
  obtain ⟨kY, hkY, -⟩ := className_of_methodNamed hn
  have hinitY : kY.init = .initialized := Cond.initialized_spec (findClass_of_methodNamed hn) hkY h3
  have h : At U g.method c below := by rw [hg]; exact X.here
  have hlocals9 : W9 + (maxL + 11) + (headSpec ws rm).room.locals ≤ R.locals := hlocals
  have happ : (headSpec ws rm).appliesLoose y e.platform (U.calling g mk a) = true :=
    Spec.appliesLoose_calling (g := g) h hdg hn hkY hinitY
      (X.room_calling (g := g) (R' := (headSpec ws rm).room) hsize hmY hcY hframes (by rw [hlY]; omega) h4 h5) h1
  obtain ⟨mid, hmid⟩ := h.above
  have hfr : (U.setTop g).frames = (.java g :: mid) ++ below := by rw [State.frames_setTop' g h.top, hmid]; rfl
  obtain ⟨o, s₂, hsteps, -, hend, hq⟩ := Steps.callFree hM p X.admits X.cas X.clock (acts := []) hfr happ hPc trivial
  have hq' : vx_Q Qc XC mc ms free a (U.calling g mk a) o s₂ := hq
  rw [State.frames_setTop' g h.top] at hend
  obtain ⟨g₀, hg0⟩ := Option.isSome_iff_exists.mp h.top
  obtain ⟨r, hr⟩ := State.topJava?_eq_some.mp hg0
  have hr' : (({ U with heap := s₂.heap, slotsUsed := s₂.slotsUsed } : State).setVm s₂.vm).frames = .java g₀ :: r := hr
  rcases hq' with ⟨hqc, L, hfe, hL⟩ | ⟨q, rfl, E, ce, L, hx, hce, hcv, hcl, hW₂, hsm, hL⟩
  · obtain ⟨⟨v, rfl⟩, hW₂, e2, q2, q3, q4, q5, q6⟩ := id hfe
    have e3 : s₂ = ({ (U.calling g mk a).setFrames s₂.frames with heap := s₂.heap, slotsUsed := s₂.slotsUsed } : State).setVm s₂.vm := by
      have : s₂ = ({ s₂ with vm := (U.calling g mk a).vm } : State).setVm s₂.vm := rfl
      rw [e2] at this
      exact this
    obtain ⟨c₂, i₂, len₂, hc₂, hd₂, hf₂⟩ := hend
    have hW' : U.WarmedH s₂.vm := hW₂
    have hcc : c₂ = c := by
      have h1 : s₂.code? g.method = U.code? g.method := by
        rw [State.code?_eq, State.code?_eq, hW'.alike.method?]
      exact Option.some.inj (hc₂.symm.trans (h1.trans h.code))
    subst hcc
    have hlen : len₂ = len := by rw [hdg] at hd₂; cases hd₂; rfl
    subst hlen
    have hs₂ : s₂ = (({ U with heap := s₂.heap, slotsUsed := s₂.slotsUsed } : State).setVm s₂.vm).setTop { g with pc := g.pc + len₂, stack := v.toList ++ g.stack } := by
      refine e3.trans ?_
      rw [hf₂, State.calling_eq h.top, State.setFrames_setFrames, State.setTop_of_frames _ hr', hr]
      rfl
    have hsame : U.sameButNew ({ U with heap := s₂.heap, slotsUsed := s₂.slotsUsed } : State) L mc ms := by
      refine ⟨?_, q2, q3, q4, q5, q6⟩
      obtain ⟨t, ht, -⟩ := State.frames_cons hr
      show ({ U with heap := s₂.heap, slotsUsed := s₂.slotsUsed } : State) = { U.setFrames U.frames with heap := s₂.heap, slotsUsed := s₂.slotsUsed }
      rw [State.setFrames_self ht]
    subst hg
    refine Or.inl ⟨v, ⟨(({ U with heap := s₂.heap, slotsUsed := s₂.slotsUsed } : State).setVm s₂.vm), Ls ++ L, c0 + mc, s0 + ms⟩,
      ⟨X.admits, X.cas, X.clock, X.frames, X.room, X.hears, X.method, X.code, (X.here.setHeapUsed s₂.heap s₂.slotsUsed).setVm hW'.alike, X.tail, State.WarmedH.trans X.warmed hW', X.limits, X.bytes, X.same.trans (hsame.setVm s.vm)⟩,
      ⟨g, mk, s₂, L, rfl, rfl, hqc, rfl, hL, rfl, rfl⟩, ?_⟩
    show Steps p.tables e below _ ((({ U with heap := s₂.heap, slotsUsed := s₂.slotsUsed } : State).setVm s₂.vm).setTop { g with pc := g.pc + len₂, stack := v.toList ++ g.stack })
    rw [← hs₂]
    exact hsteps
  · obtain ⟨e2, q2, q3, q4, q5, q6⟩ := id hsm
    have e3 : s₂ = ({ (U.calling g mk a).setFrames s₂.frames with heap := s₂.heap, slotsUsed := s₂.slotsUsed } : State).setVm s₂.vm := by
      have : s₂ = ({ s₂ with vm := (U.calling g mk a).vm } : State).setVm s₂.vm := rfl
      rw [e2] at this
      exact this
    have hf₂ : s₂.frames = .throwing q :: .java g :: U.frames.tail := hend
    have hW' : U.WarmedH s₂.vm := hW₂
    have hs₂ : s₂ = ((({ U with heap := s₂.heap, slotsUsed := s₂.slotsUsed } : State).setVm s₂.vm).setTop g).pushFrame (.throwing q) := by
      refine e3.trans ?_
      rw [hf₂, State.calling_eq h.top, State.setFrames_setFrames, State.pushFrame, State.frames_setTop _ hr', State.setTop_of_frames _ hr', State.setFrames_setFrames, hr]
      rfl
    have hsame : U.sameButNew ({ U with heap := s₂.heap, slotsUsed := s₂.slotsUsed } : State) L mc ms := by
      refine ⟨?_, q2, q3, q4, q5, q6⟩
      obtain ⟨t, ht, -⟩ := State.frames_cons hr
      show ({ U with heap := s₂.heap, slotsUsed := s₂.slotsUsed } : State) = { U.setFrames U.frames with heap := s₂.heap, slotsUsed := s₂.slotsUsed }
      rw [State.setFrames_self ht]
    subst hg
    refine Or.inr ⟨q, ⟨(({ U with heap := s₂.heap, slotsUsed := s₂.slotsUsed } : State).setVm s₂.vm), Ls ++ L, c0 + mc, s0 + ms⟩,
      ⟨X.admits, X.cas, X.clock, X.frames, X.room, X.hears, X.method, X.code, (X.here.setHeapUsed s₂.heap s₂.slotsUsed).setVm hW'.alike, X.tail, State.WarmedH.trans X.warmed hW', X.limits, X.bytes, X.same.trans (hsame.setVm s.vm)⟩,
      ⟨g, mk, s₂, L, E, ce, rfl, rfl, hx, hce, hcv, hcl, rfl, hL, rfl, rfl⟩, ?_⟩
    show Steps p.tables e below _ (((({ U with heap := s₂.heap, slotsUsed := s₂.slotsUsed } : State).setVm s₂.vm).setTop g).pushFrame (.throwing q))
    rw [← hs₂]
    exact hsteps
end
variable {p : Program} {l : Launch} {e : Env} {R : Room} {s : State} {m : MethodId} {args : Array Value} {below : List Frame} {meth : Method} {c : Code} {T : State} {H : Heap} {locs : List Loc} {cells slots : Nat}
theorem vx_callVX (X : Stand p l e R s m args below meth c T locs cells slots) (hexec : p.tables.exec = Jvm.exec) {own C : String} {index : Nat} {y : MethodName} {bytes : ByteArray} {maxL : Nat} {ret : Option FieldType} {hh : List (Nat × Nat × Nat × Nat)}
    (hown : s.vm.findClass own = some m.cls) (hlink : (Cond.methodLink own index y).before args s = true) (hinst : (Cond.instanceMethod y).before args s = true) (hsel : (Cond.selects C y y).before args s = true)
    (hcode : (Cond.codeWith y bytes maxL ret hh).before args s = true) (hy : y.cls ≠ "java/lang/invoke/MethodHandle" ∧ y.cls ≠ "java/lang/invoke/VarHandle")
    {W9 : Nat} {Pre : Pt → Array Value → Prop} {Post : Pt → Array Value → Option Value → Pt → Prop} {PostX : Pt → Array Value → Addr → Pt → Prop} (hK : vx_Back l R p e below s args y 3 W9 Pre Post PostX)
    {b : Addr} {cellB : Cell} (hcell : T.heap[b]? = some cellB) (hobj : cellB.vm.isStatics = false) (hcls : s.vm.findClass C = some cellB.cls)
    {g : JFrame} (hg : g.method = m) (hsize : g.locals.size = c.maxLocals) {argsL rest : List Value} (hlen : ∀ sig, parseMethodDescriptor y.desc = some sig → argsL.length = sig.parameters.length)
    (hstack : g.stack = argsL.reverse ++ .ref b :: rest) (hW : 2 * g.monitorRoom + (rest.map fun v => v.category).sum ≤ W9) (hdg : decode c.code g.pc = .ok (.invokevirtual index, 3))
    (hpre : ∀ vm₁, s.WarmedH vm₁ → Pre ⟨T.setVm vm₁, locs, cells, slots⟩ (Value.ref b :: argsL).toArray) :
    (∃ (v : Option Value) (vm₁ : Vm) (B : Pt), s.WarmedH vm₁ ∧ Stand p l e R s m args below meth c B.U B.locs B.cells B.slots ∧ Post ⟨T.setVm vm₁, locs, cells, slots⟩ (Value.ref b :: argsL).toArray v B ∧
      ∀ target, Steps p.tables e below (B.U.setTop { g with pc := g.pc + 3, stack := v.toList ++ rest }) target → Steps p.tables e below (T.setTop g) target) ∨
    (∃ (q : Addr) (vm₁ : Vm) (B : Pt), s.WarmedH vm₁ ∧ Stand p l e R s m args below meth c B.U B.locs B.cells B.slots ∧ PostX ⟨T.setVm vm₁, locs, cells, slots⟩ (Value.ref b :: argsL).toArray q B ∧
      Steps p.tables e below (T.setTop g) ((B.U.setTop { g with stack := rest }).pushFrame (.throwing q))) := by
  obtain ⟨mk, methM, hnamed, hmethM, hstM, habM⟩ := Cond.instanceMethod_spec hinst
  obtain ⟨m8, methM', cM, hn8, hmethM', -, -, -, -, -, -, hsigM⟩ := Cond.codeWith_spec hcode
  cases Option.some.inj (hn8.symm.trans hnamed)
  cases hmethM.symm.trans hmethM'
  obtain ⟨c2, r2, m2, q1, q2, q3, q4, kP, hkP, hkPi⟩ := Cond.selects_spec hsel
  cases hcls.symm.trans q1
  cases (State.methodFound?_of_named hnamed hy).symm.trans q2
  cases hnamed.symm.trans q3
  have hselP : selectMethod e.platform s.vm cellB.cls mk = .method mk := by rw [Launch.admits_selectMethod X.admits]; exact q4
  obtain ⟨vm₁, X₁, hstep₁⟩ := X.invokevirtual hexec hown hlink hnamed hmethM hstM hkP hkPi hy (a := b) (cell := cellB) hcell
    (fun z h => by rw [h] at hobj; cases hobj) hselP hmethM habM hkP hkPi (g := g) hg (argsL := argsL) (rest := rest) (hlen _ hsigM) hstack hdg
  rcases hK m meth c ⟨T.setVm vm₁, locs, cells, slots⟩ { g with stack := rest } (.invokevirtual index) mk (Value.ref b :: argsL).toArray X₁ hg hsize hdg hW (X₁.named hnamed) (hpre vm₁ X₁.warmed) with ⟨v, B, X', hpost, hsteps⟩ | ⟨q, B, X', hpost, hsteps⟩
  · exact Or.inl ⟨v, vm₁, B, X₁.warmed, X', hpost, fun target h => hstep₁ _ fun acts => by rw [doInvoke_state]; exact hsteps.trans h⟩
  · exact Or.inr ⟨q, vm₁, B, X₁.warmed, X', hpost, hstep₁ _ fun acts => by rw [doInvoke_state]; exact hsteps⟩
theorem vx_callSX (X : Stand p l e R s m args below meth c T locs cells slots) (hexec : p.tables.exec = Jvm.exec) {own : String} {index : Nat} {y : MethodName} {bytes : ByteArray} {maxL : Nat} {ret : Option FieldType} {hh : List (Nat × Nat × Nat × Nat)}
    (hown : s.vm.findClass own = some m.cls) (hlink : (Cond.methodLink own index y).before args s = true) (hstat : (Cond.static y).before args s = true) (hinit : (Cond.initialized y.cls).before args s = true)
    (hcode : (Cond.codeWith y bytes maxL ret hh).before args s = true) (hy : y.cls ≠ "java/lang/invoke/MethodHandle" ∧ y.cls ≠ "java/lang/invoke/VarHandle")
    {W9 : Nat} {Pre : Pt → Array Value → Prop} {Post : Pt → Array Value → Option Value → Pt → Prop} {PostX : Pt → Array Value → Addr → Pt → Prop} (hK : vx_Back l R p e below s args y 3 W9 Pre Post PostX)
    {g : JFrame} (hg : g.method = m) (hsize : g.locals.size = c.maxLocals) {argsL rest : List Value} (hlen : ∀ sig, parseMethodDescriptor y.desc = some sig → argsL.length = sig.parameters.length)
    (hstack : g.stack = argsL.reverse ++ rest) (hW : 2 * g.monitorRoom + (rest.map fun v => v.category).sum ≤ W9) (hdg : decode c.code g.pc = .ok (.invokestatic index, 3))
    (hpre : ∀ vm₁, s.WarmedH vm₁ → Pre ⟨T.setVm vm₁, locs, cells, slots⟩ argsL.toArray) :
    (∃ (v : Option Value) (vm₁ : Vm) (B : Pt), s.WarmedH vm₁ ∧ Stand p l e R s m args below meth c B.U B.locs B.cells B.slots ∧ Post ⟨T.setVm vm₁, locs, cells, slots⟩ argsL.toArray v B ∧
      ∀ target, Steps p.tables e below (B.U.setTop { g with pc := g.pc + 3, stack := v.toList ++ rest }) target → Steps p.tables e below (T.setTop g) target) ∨
    (∃ (q : Addr) (vm₁ : Vm) (B : Pt), s.WarmedH vm₁ ∧ Stand p l e R s m args below meth c B.U B.locs B.cells B.slots ∧ PostX ⟨T.setVm vm₁, locs, cells, slots⟩ argsL.toArray q B ∧
      Steps p.tables e below (T.setTop g) ((B.U.setTop { g with stack := rest }).pushFrame (.throwing q))) := by
  obtain ⟨mk, methM, cM, hnamed, hmethM, -, -, -, -, -, -, hsigM⟩ := Cond.codeWith_spec hcode
  have hstatic : methM.isStatic = true := Cond.static_spec hnamed hmethM hstat
  obtain ⟨kP, hkP, -⟩ := className_of_methodNamed hnamed
  have hinitP : kP.init = .initialized := Cond.initialized_spec (findClass_of_methodNamed hnamed) hkP hinit
  obtain ⟨vm₁, X₁, hstep₁⟩ := X.invokestatic hexec hown hlink hnamed hmethM hstatic hkP hinitP hy (g := g) hg (argsL := argsL) (rest := rest) (hlen _ hsigM) hstack hdg
  rcases hK m meth c ⟨T.setVm vm₁, locs, cells, slots⟩ { g with stack := rest } (.invokestatic index) mk argsL.toArray X₁ hg hsize hdg hW (X₁.named hnamed) (hpre vm₁ X₁.warmed) with ⟨v, B, X', hpost, hsteps⟩ | ⟨q, B, X', hpost, hsteps⟩
  · exact Or.inl ⟨v, vm₁, B, X₁.warmed, X', hpost, fun target h => hstep₁ _ fun acts => by rw [doInvoke_state]; exact hsteps.trans h⟩
  · exact Or.inr ⟨q, vm₁, B, X₁.warmed, X', hpost, hstep₁ _ fun acts => by rw [doInvoke_state]; exact hsteps⟩
theorem vx_callVW (X : Stand p l e R s m args below meth c T locs cells slots) (hexec : p.tables.exec = Jvm.exec) {own C : String} {index : Nat} {y : MethodName} {bytes : ByteArray} {maxL : Nat} {ret : Option FieldType} {hh : List (Nat × Nat × Nat × Nat)}
    (hown : s.vm.findClass own = some m.cls) (hlink : (Cond.methodLink own index y).before args s = true) (hinst : (Cond.instanceMethod y).before args s = true) (hsel : (Cond.selects C y y).before args s = true)
    (hcode : (Cond.codeWith y bytes maxL ret hh).before args s = true) (hy : y.cls ≠ "java/lang/invoke/MethodHandle" ∧ y.cls ≠ "java/lang/invoke/VarHandle")
    {W9 : Nat} {Pre : Pt → Array Value → Prop} {Post : Pt → Array Value → Option Value → Pt → Prop} (hK : Back l R p e below s args y 3 W9 Pre Post)
    {b : Addr} {cellB : Cell} (hcell : T.heap[b]? = some cellB) (hobj : cellB.vm.isStatics = false) (hcls : s.vm.findClass C = some cellB.cls)
    {g : JFrame} (hg : g.method = m) (hsize : g.locals.size = c.maxLocals) {argsL rest : List Value} (hlen : ∀ sig, parseMethodDescriptor y.desc = some sig → argsL.length = sig.parameters.length)
    (hstack : g.stack = argsL.reverse ++ .ref b :: rest) (hW : 2 * g.monitorRoom + (rest.map fun v => v.category).sum ≤ W9) (hdg : decode c.code g.pc = .ok (.invokevirtual index, 3))
    (hpre : ∀ vm₁, s.WarmedH vm₁ → Pre ⟨T.setVm vm₁, locs, cells, slots⟩ (Value.ref b :: argsL).toArray) :
    ∃ (v : Option Value) (vm₁ : Vm) (B : Pt), s.WarmedH vm₁ ∧ Stand p l e R s m args below meth c B.U B.locs B.cells B.slots ∧ Post ⟨T.setVm vm₁, locs, cells, slots⟩ (Value.ref b :: argsL).toArray v B ∧
      ∀ target, Steps p.tables e below (B.U.setTop { g with pc := g.pc + 3, stack := v.toList ++ rest }) target → Steps p.tables e below (T.setTop g) target := by
  obtain ⟨mk, methM, hnamed, hmethM, hstM, habM⟩ := Cond.instanceMethod_spec hinst
  obtain ⟨m8, methM', cM, hn8, hmethM', -, -, -, -, -, -, hsigM⟩ := Cond.codeWith_spec hcode
  cases Option.some.inj (hn8.symm.trans hnamed)
  cases hmethM.symm.trans hmethM'
  obtain ⟨c2, r2, m2, q1, q2, q3, q4, kP, hkP, hkPi⟩ := Cond.selects_spec hsel
  cases hcls.symm.trans q1
  cases (State.methodFound?_of_named hnamed hy).symm.trans q2
  cases hnamed.symm.trans q3
  have hselP : selectMethod e.platform s.vm cellB.cls mk = .method mk := by rw [Launch.admits_selectMethod X.admits]; exact q4
  obtain ⟨vm₁, X₁, hstep₁⟩ := X.invokevirtual hexec hown hlink hnamed hmethM hstM hkP hkPi hy (a := b) (cell := cellB) hcell
    (fun z h => by rw [h] at hobj; cases hobj) hselP hmethM habM hkP hkPi (g := g) hg (argsL := argsL) (rest := rest) (hlen _ hsigM) hstack hdg
  obtain ⟨v, B, X', hpost, hsteps⟩ := hK m meth c ⟨T.setVm vm₁, locs, cells, slots⟩ { g with stack := rest } (.invokevirtual index) mk (Value.ref b :: argsL).toArray X₁ hg hsize hdg hW (X₁.named hnamed) (hpre vm₁ X₁.warmed)
  exact ⟨v, vm₁, B, X₁.warmed, X', hpost, fun target h => hstep₁ _ fun acts => by rw [doInvoke_state]; exact hsteps.trans h⟩
abbrev vx_CVW (R : Room) (s : State) (args : Array Value) (own C : String) (index : Nat) (y : MethodName) (bytes : ByteArray) (maxL : Nat) (ret : Option FieldType) (hh : List (Nat × Nat × Nat × Nat)) (ws : List Cond) (rm : Room) (mc ms n : Nat) : Prop :=
  (rm.cells = mc ∧ rm.slots = ms ∧ rm.frames + 1 ≤ R.frames ∧ 8 + (maxL + 11) + rm.locals ≤ R.locals ∧ (∀ w ∈ ws, ∀ (a' : Array Value) (U : State), s.WarmedH U.vm → w.before a' U = true) ∧ Cond.codeWith y bytes maxL ret hh ∈ ws) ∧
  (Cond.codeWith y bytes maxL ret hh).before args s = true ∧ (Cond.initialized y.cls).before args s = true ∧ (y.cls ≠ "java/lang/invoke/MethodHandle" ∧ y.cls ≠ "java/lang/invoke/VarHandle") ∧
  (∀ sig, parseMethodDescriptor y.desc = some sig → n = sig.parameters.length) ∧ (Cond.methodLink own index y).before args s = true ∧ (Cond.instanceMethod y).before args s = true ∧ (Cond.selects C y y).before args s = true
theorem vx_cwVW {own C : String} {index maxL mc ms : Nat} {y : MethodName} {bytes : ByteArray} {ret : Option FieldType} {hh : List (Nat × Nat × Nat × Nat)} {Ts ws ws' : List Cond} {rm : Room} (n : Nat) (ht : ∀ w ∈ Ts, w.before args s = true) (hT : GoodIn Ts (wsV own index C y ws)) (hw : ws = Cond.codeWith y bytes maxL ret hh :: ws') (hrc : rm.cells = mc) (hrs : rm.slots = ms)
    (hd : y.cls = C ∧ y.cls ≠ "java/lang/invoke/MethodHandle" ∧ y.cls ≠ "java/lang/invoke/VarHandle" ∧ (parseMethodDescriptor y.desc).map (fun d => d.parameters.length) = some n) (hR : rm.frames + 1 ≤ R.frames ∧ 8 + (maxL + 11) + rm.locals ≤ R.locals) :
    vx_CVW R s args own C index y bytes maxL ret hh ws rm mc ms n := by
  obtain ⟨hC, hd⟩ := hd
  subst hC
  have ok : ∀ w ∈ wsV own index y.cls y ws, w.before args s = true := fun w h => ht w (hT w h).1
  have hG : GoodIn Ts ws := fun w h => hT w (by unfold wsV; exact List.mem_append_right _ h)
  have hc : Cond.codeWith y bytes maxL ret hh ∈ ws := by rw [hw]; exact List.mem_cons_self
  refine ⟨⟨hrc, hrs, hR.1, hR.2, pay_in ht hG, hc⟩, ht _ (hG _ hc).1, ok _ (by simp [wsV]), ⟨hd.1, hd.2.1⟩, fun sig h => ?_, ok _ (by simp [wsV]), ok _ (by simp [wsV]), ok _ (by simp [wsV])⟩
  have h2 := hd.2.2
  rw [h] at h2
  exact (Option.some.inj h2).symm
theorem vx_runVW {y : MethodName} {bytes cc : ByteArray} {maxL nL mc ms n index : Nat} {ret : Option FieldType} {hh : List (Nat × Nat × Nat × Nat)} {ws : List Cond} {rm : Room} {Pc : Array Value → State → Prop} {Qc : Array Value → State → Outcome → State → Prop} {free : Addr → Prop} {Ts : List Cond} {own C : String} {b : Addr} {As rest : List Value} {g : JFrame}
    (S : CallFix p m c cc nL s args Ts own) (hM : Met l y ws rm Pc Qc mc ms free) (cw : vx_CVW R s args own C index y bytes maxL ret hh ws rm mc ms n) (hp : PreV s H C b Pc As)
    (hg : g.method = m) (hn : As.length = n) (hsize : g.locals.size = nL) (hstack : g.stack = As.reverse ++ .ref b :: rest) (hW : 2 * g.monitorRoom + (rest.map fun v => v.category).sum ≤ 8) (hdg : decode cc g.pc = .ok (.invokevirtual index, 3)) (hf : cells + mc ≤ R.cells ∧ slots + ms ≤ R.slots) :
    va_Run p l e R s m args below meth c H locs cells slots mc ms g rest (Qc (Value.ref b :: As).toArray) free := by
  obtain ⟨⟨hrc, hrs, hfr, hlo, hws, hcw⟩, hcode, hini, hy, hlen, hl, hin, hse⟩ := cw
  have hK : Back l R p e below s args y 3 8 (PreOf R mc ms Pc) (PostOf Qc mc ms free) := va_backW (hh := hh) (bytes := bytes) (maxL := maxL) (ret := ret) hM hp.1 hrc hrs hfr hlo hws hcw (fun a' U hW => word_at hW (Or.inl (by first | rfl | simp [Cond.onTables, Cond.keeps, Cond.steady])) hini)
  obtain ⟨hx, hb, hml, ho, -⟩ := S
  obtain ⟨-, ⟨cellB, hcB, hoB, hclB⟩, hPc⟩ := hp
  intro T hT X
  obtain ⟨v, vm₁, ⟨U', l2, c2, s2⟩, hW₁, X', ⟨g', mk, t, L, e1, e2, hq, h1, hL, h2, h3⟩, st⟩ := vx_callVW X hx (C := C) (hh := hh) (bytes := bytes) (maxL := maxL) (ret := ret) ho hl hin hse hcode hy hK (by rw [hT]; exact hcB) hoB hclB hg (hsize.trans hml.symm) (argsL := As) (rest := rest) (fun sig h => hn.trans (hlen sig h)) hstack hW (by rw [hb]; exact hdg)
    (fun vm₁ hW₁ => ⟨hf.1, hf.2, hPc (T.setVm vm₁) hT hW₁⟩)
  dsimp only [Pt.U, Pt.locs, Pt.cells, Pt.slots] at X' e1 e2 h1 h2 h3 st
  subst h1; subst h2; subst h3
  exact ⟨v, (T.setVm vm₁).calling g' mk (Value.ref b :: As).toArray, t, U', L, hT, X', hL, e1, e2, hq, st⟩
section
variable {y : MethodName} {bytes cc : ByteArray} {maxL nL mc ms n index : Nat} {ret : Option FieldType} {ws : List Cond} {rm : Room} {Pc : Array Value → State → Prop} {Qc : Array Value → State → Outcome → State → Prop} {XC : String → State → State → Prop} {free : Addr → Prop} {Ts : List Cond} {own C : String} {b : Addr} {As rest : List Value} {g : JFrame}
theorem vx_runVX {hh : List (Nat × Nat × Nat × Nat)} (S : CallFix p m c cc nL s args Ts own) (hM : vx_Met l y ws rm Pc Qc XC mc ms free) (cw : vx_CVW R s args own C index y bytes maxL ret hh ws rm mc ms n) (hp : PreV s H C b Pc As)
    (hg : g.method = m) (hn : As.length = n) (hsize : g.locals.size = nL) (hstack : g.stack = As.reverse ++ .ref b :: rest) (hW : 2 * g.monitorRoom + (rest.map fun v => v.category).sum ≤ 8) (hdg : decode cc g.pc = .ok (.invokevirtual index, 3)) (hf : cells + mc ≤ R.cells ∧ slots + ms ≤ R.slots) :
    vx_Run p l e R s m args below meth c H locs cells slots mc ms g rest (Qc (Value.ref b :: As).toArray) XC free := by
  obtain ⟨⟨hrc, hrs, hfr, hlo, hws, hcw⟩, hcode, hini, hy, hlen, hl, hin, hse⟩ := cw
  have hK : vx_Back l R p e below s args y 3 8 (PreOf R mc ms Pc) (PostOf Qc mc ms free) (vx_Post XC mc ms free) := vx_backW (hh := hh) (bytes := bytes) (maxL := maxL) (ret := ret) hM hp.1 hrc hrs hfr hlo hws hcw (fun a' U hW => word_at hW (Or.inl (by first | rfl | simp [Cond.onTables, Cond.keeps, Cond.steady])) hini)
  obtain ⟨hx, hb, hml, ho, -⟩ := S
  obtain ⟨-, ⟨cellB, hcB, hoB, hclB⟩, hPc⟩ := hp
  intro T hT X
  rcases vx_callVX X hx (C := C) (hh := hh) (bytes := bytes) (maxL := maxL) (ret := ret) ho hl hin hse hcode hy hK (by rw [hT]; exact hcB) hoB hclB hg (hsize.trans hml.symm) (argsL := As) (rest := rest) (fun sig h => hn.trans (hlen sig h)) hstack hW (by rw [hb]; exact hdg)
    (fun vm₁ hW₁ => ⟨hf.1, hf.2, hPc (T.setVm vm₁) hT hW₁⟩) with ⟨v, vm₁, ⟨U', l2, c2, s2⟩, hW₁, X', ⟨g', mk, t, L, e1, e2, hq, h1, hL, h2, h3⟩, st⟩ | ⟨q, vm₁, ⟨U', l2, c2, s2⟩, hW₁, X', ⟨g', mk, t, L, E, ce, e1, e2, hq, hce, hcv, hcl, h1, hL, h2, h3⟩, st⟩
  · dsimp only [Pt.U, Pt.locs, Pt.cells, Pt.slots] at X' e1 e2 h1 h2 h3 st
    subst h1; subst h2; subst h3
    exact Or.inl ⟨v, (T.setVm vm₁).calling g' mk (Value.ref b :: As).toArray, t, U', L, hT, X', hL, e1, e2, hq, st⟩
  · dsimp only [Pt.U, Pt.locs, Pt.cells, Pt.slots] at X' e1 e2 h1 h2 h3 st hcl
    subst h1; subst h2; subst h3
    exact Or.inr ⟨q, (T.setVm vm₁).calling g' mk (Value.ref b :: As).toArray, t, U', L, E, ce, hT, X', hL, e1, e2, hq, hce, hcv, vx_cls hW₁ hcl, st⟩
theorem vx_runSX {hh : List (Nat × Nat × Nat × Nat)} (S : CallFix p m c cc nL s args Ts own) (hM : vx_Met l y ws rm Pc Qc XC mc ms free) (cw : vx_CSW R s args own index y bytes maxL ret hh ws rm mc ms n) (hp : PreS s H Pc As)
    (hg : g.method = m) (hn : As.length = n) (hsize : g.locals.size = nL) (hstack : g.stack = As.reverse ++ rest) (hW : 2 * g.monitorRoom + (rest.map fun v => v.category).sum ≤ 8) (hdg : decode cc g.pc = .ok (.invokestatic index, 3)) (hf : cells + mc ≤ R.cells ∧ slots + ms ≤ R.slots) :
    vx_Run p l e R s m args below meth c H locs cells slots mc ms g rest (Qc As.toArray) XC free := by
  obtain ⟨⟨hrc, hrs, hfr, hlo, hws, hcw⟩, hcode, hini, hy, hlen, hl, hstt⟩ := cw
  have hK : vx_Back l R p e below s args y 3 8 (PreOf R mc ms Pc) (PostOf Qc mc ms free) (vx_Post XC mc ms free) := vx_backW (hh := hh) (bytes := bytes) (maxL := maxL) (ret := ret) hM hp.1 hrc hrs hfr hlo hws hcw (fun a' U hW => word_at hW (Or.inl (by first | rfl | simp [Cond.onTables, Cond.keeps, Cond.steady])) hini)
  obtain ⟨hx, hb, hml, ho, -⟩ := S
  intro T hT X
  rcases vx_callSX X hx (hh := hh) (bytes := bytes) (maxL := maxL) (ret := ret) ho hl hstt hini hcode hy hK hg (hsize.trans hml.symm) (argsL := As) (rest := rest) (fun sig h => hn.trans (hlen sig h)) hstack hW (by rw [hb]; exact hdg)
    (fun vm₁ hW₁ => ⟨hf.1, hf.2, hp.2 (T.setVm vm₁) hT hW₁⟩) with ⟨v, vm₁, ⟨U', l2, c2, s2⟩, hW₁, X', ⟨g', mk, t, L, e1, e2, hq, h1, hL, h2, h3⟩, st⟩ | ⟨q, vm₁, ⟨U', l2, c2, s2⟩, hW₁, X', ⟨g', mk, t, L, E, ce, e1, e2, hq, hce, hcv, hcl, h1, hL, h2, h3⟩, st⟩
  · dsimp only [Pt.U, Pt.locs, Pt.cells, Pt.slots] at X' e1 e2 h1 h2 h3 st
    subst h1; subst h2; subst h3
    exact Or.inl ⟨v, (T.setVm vm₁).calling g' mk As.toArray, t, U', L, hT, X', hL, e1, e2, hq, st⟩
  · dsimp only [Pt.U, Pt.locs, Pt.cells, Pt.slots] at X' e1 e2 h1 h2 h3 st hcl
    subst h1; subst h2; subst h3
    exact Or.inr ⟨q, (T.setVm vm₁).calling g' mk As.toArray, t, U', L, E, ce, hT, X', hL, e1, e2, hq, hce, hcv, vx_cls hW₁ hcl, st⟩
end
end VXH
theorem vx_ofWH {l : Launch} {y : MethodName} {ws ws' : List Cond} {rm : Room} {Pc : Array Value → State → Prop} {Qc : Array Value → State → Outcome → State → Prop} {XC : String → State → State → Prop} {mc ms : Nat} {free : Addr → Prop} {cc : ByteArray} {maxL : Nat} {ret : Option FieldType} {hh : List (Nat × Nat × Nat × Nat)}
    (hy : plainName y.cls = true) (hw : ws = Cond.codeWith y cc maxL ret hh :: ws')
    (body : ∀ p e s m args below meth c s₁, BodyLoose p l y (headSpec ws rm) cc maxL ret e s m args below meth c s₁ → c.maxLocals = maxL → Pc args s →
      W p l e (headSpec ws rm).room s m args below meth c s.heap [] 0 0 (vx_MQ below Qc XC args s mc ms free) (entryFrame m args maxL)) : vx_Met l y ws rm Pc Qc XC mc ms free := by
  refine MetFree.of_bodyS (code := cc) (maxLocals := maxL) (ret := ret) hy ?_ ?_
  · intro args s m h hn
    obtain ⟨m9, meth, c, hn9, h1, h2, h3, h4, -, h5, h6, -⟩ := Cond.codeWith_spec (atoms_spec (ws := ws) h _ (by rw [hw]; exact List.mem_cons_self))
    cases hn.symm.trans hn9
    exact ⟨meth, c, h1, h2, h3, h4, h5, h6⟩
  · intro p e s m args below meth c s₁ B hml hP _
    have hh0 : s₁.heap = s.heap := by rw [B.state]; rfl
    obtain ⟨t, a1, o, b1, b2, b3⟩ := body p e s m args below meth c s₁ B hml hP s₁ hh0 (Stand.of_body B)
    exact ⟨t, o, a1, b1, b2, b3⟩
/-! ===== END ===== -/
/-! ===== BEGIN a constructor that throws (launches without stack traces) ===== -/
section VXIA
variable {p : Program} {l : Launch} {e : Env} {R : Room} {s : State} {m : MethodId} {args : Array Value} {below : List Frame} {meth : Method} {c : Code} {T : State} {locs : List Loc} {cells slots : Nat}
theorem vx_callI (X : Stand p l e R s m args below meth c T locs cells slots) (hexec : p.tables.exec = Jvm.exec) {own : String} {index : Nat} {y : MethodName} {bytes : ByteArray} {maxL : Nat}
    (hown : s.vm.findClass own = some m.cls) (hy1 : y.name = "<init>") (hlink : (Cond.methodLink own index y).before args s = true) (hinst : (Cond.instanceMethod y).before args s = true)
    (hcode : (Cond.code y bytes maxL none).before args s = true) (hy : y.cls ≠ "java/lang/invoke/MethodHandle" ∧ y.cls ≠ "java/lang/invoke/VarHandle")
    {W9 : Nat} {Pre : Pt → Array Value → Prop} {Post : Pt → Array Value → Option Value → Pt → Prop} {PostX : Pt → Array Value → Addr → Pt → Prop} (hK : vx_Back l R p e below s args y 3 W9 Pre Post PostX)
    {g : JFrame} (hg : g.method = m) (hsize : g.locals.size = c.maxLocals) {a : Addr} {argsL rest : List Value} (hlen : ∀ sig, parseMethodDescriptor y.desc = some sig → argsL.length = sig.parameters.length)
    (hstack : g.stack = argsL.reverse ++ .ref a :: rest) (hW : 2 * g.monitorRoom + (rest.map fun v => v.category).sum ≤ W9) (hdg : decode c.code g.pc = .ok (.invokespecial index, 3))
    (hpre : ∀ vm₁, s.WarmedH vm₁ → Pre ⟨T.setVm vm₁, locs, cells, slots⟩ (Value.ref a :: argsL).toArray) :
    (∃ (v : Option Value) (vm₁ : Vm) (B : Pt), s.WarmedH vm₁ ∧ Stand p l e R s m args below meth c B.U B.locs B.cells B.slots ∧ Post ⟨T.setVm vm₁, locs, cells, slots⟩ (Value.ref a :: argsL).toArray v B ∧
      ∀ target, Steps p.tables e below (B.U.setTop { g with pc := g.pc + 3, stack := v.toList ++ rest }) target → Steps p.tables e below (T.setTop g) target) ∨
    (∃ (q : Addr) (vm₁ : Vm) (B : Pt), s.WarmedH vm₁ ∧ Stand p l e R s m args below meth c B.U B.locs B.cells B.slots ∧ PostX ⟨T.setVm vm₁, locs, cells, slots⟩ (Value.ref a :: argsL).toArray q B ∧
      Steps p.tables e below (T.setTop g) ((B.U.setTop { g with stack := rest }).pushFrame (.throwing q))) := by
  subst hg
  have hpl : e.platform.magicAccessors = ({} : Platform).magicAccessors := by rw [X.admits.platform]
  obtain ⟨mk, methM, cM, kP, vm₁, hnamed, hmethM, hcodeM, -, hlocalsM, -, hkP, -, hW₁, hstep₁⟩ := Steps.initColdArgs (e := e) X.here hexec X.warmed hpl hown hy1 hy hlink hinst hcode (f := g) rfl hlen hstack hdg
  have X₁ := X.noted hW₁
  rcases hK g.method meth c ⟨T.setVm vm₁, locs, cells, slots⟩ { g with stack := rest } (.invokespecial index) mk (Value.ref a :: argsL).toArray X₁ rfl hsize hdg hW (X₁.named hnamed) (hpre vm₁ X₁.warmed) with ⟨v, B, X', hpost, hsteps⟩ | ⟨q, B, X', hpost, hsteps⟩
  · exact Or.inl ⟨v, vm₁, B, X₁.warmed, X', hpost, fun target h => hstep₁ _ fun acts => by rw [doInvoke_state]; exact hsteps.trans h⟩
  · exact Or.inr ⟨q, vm₁, B, X₁.warmed, X', hpost, hstep₁ _ fun acts => by rw [doInvoke_state]; exact hsteps⟩
end VXIA
section VXIB
variable {p : Program} {l : Launch} {e : Env} {R : Room} {s : State} {m : MethodId} {args : Array Value} {below : List Frame} {meth : Method} {c : Code} {H : Heap} {locs : List Loc} {cells slots : Nat}
variable {y : MethodName} {bytes cc : ByteArray} {maxL nL mc ms n index : Nat} {ret : Option FieldType} {ws : List Cond} {rm : Room} {Pc : Array Value → State → Prop} {Qc : Array Value → State → Outcome → State → Prop} {XC : String → State → State → Prop} {free : Addr → Prop} {Ts : List Cond} {own C : String} {b : Addr} {As rest : List Value} {g : JFrame}
theorem vx_runI (S : CallFix p m c cc nL s args Ts own) (hM : vx_Met l y ws rm Pc Qc XC mc ms free) (cw : CallB R s args own index y bytes maxL none ws rm mc ms n ∧ y.name = "<init>" ∧ (Cond.instanceMethod y).before args s = true) (hp : PreS s H Pc (.ref b :: As))
    (hg : g.method = m) (hn : As.length = n) (hsize : g.locals.size = nL) (hstack : g.stack = As.reverse ++ .ref b :: rest) (hW : 2 * g.monitorRoom + (rest.map fun v => v.category).sum ≤ 8) (hdg : decode cc g.pc = .ok (.invokespecial index, 3)) (hf : cells + mc ≤ R.cells ∧ slots + ms ≤ R.slots) :
    vx_Run p l e R s m args below meth c H locs cells slots mc ms g rest (Qc (Value.ref b :: As).toArray) XC free := by
  have hK : vx_Back l R p e below s args y 3 8 (PreOf R mc ms Pc) (PostOf Qc mc ms free) (vx_Post XC mc ms free) := vx_callBack cw.1 hM hp.1
  obtain ⟨⟨-, -, -, -, -, -, hcode, -, hy, hlen, hl⟩, hy1, hin⟩ := cw
  obtain ⟨hx, hb, hml, ho, -⟩ := S
  have hPc := hp.2
  intro T hT X
  rcases vx_callI X hx (bytes := bytes) (maxL := maxL) ho hy1 hl hin hcode hy hK hg (hsize.trans hml.symm) (a := b) (argsL := As) (rest := rest) (fun sig h => hn.trans (hlen sig h)) hstack hW (by rw [hb]; exact hdg)
    (fun vm₁ hW₁ => ⟨hf.1, hf.2, hPc (T.setVm vm₁) hT hW₁⟩) with ⟨v, vm₁, ⟨U', l2, c2, s2⟩, hW₁, X', ⟨g', mk, t, L, e1, e2, hq, h1, hL, h2, h3⟩, st⟩ | ⟨q, vm₁, ⟨U', l2, c2, s2⟩, hW₁, X', ⟨g', mk, t, L, E, ce, e1, e2, hq, hce, hcv, hcl, h1, hL, h2, h3⟩, st⟩
  · dsimp only [Pt.U, Pt.locs, Pt.cells, Pt.slots] at X' e1 e2 h1 h2 h3 st
    subst h1; subst h2; subst h3
    exact Or.inl ⟨v, (T.setVm vm₁).calling g' mk (Value.ref b :: As).toArray, t, U', L, hT, X', hL, e1, e2, hq, st⟩
  · dsimp only [Pt.U, Pt.locs, Pt.cells, Pt.slots] at X' e1 e2 h1 h2 h3 st hcl
    subst h1; subst h2; subst h3
    exact Or.inr ⟨q, (T.setVm vm₁).calling g' mk (Value.ref b :: As).toArray, t, U', L, E, ce, hT, X', hL, e1, e2, hq, hce, hcv, vx_cls hW₁ hcl, st⟩
end VXIB
/-! ===== END ===== -/
/-! ===== BEGIN a private constructor of a nest mate that throws ===== -/
section VXIC
variable {p : Program} {l : Launch} {e : Env} {R : Room} {s : State} {m : MethodId} {args : Array Value} {below : List Frame} {meth : Method} {c : Code} {T : State} {locs : List Loc} {cells slots : Nat}
theorem vx_callIN (X : Stand p l e R s m args below meth c T locs cells slots) (hexec : p.tables.exec = Jvm.exec) {own : String} {index : Nat} {host : String} {y : MethodName} {bytes : ByteArray} {maxL : Nat}
    (hown : s.vm.findClass own = some m.cls) (hy1 : y.name = "<init>") (hlink : (Cond.methodLinkNest own index y host).before args s = true) (hinst : (Cond.instanceMethod y).before args s = true)
    (hcode : (Cond.code y bytes maxL none).before args s = true) (hy : y.cls ≠ "java/lang/invoke/MethodHandle" ∧ y.cls ≠ "java/lang/invoke/VarHandle")
    {W9 : Nat} {Pre : Pt → Array Value → Prop} {Post : Pt → Array Value → Option Value → Pt → Prop} {PostX : Pt → Array Value → Addr → Pt → Prop} (hK : vx_Back l R p e below s args y 3 W9 Pre Post PostX)
    {g : JFrame} (hg : g.method = m) (hsize : g.locals.size = c.maxLocals) {a : Addr} {argsL rest : List Value} (hlen : ∀ sig, parseMethodDescriptor y.desc = some sig → argsL.length = sig.parameters.length)
    (hstack : g.stack = argsL.reverse ++ .ref a :: rest) (hW : 2 * g.monitorRoom + (rest.map fun v => v.category).sum ≤ W9) (hdg : decode c.code g.pc = .ok (.invokespecial index, 3))
    (hpre : ∀ vm₁, s.WarmedH vm₁ → Pre ⟨T.setVm vm₁, locs, cells, slots⟩ (Value.ref a :: argsL).toArray) :
    (∃ (v : Option Value) (vm₁ : Vm) (B : Pt), s.WarmedH vm₁ ∧ Stand p l e R s m args below meth c B.U B.locs B.cells B.slots ∧ Post ⟨T.setVm vm₁, locs, cells, slots⟩ (Value.ref a :: argsL).toArray v B ∧
      ∀ target, Steps p.tables e below (B.U.setTop { g with pc := g.pc + 3, stack := v.toList ++ rest }) target → Steps p.tables e below (T.setTop g) target) ∨
    (∃ (q : Addr) (vm₁ : Vm) (B : Pt), s.WarmedH vm₁ ∧ Stand p l e R s m args below meth c B.U B.locs B.cells B.slots ∧ PostX ⟨T.setVm vm₁, locs, cells, slots⟩ (Value.ref a :: argsL).toArray q B ∧
      Steps p.tables e below (T.setTop g) ((B.U.setTop { g with stack := rest }).pushFrame (.throwing q))) := by
  subst hg
  have hpl : e.platform.magicAccessors = ({} : Platform).magicAccessors := by rw [X.admits.platform]
  obtain ⟨mk, methM, cM, kP, vm₁, hnamed, hmethM, hcodeM, -, hlocalsM, -, hkP, -, hW₁, hstep₁⟩ := Steps.initColdArgsNest (e := e) X.here hexec X.warmed hpl hown hy1 hy hlink hinst hcode (f := g) rfl hlen hstack hdg
  have X₁ := X.noted hW₁
  rcases hK g.method meth c ⟨T.setVm vm₁, locs, cells, slots⟩ { g with stack := rest } (.invokespecial index) mk (Value.ref a :: argsL).toArray X₁ rfl hsize hdg hW (X₁.named hnamed) (hpre vm₁ X₁.warmed) with ⟨v, B, X', hpost, hsteps⟩ | ⟨q, B, X', hpost, hsteps⟩
  · exact Or.inl ⟨v, vm₁, B, X₁.warmed, X', hpost, fun target h => hstep₁ _ fun acts => by rw [doInvoke_state]; exact hsteps.trans h⟩
  · exact Or.inr ⟨q, vm₁, B, X₁.warmed, X', hpost, hstep₁ _ fun acts => by rw [doInvoke_state]; exact hsteps⟩
end VXIC
section VXID
variable {p : Program} {l : Launch} {e : Env} {R : Room} {s : State} {m : MethodId} {args : Array Value} {below : List Frame} {meth : Method} {c : Code} {H : Heap} {locs : List Loc} {cells slots : Nat}
theorem vx_runIN {y : MethodName} {bytes cc : ByteArray} {maxL nL mc ms n index : Nat} {ws : List Cond} {rm : Room} {Pc : Array Value → State → Prop} {Qc : Array Value → State → Outcome → State → Prop} {XC : String → State → State → Prop} {free : Addr → Prop} {Ts : List Cond} {own host : String} {b : Addr} {As rest : List Value} {g : JFrame}
    (S : CallFix p m c cc nL s args Ts own) (hM : vx_Met l y ws rm Pc Qc XC mc ms free) (cw : va_CN R s args own index y host bytes maxL none ws rm mc ms n ∧ y.name = "<init>" ∧ (Cond.instanceMethod y).before args s = true) (hp : PreS s H Pc (.ref b :: As))
    (hg : g.method = m) (hn : As.length = n) (hsize : g.locals.size = nL) (hstack : g.stack = As.reverse ++ .ref b :: rest) (hW : 2 * g.monitorRoom + (rest.map fun v => v.category).sum ≤ 8) (hdg : decode cc g.pc = .ok (.invokespecial index, 3)) (hf : cells + mc ≤ R.cells ∧ slots + ms ≤ R.slots) :
    vx_Run p l e R s m args below meth c H locs cells slots mc ms g rest (Qc (Value.ref b :: As).toArray) XC free := by
  obtain ⟨⟨⟨hrc, hrs, hfr, hlo, hws, hcw⟩, hcode, hini, hy, hlen, hl⟩, hx1, hx2⟩ := cw
  have hK : vx_Back l R p e below s args y 3 8 (PreOf R mc ms Pc) (PostOf Qc mc ms free) (vx_Post XC mc ms free) := vx_back (bytes := bytes) (maxL := maxL) (ret := none) hM hp.1 hrc hrs hfr hlo hws hcw (fun a' U hW => word_at hW (Or.inl (by first | rfl | simp [Cond.onTables, Cond.keeps, Cond.steady])) hini)
  obtain ⟨hx, hb, hml, ho, -⟩ := S
  have hPc := hp.2
  intro T hT X
  rcases vx_callIN X hx (bytes := bytes) (maxL := maxL) ho hx1 hl hx2 hcode hy hK hg (hsize.trans hml.symm) (a := b) (argsL := As) (rest := rest) (fun sig h => hn.trans (hlen sig h)) hstack hW (by rw [hb]; exact hdg)
    (fun vm₁ hW₁ => ⟨hf.1, hf.2, hPc (T.setVm vm₁) hT hW₁⟩) with ⟨v, vm₁, ⟨U', l2, c2, s2⟩, hW₁, X', ⟨g', mk, t, L, e1, e2, hq, h1, hL, h2, h3⟩, st⟩ | ⟨q, vm₁, ⟨U', l2, c2, s2⟩, hW₁, X', ⟨g', mk, t, L, E, ce, e1, e2, hq, hce, hcv, hcl, h1, hL, h2, h3⟩, st⟩
  · dsimp only [Pt.U, Pt.locs, Pt.cells, Pt.slots] at X' e1 e2 h1 h2 h3 st
    subst h1; subst h2; subst h3
    exact Or.inl ⟨v, (T.setVm vm₁).calling g' mk (Value.ref b :: As).toArray, t, U', L, hT, X', hL, e1, e2, hq, st⟩
  · dsimp only [Pt.U, Pt.locs, Pt.cells, Pt.slots] at X' e1 e2 h1 h2 h3 st hcl
    subst h1; subst h2; subst h3
    exact Or.inr ⟨q, (T.setVm vm₁).calling g' mk (Value.ref b :: As).toArray, t, U', L, E, ce, hT, X', hL, e1, e2, hq, hce, hcv, vx_cls hW₁ hcl, st⟩
end VXID
/-! ===== END ===== -/
/-! ===== BEGIN a private method of a nest mate that may throw (follows va_callVN, va_callSN, va_runVN, va_runSN) ===== -/
section
variable {p : Program} {l : Launch} {e : Env} {R : Room} {s : State} {m : MethodId} {args : Array Value} {below : List Frame} {meth : Method} {c : Code} {H : Heap} {locs : List Loc} {cells slots : Nat}
variable {T : State}
theorem vx_callVN (X : Stand p l e R s m args below meth c T locs cells slots) (hexec : p.tables.exec = Jvm.exec) {own C : String} {index : Nat} {host : String} {y : MethodName} {bytes : ByteArray} {maxL : Nat} {ret : Option FieldType}
    (hown : s.vm.findClass own = some m.cls) (hlink : (Cond.methodLinkNest own index y host).before args s = true) (hinst : (Cond.instanceMethod y).before args s = true) (hsel : (Cond.selects C y y).before args s = true)
    (hcode : (Cond.code y bytes maxL ret).before args s = true) (hy : y.cls ≠ "java/lang/invoke/MethodHandle" ∧ y.cls ≠ "java/lang/invoke/VarHandle")
    {W : Nat} {Pre : Pt → Array Value → Prop} {Post : Pt → Array Value → Option Value → Pt → Prop} {PostX : Pt → Array Value → Addr → Pt → Prop} (hK : vx_Back l R p e below s args y 3 W Pre Post PostX)
    {b : Addr} {cellB : Cell} (hcell : T.heap[b]? = some cellB) (hobj : cellB.vm.isStatics = false) (hcls : s.vm.findClass C = some cellB.cls)
    {g : JFrame} (hg : g.method = m) (hsize : g.locals.size = c.maxLocals) {argsL rest : List Value} (hlen : ∀ sig, parseMethodDescriptor y.desc = some sig → argsL.length = sig.parameters.length)
    (hstack : g.stack = argsL.reverse ++ .ref b :: rest) (hW : 2 * g.monitorRoom + (rest.map fun v => v.category).sum ≤ W) (hdg : decode c.code g.pc = .ok (.invokevirtual index, 3))
    (hpre : ∀ vm₁, s.WarmedH vm₁ → Pre ⟨T.setVm vm₁, locs, cells, slots⟩ (Value.ref b :: argsL).toArray) :
    (∃ (v : Option Value) (vm₁ : Vm) (B : Pt), s.WarmedH vm₁ ∧ Stand p l e R s m args below meth c B.U B.locs B.cells B.slots ∧ Post ⟨T.setVm vm₁, locs, cells, slots⟩ (Value.ref b :: argsL).toArray v B ∧
      ∀ target, Steps p.tables e below (B.U.setTop { g with pc := g.pc + 3, stack := v.toList ++ rest }) target → Steps p.tables e below (T.setTop g) target) ∨
    (∃ (q : Addr) (vm₁ : Vm) (B : Pt), s.WarmedH vm₁ ∧ Stand p l e R s m args below meth c B.U B.locs B.cells B.slots ∧ PostX ⟨T.setVm vm₁, locs, cells, slots⟩ (Value.ref b :: argsL).toArray q B ∧
      Steps p.tables e below (T.setTop g) ((B.U.setTop { g with stack := rest }).pushFrame (.throwing q))) := by
  obtain ⟨mk, methM, hnamed, hmethM, hstM, habM⟩ := Cond.instanceMethod_spec hinst
  obtain ⟨methM', cM, hmethM', -, -, -, -, -, -, hsigM⟩ := Cond.code_spec hnamed hcode
  cases hmethM.symm.trans hmethM'
  obtain ⟨c2, r2, m2, q1, q2, q3, q4, kP, hkP, hkPi⟩ := Cond.selects_spec hsel
  cases hcls.symm.trans q1
  cases (State.methodFound?_of_named hnamed hy).symm.trans q2
  cases hnamed.symm.trans q3
  have hselP : selectMethod e.platform s.vm cellB.cls mk = .method mk := by rw [Launch.admits_selectMethod X.admits]; exact q4
  obtain ⟨vm₁, X₁, hstep₁⟩ := X.invokevirtualNest hexec hown hlink hnamed hmethM hstM hkP hkPi hy (a := b) (cell := cellB) hcell
    (fun z h => by rw [h] at hobj; cases hobj) hselP hmethM habM hkP hkPi (g := g) hg (argsL := argsL) (rest := rest) (hlen _ hsigM) hstack hdg
  rcases hK m meth c ⟨T.setVm vm₁, locs, cells, slots⟩ { g with stack := rest } (.invokevirtual index) mk (Value.ref b :: argsL).toArray X₁ hg hsize hdg hW (X₁.named hnamed) (hpre vm₁ X₁.warmed) with ⟨v, B, X', hpost, hsteps⟩ | ⟨q, B, X', hpost, hsteps⟩
  · exact Or.inl ⟨v, vm₁, B, X₁.warmed, X', hpost, fun target h => hstep₁ _ fun acts => by rw [doInvoke_state]; exact hsteps.trans h⟩
  · exact Or.inr ⟨q, vm₁, B, X₁.warmed, X', hpost, hstep₁ _ fun acts => by rw [doInvoke_state]; exact hsteps⟩
theorem vx_callSN (X : Stand p l e R s m args below meth c T locs cells slots) (hexec : p.tables.exec = Jvm.exec) {own : String} {index : Nat} {host : String} {y : MethodName} {bytes : ByteArray} {maxL : Nat} {ret : Option FieldType}
    (hown : s.vm.findClass own = some m.cls) (hlink : (Cond.methodLinkNest own index y host).before args s = true) (hstat : (Cond.static y).before args s = true) (hinit : (Cond.initialized y.cls).before args s = true)
    (hcode : (Cond.code y bytes maxL ret).before args s = true) (hy : y.cls ≠ "java/lang/invoke/MethodHandle" ∧ y.cls ≠ "java/lang/invoke/VarHandle")
    {W : Nat} {Pre : Pt → Array Value → Prop} {Post : Pt → Array Value → Option Value → Pt → Prop} {PostX : Pt → Array Value → Addr → Pt → Prop} (hK : vx_Back l R p e below s args y 3 W Pre Post PostX)
    {g : JFrame} (hg : g.method = m) (hsize : g.locals.size = c.maxLocals) {argsL rest : List Value} (hlen : ∀ sig, parseMethodDescriptor y.desc = some sig → argsL.length = sig.parameters.length)
    (hstack : g.stack = argsL.reverse ++ rest) (hW : 2 * g.monitorRoom + (rest.map fun v => v.category).sum ≤ W) (hdg : decode c.code g.pc = .ok (.invokestatic index, 3))
    (hpre : ∀ vm₁, s.WarmedH vm₁ → Pre ⟨T.setVm vm₁, locs, cells, slots⟩ argsL.toArray) :
    (∃ (v : Option Value) (vm₁ : Vm) (B : Pt), s.WarmedH vm₁ ∧ Stand p l e R s m args below meth c B.U B.locs B.cells B.slots ∧ Post ⟨T.setVm vm₁, locs, cells, slots⟩ argsL.toArray v B ∧
      ∀ target, Steps p.tables e below (B.U.setTop { g with pc := g.pc + 3, stack := v.toList ++ rest }) target → Steps p.tables e below (T.setTop g) target) ∨
    (∃ (q : Addr) (vm₁ : Vm) (B : Pt), s.WarmedH vm₁ ∧ Stand p l e R s m args below meth c B.U B.locs B.cells B.slots ∧ PostX ⟨T.setVm vm₁, locs, cells, slots⟩ argsL.toArray q B ∧
      Steps p.tables e below (T.setTop g) ((B.U.setTop { g with stack := rest }).pushFrame (.throwing q))) := by
  obtain ⟨mk, hnamed⟩ := Cond.code_named hcode
  obtain ⟨methM, cM, hmethM, -, -, -, -, -, -, hsigM⟩ := Cond.code_spec hnamed hcode
  have hstatic : methM.isStatic = true := Cond.static_spec hnamed hmethM hstat
  obtain ⟨kP, hkP, -⟩ := className_of_methodNamed hnamed
  have hinitP : kP.init = .initialized := Cond.initialized_spec (findClass_of_methodNamed hnamed) hkP hinit
  obtain ⟨vm₁, X₁, hstep₁⟩ := X.invokestaticNest hexec hown hlink hnamed hmethM hstatic hkP hinitP hy (g := g) hg (argsL := argsL) (rest := rest) (hlen _ hsigM) hstack hdg
  rcases hK m meth c ⟨T.setVm vm₁, locs, cells, slots⟩ { g with stack := rest } (.invokestatic index) mk argsL.toArray X₁ hg hsize hdg hW (X₁.named hnamed) (hpre vm₁ X₁.warmed) with ⟨v, B, X', hpost, hsteps⟩ | ⟨q, B, X', hpost, hsteps⟩
  · exact Or.inl ⟨v, vm₁, B, X₁.warmed, X', hpost, fun target h => hstep₁ _ fun acts => by rw [doInvoke_state]; exact hsteps.trans h⟩
  · exact Or.inr ⟨q, vm₁, B, X₁.warmed, X', hpost, hstep₁ _ fun acts => by rw [doInvoke_state]; exact hsteps⟩
theorem vx_runVN {y : MethodName} {bytes cc : ByteArray} {maxL nL mc ms n index : Nat} {ret : Option FieldType} {ws : List Cond} {rm : Room} {Pc : Array Value → State → Prop} {Qc : Array Value → State → Outcome → State → Prop} {XC : String → State → State → Prop} {free : Addr → Prop} {Ts : List Cond} {own C host : String} {b : Addr} {As rest : List Value} {g : JFrame}
    (S : CallFix p m c cc nL s args Ts own) (hM : vx_Met l y ws rm Pc Qc XC mc ms free) (cw : va_CN R s args own index y host bytes maxL ret ws rm mc ms n ∧ (Cond.instanceMethod y).before args s = true ∧ (Cond.selects C y y).before args s = true) (hp : PreV s H C b Pc As)
    (hg : g.method = m) (hn : As.length = n) (hsize : g.locals.size = nL) (hstack : g.stack = As.reverse ++ .ref b :: rest) (hW : 2 * g.monitorRoom + (rest.map fun v => v.category).sum ≤ 8) (hdg : decode cc g.pc = .ok (.invokevirtual index, 3)) (hf : cells + mc ≤ R.cells ∧ slots + ms ≤ R.slots) :
    vx_Run p l e R s m args below meth c H locs cells slots mc ms g rest (Qc (Value.ref b :: As).toArray) XC free := by
  obtain ⟨⟨⟨hrc, hrs, hfr, hlo, hws, hcw⟩, hcode, hini, hy, hlen, hl⟩, hx1, hx2⟩ := cw
  have hK : vx_Back l R p e below s args y 3 8 (PreOf R mc ms Pc) (PostOf Qc mc ms free) (vx_Post XC mc ms free) := vx_back (bytes := bytes) (maxL := maxL) (ret := ret) hM hp.1 hrc hrs hfr hlo hws hcw (fun a' U hW => word_at hW (Or.inl (by first | rfl | simp [Cond.onTables, Cond.keeps, Cond.steady])) hini)
  obtain ⟨hx, hb, hml, ho, -⟩ := S
  obtain ⟨-, ⟨cellB, hcB, hoB, hclB⟩, hPc⟩ := hp
  intro T hT X
  rcases vx_callVN X hx (C := C) (bytes := bytes) (maxL := maxL) (ret := ret) ho hl hx1 hx2 hcode hy hK (by rw [hT]; exact hcB) hoB hclB hg (hsize.trans hml.symm) (argsL := As) (rest := rest) (fun sig h => hn.trans (hlen sig h)) hstack hW (by rw [hb]; exact hdg)
    (fun vm₁ hW₁ => ⟨hf.1, hf.2, hPc (T.setVm vm₁) hT hW₁⟩) with ⟨v, vm₁, ⟨U', l2, c2, s2⟩, hW₁, X', ⟨g', mk, t, L, e1, e2, hq, h1, hL, h2, h3⟩, st⟩ | ⟨q, vm₁, ⟨U', l2, c2, s2⟩, hW₁, X', ⟨g', mk, t, L, E, ce, e1, e2, hq, hce, hcv, hcl, h1, hL, h2, h3⟩, st⟩
  · dsimp only [Pt.U, Pt.locs, Pt.cells, Pt.slots] at X' e1 e2 h1 h2 h3 st
    subst h1; subst h2; subst h3
    exact Or.inl ⟨v, (T.setVm vm₁).calling g' mk (Value.ref b :: As).toArray, t, U', L, hT, X', hL, e1, e2, hq, st⟩
  · dsimp only [Pt.U, Pt.locs, Pt.cells, Pt.slots] at X' e1 e2 h1 h2 h3 st hcl
    subst h1; subst h2; subst h3
    exact Or.inr ⟨q, (T.setVm vm₁).calling g' mk (Value.ref b :: As).toArray, t, U', L, E, ce, hT, X', hL, e1, e2, hq, hce, hcv, vx_cls hW₁ hcl, st⟩
theorem vx_runSN {y : MethodName} {bytes cc : ByteArray} {maxL nL mc ms n index : Nat} {ret : Option FieldType} {ws : List Cond} {rm : Room} {Pc : Array Value → State → Prop} {Qc : Array Value → State → Outcome → State → Prop} {XC : String → State → State → Prop} {free : Addr → Prop} {Ts : List Cond} {own host : String} {As rest : List Value} {g : JFrame}
    (S : CallFix p m c cc nL s args Ts own) (hM : vx_Met l y ws rm Pc Qc XC mc ms free) (cw : va_CN R s args own index y host bytes maxL ret ws rm mc ms n ∧ (Cond.static y).before args s = true ∧ True) (hp : PreS s H Pc As)
    (hg : g.method = m) (hn : As.length = n) (hsize : g.locals.size = nL) (hstack : g.stack = As.reverse ++ rest) (hW : 2 * g.monitorRoom + (rest.map fun v => v.category).sum ≤ 8) (hdg : decode cc g.pc = .ok (.invokestatic index, 3)) (hf : cells + mc ≤ R.cells ∧ slots + ms ≤ R.slots) :
    vx_Run p l e R s m args below meth c H locs cells slots mc ms g rest (Qc As.toArray) XC free := by
  obtain ⟨⟨⟨hrc, hrs, hfr, hlo, hws, hcw⟩, hcode, hini, hy, hlen, hl⟩, hx1, hx2⟩ := cw
  have hK : vx_Back l R p e below s args y 3 8 (PreOf R mc ms Pc) (PostOf Qc mc ms free) (vx_Post XC mc ms free) := vx_back (bytes := bytes) (maxL := maxL) (ret := ret) hM hp.1 hrc hrs hfr hlo hws hcw (fun a' U hW => word_at hW (Or.inl (by first | rfl | simp [Cond.onTables, Cond.keeps, Cond.steady])) hini)
  obtain ⟨hx, hb, hml, ho, -⟩ := S
  have hPc := hp.2
  intro T hT X
  rcases vx_callSN X hx (bytes := bytes) (maxL := maxL) (ret := ret) ho hl hx1 hini hcode hy hK hg (hsize.trans hml.symm) (argsL := As) (rest := rest) (fun sig h => hn.trans (hlen sig h)) hstack hW (by rw [hb]; exact hdg)
    (fun vm₁ hW₁ => ⟨hf.1, hf.2, hPc (T.setVm vm₁) hT hW₁⟩) with ⟨v, vm₁, ⟨U', l2, c2, s2⟩, hW₁, X', ⟨g', mk, t, L, e1, e2, hq, h1, hL, h2, h3⟩, st⟩ | ⟨q, vm₁, ⟨U', l2, c2, s2⟩, hW₁, X', ⟨g', mk, t, L, E, ce, e1, e2, hq, hce, hcv, hcl, h1, hL, h2, h3⟩, st⟩
  · dsimp only [Pt.U, Pt.locs, Pt.cells, Pt.slots] at X' e1 e2 h1 h2 h3 st
    subst h1; subst h2; subst h3
    exact Or.inl ⟨v, (T.setVm vm₁).calling g' mk As.toArray, t, U', L, hT, X', hL, e1, e2, hq, st⟩
  · dsimp only [Pt.U, Pt.locs, Pt.cells, Pt.slots] at X' e1 e2 h1 h2 h3 st hcl
    subst h1; subst h2; subst h3
    exact Or.inr ⟨q, (T.setVm vm₁).calling g' mk As.toArray, t, U', L, E, ce, hT, X', hL, e1, e2, hq, hce, hcv, vx_cls hW₁ hcl, st⟩
end
/-! ===== END ===== -/
/-! ===== BEGIN calls by an interface of methods that may throw (vx_callIF, vx_runF follow va_callIF, va_runF of this kit) ===== -/
section
variable {p : Program} {l : Launch} {e : Env} {R : Room} {s : State} {m : MethodId} {args : Array Value} {below : List Frame} {meth : Method} {c : Code} {H : Heap} {locs : List Loc} {cells slots : Nat} {Q : State → Prop}
variable {mc ms : Nat} {free : Addr → Prop} {A0 A1 : Nat → Prop} {H0 : Heap} {a : Array Value} {pc : Nat} {ls : Array Slot} {st0 rest : List Value}
def vx_Run5 (p : Program) (l : Launch) (e : Env) (R : Room) (s : State) (m : MethodId) (args : Array Value) (below : List Frame) (meth : Method) (c : Code) (H : Heap) (locs : List Loc) (cells slots mc ms : Nat) (g : JFrame) (rest : List Value) (Qa : State → Outcome → State → Prop) (XC : String → State → State → Prop) (free : Addr → Prop) : Prop :=
  ∀ T : State, T.heap = H → Stand p l e R s m args below meth c T locs cells slots →
    (∃ (v : Option Value) (st₀ t T' : State) (L : List Loc), st₀.heap = H ∧ Stand p l e R s m args below meth c T' (locs ++ L) (cells + mc) (slots + ms) ∧ (∀ q ∈ L, free q.base) ∧ T'.heap = t.heap ∧ T'.vm = t.vm ∧ Qa st₀ (.returned v) t ∧
      Goes p e below T g T' { g with pc := g.pc + 5, stack := v.toList ++ rest }) ∨
    (∃ (q : Addr) (st₀ t T' : State) (L : List Loc) (E : String) (ce : Cell), st₀.heap = H ∧ Stand p l e R s m args below meth c T' (locs ++ L) (cells + mc) (slots + ms) ∧ (∀ z ∈ L, free z.base) ∧ T'.heap = t.heap ∧ T'.vm = t.vm ∧ XC E st₀ t ∧ t.heap[q]? = some ce ∧ ce.vm = .none ∧ s.vm.findClass E = some ce.cls ∧
      Steps p.tables e below (T.setTop g) ((T'.setTop { g with stack := rest }).pushFrame (.throwing q)))
theorem vx_callIF {T : State} (X : Stand p l e R s m args below meth c T locs cells slots) (hexec : p.tables.exec = Jvm.exec) {own C : String} {index count : Nat} {x y : MethodName} {bytes : ByteArray} {maxL : Nat} {ret : Option FieldType}
    (hown : s.vm.findClass own = some m.cls) (hlink : (Cond.methodLink own index x).before args s = true) (hdecl : (Cond.declares x).before args s = true) (hface : (Cond.interfaceMethod x.cls x.cls x.name x.desc).before args s = true)
    (hsel : (Cond.selects C x y).before args s = true) (hinst : (Cond.instanceMethod y).before args s = true) (hpub : (Cond.publicMethod y).before args s = true) (hunh : (Cond.unhidden C x.name x.desc).before args s = true)
    (hcast : (Cond.castable C x.cls).before args s = true) (hcode : (Cond.code y bytes maxL ret).before args s = true) (hx : x.cls ≠ "java/lang/invoke/MethodHandle" ∧ x.cls ≠ "java/lang/invoke/VarHandle")
    {W9 : Nat} {Pre : Pt → Array Value → Prop} {Post : Pt → Array Value → Option Value → Pt → Prop} {PostX : Pt → Array Value → Addr → Pt → Prop} (hK : vx_Back l R p e below s args y 5 W9 Pre Post PostX)
    {b : Addr} {cellB : Cell} {kB : Class} (hcell : T.heap[b]? = some cellB) (hobj : cellB.vm.isStatics = false) (hcls : s.vm.findClass C = some cellB.cls) (hkB : s.vm.classes[cellB.cls]? = some kB)
    {g : JFrame} (hg : g.method = m) (hsize : g.locals.size = c.maxLocals) {argsL rest : List Value} (hlen : ∀ sig, parseMethodDescriptor x.desc = some sig → argsL.length = sig.parameters.length)
    (hstack : g.stack = argsL.reverse ++ .ref b :: rest) (hW : 2 * g.monitorRoom + (rest.map fun v => v.category).sum ≤ W9) (hdg : decode c.code g.pc = .ok (.invokeinterface index count, 5))
    (hpre : ∀ vm₁, s.WarmedH vm₁ → Pre ⟨T.setVm vm₁, locs, cells, slots⟩ (Value.ref b :: argsL).toArray) :
    (∃ (v : Option Value) (vm₁ : Vm) (B : Pt), s.WarmedH vm₁ ∧ Stand p l e R s m args below meth c B.U B.locs B.cells B.slots ∧ Post ⟨T.setVm vm₁, locs, cells, slots⟩ (Value.ref b :: argsL).toArray v B ∧
      ∀ target, Steps p.tables e below (B.U.setTop { g with pc := g.pc + 5, stack := v.toList ++ rest }) target → Steps p.tables e below (T.setTop g) target) ∨
    (∃ (q : Addr) (vm₁ : Vm) (B : Pt), s.WarmedH vm₁ ∧ Stand p l e R s m args below meth c B.U B.locs B.cells B.slots ∧ PostX ⟨T.setVm vm₁, locs, cells, slots⟩ (Value.ref b :: argsL).toArray q B ∧
      Steps p.tables e below (T.setTop g) ((B.U.setTop { g with stack := rest }).pushFrame (.throwing q))) := by
  obtain ⟨r0, r, hn, hrm, hstR, hsigR⟩ := Cond.declares_spec hdecl
  obtain ⟨cL, kL, r1, hcL, hkL, hiL, hfoundL, hn1⟩ := Cond.interfaceMethod_spec hface
  cases hn.symm.trans hn1
  have hr0cls : r0.cls = cL := Option.some.inj ((findClass_of_methodNamed hn).symm.trans hcL)
  obtain ⟨hnameR, hdescR⟩ := name_of_methodNamed hn hrm
  obtain ⟨mk, methM, hnamed, hmethM, -, habM⟩ := Cond.instanceMethod_spec hinst
  obtain ⟨c2, r2, m2, q1, q2, q3, q4, -⟩ := Cond.selects_spec hsel
  cases hcls.symm.trans q1
  cases hfoundL.symm.trans q2
  cases hnamed.symm.trans q3
  have hselP : selectMethod e.platform s.vm cellB.cls r0 = .method mk := by rw [Launch.admits_selectMethod X.admits]; exact q4
  have hpubM : hasFlag methM.accessFlags Acc.public_ = true := Cond.publicMethod_spec hnamed hmethM hpub
  have hway : ((cellB.cls :: s.vm.superclasses cellB.cls).any fun k => (declaredIn s.vm r.name r.desc k).any fun (_, z) => z.isPrivate || z.isStatic) = false := by
    rw [hnameR, hdescR]; exact Cond.unhidden_spec hcls hunh
  obtain ⟨c3, t3, w1, w2, w3⟩ := Cond.castable_spec hcast
  cases hcls.symm.trans w1
  cases hcL.symm.trans w2
  obtain ⟨vm₁, X₁, hstep₁⟩ := X.invokeinterface hexec hown hlink hn hrm hstR (by rw [hr0cls]; exact hkL) hiL hx (a := b) (cell := cellB) (kcell := kB) hcell
    (fun z h => by rw [h] at hobj; cases hobj) hkB (by rw [hr0cls]; exact w3) hselP hmethM hway hpubM habM (g := g) hg (argsL := argsL) (rest := rest) (hlen _ hsigR) hstack hdg
  rcases hK m meth c ⟨T.setVm vm₁, locs, cells, slots⟩ { g with stack := rest } (.invokeinterface index count) mk (Value.ref b :: argsL).toArray X₁ hg hsize hdg hW (X₁.named hnamed) (hpre vm₁ X₁.warmed) with ⟨v, B, X', hpost, hsteps⟩ | ⟨q, B, X', hpost, hsteps⟩
  · exact Or.inl ⟨v, vm₁, B, X₁.warmed, X', hpost, fun target h => hstep₁ _ fun acts => by rw [doInvoke_state]; exact hsteps.trans h⟩
  · exact Or.inr ⟨q, vm₁, B, X₁.warmed, X', hpost, hstep₁ _ fun acts => by rw [doInvoke_state]; exact hsteps⟩
theorem vx_runF {x y : MethodName} {bytes cc : ByteArray} {maxL nL mc ms n index count : Nat} {ret : Option FieldType} {ws : List Cond} {rm : Room} {Pc : Array Value → State → Prop} {Qc : Array Value → State → Outcome → State → Prop} {XC : String → State → State → Prop} {free : Addr → Prop} {Ts : List Cond} {own C : String} {cC : ClassId} {b : Addr} {As rest : List Value} {g : JFrame}
    (hat : ClassAt s C cC) (S : CallFix p m c cc nL s args Ts own) (hM : vx_Met l y ws rm Pc Qc XC mc ms free) (cw : va_CI R s args own C index x y bytes maxL ret ws rm mc ms n) (hp : PreV s H C b Pc As)
    (hg : g.method = m) (hn : As.length = n) (hsize : g.locals.size = nL) (hstack : g.stack = As.reverse ++ .ref b :: rest) (hW : 2 * g.monitorRoom + (rest.map fun v => v.category).sum ≤ 8) (hdg : decode cc g.pc = .ok (.invokeinterface index count, 5)) (hf : cells + mc ≤ R.cells ∧ slots + ms ≤ R.slots) :
    vx_Run5 p l e R s m args below meth c H locs cells slots mc ms g rest (Qc (Value.ref b :: As).toArray) XC free := by
  obtain ⟨hrc, hrs, hfr, hlo, hws, hcw⟩ := cw.back
  have hini := cw.init
  have hK : vx_Back l R p e below s args y 5 8 (PreOf R mc ms Pc) (PostOf Qc mc ms free) (vx_Post XC mc ms free) := vx_back (bytes := bytes) (maxL := maxL) (ret := ret) hM hp.1 hrc hrs hfr hlo hws hcw (fun a' U hW => word_at hW (Or.inl (by first | rfl | simp [Cond.onTables, Cond.keeps, Cond.steady])) hini)
  obtain ⟨hx, hb, hml, ho, -⟩ := S
  obtain ⟨-, ⟨cellB, hcB, hoB, hclB⟩, hPc⟩ := hp
  obtain ⟨hfc, kB, hkB, -⟩ := hat
  cases hfc.symm.trans hclB
  intro T hT X
  rcases vx_callIF X hx (C := C) (bytes := bytes) (maxL := maxL) (ret := ret) ho cw.link cw.decl cw.face cw.sel cw.inst cw.pub cw.unh cw.cast cw.code cw.notMH hK (by rw [hT]; exact hcB) hoB hclB hkB hg (hsize.trans hml.symm) (argsL := As) (rest := rest) (fun sig h => hn.trans (cw.len sig h)) hstack hW (by rw [hb]; exact hdg)
    (fun vm₁ hW₁ => ⟨hf.1, hf.2, hPc (T.setVm vm₁) hT hW₁⟩) with ⟨v, vm₁, ⟨U', l2, c2, s2⟩, hW₁, X', ⟨g', mk, t, L, e1, e2, hq, h1, hL, h2, h3⟩, st⟩ | ⟨q, vm₁, ⟨U', l2, c2, s2⟩, hW₁, X', ⟨g', mk, t, L, E, ce, e1, e2, hq, hce, hcv, hcl, h1, hL, h2, h3⟩, st⟩
  · dsimp only [Pt.U, Pt.locs, Pt.cells, Pt.slots] at X' e1 e2 h1 h2 h3 st
    subst h1; subst h2; subst h3
    exact Or.inl ⟨v, (T.setVm vm₁).calling g' mk (Value.ref b :: As).toArray, t, U', L, hT, X', hL, e1, e2, hq, st⟩
  · dsimp only [Pt.U, Pt.locs, Pt.cells, Pt.slots] at X' e1 e2 h1 h2 h3 st hcl
    subst h1; subst h2; subst h3
    exact Or.inr ⟨q, (T.setVm vm₁).calling g' mk (Value.ref b :: As).toArray, t, U', L, E, ce, hT, X', hL, e1, e2, hq, hce, hcv, vx_cls hW₁ hcl, st⟩
theorem vx_callFv {S SX : Type} {post : S → Prop} {px : SX → Prop} {B : S → State → Prop} {BX : String → SX → State → Prop} {AX : Nat → Prop} (hr : vx_Run5 p l e R s m args below meth c H locs cells slots mc ms (F0 m pc ls st0) rest (va_Qv post B A1 a) (vx_X px BX AX) free) (hS : va_S A0 H0 H locs) (hA : ∀ q, q < H.size → A1 q → A0 q) (hf : ∀ q, free q → A0 q) (hAX : ∀ q, q < H.size → AX q → A0 q)
    (kx : ∀ (E : String) (ce : Cell) (q9 : Addr) (u : SX) (t : State) (H1 : Heap) (locs1 : List Loc), t.heap = H1 → s.vm.Alike t.vm → px u → BX E u t → H.size ≤ H1.size → (∀ q : Nat, q < H.size → ¬ AX q → H1[q]? = H[q]?) → va_S A0 H0 H1 locs1 → H1[q9]? = some ce → ce.vm = .none → s.vm.findClass E = some ce.cls → vx_W p l e R s m args below meth c H1 locs1 (cells + mc) (slots + ms) Q (F0 m pc ls rest) q9)
    (kk : ∀ (u : S) (t : State) (H1 : Heap) (locs1 : List Loc), t.heap = H1 → s.vm.Alike t.vm → post u → B u t → H.size ≤ H1.size → (∀ q : Nat, q < H.size → ¬ A1 q → H1[q]? = H[q]?) → va_S A0 H0 H1 locs1 → W p l e R s m args below meth c H1 locs1 (cells + mc) (slots + ms) Q (F0 m (pc + 5) ls (rest))) : W p l e R s m args below meth c H locs cells slots Q (F0 m pc ls st0) := by
  intro T hT X
  rcases hr T hT X with ⟨v, st₀, t, T', L, h0, X', hL, e1, e2, ⟨⟨u, hv, hp, hb⟩, hF⟩, st⟩ | ⟨q, st₀, t, T', L, E, ce, h0, X', hL, e1, e2, ⟨u, hp, hb, hF⟩, hce, hcv, hcl, st⟩
  · cases hv
    obtain ⟨k1, k2, k3⟩ := vx_keep h0 e1 hS hA hf hL hF
    obtain ⟨t2, a1, b1⟩ := kk u t T'.heap (locs ++ L) e1.symm (by rw [← e2]; exact X'.warmed.alike) hp hb k1 k2 k3 T' rfl X'
    exact ⟨t2, st t2 a1, b1⟩
  · obtain ⟨k1, k2, k3⟩ := vx_keep h0 e1 hS hAX hf hL hF
    obtain ⟨t2, a1, b1⟩ := kx E ce q u t T'.heap (locs ++ L) e1.symm (by rw [← e2]; exact X'.warmed.alike) hp hb k1 k2 k3 (by rw [e1]; exact hce) hcv hcl T' rfl X'
    exact ⟨t2, st.trans a1, b1⟩
theorem vx_callFi {S SX : Type} {post : Int32 → S → Prop} {px : SX → Prop} {B : S → State → Prop} {BX : String → SX → State → Prop} {AX : Nat → Prop} (hr : vx_Run5 p l e R s m args below meth c H locs cells slots mc ms (F0 m pc ls st0) rest (va_Qi post B A1 a) (vx_X px BX AX) free) (hS : va_S A0 H0 H locs) (hA : ∀ q, q < H.size → A1 q → A0 q) (hf : ∀ q, free q → A0 q) (hAX : ∀ q, q < H.size → AX q → A0 q)
    (kx : ∀ (E : String) (ce : Cell) (q9 : Addr) (u : SX) (t : State) (H1 : Heap) (locs1 : List Loc), t.heap = H1 → s.vm.Alike t.vm → px u → BX E u t → H.size ≤ H1.size → (∀ q : Nat, q < H.size → ¬ AX q → H1[q]? = H[q]?) → va_S A0 H0 H1 locs1 → H1[q9]? = some ce → ce.vm = .none → s.vm.findClass E = some ce.cls → vx_W p l e R s m args below meth c H1 locs1 (cells + mc) (slots + ms) Q (F0 m pc ls rest) q9)
    (kk : ∀ (r : Int32) (u : S) (t : State) (H1 : Heap) (locs1 : List Loc), t.heap = H1 → s.vm.Alike t.vm → post r u → B u t → H.size ≤ H1.size → (∀ q : Nat, q < H.size → ¬ A1 q → H1[q]? = H[q]?) → va_S A0 H0 H1 locs1 → W p l e R s m args below meth c H1 locs1 (cells + mc) (slots + ms) Q (F0 m (pc + 5) ls (.int r :: rest))) : W p l e R s m args below meth c H locs cells slots Q (F0 m pc ls st0) := by
  intro T hT X
  rcases hr T hT X with ⟨v, st₀, t, T', L, h0, X', hL, e1, e2, ⟨⟨r, u, hv, hp, hb⟩, hF⟩, st⟩ | ⟨q, st₀, t, T', L, E, ce, h0, X', hL, e1, e2, ⟨u, hp, hb, hF⟩, hce, hcv, hcl, st⟩
  · cases hv
    obtain ⟨k1, k2, k3⟩ := vx_keep h0 e1 hS hA hf hL hF
    obtain ⟨t2, a1, b1⟩ := kk r u t T'.heap (locs ++ L) e1.symm (by rw [← e2]; exact X'.warmed.alike) hp hb k1 k2 k3 T' rfl X'
    exact ⟨t2, st t2 a1, b1⟩
  · obtain ⟨k1, k2, k3⟩ := vx_keep h0 e1 hS hAX hf hL hF
    obtain ⟨t2, a1, b1⟩ := kx E ce q u t T'.heap (locs ++ L) e1.symm (by rw [← e2]; exact X'.warmed.alike) hp hb k1 k2 k3 (by rw [e1]; exact hce) hcv hcl T' rfl X'
    exact ⟨t2, st.trans a1, b1⟩
theorem vx_callFl {S SX : Type} {post : Int64 → S → Prop} {px : SX → Prop} {B : S → State → Prop} {BX : String → SX → State → Prop} {AX : Nat → Prop} (hr : vx_Run5 p l e R s m args below meth c H locs cells slots mc ms (F0 m pc ls st0) rest (va_Ql post B A1 a) (vx_X px BX AX) free) (hS : va_S A0 H0 H locs) (hA : ∀ q, q < H.size → A1 q → A0 q) (hf : ∀ q, free q → A0 q) (hAX : ∀ q, q < H.size → AX q → A0 q)
    (kx : ∀ (E : String) (ce : Cell) (q9 : Addr) (u : SX) (t : State) (H1 : Heap) (locs1 : List Loc), t.heap = H1 → s.vm.Alike t.vm → px u → BX E u t → H.size ≤ H1.size → (∀ q : Nat, q < H.size → ¬ AX q → H1[q]? = H[q]?) → va_S A0 H0 H1 locs1 → H1[q9]? = some ce → ce.vm = .none → s.vm.findClass E = some ce.cls → vx_W p l e R s m args below meth c H1 locs1 (cells + mc) (slots + ms) Q (F0 m pc ls rest) q9)
    (kk : ∀ (r : Int64) (u : S) (t : State) (H1 : Heap) (locs1 : List Loc), t.heap = H1 → s.vm.Alike t.vm → post r u → B u t → H.size ≤ H1.size → (∀ q : Nat, q < H.size → ¬ A1 q → H1[q]? = H[q]?) → va_S A0 H0 H1 locs1 → W p l e R s m args below meth c H1 locs1 (cells + mc) (slots + ms) Q (F0 m (pc + 5) ls (.long r :: rest))) : W p l e R s m args below meth c H locs cells slots Q (F0 m pc ls st0) := by
  intro T hT X
  rcases hr T hT X with ⟨v, st₀, t, T', L, h0, X', hL, e1, e2, ⟨⟨r, u, hv, hp, hb⟩, hF⟩, st⟩ | ⟨q, st₀, t, T', L, E, ce, h0, X', hL, e1, e2, ⟨u, hp, hb, hF⟩, hce, hcv, hcl, st⟩
  · cases hv
    obtain ⟨k1, k2, k3⟩ := vx_keep h0 e1 hS hA hf hL hF
    obtain ⟨t2, a1, b1⟩ := kk r u t T'.heap (locs ++ L) e1.symm (by rw [← e2]; exact X'.warmed.alike) hp hb k1 k2 k3 T' rfl X'
    exact ⟨t2, st t2 a1, b1⟩
  · obtain ⟨k1, k2, k3⟩ := vx_keep h0 e1 hS hAX hf hL hF
    obtain ⟨t2, a1, b1⟩ := kx E ce q u t T'.heap (locs ++ L) e1.symm (by rw [← e2]; exact X'.warmed.alike) hp hb k1 k2 k3 (by rw [e1]; exact hce) hcv hcl T' rfl X'
    exact ⟨t2, st.trans a1, b1⟩
theorem vx_callFf {S SX : Type} {post : UInt32 → S → Prop} {px : SX → Prop} {B : S → State → Prop} {BX : String → SX → State → Prop} {AX : Nat → Prop} (hr : vx_Run5 p l e R s m args below meth c H locs cells slots mc ms (F0 m pc ls st0) rest (va_Qf post B A1 a) (vx_X px BX AX) free) (hS : va_S A0 H0 H locs) (hA : ∀ q, q < H.size → A1 q → A0 q) (hf : ∀ q, free q → A0 q) (hAX : ∀ q, q < H.size → AX q → A0 q)
    (kx : ∀ (E : String) (ce : Cell) (q9 : Addr) (u : SX) (t : State) (H1 : Heap) (locs1 : List Loc), t.heap = H1 → s.vm.Alike t.vm → px u → BX E u t → H.size ≤ H1.size → (∀ q : Nat, q < H.size → ¬ AX q → H1[q]? = H[q]?) → va_S A0 H0 H1 locs1 → H1[q9]? = some ce → ce.vm = .none → s.vm.findClass E = some ce.cls → vx_W p l e R s m args below meth c H1 locs1 (cells + mc) (slots + ms) Q (F0 m pc ls rest) q9)
    (kk : ∀ (r : UInt32) (u : S) (t : State) (H1 : Heap) (locs1 : List Loc), t.heap = H1 → s.vm.Alike t.vm → post r u → B u t → H.size ≤ H1.size → (∀ q : Nat, q < H.size → ¬ A1 q → H1[q]? = H[q]?) → va_S A0 H0 H1 locs1 → W p l e R s m args below meth c H1 locs1 (cells + mc) (slots + ms) Q (F0 m (pc + 5) ls (.float r :: rest))) : W p l e R s m args below meth c H locs cells slots Q (F0 m pc ls st0) := by
  intro T hT X
  rcases hr T hT X with ⟨v, st₀, t, T', L, h0, X', hL, e1, e2, ⟨⟨r, u, hv, hp, hb⟩, hF⟩, st⟩ | ⟨q, st₀, t, T', L, E, ce, h0, X', hL, e1, e2, ⟨u, hp, hb, hF⟩, hce, hcv, hcl, st⟩
  · cases hv
    obtain ⟨k1, k2, k3⟩ := vx_keep h0 e1 hS hA hf hL hF
    obtain ⟨t2, a1, b1⟩ := kk r u t T'.heap (locs ++ L) e1.symm (by rw [← e2]; exact X'.warmed.alike) hp hb k1 k2 k3 T' rfl X'
    exact ⟨t2, st t2 a1, b1⟩
  · obtain ⟨k1, k2, k3⟩ := vx_keep h0 e1 hS hAX hf hL hF
    obtain ⟨t2, a1, b1⟩ := kx E ce q u t T'.heap (locs ++ L) e1.symm (by rw [← e2]; exact X'.warmed.alike) hp hb k1 k2 k3 (by rw [e1]; exact hce) hcv hcl T' rfl X'
    exact ⟨t2, st.trans a1, b1⟩
theorem vx_callFd {S SX : Type} {post : UInt64 → S → Prop} {px : SX → Prop} {B : S → State → Prop} {BX : String → SX → State → Prop} {AX : Nat → Prop} (hr : vx_Run5 p l e R s m args below meth c H locs cells slots mc ms (F0 m pc ls st0) rest (va_Qd post B A1 a) (vx_X px BX AX) free) (hS : va_S A0 H0 H locs) (hA : ∀ q, q < H.size → A1 q → A0 q) (hf : ∀ q, free q → A0 q) (hAX : ∀ q, q < H.size → AX q → A0 q)
    (kx : ∀ (E : String) (ce : Cell) (q9 : Addr) (u : SX) (t : State) (H1 : Heap) (locs1 : List Loc), t.heap = H1 → s.vm.Alike t.vm → px u → BX E u t → H.size ≤ H1.size → (∀ q : Nat, q < H.size → ¬ AX q → H1[q]? = H[q]?) → va_S A0 H0 H1 locs1 → H1[q9]? = some ce → ce.vm = .none → s.vm.findClass E = some ce.cls → vx_W p l e R s m args below meth c H1 locs1 (cells + mc) (slots + ms) Q (F0 m pc ls rest) q9)
    (kk : ∀ (r : UInt64) (u : S) (t : State) (H1 : Heap) (locs1 : List Loc), t.heap = H1 → s.vm.Alike t.vm → post r u → B u t → H.size ≤ H1.size → (∀ q : Nat, q < H.size → ¬ A1 q → H1[q]? = H[q]?) → va_S A0 H0 H1 locs1 → W p l e R s m args below meth c H1 locs1 (cells + mc) (slots + ms) Q (F0 m (pc + 5) ls (.double r :: rest))) : W p l e R s m args below meth c H locs cells slots Q (F0 m pc ls st0) := by
  intro T hT X
  rcases hr T hT X with ⟨v, st₀, t, T', L, h0, X', hL, e1, e2, ⟨⟨r, u, hv, hp, hb⟩, hF⟩, st⟩ | ⟨q, st₀, t, T', L, E, ce, h0, X', hL, e1, e2, ⟨u, hp, hb, hF⟩, hce, hcv, hcl, st⟩
  · cases hv
    obtain ⟨k1, k2, k3⟩ := vx_keep h0 e1 hS hA hf hL hF
    obtain ⟨t2, a1, b1⟩ := kk r u t T'.heap (locs ++ L) e1.symm (by rw [← e2]; exact X'.warmed.alike) hp hb k1 k2 k3 T' rfl X'
    exact ⟨t2, st t2 a1, b1⟩
  · obtain ⟨k1, k2, k3⟩ := vx_keep h0 e1 hS hAX hf hL hF
    obtain ⟨t2, a1, b1⟩ := kx E ce q u t T'.heap (locs ++ L) e1.symm (by rw [← e2]; exact X'.warmed.alike) hp hb k1 k2 k3 (by rw [e1]; exact hce) hcv hcl T' rfl X'
    exact ⟨t2, st.trans a1, b1⟩
end
/-! ===== END ===== -/
end
section
def RX0 : String := "SubtitleHarbour$Alignment"
def TX0 : u_T := fun k => match k with
  | 0 => ("SubtitleHarbour$Alignment", "prices", "[[I", true)
  | 1 => ("SubtitleHarbour$Alignment", "costs", "[[I", true)
  | _ => ("SubtitleHarbour$Alignment", "partners", "[I", true)
def tyX0 : Nat → FieldType := fun k => match k with
  | 0 => .array (.array .int)
  | 1 => .array (.array .int)
  | _ => .array .int
abbrev wsX00 : List Cond := u_ws RX0 TX0 3
theorem nmX0 : ∀ a, a < 3 → ∀ b, b < 3 → a ≠ b → (TX0 a).2.1 ≠ (TX0 b).2.1 := by decide +kernel
theorem tyX0_ok : ∀ k, k < 3 → parseFieldDescriptor (TX0 k).2.2.1 = some (tyX0 k) := by decide +kernel
abbrev cX0_init : ByteArray := prog_2_method_1_code
def yX0_init : MethodName := ⟨RX0, "<init>", "()V"⟩
abbrev cX0_setPrice : ByteArray := prog_2_method_2_code
def yX0_setPrice : MethodName := ⟨RX0, "setPrice", "(III)V"⟩
abbrev cX0_partnerOf : ByteArray := prog_2_method_3_code
def yX0_partnerOf : MethodName := ⟨RX0, "partnerOf", "(I)I"⟩
abbrev cX0_align : ByteArray := prog_2_method_4_code
def yX0_align : MethodName := ⟨RX0, "align", "(IIII)I"⟩
abbrev cX0_pairedCost : ByteArray := prog_2_method_5_code
def yX0_pairedCost : MethodName := ⟨RX0, "pairedCost", "(II)I"⟩
abbrev cX0_choose : ByteArray := prog_2_method_6_code
def yX0_choose : MethodName := ⟨RX0, "choose", "(III)V"⟩
def RX1 : String := "SubtitleHarbour$Anchors"
def TX1 : u_T := fun k => match k with
  | 0 => ("SubtitleHarbour$Anchors", "frames", "[I", true)
  | 1 => ("SubtitleHarbour$Anchors", "targets", "[I", true)
  | _ => ("SubtitleHarbour$Anchors", "count", "I", false)
def tyX1 : Nat → FieldType := fun k => match k with
  | 0 => .array .int
  | 1 => .array .int
  | _ => .int
abbrev wsX10 : List Cond := u_ws RX1 TX1 3
theorem nmX1 : ∀ a, a < 3 → ∀ b, b < 3 → a ≠ b → (TX1 a).2.1 ≠ (TX1 b).2.1 := by decide +kernel
theorem tyX1_ok : ∀ k, k < 3 → parseFieldDescriptor (TX1 k).2.2.1 = some (tyX1 k) := by decide +kernel
abbrev cX1_init : ByteArray := prog_3_method_1_code
def yX1_init : MethodName := ⟨RX1, "<init>", "()V"⟩
abbrev cX1_areBelow : ByteArray := prog_3_method_2_code
def yX1_areBelow : MethodName := ⟨RX1, "areBelow", "(II)Z"⟩
abbrev cX1_add : ByteArray := prog_3_method_3_code
def yX1_add : MethodName := ⟨RX1, "add", "(II)V"⟩
abbrev cX1_moved : ByteArray := prog_3_method_4_code
def yX1_moved : MethodName := ⟨RX1, "moved", "(I)J"⟩
def RX2 : String := "SubtitleHarbour$Codes"
def TX2 : u_T := fun k => match k with
  | 0 => ("SubtitleHarbour$Codes", "frames", "[I", true)
  | 1 => ("SubtitleHarbour$Codes", "kinds", "[C", true)
  | 2 => ("SubtitleHarbour$Codes", "values", "[I", true)
  | 3 => ("SubtitleHarbour$Codes", "isRepeat", "[Z", true)
  | _ => ("SubtitleHarbour$Codes", "count", "I", false)
def tyX2 : Nat → FieldType := fun k => match k with
  | 0 => .array .int
  | 1 => .array .char
  | 2 => .array .int
  | 3 => .array .boolean
  | _ => .int
abbrev wsX20 : List Cond := u_ws RX2 TX2 5
theorem nmX2 : ∀ a, a < 5 → ∀ b, b < 5 → a ≠ b → (TX2 a).2.1 ≠ (TX2 b).2.1 := by decide +kernel
theorem tyX2_ok : ∀ k, k < 5 → parseFieldDescriptor (TX2 k).2.2.1 = some (tyX2 k) := by decide +kernel
abbrev cX2_init : ByteArray := prog_4_method_1_code
def yX2_init : MethodName := ⟨RX2, "<init>", "()V"⟩
abbrev cX2_countUpTo : ByteArray := prog_4_method_2_code
def yX2_countUpTo : MethodName := ⟨RX2, "countUpTo", "(I)I"⟩
abbrev cX2_hasAt : ByteArray := prog_4_method_3_code
def yX2_hasAt : MethodName := ⟨RX2, "hasAt", "(I)Z"⟩
abbrev cX2_put : ByteArray := prog_4_method_4_code
def yX2_put : MethodName := ⟨RX2, "put", "(ICI)Z"⟩
abbrev cX2_takeAway : ByteArray := prog_4_method_5_code
def yX2_takeAway : MethodName := ⟨RX2, "takeAway", "(I)Z"⟩
abbrev cX2_shift : ByteArray := prog_4_method_6_code
def yX2_shift : MethodName := ⟨RX2, "shift", "(II)V"⟩
abbrev cX2_markRepeats : ByteArray := prog_4_method_7_code
def yX2_markRepeats : MethodName := ⟨RX2, "markRepeats", "()V"⟩
abbrev cX2_isTwinOfFormer : ByteArray := prog_4_method_8_code
def yX2_isTwinOfFormer : MethodName := ⟨RX2, "isTwinOfFormer", "(I)Z"⟩
def RX3 : String := "SubtitleHarbour$Cue"
def TX3 : u_T := fun k => match k with
  | 0 => ("SubtitleHarbour$Cue", "isThere", "Z", false)
  | 1 => ("SubtitleHarbour$Cue", "start", "I", false)
  | 2 => ("SubtitleHarbour$Cue", "end", "I", false)
  | 3 => ("SubtitleHarbour$Cue", "region", "I", false)
  | 4 => ("SubtitleHarbour$Cue", "words", "[I", true)
  | 5 => ("SubtitleHarbour$Cue", "times", "[I", true)
  | 6 => ("SubtitleHarbour$Cue", "wordCount", "I", false)
  | 7 => ("SubtitleHarbour$Cue", "lineWords", "[I", true)
  | 8 => ("SubtitleHarbour$Cue", "lineCount", "I", false)
  | _ => ("SubtitleHarbour$Cue", "row", "I", false)
def tyX3 : Nat → FieldType := fun k => match k with
  | 0 => .boolean
  | 1 => .int
  | 2 => .int
  | 3 => .int
  | 4 => .array .int
  | 5 => .array .int
  | 6 => .int
  | 7 => .array .int
  | 8 => .int
  | _ => .int
abbrev wsX30 : List Cond := u_ws RX3 TX3 10
theorem nmX3 : ∀ a, a < 10 → ∀ b, b < 10 → a ≠ b → (TX3 a).2.1 ≠ (TX3 b).2.1 := by decide +kernel
theorem tyX3_ok : ∀ k, k < 10 → parseFieldDescriptor (TX3 k).2.2.1 = some (tyX3 k) := by decide +kernel
abbrev cX3_init : ByteArray := prog_5_method_1_code
def yX3_init : MethodName := ⟨RX3, "<init>", "()V"⟩
abbrev cX3_length : ByteArray := prog_5_method_2_code
def yX3_length : MethodName := ⟨RX3, "length", "()I"⟩
abbrev cX3_lettersOf : ByteArray := prog_5_method_3_code
def yX3_lettersOf : MethodName := ⟨RX3, "lettersOf", "(I)I"⟩
abbrev cX3_letters : ByteArray := prog_5_method_4_code
def yX3_letters : MethodName := ⟨RX3, "letters", "(I)I"⟩
abbrev cX3_append : ByteArray := prog_5_method_5_code
def yX3_append : MethodName := ⟨RX3, "append", "(I)V"⟩
abbrev cX3_appendFrom : ByteArray := prog_5_method_6_code
def yX3_appendFrom : MethodName := ⟨RX3, "appendFrom", "(LSubtitleHarbour$Cue;I)V"⟩
abbrev cX3_cutWords : ByteArray := prog_5_method_7_code
def yX3_cutWords : MethodName := ⟨RX3, "cutWords", "(I)V"⟩
abbrev cX3_moveTo : ByteArray := prog_5_method_8_code
def yX3_moveTo : MethodName := ⟨RX3, "moveTo", "(II)I"⟩
abbrev cX3_isThereAt : ByteArray := prog_5_method_9_code
def yX3_isThereAt : MethodName := ⟨RX3, "isThereAt", "(I)Z"⟩
abbrev cX3_isOnRow : ByteArray := prog_5_method_10_code
def yX3_isOnRow : MethodName := ⟨RX3, "isOnRow", "(I)Z"⟩
def RX4 : String := "SubtitleHarbour$Cuts"
def TX4 : u_T := fun k => match k with
  | 0 => ("SubtitleHarbour$Cuts", "frames", "[I", true)
  | _ => ("SubtitleHarbour$Cuts", "count", "I", false)
def tyX4 : Nat → FieldType := fun k => match k with
  | 0 => .array .int
  | _ => .int
abbrev wsX40 : List Cond := u_ws RX4 TX4 2
theorem nmX4 : ∀ a, a < 2 → ∀ b, b < 2 → a ≠ b → (TX4 a).2.1 ≠ (TX4 b).2.1 := by decide +kernel
theorem tyX4_ok : ∀ k, k < 2 → parseFieldDescriptor (TX4 k).2.2.1 = some (tyX4 k) := by decide +kernel
abbrev cX4_init : ByteArray := prog_6_method_1_code
def yX4_init : MethodName := ⟨RX4, "<init>", "()V"⟩
abbrev cX4_add : ByteArray := prog_6_method_2_code
def yX4_add : MethodName := ⟨RX4, "add", "(I)V"⟩
abbrev cX4_nearest : ByteArray := prog_6_method_3_code
def yX4_nearest : MethodName := ⟨RX4, "nearest", "(I)I"⟩
abbrev cX4_snapped : ByteArray := prog_6_method_4_code
def yX4_snapped : MethodName := ⟨RX4, "snapped", "(II)I"⟩
def RX5 : String := "SubtitleHarbour$Hearing"
def TX5 : u_T := fun k => match k with
  | 0 => ("SubtitleHarbour$Hearing", "frames", "[I", true)
  | 1 => ("SubtitleHarbour$Hearing", "words", "[I", true)
  | 2 => ("SubtitleHarbour$Hearing", "count", "I", false)
  | 3 => ("SubtitleHarbour$Hearing", "near", "[I", true)
  | _ => ("SubtitleHarbour$Hearing", "nearCount", "I", false)
def tyX5 : Nat → FieldType := fun k => match k with
  | 0 => .array .int
  | 1 => .array .int
  | 2 => .int
  | 3 => .array .int
  | _ => .int
abbrev wsX50 : List Cond := u_ws RX5 TX5 5
theorem nmX5 : ∀ a, a < 5 → ∀ b, b < 5 → a ≠ b → (TX5 a).2.1 ≠ (TX5 b).2.1 := by decide +kernel
theorem tyX5_ok : ∀ k, k < 5 → parseFieldDescriptor (TX5 k).2.2.1 = some (tyX5 k) := by decide +kernel
abbrev cX5_init : ByteArray := prog_7_method_1_code
def yX5_init : MethodName := ⟨RX5, "<init>", "()V"⟩
abbrev cX5_add : ByteArray := prog_7_method_2_code
def yX5_add : MethodName := ⟨RX5, "add", "(II)V"⟩
abbrev cX5_setTimes : ByteArray := prog_7_method_3_code
def yX5_setTimes : MethodName := ⟨RX5, "setTimes", "(LSubtitleHarbour$Cue;LSubtitleHarbour$Alignment;)I"⟩
abbrev cX5_gatherNear : ByteArray := prog_7_method_4_code
def yX5_gatherNear : MethodName := ⟨RX5, "gatherNear", "(II)V"⟩
abbrev cX5_insert : ByteArray := prog_7_method_5_code
def yX5_insert : MethodName := ⟨RX5, "insert", "(I)V"⟩
def RX6 : String := "SubtitleHarbour$LineBreaker"
def TX6 : u_T := fun k => match k with
  | 0 => ("SubtitleHarbour$LineBreaker", "leastLines", "[I", true)
  | 1 => ("SubtitleHarbour$LineBreaker", "leastCost", "[I", true)
  | _ => ("SubtitleHarbour$LineBreaker", "firstWords", "[I", true)
def tyX6 : Nat → FieldType := fun k => match k with
  | 0 => .array .int
  | 1 => .array .int
  | _ => .array .int
abbrev wsX60 : List Cond := u_ws RX6 TX6 3
theorem nmX6 : ∀ a, a < 3 → ∀ b, b < 3 → a ≠ b → (TX6 a).2.1 ≠ (TX6 b).2.1 := by decide +kernel
theorem tyX6_ok : ∀ k, k < 3 → parseFieldDescriptor (TX6 k).2.2.1 = some (tyX6 k) := by decide +kernel
abbrev cX6_init : ByteArray := prog_8_method_1_code
def yX6_init : MethodName := ⟨RX6, "<init>", "()V"⟩
abbrev cX6_breakUp : ByteArray := prog_8_method_2_code
def yX6_breakUp : MethodName := ⟨RX6, "breakUp", "(LSubtitleHarbour$Cue;I)V"⟩
abbrev cX6_chooseLine : ByteArray := prog_8_method_3_code
def yX6_chooseLine : MethodName := ⟨RX6, "chooseLine", "(LSubtitleHarbour$Cue;III)V"⟩
abbrev cX6_consider : ByteArray := prog_8_method_4_code
def yX6_consider : MethodName := ⟨RX6, "consider", "(IIIZ)V"⟩
def RX7 : String := "SubtitleHarbour$Memory"
def TX7 : u_T := fun k => match k with
  | 0 => ("SubtitleHarbour$Memory", "letters", "[I", true)
  | _ => ("SubtitleHarbour$Memory", "colours", "[I", true)
def tyX7 : Nat → FieldType := fun k => match k with
  | 0 => .array .int
  | _ => .array .int
abbrev wsX70 : List Cond := u_ws RX7 TX7 2
theorem nmX7 : ∀ a, a < 2 → ∀ b, b < 2 → a ≠ b → (TX7 a).2.1 ≠ (TX7 b).2.1 := by decide +kernel
theorem tyX7_ok : ∀ k, k < 2 → parseFieldDescriptor (TX7 k).2.2.1 = some (tyX7 k) := by decide +kernel
abbrev cX7_init : ByteArray := prog_9_method_1_code
def yX7_init : MethodName := ⟨RX7, "<init>", "()V"⟩
abbrev cX7_cellOf : ByteArray := prog_9_method_2_code
def yX7_cellOf : MethodName := ⟨RX7, "cellOf", "(II)I"⟩
abbrev cX7_letterIn : ByteArray := prog_9_method_3_code
def yX7_letterIn : MethodName := ⟨RX7, "letterIn", "(II)I"⟩
abbrev cX7_colourIn : ByteArray := prog_9_method_4_code
def yX7_colourIn : MethodName := ⟨RX7, "colourIn", "(II)I"⟩
abbrev cX7_put : ByteArray := prog_9_method_5_code
def yX7_put : MethodName := ⟨RX7, "put", "(IIII)V"⟩
abbrev cX7_emptyAll : ByteArray := prog_9_method_6_code
def yX7_emptyAll : MethodName := ⟨RX7, "emptyAll", "()V"⟩
abbrev cX7_emptyRows : ByteArray := prog_9_method_7_code
def yX7_emptyRows : MethodName := ⟨RX7, "emptyRows", "(II)V"⟩
abbrev cX7_rollUp : ByteArray := prog_9_method_8_code
def yX7_rollUp : MethodName := ⟨RX7, "rollUp", "(II)V"⟩
abbrev cX7_filledCells : ByteArray := prog_9_method_9_code
def yX7_filledCells : MethodName := ⟨RX7, "filledCells", "()I"⟩
abbrev cX7_looksLike : ByteArray := prog_9_method_10_code
def yX7_looksLike : MethodName := ⟨RX7, "looksLike", "(LSubtitleHarbour$Memory;)Z"⟩
def RX8 : String := "SubtitleHarbour$Pairing"
def TX8 : u_T := fun k => match k with
  | 0 => ("SubtitleHarbour$Pairing", "firsts", "[I", true)
  | 1 => ("SubtitleHarbour$Pairing", "seconds", "[I", true)
  | 2 => ("SubtitleHarbour$Pairing", "firstCount", "I", false)
  | _ => ("SubtitleHarbour$Pairing", "secondCount", "I", false)
def tyX8 : Nat → FieldType := fun k => match k with
  | 0 => .array .int
  | 1 => .array .int
  | 2 => .int
  | _ => .int
abbrev wsX80 : List Cond := u_ws RX8 TX8 4
theorem nmX8 : ∀ a, a < 4 → ∀ b, b < 4 → a ≠ b → (TX8 a).2.1 ≠ (TX8 b).2.1 := by decide +kernel
theorem tyX8_ok : ∀ k, k < 4 → parseFieldDescriptor (TX8 k).2.2.1 = some (tyX8 k) := by decide +kernel
abbrev cX8_init : ByteArray := prog_10_method_1_code
def yX8_init : MethodName := ⟨RX8, "<init>", "()V"⟩
abbrev cX8_pairAll : ByteArray := prog_10_method_2_code
def yX8_pairAll : MethodName := ⟨RX8, "pairAll", "(LSubtitleHarbour$Stage;LSubtitleHarbour$Alignment;)I"⟩
abbrev cX8_gather : ByteArray := prog_10_method_3_code
def yX8_gather : MethodName := ⟨RX8, "gather", "(LSubtitleHarbour$Stage;I[I)I"⟩
abbrev cX8_priceOf : ByteArray := prog_10_method_4_code
def yX8_priceOf : MethodName := ⟨RX8, "priceOf", "(LSubtitleHarbour$Cue;LSubtitleHarbour$Cue;)I"⟩
abbrev cX8_secondOf : ByteArray := prog_10_method_5_code
def yX8_secondOf : MethodName := ⟨RX8, "secondOf", "(ILSubtitleHarbour$Alignment;)I"⟩
abbrev cX8_firstOf : ByteArray := prog_10_method_6_code
def yX8_firstOf : MethodName := ⟨RX8, "firstOf", "(ILSubtitleHarbour$Alignment;)I"⟩
def RX9 : String := "SubtitleHarbour$Screen"
def TX9 : u_T := fun k => match k with
  | 0 => ("SubtitleHarbour$Screen", "shown", "LSubtitleHarbour$Memory;", false)
  | 1 => ("SubtitleHarbour$Screen", "hidden", "LSubtitleHarbour$Memory;", false)
  | 2 => ("SubtitleHarbour$Screen", "mode", "C", false)
  | 3 => ("SubtitleHarbour$Screen", "row", "I", false)
  | 4 => ("SubtitleHarbour$Screen", "column", "I", false)
  | 5 => ("SubtitleHarbour$Screen", "rowsToRoll", "I", false)
  | 6 => ("SubtitleHarbour$Screen", "colour", "I", false)
  | _ => ("SubtitleHarbour$Screen", "codesDone", "I", false)
def tyX9 : Nat → FieldType := fun k => match k with
  | 0 => .object "SubtitleHarbour$Memory"
  | 1 => .object "SubtitleHarbour$Memory"
  | 2 => .char
  | 3 => .int
  | 4 => .int
  | 5 => .int
  | 6 => .int
  | _ => .int
abbrev wsX90 : List Cond := u_ws RX9 TX9 8
theorem nmX9 : ∀ a, a < 8 → ∀ b, b < 8 → a ≠ b → (TX9 a).2.1 ≠ (TX9 b).2.1 := by decide +kernel
theorem tyX9_ok : ∀ k, k < 8 → parseFieldDescriptor (TX9 k).2.2.1 = some (tyX9 k) := by decide +kernel
abbrev cX9_init : ByteArray := prog_11_method_1_code
def yX9_init : MethodName := ⟨RX9, "<init>", "()V"⟩
abbrev cX9_restart : ByteArray := prog_11_method_2_code
def yX9_restart : MethodName := ⟨RX9, "restart", "()V"⟩
abbrev cX9_goTo : ByteArray := prog_11_method_3_code
def yX9_goTo : MethodName := ⟨RX9, "goTo", "(LSubtitleHarbour$Codes;I)V"⟩
abbrev cX9_obey : ByteArray := prog_11_method_4_code
def yX9_obey : MethodName := ⟨RX9, "obey", "(CI)V"⟩
abbrev cX9_written : ByteArray := prog_11_method_5_code
def yX9_written : MethodName := ⟨RX9, "written", "()LSubtitleHarbour$Memory;"⟩
abbrev cX9_write : ByteArray := prog_11_method_6_code
def yX9_write : MethodName := ⟨RX9, "write", "(I)V"⟩
abbrev cX9_startRolling : ByteArray := prog_11_method_7_code
def yX9_startRolling : MethodName := ⟨RX9, "startRolling", "(I)V"⟩
abbrev cX9_exchange : ByteArray := prog_11_method_8_code
def yX9_exchange : MethodName := ⟨RX9, "exchange", "()V"⟩
abbrev cX9_newLine : ByteArray := prog_11_method_9_code
def yX9_newLine : MethodName := ⟨RX9, "newLine", "()V"⟩
abbrev cX9_stepBack : ByteArray := prog_11_method_10_code
def yX9_stepBack : MethodName := ⟨RX9, "stepBack", "()V"⟩
abbrev cX9_moveCursor : ByteArray := prog_11_method_11_code
def yX9_moveCursor : MethodName := ⟨RX9, "moveCursor", "(II)V"⟩
def RX10 : String := "SubtitleHarbour$Stage"
def TX10 : u_T := fun k => match k with
  | 0 => ("SubtitleHarbour$Stage", "cues", "[LSubtitleHarbour$Cue;", true)
  | 1 => ("SubtitleHarbour$Stage", "tops", "[I", true)
  | 2 => ("SubtitleHarbour$Stage", "heights", "[I", true)
  | 3 => ("SubtitleHarbour$Stage", "widths", "[I", true)
  | 4 => ("SubtitleHarbour$Stage", "breaker", "LSubtitleHarbour$LineBreaker;", true)
  | 5 => ("SubtitleHarbour$Stage", "order", "[I", true)
  | 6 => ("SubtitleHarbour$Stage", "count", "I", false)
  | 7 => ("SubtitleHarbour$Stage", "isTaken", "[Z", true)
  | _ => ("SubtitleHarbour$Stage", "holders", "[I", true)
def tyX10 : Nat → FieldType := fun k => match k with
  | 0 => .array (.object "SubtitleHarbour$Cue")
  | 1 => .array .int
  | 2 => .array .int
  | 3 => .array .int
  | 4 => .object "SubtitleHarbour$LineBreaker"
  | 5 => .array .int
  | 6 => .int
  | 7 => .array .boolean
  | _ => .array .int
abbrev wsX100 : List Cond := u_ws RX10 TX10 9
theorem nmX10 : ∀ a, a < 9 → ∀ b, b < 9 → a ≠ b → (TX10 a).2.1 ≠ (TX10 b).2.1 := by decide +kernel
theorem tyX10_ok : ∀ k, k < 9 → parseFieldDescriptor (TX10 k).2.2.1 = some (tyX10 k) := by decide +kernel
abbrev cX10_init : ByteArray := prog_12_method_1_code
def yX10_init : MethodName := ⟨RX10, "<init>", "()V"⟩
abbrev cX10_cueIn : ByteArray := prog_12_method_2_code
def yX10_cueIn : MethodName := ⟨RX10, "cueIn", "(I)LSubtitleHarbour$Cue;"⟩
abbrev cX10_numberIn : ByteArray := prog_12_method_3_code
def yX10_numberIn : MethodName := ⟨RX10, "numberIn", "(I)I"⟩
abbrev cX10_arrangeAll : ByteArray := prog_12_method_4_code
def yX10_arrangeAll : MethodName := ⟨RX10, "arrangeAll", "()V"⟩
abbrev cX10_sortCues : ByteArray := prog_12_method_5_code
def yX10_sortCues : MethodName := ⟨RX10, "sortCues", "()V"⟩
abbrev cX10_insert : ByteArray := prog_12_method_6_code
def yX10_insert : MethodName := ⟨RX10, "insert", "(I)V"⟩
abbrev cX10_takeRows : ByteArray := prog_12_method_7_code
def yX10_takeRows : MethodName := ⟨RX10, "takeRows", "(LSubtitleHarbour$Cue;I)V"⟩
abbrev cX10_lowestRows : ByteArray := prog_12_method_8_code
def yX10_lowestRows : MethodName := ⟨RX10, "lowestRows", "(LSubtitleHarbour$Cue;)I"⟩
abbrev cX10_nextOfRegion : ByteArray := prog_12_method_9_code
def yX10_nextOfRegion : MethodName := ⟨RX10, "nextOfRegion", "(I)I"⟩
abbrev cX10_cueOn : ByteArray := prog_12_method_10_code
def yX10_cueOn : MethodName := ⟨RX10, "cueOn", "(II)I"⟩
abbrev cX10_playTo : ByteArray := prog_12_method_11_code
def yX10_playTo : MethodName := ⟨RX10, "playTo", "(I)V"⟩
abbrev cX10_letGo : ByteArray := prog_12_method_12_code
def yX10_letGo : MethodName := ⟨RX10, "letGo", "(I)V"⟩
abbrev cX10_playedCueOn : ByteArray := prog_12_method_13_code
def yX10_playedCueOn : MethodName := ⟨RX10, "playedCueOn", "(I)I"⟩
abbrev cX10_hasClash : ByteArray := prog_12_method_14_code
def yX10_hasClash : MethodName := ⟨RX10, "hasClash", "()Z"⟩
abbrev cX10_isClash : ByteArray := prog_12_method_15_code
def yX10_isClash : MethodName := ⟨RX10, "isClash", "(LSubtitleHarbour$Cue;LSubtitleHarbour$Cue;)Z"⟩
def RX11 : String := "SubtitleHarbour"
def TX11 : u_T := fun k => match k with
  | 0 => ("SubtitleHarbour", "codes", "LSubtitleHarbour$Codes;", true)
  | 1 => ("SubtitleHarbour", "jumped", "LSubtitleHarbour$Screen;", true)
  | 2 => ("SubtitleHarbour", "played", "LSubtitleHarbour$Screen;", true)
  | 3 => ("SubtitleHarbour", "stage", "LSubtitleHarbour$Stage;", true)
  | 4 => ("SubtitleHarbour", "cueRow", "[LSubtitleHarbour$Cue;", true)
  | 5 => ("SubtitleHarbour", "cuesMade", "I", false)
  | 6 => ("SubtitleHarbour", "isArranged", "Z", false)
  | 7 => ("SubtitleHarbour", "cuts", "LSubtitleHarbour$Cuts;", true)
  | 8 => ("SubtitleHarbour", "anchors", "LSubtitleHarbour$Anchors;", true)
  | 9 => ("SubtitleHarbour", "alignment", "LSubtitleHarbour$Alignment;", true)
  | 10 => ("SubtitleHarbour", "hearing", "LSubtitleHarbour$Hearing;", true)
  | _ => ("SubtitleHarbour", "pairing", "LSubtitleHarbour$Pairing;", true)
def tyX11 : Nat → FieldType := fun k => match k with
  | 0 => .object "SubtitleHarbour$Codes"
  | 1 => .object "SubtitleHarbour$Screen"
  | 2 => .object "SubtitleHarbour$Screen"
  | 3 => .object "SubtitleHarbour$Stage"
  | 4 => .array (.object "SubtitleHarbour$Cue")
  | 5 => .int
  | 6 => .boolean
  | 7 => .object "SubtitleHarbour$Cuts"
  | 8 => .object "SubtitleHarbour$Anchors"
  | 9 => .object "SubtitleHarbour$Alignment"
  | 10 => .object "SubtitleHarbour$Hearing"
  | _ => .object "SubtitleHarbour$Pairing"
abbrev wsX110 : List Cond := u_ws RX11 TX11 12
theorem nmX11 : ∀ a, a < 12 → ∀ b, b < 12 → a ≠ b → (TX11 a).2.1 ≠ (TX11 b).2.1 := by decide +kernel
theorem tyX11_ok : ∀ k, k < 12 → parseFieldDescriptor (TX11 k).2.2.1 = some (tyX11 k) := by decide +kernel
abbrev cX11_init : ByteArray := prog_1_method_1_code
def yX11_init : MethodName := ⟨RX11, "<init>", "()V"⟩
abbrev cX11_frameOf : ByteArray := prog_1_method_2_code
def yX11_frameOf : MethodName := ⟨RX11, "frameOf", "(IIIIZ)I"⟩
abbrev cX11_stampOf : ByteArray := prog_1_method_3_code
def yX11_stampOf : MethodName := ⟨RX11, "stampOf", "(IIZ)I"⟩
abbrev cX11_code : ByteArray := prog_1_method_4_code
def yX11_code : MethodName := ⟨RX11, "code", "(ICI)Z"⟩
abbrev cX11_dropCode : ByteArray := prog_1_method_5_code
def yX11_dropCode : MethodName := ⟨RX11, "dropCode", "(I)Z"⟩
abbrev cX11_cellAt : ByteArray := prog_1_method_6_code
def yX11_cellAt : MethodName := ⟨RX11, "cellAt", "(III)I"⟩
abbrev cX11_cellAnew : ByteArray := prog_1_method_7_code
def yX11_cellAnew : MethodName := ⟨RX11, "cellAnew", "(III)I"⟩
abbrev cX11_colourAt : ByteArray := prog_1_method_8_code
def yX11_colourAt : MethodName := ⟨RX11, "colourAt", "(III)I"⟩
abbrev cX11_modeAt : ByteArray := prog_1_method_9_code
def yX11_modeAt : MethodName := ⟨RX11, "modeAt", "(I)C"⟩
abbrev cX11_cursorAt : ByteArray := prog_1_method_10_code
def yX11_cursorAt : MethodName := ⟨RX11, "cursorAt", "(I)I"⟩
abbrev cX11_shown : ByteArray := prog_1_method_11_code
def yX11_shown : MethodName := ⟨RX11, "shown", "(I)I"⟩
abbrev cX11_setRegion : ByteArray := prog_1_method_12_code
def yX11_setRegion : MethodName := ⟨RX11, "setRegion", "(IIII)I"⟩
abbrev cX11_addCue : ByteArray := prog_1_method_13_code
def yX11_addCue : MethodName := ⟨RX11, "addCue", "(III)I"⟩
abbrev cX11_addWord : ByteArray := prog_1_method_14_code
def yX11_addWord : MethodName := ⟨RX11, "addWord", "(II)I"⟩
abbrev cX11_dropCue : ByteArray := prog_1_method_15_code
def yX11_dropCue : MethodName := ⟨RX11, "dropCue", "(I)I"⟩
abbrev cX11_cues : ByteArray := prog_1_method_16_code
def yX11_cues : MethodName := ⟨RX11, "cues", "()I"⟩
abbrev cX11_startOf : ByteArray := prog_1_method_17_code
def yX11_startOf : MethodName := ⟨RX11, "startOf", "(I)I"⟩
abbrev cX11_endOf : ByteArray := prog_1_method_18_code
def yX11_endOf : MethodName := ⟨RX11, "endOf", "(I)I"⟩
abbrev cX11_lines : ByteArray := prog_1_method_19_code
def yX11_lines : MethodName := ⟨RX11, "lines", "(I)I"⟩
abbrev cX11_wordsIn : ByteArray := prog_1_method_20_code
def yX11_wordsIn : MethodName := ⟨RX11, "wordsIn", "(II)I"⟩
abbrev cX11_rowOf : ByteArray := prog_1_method_21_code
def yX11_rowOf : MethodName := ⟨RX11, "rowOf", "(I)I"⟩
abbrev cX11_cueAt : ByteArray := prog_1_method_22_code
def yX11_cueAt : MethodName := ⟨RX11, "cueAt", "(II)I"⟩
abbrev cX11_cueAnew : ByteArray := prog_1_method_23_code
def yX11_cueAnew : MethodName := ⟨RX11, "cueAnew", "(II)I"⟩
abbrev cX11_addCut : ByteArray := prog_1_method_24_code
def yX11_addCut : MethodName := ⟨RX11, "addCut", "(I)I"⟩
abbrev cX11_snap : ByteArray := prog_1_method_25_code
def yX11_snap : MethodName := ⟨RX11, "snap", "(I)I"⟩
abbrev cX11_stretch : ByteArray := prog_1_method_26_code
def yX11_stretch : MethodName := ⟨RX11, "stretch", "(II)I"⟩
abbrev cX11_merge : ByteArray := prog_1_method_27_code
def yX11_merge : MethodName := ⟨RX11, "merge", "(II)I"⟩
abbrev cX11_split : ByteArray := prog_1_method_28_code
def yX11_split : MethodName := ⟨RX11, "split", "(II)I"⟩
abbrev cX11_convert : ByteArray := prog_1_method_29_code
def yX11_convert : MethodName := ⟨RX11, "convert", "(II)I"⟩
abbrev cX11_addAnchor : ByteArray := prog_1_method_30_code
def yX11_addAnchor : MethodName := ⟨RX11, "addAnchor", "(II)I"⟩
abbrev cX11_drift : ByteArray := prog_1_method_31_code
def yX11_drift : MethodName := ⟨RX11, "drift", "()I"⟩
abbrev cX11_addHeard : ByteArray := prog_1_method_32_code
def yX11_addHeard : MethodName := ⟨RX11, "addHeard", "(II)I"⟩
abbrev cX11_hear : ByteArray := prog_1_method_33_code
def yX11_hear : MethodName := ⟨RX11, "hear", "(I)I"⟩
abbrev cX11_timeOf : ByteArray := prog_1_method_34_code
def yX11_timeOf : MethodName := ⟨RX11, "timeOf", "(II)I"⟩
abbrev cX11_sung : ByteArray := prog_1_method_35_code
def yX11_sung : MethodName := ⟨RX11, "sung", "(II)I"⟩
abbrev cX11_pairOf : ByteArray := prog_1_method_36_code
def yX11_pairOf : MethodName := ⟨RX11, "pairOf", "(I)I"⟩
abbrev cX11_pairCost : ByteArray := prog_1_method_37_code
def yX11_pairCost : MethodName := ⟨RX11, "pairCost", "()I"⟩
abbrev cX11_readingTime : ByteArray := prog_1_method_38_code
def yX11_readingTime : MethodName := ⟨RX11, "readingTime", "(I)J"⟩
abbrev cX11_speed : ByteArray := prog_1_method_39_code
def yX11_speed : MethodName := ⟨RX11, "speed", "(I)F"⟩
abbrev cX11_isSound : ByteArray := prog_1_method_41_code
def yX11_isSound : MethodName := ⟨RX11, "isSound", "()Z"⟩
abbrev cX11_isIn : ByteArray := prog_1_method_42_code
def yX11_isIn : MethodName := ⟨RX11, "isIn", "(III)Z"⟩
abbrev cX11_needArgument : ByteArray := prog_1_method_43_code
def yX11_needArgument : MethodName := ⟨RX11, "needArgument", "(Z)V"⟩
abbrev cX11_needFrame : ByteArray := prog_1_method_44_code
def yX11_needFrame : MethodName := ⟨RX11, "needFrame", "(I)V"⟩
abbrev cX11_needCell : ByteArray := prog_1_method_45_code
def yX11_needCell : MethodName := ⟨RX11, "needCell", "(III)V"⟩
abbrev cX11_needRoomForCue : ByteArray := prog_1_method_46_code
def yX11_needRoomForCue : MethodName := ⟨RX11, "needRoomForCue", "()V"⟩
abbrev cX11_cueOf : ByteArray := prog_1_method_47_code
def yX11_cueOf : MethodName := ⟨RX11, "cueOf", "(I)LSubtitleHarbour$Cue;"⟩
abbrev cX11_countedWithDropped : ByteArray := prog_1_method_48_code
def yX11_countedWithDropped : MethodName := ⟨RX11, "countedWithDropped", "(I)I"⟩
abbrev cX11_hasValue : ByteArray := prog_1_method_49_code
def yX11_hasValue : MethodName := ⟨RX11, "hasValue", "(C)Z"⟩
abbrev cX11_isCode : ByteArray := prog_1_method_50_code
def yX11_isCode : MethodName := ⟨RX11, "isCode", "(CI)Z"⟩
abbrev cX11_jumpTo : ByteArray := prog_1_method_51_code
def yX11_jumpTo : MethodName := ⟨RX11, "jumpTo", "(I)LSubtitleHarbour$Screen;"⟩
abbrev cX11_makeCue : ByteArray := prog_1_method_52_code
def yX11_makeCue : MethodName := ⟨RX11, "makeCue", "(III)I"⟩
abbrev cX11_arrange : ByteArray := prog_1_method_53_code
def yX11_arrange : MethodName := ⟨RX11, "arrange", "()V"⟩
abbrev cX11_isSameAtCodes : ByteArray := prog_1_method_54_code
def yX11_isSameAtCodes : MethodName := ⟨RX11, "isSameAtCodes", "()Z"⟩
abbrev cX11_isSameAtCues : ByteArray := prog_1_method_55_code
def yX11_isSameAtCues : MethodName := ⟨RX11, "isSameAtCues", "()Z"⟩
abbrev cX11_hasSameCuesAt : ByteArray := prog_1_method_56_code
def yX11_hasSameCuesAt : MethodName := ⟨RX11, "hasSameCuesAt", "(I)Z"⟩
abbrev cX11_scaled : ByteArray := prog_1_method_57_code
def yX11_scaled : MethodName := ⟨RX11, "scaled", "(JJJ)J"⟩
abbrev cX11_scaleAll : ByteArray := prog_1_method_58_code
def yX11_scaleAll : MethodName := ⟨RX11, "scaleAll", "([IIII)V"⟩
abbrev cX11_clamped : ByteArray := prog_1_method_59_code
def yX11_clamped : MethodName := ⟨RX11, "clamped", "(JI)I"⟩
abbrev cX11_greatestFrame : ByteArray := prog_1_method_60_code
def yX11_greatestFrame : MethodName := ⟨RX11, "greatestFrame", "()I"⟩
def RJ9 : String := "java/lang/Math"
abbrev cJ9_abs_0f7a4 : ByteArray := prog_25_method_59_code
def yJ9_abs_0f7a4 : MethodName := ⟨RJ9, "abs", "(I)I"⟩
abbrev cJ9_max_7cf53 : ByteArray := prog_25_method_65_code
def yJ9_max_7cf53 : MethodName := ⟨RJ9, "max", "(II)I"⟩
abbrev cJ9_max_f86c9 : ByteArray := prog_25_method_66_code
def yJ9_max_f86c9 : MethodName := ⟨RJ9, "max", "(JJ)J"⟩
abbrev cJ9_min_7cf53 : ByteArray := prog_25_method_69_code
def yJ9_min_7cf53 : MethodName := ⟨RJ9, "min", "(II)I"⟩
abbrev cJ9_min_f86c9 : ByteArray := prog_25_method_70_code
def yJ9_min_f86c9 : MethodName := ⟨RJ9, "min", "(JJ)J"⟩
def RJ10 : String := "java/lang/System"
def RJ7 : String := "java/util/Arrays"
abbrev cJ7_fill_53178 : ByteArray := prog_31_method_103_code
def yJ7_fill_53178 : MethodName := ⟨RJ7, "fill", "([II)V"⟩
def RL : String := "SubtitleHarbourLaw"
abbrev cL_at : ByteArray := method_2_code
def yL_at : MethodName := ⟨RL, "at", "([II)I"⟩
abbrev cL_some : ByteArray := method_3_code
def yL_some : MethodName := ⟨RL, "some", "(II)I"⟩
abbrev cL_ask : ByteArray := method_4_code
def yL_ask : MethodName := ⟨RL, "ask", "(LSubtitleHarbour;C[I)I"⟩
abbrev cL_cue : ByteArray := method_5_code
def yL_cue : MethodName := ⟨RL, "cue", "(LSubtitleHarbour;C[I)I"⟩
abbrev cL_stamp : ByteArray := method_6_code
def yL_stamp : MethodName := ⟨RL, "stamp", "(LSubtitleHarbour;ZZ[I)I"⟩
abbrev cL_dropped : ByteArray := method_7_code
def yL_dropped : MethodName := ⟨RL, "dropped", "(I)[I"⟩
abbrev cL_stampsAreGood : ByteArray := method_8_code
def yL_stampsAreGood : MethodName := ⟨RL, "stampsAreGood", "(LSubtitleHarbour;I)Z"⟩
abbrev cL_snapped : ByteArray := method_9_code
def yL_snapped : MethodName := ⟨RL, "snapped", "(I[III)I"⟩
abbrev cL_law : ByteArray := code
def yL_law : MethodName := ⟨RL, "law", "([I)Z"⟩
abbrev xcl : List vw_C := [(RX0, TX0, 3), (RX1, TX1, 3), (RX2, TX2, 5), (RX3, TX3, 10), (RX4, TX4, 2), (RX5, TX5, 5), (RX6, TX6, 3), (RX7, TX7, 2), (RX8, TX8, 4), (RX9, TX9, 8), (RX10, TX10, 9), (RX11, TX11, 12)]
def xaT : List FieldType := [.int, .boolean, .char, .object "SubtitleHarbour$Cue", .array .int]
def xST : List (String × Nat × String) := [("SubtitleHarbour", 409, "there is no such cue"), ("SubtitleHarbour", 398, "there is no such frame"), ("SubtitleHarbour", 396, "a number is out of range"), ("SubtitleHarbour", 127, "there are 200 codes"), ("SubtitleHarbour", 400, "there is no such cell"), ("SubtitleHarbour", 255, "there are 20 cuts, or it is there"), ("SubtitleHarbour", 317, "a frame would be too great"), ("SubtitleHarbour", 335, "there are 8 anchors"), ("SubtitleHarbour", 340, "there are no anchors"), ("SubtitleHarbour", 351, "there are 30 heard words"), ("SubtitleHarbour", 405, "there were 24 cues"), ("SubtitleHarbour", 213, "the cue has 12 words"), ("SubtitleHarbour", 235, "there is no such line"), ("SubtitleHarbour", 285, "there would be more than 12 words"), ("SubtitleHarbour", 296, "the cue has fewer than 2 frames"), ("SubtitleHarbour", 358, "there is no such word"), ("SubtitleHarbour", 363, "the region 0 has no pairs"), ("SubtitleHarbour", 81, "a part of the stamp is out of range"), ("SubtitleHarbour", 86, "the stamp has no place"), ("SubtitleHarbour", 98, "the frame is too great")]
def xNC : List (String × String) := [("java/lang/ArrayIndexOutOfBoundsException", "java/lang/IllegalArgumentException"), ("java/lang/IllegalStateException", "java/lang/IllegalArgumentException"), ("java/util/NoSuchElementException", "java/lang/IllegalArgumentException"), ("java/lang/IndexOutOfBoundsException", "java/lang/IllegalArgumentException"), ("java/lang/UnsupportedOperationException", "java/lang/IllegalArgumentException"), ("java/lang/IllegalArgumentException", "java/lang/IllegalStateException"), ("java/lang/ArrayIndexOutOfBoundsException", "java/lang/IllegalStateException"), ("java/util/NoSuchElementException", "java/lang/IllegalStateException"), ("java/lang/IndexOutOfBoundsException", "java/lang/IllegalStateException"), ("java/lang/UnsupportedOperationException", "java/lang/IllegalStateException"), ("java/lang/IllegalArgumentException", "java/lang/UnsupportedOperationException"), ("java/lang/ArrayIndexOutOfBoundsException", "java/lang/UnsupportedOperationException"), ("java/lang/IllegalStateException", "java/lang/UnsupportedOperationException"), ("java/util/NoSuchElementException", "java/lang/UnsupportedOperationException"), ("java/lang/IndexOutOfBoundsException", "java/lang/UnsupportedOperationException"), ("java/lang/IllegalArgumentException", "java/lang/IndexOutOfBoundsException"), ("java/lang/IllegalStateException", "java/lang/IndexOutOfBoundsException"), ("java/util/NoSuchElementException", "java/lang/IndexOutOfBoundsException"), ("java/lang/UnsupportedOperationException", "java/lang/IndexOutOfBoundsException"), ("java/lang/IllegalArgumentException", "java/util/NoSuchElementException"), ("java/lang/ArrayIndexOutOfBoundsException", "java/util/NoSuchElementException"), ("java/lang/IllegalStateException", "java/util/NoSuchElementException"), ("java/lang/IndexOutOfBoundsException", "java/util/NoSuchElementException"), ("java/lang/UnsupportedOperationException", "java/util/NoSuchElementException")]
def xEy (_ : Nat) (_ : Nat → Nat) (U : State) (_ : Heap) : Prop := va_AO "SubtitleHarbour$Cue" U ∧ va_AOA .int U
theorem xEy_kept {b : Nat} {aE : Nat → Nat} {U : State} {H H1 : Heap} (h : xEy b aE U H) (_ : b ≤ H.size) (_ : ∀ a : Nat, a < b → H1[a]? = H[a]?) : xEy b aE U H1 := h
theorem xEy_warm {b : Nat} {aE : Nat → Nat} {s U : State} {H : Heap} (hW : s.WarmedH U.vm) (h : xEy b aE s H) : xEy b aE U H := ⟨va_AO.moved hW.alike h.1, over_moved (a := #[]) hW.alike h.2⟩
end
section
/-! THE ABSTRACT WORLD: objects by numbers (ids) in the order of their making, all of them behind one base; a value's reference is an id; from xBig on it is a cell ahead of the base -/
def xBig : Nat := 1099511627776
abbrev xOb : Type := Nat × List Value
/-- the world's parameters: what the classes are, what the arrays' classes are, the base, the cells ahead of it that are spoken of, the script's length and values -/
abbrev xWd : Type := va_G × (Nat → ClassId) × Nat × (Nat → Nat) × Nat × (Nat → Int32)
abbrev xMd : Type := MethodName × ByteArray × Nat × Option FieldType × List (Nat × Nat × Nat × Nat)
abbrev xOc : Type := Option Value ⊕ String
def xtr (O : xWd) : Value → Value
  | .ref i => .ref (if i < xBig then O.2.2.1 + i else O.2.2.2.1 (i - xBig))
  | .int v => .int v
  | .long v => .long v
  | .float v => .float v
  | .double v => .double v
  | .null => .null
  | .retAddr v => .retAddr v
theorem xtr_cat (O : xWd) (v : Value) : (xtr O v).category = v.category := by cases v <;> rfl
theorem xtr_id {O : xWd} {i : Nat} (h : i < xBig) : xtr O (.ref i) = .ref (O.2.2.1 + i) := by simp [xtr, h]
def xobAt (O : xWd) (a : Nat) (o : xOb) (H : Heap) : Prop :=
  if o.1 < 64 then ∃ r : vw_C, xcl[o.1]? = some r ∧ o.2.length = r.2.2 ∧ t_OB a (O.1.1 o.1) r.2.2 (O.1.2 o.1) H (fun k => xtr O (o.2.getD k .null))
  else if o.1 < 127 then H[a]? = some (arrV (O.2.1 (o.1 - 64)) o.2.length (fun k => xtr O (o.2.getD k .null)))
  else True
def xRep (O : xWd) (G : List xOb) (H : Heap) : Prop := H.size = O.2.2.1 + G.length ∧ G.length < xBig ∧ ∀ (i : Nat) (o : xOb), G[i]? = some o → xobAt O (O.2.2.1 + i) o H
def xA (O : xWd) : Nat → Prop := fun q => O.2.2.1 ≤ q
def xKn (O : xWd) (U : State) : Prop := va_K O.1 xcl [] U ∧ ∀ (j : Nat) (ty : FieldType), xaT[j]? = some ty → ArrOfT U (O.2.1 j) ty ∧ va_RA U (O.2.1 j) ty
/-- the words of the tables that go with every method; and those that are carried beside them -/
def xTG : List Cond := lw_tbl.filter goodWord
def xNw (w : Cond) : Bool := match w with
  | .fieldLinkNest _ _ _ _ _ _ => true
  | .methodLinkNest _ _ _ _ => true
  | .castable _ _ => true
  | _ => false
def xTN : List Cond := lw_tbl.filter xNw
theorem xTG_mem {w : Cond} (i : Nat) (h : lw_tbl[i]? = some w) (g : goodWord w = true) : w ∈ xTG := List.mem_filter.mpr ⟨List.mem_of_getElem? h, g⟩
theorem xTN_mem {w : Cond} (i : Nat) (h : lw_tbl[i]? = some w) (g : xNw w = true) : w ∈ xTN := List.mem_filter.mpr ⟨List.mem_of_getElem? h, g⟩
theorem xTN_warm {s U : State} (hW : s.WarmedH U.vm) (h : ∀ w ∈ xTN, va_Nw w s) : ∀ w ∈ xTN, va_Nw w U := by
  intro w hw
  have h1 := h w hw
  have h2 := (List.mem_filter.mp hw).2
  unfold xNw at h2
  split at h2
  · exact va_Nw.warmF hW h1
  · exact va_Nw.warmM hW h1
  · exact va_Nw.warmC hW h1
  · cases h2
def xEx (O : xWd) (U : State) (H : Heap) : Prop :=
  vx_Zq Bundle.tN "UNASSIGNED_STACK" Bundle.steD (xA O) U H ∧ vx_Zq Bundle.tN "SUPPRESSED_SENTINEL" Bundle.listD (xA O) U H ∧ va_X (O.2.2.2.1 0) O.2.2.2.2.1 O.2.2.2.2.2 U H ∧ O.2.2.2.1 0 < O.2.2.1 ∧
  (∀ w ∈ xTN, va_Nw w U) ∧ (∀ q ∈ xNC, va_Nc q.1 q.2 U) ∧ (∀ q ∈ xST, ∃ a : Nat, vk_R q.1 q.2.1 q.2.2 a U) ∧ xEy O.2.2.1 O.2.2.2.1 U H
theorem xEx.kept {O : xWd} {U : State} {H H1 : Heap} (h : xEx O U H) (hz : O.2.2.1 ≤ H.size) (hq : ∀ a : Nat, a < H.size → ¬ xA O a → H1[a]? = H[a]?) : xEx O U H1 := by
  obtain ⟨h1, h2, h3, h4, h5, h6, h7, h8⟩ := h
  exact ⟨h1.kept hq, h2.kept hq, h3.kept (hq _ (Nat.lt_of_lt_of_le h4 hz) (Nat.not_le.mpr h4)), h4, h5, h6, h7, xEy_kept h8 hz (fun a ha => hq a (Nat.lt_of_lt_of_le ha hz) (Nat.not_le.mpr ha))⟩
theorem xEx.warm {O : xWd} {s U : State} {H : Heap} (hW : s.WarmedH U.vm) (h : xEx O s H) : xEx O U H := by
  obtain ⟨h1, h2, h3, h4, h5, h6, h7, h8⟩ := h
  exact ⟨vx_Zq.moved hW.alike h1, vx_Zq.moved hW.alike h2, h3.moved hW.alike, h4, xTN_warm hW h5, fun q hq => va_Nc.moved hW.alike (h6 q hq), fun q hq => (h7 q hq).elim fun a ha => ⟨a, vk_R.warm hW ha⟩, xEy_warm hW h8⟩
theorem xKn.warm {O : xWd} {s U : State} (hW : s.vm.Alike U.vm) (h : xKn O s) : xKn O U := ⟨va_K.moved hW h.1, fun j ty hj => ⟨arrOfT_moved hW (h.2 j ty hj).1, (h.2 j ty hj).2.moved hW⟩⟩
def xQc (O : xWd) (K : xOc → List xOb → Prop) : Array Value → State → Outcome → State → Prop := fun _ st o t => ∃ (v : Option Value) (G' : List xOb), o = .returned (v.map (xtr O)) ∧ K (.inl v) G' ∧ xRep O G' t.heap ∧ va_F (xA O) st t
def xXC (O : xWd) (K : xOc → List xOb → Prop) : String → State → State → Prop := fun E st t => ∃ G' : List xOb, K (.inr E) G' ∧ xRep O G' t.heap ∧ va_F (xA O) st t
def xcw (M : xMd) : Cond := match M.2.2.2.2 with
  | [] => .code M.1 M.2.1 M.2.2.1 M.2.2.2.1
  | h :: t => .codeWith M.1 M.2.1 M.2.2.1 M.2.2.2.1 (h :: t)
def xCt (L : Launch) (O : xWd) (M : xMd) (R : Room) (p : Program) (s : State) (m : MethodId) (args : Array Value) (meth : Method) (c : Code) : Prop :=
  p.tables.exec = Jvm.exec ∧ c.code = M.2.1 ∧ c.maxLocals = M.2.2.1 ∧ meth.sig.returnType = M.2.2.2.1 ∧ s.vm.findClass M.1.cls = some m.cls ∧ (∀ w ∈ xTG, w.before args s = true) ∧ meth.locks = false ∧ meth.name = M.1.name ∧ c.exceptionTable.toList = tableOf M.2.2.2.2 ∧ L.stackTraces = false ∧
  xKn O s ∧ xEx O s s.heap ∧ O.2.2.1 ≤ s.heap.size
/-- from here on the method comes to an end with K -/
def xWP (L : Launch) (O : xWd) (M : xMd) (R : Room) (K : xOc → List xOb → Prop) (pc : Nat) (ls : List (Nat × Value)) (st : List Value) (G : List xOb) (cs ns : Nat) : Prop :=
  ∀ (p : Program) (e : Env) (s : State) (m : MethodId) (args : Array Value) (below : List Frame) (meth : Method) (c : Code) (H : Heap) (locs : List Loc) (lsM : Array Slot),
    xCt L O M R p s m args meth c → xRep O G H → va_S (xA O) s.heap H locs → lv_has lsM M.2.2.1 (ls.map (fun q => (q.1, xtr O q.2))) →
    W p L e R s m args below meth c H locs cs ns (vx_MQ below (xQc O K) (xXC O K) args s R.cells R.slots (xA O)) (F0 m pc lsM (st.map (xtr O)))
def xPre (O : xWd) (G : List xOb) (U : State) : Prop := xRep O G U.heap ∧ O.2.2.1 ≤ U.heap.size ∧ xKn O U ∧ xEx O U U.heap
def xMet (L : Launch) (O : xWd) (M : xMd) (rm : Room) (As : List Value) (G : List xOb) (K : xOc → List xOb → Prop) : Prop :=
  vx_Met L M.1 (xcw M :: xTG) rm (va_Pc (As.map (xtr O)) (xPre O G)) (xQc O K) (xXC O K) rm.cells rm.slots (xA O)
theorem xargs_map (O : xWd) : ∀ (vs : List Value) (i : Nat), lv_args i (vs.map (xtr O)) = (lv_args i vs).map (fun q => (q.1, xtr O q.2))
  | [], _ => rfl
  | v :: vs, i => by
    simp only [List.map_cons, lv_args, xtr_cat]
    rw [xargs_map O vs]
theorem xsl_len (O : xWd) : ∀ (vs : List Value), (lg_sl (vs.map (xtr O))).length = (lg_sl vs).length
  | [] => rfl
  | v :: vs => by
    have ih := xsl_len O vs
    cases v <;> simp_all [lg_sl, xtr, Value.category]
/-- a method's contract out of its walk -/
theorem xMet_of {L : Launch} {O : xWd} {M : xMd} {rm : Room} {As : List Value} {G : List xOb} {K : xOc → List xOb → Prop} (hy : plainName M.1.cls = true) (hl : L.stackTraces = false) (hn : (lg_sl As).length ≤ M.2.2.1)
    (h : xWP L O M rm K 0 (lv_args 0 As) [] G 0 0) : xMet L O M rm As G K := by
  obtain ⟨y, cc, maxL, ret, hh⟩ := M
  have body : ∀ (p : Program) (e : Env) (s : State) (m : MethodId) (args : Array Value) (below : List Frame) (meth : Method) (c : Code) (s₁ : State), BodyLoose p L y (headSpec (xcw (y, cc, maxL, ret, hh) :: xTG) rm) cc maxL ret e s m args below meth c s₁ → c.maxLocals = maxL → c.exceptionTable.toList = tableOf hh → va_Pc (As.map (xtr O)) (xPre O G) args s →
      W p L e rm s m args below meth c s.heap [] 0 0 (vx_MQ below (xQc O K) (xXC O K) args s rm.cells rm.slots (xA O)) (entryFrame m args maxL) := by
    intro p e s m args below meth c s₁ B hml ht hv
    obtain ⟨rfl, hR, hb, hK, hE⟩ := hv
    have hl9 := lv_entry (As.map (xtr O)) (n := maxL) (by rw [xsl_len]; exact hn)
    rw [lg_entry_eq]
    rw [xargs_map] at hl9
    exact h p e s m _ below meth c s.heap [] _ ⟨B.exec, B.bytes, hml, B.returns, findClass_of_methodNamed B.named, fun w hw => atoms_spec B.pre w (List.mem_cons_of_mem _ hw), B.notSynchronized, (name_of_methodNamed B.named B.method).1, ht, hl, hK, hE, hb⟩ hR va_S.rf hl9
  cases hh with
  | nil => exact vx_ofW (cc := cc) (maxL := maxL) (ret := ret) hy rfl (fun p e s m args below meth c s₁ B hml ht hv => body p e s m args below meth c s₁ B hml (by
      cases hq : c.exceptionTable.toList with
      | nil => rfl
      | cons x t => exact (ht x (by rw [hq]; exact List.mem_cons_self)).elim) hv)
  | cons x t => exact vx_ofWH (cc := cc) (maxL := maxL) (ret := ret) (hh := x :: t) hy rfl (fun p e s m args below meth c s₁ B hml hv => body p e s m args below meth c s₁ B hml (vx_table (x := y) B (atoms_spec (ws := xcw (y, cc, maxL, ret, x :: t) :: xTG) B.pre _ List.mem_cons_self)) hv)
/-! a world's cells -/
theorem xRep.set {O : xWd} {G : List xOb} {H H1 : Heap} {i : Nat} {o o' : xOb} (h : xRep O G H) (hi : G[i]? = some o) (hz : H1.size = H.size) (hn : xobAt O (O.2.2.1 + i) o' H1) (oq : ∀ q : Nat, q ≠ O.2.2.1 + i → H1[q]? = H[q]?) : xRep O (G.set i o') H1 := by
  have hlt := (List.getElem?_eq_some_iff.mp hi).1
  refine ⟨by rw [hz, List.length_set]; exact h.1, by rw [List.length_set]; exact h.2.1, fun j o2 hj => ?_⟩
  by_cases e : j = i
  · subst e
    rw [List.getElem?_set_self hlt] at hj
    cases hj
    exact hn
  · rw [List.getElem?_set_ne (Ne.symm e)] at hj
    have h2 := h.2.2 j o2 hj
    have hq : H1[O.2.2.1 + j]? = H[O.2.2.1 + j]? := oq _ (by omega)
    unfold xobAt at h2 ⊢
    split at h2
    · next c =>
      rw [if_pos c]
      obtain ⟨r, a1, a2, a3⟩ := h2
      exact ⟨r, a1, a2, a3.kept hq⟩
    · next c =>
      rw [if_neg c]
      split at h2
      · next c2 => rw [if_pos c2, hq]; exact h2
      · next c2 => rw [if_neg c2]; trivial
theorem xRep.push {O : xWd} {G : List xOb} {H H1 : Heap} {o : xOb} (h : xRep O G H) (hz : H1.size = H.size + 1) (hG : G.length + 1 < xBig) (hn : xobAt O (O.2.2.1 + G.length) o H1) (oq : ∀ q : Nat, q < H.size → H1[q]? = H[q]?) : xRep O (G ++ [o]) H1 := by
  refine ⟨by rw [hz, List.length_append, h.1]; rfl, by rw [List.length_append]; exact hG, fun j o2 hj => ?_⟩
  by_cases e : j < G.length
  · rw [List.getElem?_append_left e] at hj
    have h2 := h.2.2 j o2 hj
    have hq : H1[O.2.2.1 + j]? = H[O.2.2.1 + j]? := oq _ (by rw [h.1]; omega)
    unfold xobAt at h2 ⊢
    split at h2
    · next c =>
      rw [if_pos c]
      obtain ⟨r, a1, a2, a3⟩ := h2
      exact ⟨r, a1, a2, a3.kept hq⟩
    · next c =>
      rw [if_neg c]
      split at h2
      · next c2 => rw [if_pos c2, hq]; exact h2
      · next c2 => rw [if_neg c2]; trivial
  · rw [List.getElem?_append_right (by omega)] at hj
    have h0 : j - G.length < 1 := (List.getElem?_eq_some_iff.mp hj).1
    have e2 : j = G.length := by omega
    subst e2
    rw [Nat.sub_self] at hj
    cases hj
    exact hn
theorem xobj {O : xWd} {G : List xOb} {H : Heap} (h : xRep O G H) {i ci : Nat} {fs : List Value} (hi : G[i]? = some (ci, fs)) (hc : ci < 64) : ∃ r : vw_C, xcl[ci]? = some r ∧ fs.length = r.2.2 ∧ t_OB (O.2.2.1 + i) (O.1.1 ci) r.2.2 (O.1.2 ci) H (fun k => xtr O (fs.getD k .null)) := by
  have h2 := h.2.2 i _ hi
  unfold xobAt at h2
  rw [if_pos hc] at h2
  exact h2
theorem xarr {O : xWd} {G : List xOb} {H : Heap} (h : xRep O G H) {i t : Nat} {vs : List Value} (hi : G[i]? = some (64 + t, vs)) (hc : t < 63) : H[O.2.2.1 + i]? = some (arrV (O.2.1 t) vs.length (fun k => xtr O (vs.getD k .null))) := by
  have h2 := h.2.2 i _ hi
  unfold xobAt at h2
  rw [if_neg (by omega), if_pos (by omega)] at h2
  have e : 64 + t - 64 = t := by omega
  simp only [e] at h2
  exact h2
end
section
section XR
variable {L : Launch} {O : xWd} {M : xMd} {R : Room} {K : xOc → List xOb → Prop} {pc : Nat} {ls : List (Nat × Value)} {st : List Value} {G : List xOb} {cs ns : Nat}
theorem lv_has_in {lsM : Array Slot} {n : Nat} {l l' : List (Nat × Value)} (h : lv_has lsM n l) (hi : ∀ q ∈ l', q ∈ l) : lv_has lsM n l' := ⟨h.1, h.2.1, fun q hq => h.2.2 q (hi q hq)⟩
theorem xlv {lsM : Array Slot} {n : Nat} (h : lv_has lsM n (ls.map (fun q => (q.1, xtr O q.2)))) {k i : Nat} {v : Value} (hk : ls[k]? = some (i, v)) : lsM[i]? = some (.val (xtr O v)) :=
  h.2.2 (i, xtr O v) (List.mem_map.mpr ⟨(i, v), List.mem_of_getElem? hk, rfl⟩)
/-- a local gets a value: in its place, or behind the others -/
def xup (i : Nat) (v : Value) : List (Nat × Value) → List (Nat × Value)
  | [] => [(i, v)]
  | q :: r => if q.1 = i then (i, v) :: r.filter (fun q => !(q.1 == i)) else q :: xup i v r
theorem xup_in {i : Nat} {v : Value} : ∀ {l : List (Nat × Value)} {q : Nat × Value}, q ∈ xup i v l → q = (i, v) ∨ (q ∈ l ∧ q.1 ≠ i)
  | [], q, h => Or.inl (List.mem_singleton.mp h)
  | a :: r, q, h => by
    unfold xup at h
    split at h
    · rcases List.mem_cons.mp h with h | h
      · exact Or.inl h
      · obtain ⟨h1, h2⟩ := List.mem_filter.mp h
        exact Or.inr ⟨List.mem_cons_of_mem _ h1, by simpa using h2⟩
    · next c =>
      rcases List.mem_cons.mp h with h | h
      · exact Or.inr ⟨by rw [h]; exact List.mem_cons_self, by rw [h]; exact c⟩
      · rcases xup_in h with h | ⟨h1, h2⟩
        · exact Or.inl h
        · exact Or.inr ⟨List.mem_cons_of_mem _ h1, h2⟩
/-- nothing of the list is spoilt by a value of one slot (of two slots) put at i -/
def xok1 (i : Nat) (l : List (Nat × Value)) : Bool := l.all (fun q => !(q.1 + 1 == i && q.2.category == 2))
def xok2 (i : Nat) (l : List (Nat × Value)) : Bool := l.all (fun q => !(q.1 + 1 == i && q.2.category == 2) && !(q.1 == i + 1))
theorem xst1 {i : Nat} {v : Value} {lsM : Array Slot} {n : Nat} (hok : xok1 i ls = true) {l2 : List (Nat × Value)} (hu : xup i v ls = l2) (h : lv_has lsM n ((i, xtr O v) :: (ls.map (fun q => (q.1, xtr O q.2))).filter (fun q => !(q.1 == i) && !(q.1 + 1 == i && q.2.category == 2)))) : lv_has lsM n (l2.map (fun q => (q.1, xtr O q.2))) := by
  subst hu
  refine lv_has_in h fun q hq => ?_
  obtain ⟨a, ha, rfl⟩ := List.mem_map.mp hq
  rcases xup_in ha with rfl | ⟨h1, h2⟩
  · exact List.mem_cons_self
  · refine List.mem_cons_of_mem _ (List.mem_filter.mpr ⟨List.mem_map.mpr ⟨a, h1, rfl⟩, ?_⟩)
    have h3 := List.all_eq_true.mp hok a h1
    simp only [xtr_cat]
    simp [h2, h3]
theorem xst2 {i : Nat} {v : Value} {lsM : Array Slot} {n : Nat} (hok : xok2 i ls = true) {l2 : List (Nat × Value)} (hu : xup i v ls = l2) (h : lv_has lsM n ((i, xtr O v) :: (ls.map (fun q => (q.1, xtr O q.2))).filter (fun q => !(q.1 == i) && (!(q.1 == i + 1) && !(q.1 + 1 == i && q.2.category == 2))))) : lv_has lsM n (l2.map (fun q => (q.1, xtr O q.2))) := by
  subst hu
  refine lv_has_in h fun q hq => ?_
  obtain ⟨a, ha, rfl⟩ := List.mem_map.mp hq
  rcases xup_in ha with rfl | ⟨h1, h2⟩
  · exact List.mem_cons_self
  · refine List.mem_cons_of_mem _ (List.mem_filter.mpr ⟨List.mem_map.mpr ⟨a, h1, rfl⟩, ?_⟩)
    have h3 := List.all_eq_true.mp hok a h1
    simp only [xtr_cat]
    simp only [Bool.and_eq_true, Bool.not_eq_true', beq_eq_false_iff_ne] at h3 ⊢
    exact ⟨h2, h3.2, h3.1⟩
/-- fewer locals -/
theorem xw_loc (l2 : List (Nat × Value)) (hi : ∀ q ∈ l2, q ∈ ls) (k : xWP L O M R K pc l2 st G cs ns) : xWP L O M R K pc ls st G cs ns := fun p e s m args below meth c H locs lsM hC hR hS hl =>
  k p e s m args below meth c H locs lsM hC hR hS (lv_has_in hl fun q hq => by
    obtain ⟨a, ha, rfl⟩ := List.mem_map.mp hq
    exact List.mem_map.mpr ⟨a, hi a ha, rfl⟩)
/-- more room is told -/
theorem xw_wid {c2 n2 : Nat} (h1 : cs ≤ c2) (h2 : ns ≤ n2) (k : xWP L O M R K pc ls st G c2 n2) : xWP L O M R K pc ls st G cs ns := fun p e s m args below meth c H locs lsM hC hR hS hl =>
  W.widen h1 h2 (k p e s m args below meth c H locs lsM hC hR hS hl)
theorem xMQ_mono {O : xWd} {K K' : xOc → List xOb → Prop} {below : List Frame} {args : Array Value} {s : State} {mc ms : Nat} {A : Nat → Prop} (h : ∀ o G, K o G → K' o G) (t : State) (q : vx_MQ below (xQc O K) (xXC O K) args s mc ms A t) : vx_MQ below (xQc O K') (xXC O K') args s mc ms A t := by
  obtain ⟨o, h1, h2, h3⟩ := q
  refine ⟨o, h1, h2, ?_⟩
  rcases h3 with ⟨⟨v, G', e, hK, r⟩, f⟩ | ⟨q, e, E, ce, L9, ⟨G', hK, r⟩, r2⟩
  · exact Or.inl ⟨⟨v, G', e, h _ _ hK, r⟩, f⟩
  · exact Or.inr ⟨q, e, E, ce, L9, ⟨G', h _ _ hK, r⟩, r2⟩
theorem xw_mono {K' : xOc → List xOb → Prop} (h : ∀ o G, K o G → K' o G) (k : xWP L O M R K pc ls st G cs ns) : xWP L O M R K' pc ls st G cs ns := fun p e s m args below meth c H locs lsM hC hR hS hl => by
  intro T hT X
  obtain ⟨t, a, b⟩ := k p e s m args below meth c H locs lsM hC hR hS hl T hT X
  exact ⟨t, a, xMQ_mono h t b⟩
theorem xw_eq {pc2 : Nat} {l2 : List (Nat × Value)} {s2 : List Value} {G2 : List xOb} (h1 : pc = pc2) (h2 : ls = l2) (h3 : st = s2) (h4 : G = G2) (k : xWP L O M R K pc2 l2 s2 G2 cs ns) : xWP L O M R K pc ls st G cs ns := by
  subst h1; subst h2; subst h3; subst h4; exact k

theorem xw_iconst {n : Int} {v : Int32} (hd : decode M.2.1 pc = .ok (.iconst n, 1)) (hv : Int32.ofInt n = v) (k : xWP L O M R K (pc + 1) ls (.int v :: st) G cs ns) : xWP L O M R K pc ls (st) G cs ns := by
  intro p e s m args below meth c H locs lsM hC hR hS hl
  exact lv_iconst hC.1 hC.2.1 hd hv (k p e s m args below meth c H locs lsM hC hR hS hl)

theorem xw_bipush {n : Int} {v : Int32} (hd : decode M.2.1 pc = .ok (.bipush n, 2)) (hv : (Int8.ofInt n).toInt32 = v) (k : xWP L O M R K (pc + 2) ls (.int v :: st) G cs ns) : xWP L O M R K pc ls (st) G cs ns := by
  intro p e s m args below meth c H locs lsM hC hR hS hl
  exact lv_bipush hC.1 hC.2.1 hd hv (k p e s m args below meth c H locs lsM hC hR hS hl)

theorem xw_sipush {n : Int} {v : Int32} (hd : decode M.2.1 pc = .ok (.sipush n, 3)) (hv : (Int16.ofInt n).toInt32 = v) (k : xWP L O M R K (pc + 3) ls (.int v :: st) G cs ns) : xWP L O M R K pc ls (st) G cs ns := by
  intro p e s m args below meth c H locs lsM hC hR hS hl
  exact lv_sipush hC.1 hC.2.1 hd hv (k p e s m args below meth c H locs lsM hC hR hS hl)

theorem xw_lconst {n : Fin 2} {v : Int64} (hd : decode M.2.1 pc = .ok (.lconst n, 1)) (hv : Int64.ofNat (n : Nat) = v) (k : xWP L O M R K (pc + 1) ls (.long v :: st) G cs ns) : xWP L O M R K pc ls (st) G cs ns := by
  intro p e s m args below meth c H locs lsM hC hR hS hl
  exact lv_lconst hC.1 hC.2.1 hd hv (k p e s m args below meth c H locs lsM hC hR hS hl)

theorem xw_fconst0 (hd : decode M.2.1 pc = .ok (.fconst 0, 1)) (k : xWP L O M R K (pc + 1) ls (.float FP.fconst0 :: st) G cs ns) : xWP L O M R K pc ls (st) G cs ns := by
  intro p e s m args below meth c H locs lsM hC hR hS hl
  exact lv_fconst0 hC.1 hC.2.1 hd (k p e s m args below meth c H locs lsM hC hR hS hl)

theorem xw_ldc {i : Nat} {v : Int32} (hd : decode M.2.1 pc = .ok (.ldc i, 2)) (hw : Cond.constant M.1.cls i v ∈ xTG) (k : xWP L O M R K (pc + 2) ls (.int v :: st) G cs ns) : xWP L O M R K pc ls (st) G cs ns := by
  intro p e s m args below meth c H locs lsM hC hR hS hl
  exact lv_ldc hC.1 hC.2.1 (own := M.1.cls) hC.2.2.2.2.1 (hC.2.2.2.2.2.1 _ hw) hd (k p e s m args below meth c H locs lsM hC hR hS hl)

theorem xw_ldcw {i : Nat} {v : Int32} (hd : decode M.2.1 pc = .ok (.ldc_w i, 3)) (hw : Cond.constant M.1.cls i v ∈ xTG) (k : xWP L O M R K (pc + 3) ls (.int v :: st) G cs ns) : xWP L O M R K pc ls (st) G cs ns := by
  intro p e s m args below meth c H locs lsM hC hR hS hl
  exact lv_ldcw hC.1 hC.2.1 (own := M.1.cls) hC.2.2.2.2.1 (hC.2.2.2.2.2.1 _ hw) hd (k p e s m args below meth c H locs lsM hC hR hS hl)

theorem xw_ldc2 {i : Nat} {v : Int64} (hd : decode M.2.1 pc = .ok (.ldc2_w i, 3)) (hw : Cond.constantLong M.1.cls i v ∈ xTG) (k : xWP L O M R K (pc + 3) ls (.long v :: st) G cs ns) : xWP L O M R K pc ls (st) G cs ns := by
  intro p e s m args below meth c H locs lsM hC hR hS hl
  exact lv_ldc2 hC.1 hC.2.1 (own := M.1.cls) hC.2.2.2.2.1 (hC.2.2.2.2.2.1 _ hw) hd (k p e s m args below meth c H locs lsM hC hR hS hl)

theorem xw_ldcf {i : Nat} {v : UInt32} (hd : decode M.2.1 pc = .ok (.ldc i, 2)) (hw : Cond.constantFloat M.1.cls i v ∈ xTG) (k : xWP L O M R K (pc + 2) ls (.float v :: st) G cs ns) : xWP L O M R K pc ls (st) G cs ns := by
  intro p e s m args below meth c H locs lsM hC hR hS hl
  exact lv_ldcf hC.1 hC.2.1 (own := M.1.cls) hC.2.2.2.2.1 (hC.2.2.2.2.2.1 _ hw) hd (k p e s m args below meth c H locs lsM hC hR hS hl)

theorem xw_iload {x : Int32} {i : Nat} (k0 : Nat) (hd : decode M.2.1 pc = .ok (.iload i, 2)) (hk : ls[k0]? = some (i, .int x)) (k : xWP L O M R K (pc + 2) ls (.int x :: st) G cs ns) : xWP L O M R K pc ls st G cs ns := by
  intro p e s m args below meth c H locs lsM hC hR hS hl
  exact lv_iload hC.1 hC.2.1 hd (xlv hl hk) (k p e s m args below meth c H locs lsM hC hR hS hl)

theorem xw_iload_n {x : Int32} {i : Fin 4} (k0 : Nat) (hd : decode M.2.1 pc = .ok (.iload_n i, 1)) (hk : ls[k0]? = some ((i : Nat), .int x)) (k : xWP L O M R K (pc + 1) ls (.int x :: st) G cs ns) : xWP L O M R K pc ls st G cs ns := by
  intro p e s m args below meth c H locs lsM hC hR hS hl
  exact lv_iload_n hC.1 hC.2.1 hd rfl (xlv hl hk) (k p e s m args below meth c H locs lsM hC hR hS hl)

theorem xw_lload {x : Int64} {i : Nat} (k0 : Nat) (hd : decode M.2.1 pc = .ok (.lload i, 2)) (hk : ls[k0]? = some (i, .long x)) (k : xWP L O M R K (pc + 2) ls (.long x :: st) G cs ns) : xWP L O M R K pc ls st G cs ns := by
  intro p e s m args below meth c H locs lsM hC hR hS hl
  exact lv_lload hC.1 hC.2.1 hd (xlv hl hk) (k p e s m args below meth c H locs lsM hC hR hS hl)

theorem xw_lload_n {x : Int64} {i : Fin 4} (k0 : Nat) (hd : decode M.2.1 pc = .ok (.lload_n i, 1)) (hk : ls[k0]? = some ((i : Nat), .long x)) (k : xWP L O M R K (pc + 1) ls (.long x :: st) G cs ns) : xWP L O M R K pc ls st G cs ns := by
  intro p e s m args below meth c H locs lsM hC hR hS hl
  exact lv_lload_n hC.1 hC.2.1 hd rfl (xlv hl hk) (k p e s m args below meth c H locs lsM hC hR hS hl)

theorem xw_fload {x : UInt32} {i : Nat} (k0 : Nat) (hd : decode M.2.1 pc = .ok (.fload i, 2)) (hk : ls[k0]? = some (i, .float x)) (k : xWP L O M R K (pc + 2) ls (.float x :: st) G cs ns) : xWP L O M R K pc ls st G cs ns := by
  intro p e s m args below meth c H locs lsM hC hR hS hl
  exact lv_fload hC.1 hC.2.1 hd (xlv hl hk) (k p e s m args below meth c H locs lsM hC hR hS hl)

theorem xw_fload_n {x : UInt32} {i : Fin 4} (k0 : Nat) (hd : decode M.2.1 pc = .ok (.fload_n i, 1)) (hk : ls[k0]? = some ((i : Nat), .float x)) (k : xWP L O M R K (pc + 1) ls (.float x :: st) G cs ns) : xWP L O M R K pc ls st G cs ns := by
  intro p e s m args below meth c H locs lsM hC hR hS hl
  exact lv_fload_n hC.1 hC.2.1 hd rfl (xlv hl hk) (k p e s m args below meth c H locs lsM hC hR hS hl)

theorem xw_dload {x : UInt64} {i : Nat} (k0 : Nat) (hd : decode M.2.1 pc = .ok (.dload i, 2)) (hk : ls[k0]? = some (i, .double x)) (k : xWP L O M R K (pc + 2) ls (.double x :: st) G cs ns) : xWP L O M R K pc ls st G cs ns := by
  intro p e s m args below meth c H locs lsM hC hR hS hl
  exact lv_dload hC.1 hC.2.1 hd (xlv hl hk) (k p e s m args below meth c H locs lsM hC hR hS hl)

theorem xw_dload_n {x : UInt64} {i : Fin 4} (k0 : Nat) (hd : decode M.2.1 pc = .ok (.dload_n i, 1)) (hk : ls[k0]? = some ((i : Nat), .double x)) (k : xWP L O M R K (pc + 1) ls (.double x :: st) G cs ns) : xWP L O M R K pc ls st G cs ns := by
  intro p e s m args below meth c H locs lsM hC hR hS hl
  exact lv_dload_n hC.1 hC.2.1 hd rfl (xlv hl hk) (k p e s m args below meth c H locs lsM hC hR hS hl)

theorem xw_aload {x : Nat} {i : Nat} (k0 : Nat) (hd : decode M.2.1 pc = .ok (.aload i, 2)) (hk : ls[k0]? = some (i, .ref x)) (k : xWP L O M R K (pc + 2) ls (.ref x :: st) G cs ns) : xWP L O M R K pc ls st G cs ns := by
  intro p e s m args below meth c H locs lsM hC hR hS hl
  exact lv_aload hC.1 hC.2.1 hd (xlv hl hk) (k p e s m args below meth c H locs lsM hC hR hS hl)

theorem xw_aload_n {x : Nat} {i : Fin 4} (k0 : Nat) (hd : decode M.2.1 pc = .ok (.aload_n i, 1)) (hk : ls[k0]? = some ((i : Nat), .ref x)) (k : xWP L O M R K (pc + 1) ls (.ref x :: st) G cs ns) : xWP L O M R K pc ls st G cs ns := by
  intro p e s m args below meth c H locs lsM hC hR hS hl
  exact lv_aload_n hC.1 hC.2.1 hd rfl (xlv hl hk) (k p e s m args below meth c H locs lsM hC hR hS hl)

theorem xw_istore {x : Int32} {i : Nat} {l2 : List (Nat × Value)} (hd : decode M.2.1 pc = .ok (.istore i, 2)) (hn : i < M.2.2.1) (hok : xok1 i ls = true) (hu : xup i (.int x) ls = l2) (k : xWP L O M R K (pc + 2) l2 st G cs ns) : xWP L O M R K pc ls (.int x :: st) G cs ns := by
  intro p e s m args below meth c H locs lsM hC hR hS hl
  exact lv_istore hC.1 hC.2.1 hd hl hn rfl (fun l9 h9 => k p e s m args below meth c H locs l9 hC hR hS (xst1 (v := .int x) hok hu h9))

theorem xw_istore_n {x : Int32} {i : Fin 4} {l2 : List (Nat × Value)} (hd : decode M.2.1 pc = .ok (.istore_n i, 1)) (hn : (i : Nat) < M.2.2.1) (hok : xok1 (i : Nat) ls = true) (hu : xup (i : Nat) (.int x) ls = l2) (k : xWP L O M R K (pc + 1) l2 st G cs ns) : xWP L O M R K pc ls (.int x :: st) G cs ns := by
  intro p e s m args below meth c H locs lsM hC hR hS hl
  exact lv_istore_n hC.1 hC.2.1 hd rfl hl hn rfl (fun l9 h9 => k p e s m args below meth c H locs l9 hC hR hS (xst1 (v := .int x) hok hu h9))

theorem xw_lstore {x : Int64} {i : Nat} {l2 : List (Nat × Value)} (hd : decode M.2.1 pc = .ok (.lstore i, 2)) (hn : i + 1 < M.2.2.1) (hok : xok2 i ls = true) (hu : xup i (.long x) ls = l2) (k : xWP L O M R K (pc + 2) l2 st G cs ns) : xWP L O M R K pc ls (.long x :: st) G cs ns := by
  intro p e s m args below meth c H locs lsM hC hR hS hl
  exact lv_lstore hC.1 hC.2.1 hd hl hn rfl (fun l9 h9 => k p e s m args below meth c H locs l9 hC hR hS (xst2 (v := .long x) hok hu h9))

theorem xw_lstore_n {x : Int64} {i : Fin 4} {l2 : List (Nat × Value)} (hd : decode M.2.1 pc = .ok (.lstore_n i, 1)) (hn : (i : Nat) + 1 < M.2.2.1) (hok : xok2 (i : Nat) ls = true) (hu : xup (i : Nat) (.long x) ls = l2) (k : xWP L O M R K (pc + 1) l2 st G cs ns) : xWP L O M R K pc ls (.long x :: st) G cs ns := by
  intro p e s m args below meth c H locs lsM hC hR hS hl
  exact lv_lstore_n hC.1 hC.2.1 hd rfl hl hn rfl (fun l9 h9 => k p e s m args below meth c H locs l9 hC hR hS (xst2 (v := .long x) hok hu h9))

theorem xw_fstore {x : UInt32} {i : Nat} {l2 : List (Nat × Value)} (hd : decode M.2.1 pc = .ok (.fstore i, 2)) (hn : i < M.2.2.1) (hok : xok1 i ls = true) (hu : xup i (.float x) ls = l2) (k : xWP L O M R K (pc + 2) l2 st G cs ns) : xWP L O M R K pc ls (.float x :: st) G cs ns := by
  intro p e s m args below meth c H locs lsM hC hR hS hl
  exact lv_fstore hC.1 hC.2.1 hd hl hn rfl (fun l9 h9 => k p e s m args below meth c H locs l9 hC hR hS (xst1 (v := .float x) hok hu h9))

theorem xw_fstore_n {x : UInt32} {i : Fin 4} {l2 : List (Nat × Value)} (hd : decode M.2.1 pc = .ok (.fstore_n i, 1)) (hn : (i : Nat) < M.2.2.1) (hok : xok1 (i : Nat) ls = true) (hu : xup (i : Nat) (.float x) ls = l2) (k : xWP L O M R K (pc + 1) l2 st G cs ns) : xWP L O M R K pc ls (.float x :: st) G cs ns := by
  intro p e s m args below meth c H locs lsM hC hR hS hl
  exact lv_fstore_n hC.1 hC.2.1 hd rfl hl hn rfl (fun l9 h9 => k p e s m args below meth c H locs l9 hC hR hS (xst1 (v := .float x) hok hu h9))

theorem xw_dstore {x : UInt64} {i : Nat} {l2 : List (Nat × Value)} (hd : decode M.2.1 pc = .ok (.dstore i, 2)) (hn : i + 1 < M.2.2.1) (hok : xok2 i ls = true) (hu : xup i (.double x) ls = l2) (k : xWP L O M R K (pc + 2) l2 st G cs ns) : xWP L O M R K pc ls (.double x :: st) G cs ns := by
  intro p e s m args below meth c H locs lsM hC hR hS hl
  exact lv_dstore hC.1 hC.2.1 hd hl hn rfl (fun l9 h9 => k p e s m args below meth c H locs l9 hC hR hS (xst2 (v := .double x) hok hu h9))

theorem xw_dstore_n {x : UInt64} {i : Fin 4} {l2 : List (Nat × Value)} (hd : decode M.2.1 pc = .ok (.dstore_n i, 1)) (hn : (i : Nat) + 1 < M.2.2.1) (hok : xok2 (i : Nat) ls = true) (hu : xup (i : Nat) (.double x) ls = l2) (k : xWP L O M R K (pc + 1) l2 st G cs ns) : xWP L O M R K pc ls (.double x :: st) G cs ns := by
  intro p e s m args below meth c H locs lsM hC hR hS hl
  exact lv_dstore_n hC.1 hC.2.1 hd rfl hl hn rfl (fun l9 h9 => k p e s m args below meth c H locs l9 hC hR hS (xst2 (v := .double x) hok hu h9))

theorem xw_astore {x : Nat} {i : Nat} {l2 : List (Nat × Value)} (hd : decode M.2.1 pc = .ok (.astore i, 2)) (hn : i < M.2.2.1) (hok : xok1 i ls = true) (hu : xup i (.ref x) ls = l2) (k : xWP L O M R K (pc + 2) l2 st G cs ns) : xWP L O M R K pc ls (.ref x :: st) G cs ns := by
  intro p e s m args below meth c H locs lsM hC hR hS hl
  exact lv_astore hC.1 hC.2.1 hd hl hn rfl (fun l9 h9 => k p e s m args below meth c H locs l9 hC hR hS (xst1 (v := .ref x) hok hu h9))

theorem xw_astore_n {x : Nat} {i : Fin 4} {l2 : List (Nat × Value)} (hd : decode M.2.1 pc = .ok (.astore_n i, 1)) (hn : (i : Nat) < M.2.2.1) (hok : xok1 (i : Nat) ls = true) (hu : xup (i : Nat) (.ref x) ls = l2) (k : xWP L O M R K (pc + 1) l2 st G cs ns) : xWP L O M R K pc ls (.ref x :: st) G cs ns := by
  intro p e s m args below meth c H locs lsM hC hR hS hl
  exact lv_astore_n hC.1 hC.2.1 hd rfl hl hn rfl (fun l9 h9 => k p e s m args below meth c H locs l9 hC hR hS (xst1 (v := .ref x) hok hu h9))

theorem xw_iinc {x v : Int32} {i : Nat} {n : Int} {l2 : List (Nat × Value)} (k0 : Nat) (hd : decode M.2.1 pc = .ok (.iinc i n, 3)) (hk : ls[k0]? = some (i, .int x)) (hv : x + Int32.ofInt n = v) (hn : i < M.2.2.1) (hok : xok1 i ls = true) (hu : xup i (.int v) ls = l2) (k : xWP L O M R K (pc + 3) l2 st G cs ns) : xWP L O M R K pc ls st G cs ns := by
  intro p e s m args below meth c H locs lsM hC hR hS hl
  have hk2 : (ls.map (fun q => (q.1, xtr O q.2)))[k0]? = some (i, .int x) := by rw [List.getElem?_map, hk]; rfl
  exact lv_iinc hC.1 hC.2.1 hd hl hk2 hv hn rfl (fun l9 h9 => k p e s m args below meth c H locs l9 hC hR hS (xst1 (v := .int v) hok hu h9))

theorem xw_iadd {x y : Int32} (hd : decode M.2.1 pc = .ok (.iadd, 1)) (k : xWP L O M R K (pc + 1) ls (.int (x + y) :: st) G cs ns) : xWP L O M R K pc ls (.int y :: .int x :: st) G cs ns := by
  intro p e s m args below meth c H locs lsM hC hR hS hl
  exact lv_iadd hC.1 hC.2.1 hd (k p e s m args below meth c H locs lsM hC hR hS hl)

theorem xw_isub {x y : Int32} (hd : decode M.2.1 pc = .ok (.isub, 1)) (k : xWP L O M R K (pc + 1) ls (.int (x - y) :: st) G cs ns) : xWP L O M R K pc ls (.int y :: .int x :: st) G cs ns := by
  intro p e s m args below meth c H locs lsM hC hR hS hl
  exact lv_isub hC.1 hC.2.1 hd (k p e s m args below meth c H locs lsM hC hR hS hl)

theorem xw_imul {x y : Int32} (hd : decode M.2.1 pc = .ok (.imul, 1)) (k : xWP L O M R K (pc + 1) ls (.int (x * y) :: st) G cs ns) : xWP L O M R K pc ls (.int y :: .int x :: st) G cs ns := by
  intro p e s m args below meth c H locs lsM hC hR hS hl
  exact lv_imul hC.1 hC.2.1 hd (k p e s m args below meth c H locs lsM hC hR hS hl)

theorem xw_iand {x y : Int32} (hd : decode M.2.1 pc = .ok (.iand, 1)) (k : xWP L O M R K (pc + 1) ls (.int (x &&& y) :: st) G cs ns) : xWP L O M R K pc ls (.int y :: .int x :: st) G cs ns := by
  intro p e s m args below meth c H locs lsM hC hR hS hl
  exact lv_iand hC.1 hC.2.1 hd (k p e s m args below meth c H locs lsM hC hR hS hl)

theorem xw_ladd {x y : Int64} (hd : decode M.2.1 pc = .ok (.ladd, 1)) (k : xWP L O M R K (pc + 1) ls (.long (x + y) :: st) G cs ns) : xWP L O M R K pc ls (.long y :: .long x :: st) G cs ns := by
  intro p e s m args below meth c H locs lsM hC hR hS hl
  exact lv_ladd hC.1 hC.2.1 hd (k p e s m args below meth c H locs lsM hC hR hS hl)

theorem xw_lsub {x y : Int64} (hd : decode M.2.1 pc = .ok (.lsub, 1)) (k : xWP L O M R K (pc + 1) ls (.long (x - y) :: st) G cs ns) : xWP L O M R K pc ls (.long y :: .long x :: st) G cs ns := by
  intro p e s m args below meth c H locs lsM hC hR hS hl
  exact lv_lsub hC.1 hC.2.1 hd (k p e s m args below meth c H locs lsM hC hR hS hl)

theorem xw_lmul {x y : Int64} (hd : decode M.2.1 pc = .ok (.lmul, 1)) (k : xWP L O M R K (pc + 1) ls (.long (x * y) :: st) G cs ns) : xWP L O M R K pc ls (.long y :: .long x :: st) G cs ns := by
  intro p e s m args below meth c H locs lsM hC hR hS hl
  exact lv_lmul hC.1 hC.2.1 hd (k p e s m args below meth c H locs lsM hC hR hS hl)

theorem xw_idiv {x y : Int32} (hd : decode M.2.1 pc = .ok (.idiv, 1)) (hne : ¬ y = 0) (k : xWP L O M R K (pc + 1) ls (.int (x / y) :: st) G cs ns) : xWP L O M R K pc ls (.int y :: .int x :: st) G cs ns := by
  intro p e s m args below meth c H locs lsM hC hR hS hl
  exact lv_idiv hC.1 hC.2.1 hd hne (k p e s m args below meth c H locs lsM hC hR hS hl)

theorem xw_irem {x y : Int32} (hd : decode M.2.1 pc = .ok (.irem, 1)) (hne : ¬ y = 0) (k : xWP L O M R K (pc + 1) ls (.int (x - x / y * y) :: st) G cs ns) : xWP L O M R K pc ls (.int y :: .int x :: st) G cs ns := by
  intro p e s m args below meth c H locs lsM hC hR hS hl
  exact lv_irem hC.1 hC.2.1 hd hne (k p e s m args below meth c H locs lsM hC hR hS hl)

theorem xw_ldiv {x y : Int64} (hd : decode M.2.1 pc = .ok (.ldiv, 1)) (hne : ¬ y = 0) (k : xWP L O M R K (pc + 1) ls (.long (x / y) :: st) G cs ns) : xWP L O M R K pc ls (.long y :: .long x :: st) G cs ns := by
  intro p e s m args below meth c H locs lsM hC hR hS hl
  exact lv_ldiv hC.1 hC.2.1 hd hne (k p e s m args below meth c H locs lsM hC hR hS hl)

theorem xw_lrem {x y : Int64} (hd : decode M.2.1 pc = .ok (.lrem, 1)) (hne : ¬ y = 0) (k : xWP L O M R K (pc + 1) ls (.long (x - x / y * y) :: st) G cs ns) : xWP L O M R K pc ls (.long y :: .long x :: st) G cs ns := by
  intro p e s m args below meth c H locs lsM hC hR hS hl
  exact lv_lrem hC.1 hC.2.1 hd hne (k p e s m args below meth c H locs lsM hC hR hS hl)

theorem xw_ineg {x : Int32} (hd : decode M.2.1 pc = .ok (.ineg, 1)) (k : xWP L O M R K (pc + 1) ls (.int (-x) :: st) G cs ns) : xWP L O M R K pc ls (.int x :: st) G cs ns := by
  intro p e s m args below meth c H locs lsM hC hR hS hl
  exact lv_ineg hC.1 hC.2.1 hd (k p e s m args below meth c H locs lsM hC hR hS hl)

theorem xw_i2l {x : Int32} (hd : decode M.2.1 pc = .ok (.i2l, 1)) (k : xWP L O M R K (pc + 1) ls (.long x.toInt64 :: st) G cs ns) : xWP L O M R K pc ls (.int x :: st) G cs ns := by
  intro p e s m args below meth c H locs lsM hC hR hS hl
  exact lv_i2l hC.1 hC.2.1 hd rfl (k p e s m args below meth c H locs lsM hC hR hS hl)

theorem xw_l2i {x : Int64} (hd : decode M.2.1 pc = .ok (.l2i, 1)) (k : xWP L O M R K (pc + 1) ls (.int x.toInt32 :: st) G cs ns) : xWP L O M R K pc ls (.long x :: st) G cs ns := by
  intro p e s m args below meth c H locs lsM hC hR hS hl
  exact lv_l2i hC.1 hC.2.1 hd rfl (k p e s m args below meth c H locs lsM hC hR hS hl)

theorem xw_i2c {x : Int32} (hd : decode M.2.1 pc = .ok (.i2c, 1)) (k : xWP L O M R K (pc + 1) ls (.int (x.toUInt32 % 65536).toInt32 :: st) G cs ns) : xWP L O M R K pc ls (.int x :: st) G cs ns := by
  intro p e s m args below meth c H locs lsM hC hR hS hl
  exact lv_i2c hC.1 hC.2.1 hd rfl (k p e s m args below meth c H locs lsM hC hR hS hl)

theorem xw_i2f {x : Int32} (hd : decode M.2.1 pc = .ok (.i2f, 1)) (k : xWP L O M R K (pc + 1) ls (.float (FP.i2f x) :: st) G cs ns) : xWP L O M R K pc ls (.int x :: st) G cs ns := by
  intro p e s m args below meth c H locs lsM hC hR hS hl
  exact lv_i2f hC.1 hC.2.1 hd (k p e s m args below meth c H locs lsM hC hR hS hl)

theorem xw_fmul {x y : UInt32} (hd : decode M.2.1 pc = .ok (.fmul, 1)) (hne : vf_n32 (FP.fmul x y)) (k : xWP L O M R K (pc + 1) ls (.float (FP.fmul x y) :: st) G cs ns) : xWP L O M R K pc ls (.float y :: .float x :: st) G cs ns := by
  intro p e s m args below meth c H locs lsM hC hR hS hl
  exact lv_fmul hC.1 hC.2.1 hd hne (k p e s m args below meth c H locs lsM hC hR hS hl)

theorem xw_fdiv {x y : UInt32} (hd : decode M.2.1 pc = .ok (.fdiv, 1)) (hne : vf_n32 (FP.fdiv x y)) (k : xWP L O M R K (pc + 1) ls (.float (FP.fdiv x y) :: st) G cs ns) : xWP L O M R K pc ls (.float y :: .float x :: st) G cs ns := by
  intro p e s m args below meth c H locs lsM hC hR hS hl
  exact lv_fdiv hC.1 hC.2.1 hd hne (k p e s m args below meth c H locs lsM hC hR hS hl)

theorem xw_fcmp {x y : UInt32} {op : CmpOp} (hd : decode M.2.1 pc = .ok (.fcmp op, 1)) (k : xWP L O M R K (pc + 1) ls (.int (Op.cmpValue (FP.fcmp x y) op) :: st) G cs ns) : xWP L O M R K pc ls (.float y :: .float x :: st) G cs ns := by
  intro p e s m args below meth c H locs lsM hC hR hS hl
  exact lv_fcmp hC.1 hC.2.1 hd (k p e s m args below meth c H locs lsM hC hR hS hl)

theorem xw_lcmp {x y : Int64} (hd : decode M.2.1 pc = .ok (.lcmp, 1)) (k : xWP L O M R K (pc + 1) ls (.int (lg_cmp x y) :: st) G cs ns) : xWP L O M R K pc ls (.long y :: .long x :: st) G cs ns := by
  intro p e s m args below meth c H locs lsM hC hR hS hl
  exact W.lcmp hC.1 hC.2.1 hd (k p e s m args below meth c H locs lsM hC hR hS hl)

theorem xw_dup {v : Value} (hd : decode M.2.1 pc = .ok (.dup, 1)) (hv : v.category = 1) (k : xWP L O M R K (pc + 1) ls (v :: v :: st) G cs ns) : xWP L O M R K pc ls (v :: st) G cs ns := by
  intro p e s m args below meth c H locs lsM hC hR hS hl
  exact lv_dup hC.1 hC.2.1 hd (by rw [xtr_cat]; exact hv) (k p e s m args below meth c H locs lsM hC hR hS hl)

theorem xw_pop {v : Value} (hd : decode M.2.1 pc = .ok (.pop, 1)) (hv : v.category = 1) (k : xWP L O M R K (pc + 1) ls (st) G cs ns) : xWP L O M R K pc ls (v :: st) G cs ns := by
  intro p e s m args below meth c H locs lsM hC hR hS hl
  exact lv_pop hC.1 hC.2.1 hd (by rw [xtr_cat]; exact hv) (k p e s m args below meth c H locs lsM hC hR hS hl)

theorem xw_dup_x1 {v w : Value} (hd : decode M.2.1 pc = .ok (.dup_x1, 1)) (hv : v.category = 1) (hw : w.category = 1) (k : xWP L O M R K (pc + 1) ls (v :: w :: v :: st) G cs ns) : xWP L O M R K pc ls (v :: w :: st) G cs ns := by
  intro p e s m args below meth c H locs lsM hC hR hS hl
  exact lv_dup_x1 hC.1 hC.2.1 hd (by rw [xtr_cat]; exact hv) (by rw [xtr_cat]; exact hw) (k p e s m args below meth c H locs lsM hC hR hS hl)

theorem xw_dup2 {v w : Value} (hd : decode M.2.1 pc = .ok (.dup2, 1)) (hv : v.category = 1) (hw : w.category = 1) (k : xWP L O M R K (pc + 1) ls (v :: w :: v :: w :: st) G cs ns) : xWP L O M R K pc ls (v :: w :: st) G cs ns := by
  intro p e s m args below meth c H locs lsM hC hR hS hl
  exact lv_dup2_11 hC.1 hC.2.1 hd (by rw [xtr_cat]; exact hv) (by rw [xtr_cat]; exact hw) (k p e s m args below meth c H locs lsM hC hR hS hl)

theorem xw_null (hd : decode M.2.1 pc = .ok (.aconst_null, 1)) (k : xWP L O M R K (pc + 1) ls (.null :: st) G cs ns) : xWP L O M R K pc ls (st) G cs ns := by
  intro p e s m args below meth c H locs lsM hC hR hS hl
  exact lv_null hC.1 hC.2.1 hd (k p e s m args below meth c H locs lsM hC hR hS hl)

-- BRANCHES
theorem xw_if_eq {x : Int32} {off : Int} {tgt : Nat} (hd : decode M.2.1 pc = .ok (.ifCond .eq off, 3)) (ht : (pc : Int) + off = (tgt : Int)) (kt : (x = 0) → xWP L O M R K tgt ls st G cs ns) (kf : (¬ x = 0) → xWP L O M R K (pc + 3) ls st G cs ns) : xWP L O M R K pc ls (.int x :: st) G cs ns := by
  intro p e s m args below meth c H locs lsM hC hR hS hl
  exact lv_if_eq hC.1 hC.2.1 hd ht (fun q => kt q p e s m args below meth c H locs lsM hC hR hS hl) (fun q => kf q p e s m args below meth c H locs lsM hC hR hS hl)

theorem xw_icmp_eq {x y : Int32} {off : Int} {tgt : Nat} (hd : decode M.2.1 pc = .ok (.if_icmp .eq off, 3)) (ht : (pc : Int) + off = (tgt : Int)) (kt : (x = y) → xWP L O M R K tgt ls st G cs ns) (kf : (¬ x = y) → xWP L O M R K (pc + 3) ls st G cs ns) : xWP L O M R K pc ls (.int y :: .int x :: st) G cs ns := by
  intro p e s m args below meth c H locs lsM hC hR hS hl
  exact lv_icmp_eq hC.1 hC.2.1 hd ht (fun q => kt q p e s m args below meth c H locs lsM hC hR hS hl) (fun q => kf q p e s m args below meth c H locs lsM hC hR hS hl)

theorem xw_if_ne {x : Int32} {off : Int} {tgt : Nat} (hd : decode M.2.1 pc = .ok (.ifCond .ne off, 3)) (ht : (pc : Int) + off = (tgt : Int)) (kt : (¬ x = 0) → xWP L O M R K tgt ls st G cs ns) (kf : (x = 0) → xWP L O M R K (pc + 3) ls st G cs ns) : xWP L O M R K pc ls (.int x :: st) G cs ns := by
  intro p e s m args below meth c H locs lsM hC hR hS hl
  exact lv_if_ne hC.1 hC.2.1 hd ht (fun q => kt q p e s m args below meth c H locs lsM hC hR hS hl) (fun q => kf q p e s m args below meth c H locs lsM hC hR hS hl)

theorem xw_icmp_ne {x y : Int32} {off : Int} {tgt : Nat} (hd : decode M.2.1 pc = .ok (.if_icmp .ne off, 3)) (ht : (pc : Int) + off = (tgt : Int)) (kt : (¬ x = y) → xWP L O M R K tgt ls st G cs ns) (kf : (x = y) → xWP L O M R K (pc + 3) ls st G cs ns) : xWP L O M R K pc ls (.int y :: .int x :: st) G cs ns := by
  intro p e s m args below meth c H locs lsM hC hR hS hl
  exact lv_icmp_ne hC.1 hC.2.1 hd ht (fun q => kt q p e s m args below meth c H locs lsM hC hR hS hl) (fun q => kf q p e s m args below meth c H locs lsM hC hR hS hl)

theorem xw_if_lt {x : Int32} {off : Int} {tgt : Nat} (hd : decode M.2.1 pc = .ok (.ifCond .lt off, 3)) (ht : (pc : Int) + off = (tgt : Int)) (kt : (x < 0) → xWP L O M R K tgt ls st G cs ns) (kf : (¬ x < 0) → xWP L O M R K (pc + 3) ls st G cs ns) : xWP L O M R K pc ls (.int x :: st) G cs ns := by
  intro p e s m args below meth c H locs lsM hC hR hS hl
  exact lv_if_lt hC.1 hC.2.1 hd ht (fun q => kt q p e s m args below meth c H locs lsM hC hR hS hl) (fun q => kf q p e s m args below meth c H locs lsM hC hR hS hl)

theorem xw_icmp_lt {x y : Int32} {off : Int} {tgt : Nat} (hd : decode M.2.1 pc = .ok (.if_icmp .lt off, 3)) (ht : (pc : Int) + off = (tgt : Int)) (kt : (x < y) → xWP L O M R K tgt ls st G cs ns) (kf : (¬ x < y) → xWP L O M R K (pc + 3) ls st G cs ns) : xWP L O M R K pc ls (.int y :: .int x :: st) G cs ns := by
  intro p e s m args below meth c H locs lsM hC hR hS hl
  exact lv_icmp_lt hC.1 hC.2.1 hd ht (fun q => kt q p e s m args below meth c H locs lsM hC hR hS hl) (fun q => kf q p e s m args below meth c H locs lsM hC hR hS hl)

theorem xw_if_ge {x : Int32} {off : Int} {tgt : Nat} (hd : decode M.2.1 pc = .ok (.ifCond .ge off, 3)) (ht : (pc : Int) + off = (tgt : Int)) (kt : (0 ≤ x) → xWP L O M R K tgt ls st G cs ns) (kf : (¬ 0 ≤ x) → xWP L O M R K (pc + 3) ls st G cs ns) : xWP L O M R K pc ls (.int x :: st) G cs ns := by
  intro p e s m args below meth c H locs lsM hC hR hS hl
  exact lv_if_ge hC.1 hC.2.1 hd ht (fun q => kt q p e s m args below meth c H locs lsM hC hR hS hl) (fun q => kf q p e s m args below meth c H locs lsM hC hR hS hl)

theorem xw_icmp_ge {x y : Int32} {off : Int} {tgt : Nat} (hd : decode M.2.1 pc = .ok (.if_icmp .ge off, 3)) (ht : (pc : Int) + off = (tgt : Int)) (kt : (y ≤ x) → xWP L O M R K tgt ls st G cs ns) (kf : (¬ y ≤ x) → xWP L O M R K (pc + 3) ls st G cs ns) : xWP L O M R K pc ls (.int y :: .int x :: st) G cs ns := by
  intro p e s m args below meth c H locs lsM hC hR hS hl
  exact lv_icmp_ge hC.1 hC.2.1 hd ht (fun q => kt q p e s m args below meth c H locs lsM hC hR hS hl) (fun q => kf q p e s m args below meth c H locs lsM hC hR hS hl)

theorem xw_if_gt {x : Int32} {off : Int} {tgt : Nat} (hd : decode M.2.1 pc = .ok (.ifCond .gt off, 3)) (ht : (pc : Int) + off = (tgt : Int)) (kt : (0 < x) → xWP L O M R K tgt ls st G cs ns) (kf : (¬ 0 < x) → xWP L O M R K (pc + 3) ls st G cs ns) : xWP L O M R K pc ls (.int x :: st) G cs ns := by
  intro p e s m args below meth c H locs lsM hC hR hS hl
  exact lv_if_gt hC.1 hC.2.1 hd ht (fun q => kt q p e s m args below meth c H locs lsM hC hR hS hl) (fun q => kf q p e s m args below meth c H locs lsM hC hR hS hl)

theorem xw_icmp_gt {x y : Int32} {off : Int} {tgt : Nat} (hd : decode M.2.1 pc = .ok (.if_icmp .gt off, 3)) (ht : (pc : Int) + off = (tgt : Int)) (kt : (y < x) → xWP L O M R K tgt ls st G cs ns) (kf : (¬ y < x) → xWP L O M R K (pc + 3) ls st G cs ns) : xWP L O M R K pc ls (.int y :: .int x :: st) G cs ns := by
  intro p e s m args below meth c H locs lsM hC hR hS hl
  exact lv_icmp_gt hC.1 hC.2.1 hd ht (fun q => kt q p e s m args below meth c H locs lsM hC hR hS hl) (fun q => kf q p e s m args below meth c H locs lsM hC hR hS hl)

theorem xw_if_le {x : Int32} {off : Int} {tgt : Nat} (hd : decode M.2.1 pc = .ok (.ifCond .le off, 3)) (ht : (pc : Int) + off = (tgt : Int)) (kt : (x ≤ 0) → xWP L O M R K tgt ls st G cs ns) (kf : (¬ x ≤ 0) → xWP L O M R K (pc + 3) ls st G cs ns) : xWP L O M R K pc ls (.int x :: st) G cs ns := by
  intro p e s m args below meth c H locs lsM hC hR hS hl
  exact lv_if_le hC.1 hC.2.1 hd ht (fun q => kt q p e s m args below meth c H locs lsM hC hR hS hl) (fun q => kf q p e s m args below meth c H locs lsM hC hR hS hl)

theorem xw_icmp_le {x y : Int32} {off : Int} {tgt : Nat} (hd : decode M.2.1 pc = .ok (.if_icmp .le off, 3)) (ht : (pc : Int) + off = (tgt : Int)) (kt : (x ≤ y) → xWP L O M R K tgt ls st G cs ns) (kf : (¬ x ≤ y) → xWP L O M R K (pc + 3) ls st G cs ns) : xWP L O M R K pc ls (.int y :: .int x :: st) G cs ns := by
  intro p e s m args below meth c H locs lsM hC hR hS hl
  exact lv_icmp_le hC.1 hC.2.1 hd ht (fun q => kt q p e s m args below meth c H locs lsM hC hR hS hl) (fun q => kf q p e s m args below meth c H locs lsM hC hR hS hl)

theorem xw_goto {off : Int} {tgt : Nat} (hd : decode M.2.1 pc = .ok (.goto off, 3)) (ht : (pc : Int) + off = (tgt : Int)) (k : xWP L O M R K tgt ls st G cs ns) : xWP L O M R K pc ls st G cs ns := by
  intro p e s m args below meth c H locs lsM hC hR hS hl
  exact lv_goto hC.1 hC.2.1 hd ht (k p e s m args below meth c H locs lsM hC hR hS hl)

theorem xw_tabIn {dflt lo hi : Int} {offs : Array Int} {len : Nat} {x : Int32} {off : Int} {tgt : Nat} (hd : decode M.2.1 pc = .ok (.tableswitch dflt lo hi offs, len)) (h1 : ¬ x.toInt < lo) (h2 : ¬ hi < x.toInt) (ho : offs[(x.toInt - lo).toNat]? = some off) (ht : (pc : Int) + off = (tgt : Int)) (k : xWP L O M R K tgt ls st G cs ns) : xWP L O M R K pc ls (.int x :: st) G cs ns := by
  intro p e s m args below meth c H locs lsM hC hR hS hl
  exact lv_tableIn hC.1 hC.2.1 hd h1 h2 ho ht (k p e s m args below meth c H locs lsM hC hR hS hl)

theorem xw_tabOut {dflt lo hi : Int} {offs : Array Int} {len : Nat} {x : Int32} {tgt : Nat} (hd : decode M.2.1 pc = .ok (.tableswitch dflt lo hi offs, len)) (h : x.toInt < lo ∨ hi < x.toInt) (ht : (pc : Int) + dflt = (tgt : Int)) (k : xWP L O M R K tgt ls st G cs ns) : xWP L O M R K pc ls (.int x :: st) G cs ns := by
  intro p e s m args below meth c H locs lsM hC hR hS hl
  exact lv_tableOut hC.1 hC.2.1 hd h ht (k p e s m args below meth c H locs lsM hC hR hS hl)

theorem xw_lookup {dflt : Int} {ps : Array (Int × Int)} {len : Nat} {x : Int32} {off : Int} {tgt : Nat} (hd : decode M.2.1 pc = .ok (.lookupswitch dflt ps, len)) (hp : (ps.toList.zip (ps.toList.drop 1)).all (fun (a, next) => a.1 < next.1) = true) (ho : Op.lookupswitch.offset ps.toList dflt x.toInt = off) (ht : (pc : Int) + off = (tgt : Int)) (k : xWP L O M R K tgt ls st G cs ns) : xWP L O M R K pc ls (.int x :: st) G cs ns := by
  intro p e s m args below meth c H locs lsM hC hR hS hl
  exact lv_lookup hC.1 hC.2.1 hd hp ho ht (k p e s m args below meth c H locs lsM hC hR hS hl)

theorem xF {O : xWd} {s : State} {H : Heap} {locs : List Loc} {t : State} (hS : va_S (xA O) s.heap H locs) (ht : t.heap = H) : va_F (xA O) s t := hS.F ht

theorem xw_iret {v : Int32} {ty : FieldType} (hd : decode M.2.1 pc = .ok (.ireturn, 1)) (hr : M.2.2.2.1 = some ty) (hn : narrow ty (.int v) = .int v) (hc : cs ≤ R.cells) (hs : ns ≤ R.slots) (hK : K (.inl (some (.int v))) G) : xWP L O M R K pc ls [.int v] G cs ns := by
  intro p e s m args below meth c H locs lsM hC hR hS hl
  refine W.widen hc hs (vx_ret ?_)
  exact W.zret hC.1 hC.2.1 (by rw [hC.2.2.2.1]; exact hr) hn (fun t ht hW => ⟨some (.int v), G, rfl, hK, by rw [ht]; exact hR, xF hS ht⟩) hS.2.2 hd hC.2.2.2.2.2.2.1

theorem xw_lret {v : Int64} (hd : decode M.2.1 pc = .ok (.lreturn, 1)) (hr : M.2.2.2.1 = some .long) (hc : cs ≤ R.cells) (hs : ns ≤ R.slots) (hK : K (.inl (some (.long v))) G) : xWP L O M R K pc ls [.long v] G cs ns := by
  intro p e s m args below meth c H locs lsM hC hR hS hl
  refine W.widen hc hs (vx_ret ?_)
  exact W.lret hC.1 hC.2.1 (by rw [hC.2.2.2.1]; exact hr) (fun t ht hW => ⟨some (.long v), G, rfl, hK, by rw [ht]; exact hR, xF hS ht⟩) hS.2.2 hd hC.2.2.2.2.2.2.1

theorem xw_fret {v : UInt32} (hd : decode M.2.1 pc = .ok (.freturn, 1)) (hr : M.2.2.2.1 = some .float) (hc : cs ≤ R.cells) (hs : ns ≤ R.slots) (hK : K (.inl (some (.float v))) G) : xWP L O M R K pc ls [.float v] G cs ns := by
  intro p e s m args below meth c H locs lsM hC hR hS hl
  refine W.widen hc hs (vx_ret ?_)
  exact W.fret hC.1 hC.2.1 (by rw [hC.2.2.2.1]; exact hr) (fun t ht hW => ⟨some (.float v), G, rfl, hK, by rw [ht]; exact hR, xF hS ht⟩) hS.2.2 hd hC.2.2.2.2.2.2.1

theorem xw_vret (hd : decode M.2.1 pc = .ok (.return_, 1)) (hr : M.2.2.2.1 = none) (hc : cs ≤ R.cells) (hs : ns ≤ R.slots) (hK : K (.inl none) G) : xWP L O M R K pc ls [] G cs ns := by
  intro p e s m args below meth c H locs lsM hC hR hS hl
  refine W.widen hc hs (vx_ret ?_)
  exact W.vret hC.1 hC.2.1 (by rw [hC.2.2.2.1]; exact hr) (fun t ht hW => ⟨none, G, rfl, hK, by rw [ht]; exact hR, xF hS ht⟩) hS.2.2 hd hC.2.2.2.2.2.2.1
theorem xw_aret {i : Nat} {rt : FieldType} (hd : decode M.2.1 pc = .ok (.areturn, 1)) (hr : M.2.2.2.1 = some rt) (hrt : (∃ n, rt = .object n) ∨ ∃ t, rt = .array t) (hc : cs ≤ R.cells) (hs : ns ≤ R.slots) (hK : K (.inl (some (.ref i))) G) : xWP L O M R K pc ls [.ref i] G cs ns := by
  intro p e s m args below meth c H locs lsM hC hR hS hl
  refine W.widen hc hs (vx_ret ?_)
  exact W.aret hC.1 hC.2.1 (by rw [hC.2.2.2.1]; exact hr) hrt (Or.inr ⟨_, rfl⟩) (fun t ht hW => ⟨some (.ref i), G, rfl, hK, by rw [ht]; exact hR, xF hS ht⟩) hS.2.2 hd hC.2.2.2.2.2.2.1

end XR
end
section
section XH
variable {L : Launch} {O : xWd} {M : xMd} {R : Room} {K : xOc → List xOb → Prop} {pc : Nat} {ls : List (Nat × Value)} {st : List Value} {G : List xOb} {cs ns : Nat}
theorem xcl_find {c : Nat} {q : vw_C} {U : State} (h : xKn O U) (hc : xcl[c]? = some q) : u_Kn U q.1 q.2.1 q.2.2 (O.1.1 c) (O.1.2 c) := h.1.1 c q hc
theorem xgetD {vs : List Value} {k : Nat} {v : Value} (h : vs[k]? = some v) : vs.getD k .null = v := by
  rw [List.getD_eq_getElem?_getD, h]; rfl
theorem xlen {vs : List Value} {k : Nat} {v : Value} (h : vs[k]? = some v) : k < vs.length := (List.getElem?_eq_some_iff.mp h).1
/-- a field is read -/
theorem xw_getf {i ci k idx N : Nat} {fs : List Value} {C : String} {T : u_T} {v : Value} (hi : i < xBig) (hd : decode M.2.1 pc = .ok (.getfield idx, 3)) (hg : G[i]? = some (ci, fs)) (hci : ci < 64) (hc : xcl[ci]? = some (C, T, N)) (hin : ∀ w ∈ u_ws C T N, w ∈ xTG) (hk : k < N)
    (hw : Cond.fieldLink M.1.cls idx (T k).1 (T k).2.1 (T k).2.2.1 ∈ xTG ∨ ∃ host, Cond.fieldLinkNest M.1.cls idx (T k).1 (T k).2.1 (T k).2.2.1 host ∈ xTN) (hv : fs[k]? = some v) (kk : xWP L O M R K (pc + 3) ls (v :: st) G cs ns) : xWP L O M R K pc ls (.ref i :: st) G cs ns := by
  intro p e s m args below meth c H locs lsM hC hR hS hl
  obtain ⟨hx, hb, -, -, hown, hts, -, -, -, -, hK, hE, -⟩ := id hC
  obtain ⟨r, h1, -, cell, q1, q2, q3, q4⟩ := xobj hR hg hci
  cases h1.symm.trans hc
  obtain ⟨hSl, hfc, kC, hkC, hkind⟩ := xcl_find hK hc
  obtain ⟨cf, kf, fi, f, hif, hsl⟩ := hSl k hk
  have h9 := kk p e s m args below meth c H locs lsM hC hR hS hl
  have e1 : cell.slots[f.slot]? = some (xtr O v) := by
    rw [hsl, q4 k hk]
    show some (xtr O (fs.getD k .null)) = _
    rw [xgetD hv]
  show W p L e R s m args below meth c H locs cs ns _ (F0 m pc lsM (xtr O (.ref i) :: st.map (xtr O)))
  rw [xtr_id hi]
  rcases hw with hw | ⟨host, hw⟩
  · exact W.getf hx hb hown (hts _ hw) hif (u_facts hfc hkC (u_lays hts hin hk) hif).1 q1 (by rw [q3]; exact fun h => by cases h) e1 rfl rfl hd h9
  · exact va_Wgetf hx hb hown (va_Nw.use rfl (hE.2.2.2.2.1 _ hw)) hif (u_facts hfc hkC (u_lays hts hin hk) hif).1 q1 (by rw [q3]; exact fun h => by cases h) e1 rfl rfl hd h9
theorem xset_getD {vs : List Value} {k : Nat} {v : Value} (hk : k < vs.length) (j : Nat) : (vs.set k v).getD j .null = if j = k then v else vs.getD j .null := by
  by_cases h : j = k
  · subst h
    rw [if_pos rfl, List.getD_eq_getElem?_getD, List.getElem?_set_self hk]; rfl
  · rw [if_neg h, List.getD_eq_getElem?_getD, List.getElem?_set_ne (Ne.symm h), ← List.getD_eq_getElem?_getD]
/-- a field is written: a final one in its class's constructor -/
theorem xw_putf {i ci k idx N : Nat} {fs : List Value} {C : String} {T : u_T} {v : Value} (ty0 : Nat → FieldType) {ty : FieldType} (hi : i < xBig) (hd : decode M.2.1 pc = .ok (.putfield idx, 3)) (hg : G[i]? = some (ci, fs)) (hci : ci < 64) (hc : xcl[ci]? = some (C, T, N)) (hin : ∀ w ∈ u_ws C T N, w ∈ xTG) (hk : k < N)
    (hty : ∀ k, k < N → parseFieldDescriptor (T k).2.2.1 = some (ty0 k)) (hnm : ∀ a, a < N → ∀ b, b < N → a ≠ b → (T a).2.1 ≠ (T b).2.1) (hf : (T k).2.2.2 = false ∨ ((T k).2.2.2 = true ∧ M.1.name = "<init>" ∧ (T k).1 = M.1.cls))
    (hw : Cond.fieldLink M.1.cls idx (T k).1 (T k).2.1 (T k).2.2.1 ∈ xTG ∨ ((T k).2.2.2 = false ∧ ∃ host, Cond.fieldLinkNest M.1.cls idx (T k).1 (T k).2.1 (T k).2.2.1 host ∈ xTN)) (he : ty0 k = ty) (hn : narrow ty (xtr O v) = xtr O v) (hfit : fits ty (xtr O v) = true)
    (kk : xWP L O M R K (pc + 3) ls st (G.set i (ci, fs.set k v)) cs ns) : xWP L O M R K pc ls (v :: .ref i :: st) G cs ns := by
  intro p e s m args below meth c H locs lsM hC hR hS hl
  obtain ⟨hx, hb, -, -, hown, hts, -, hmn, -, -, hK, hE, -⟩ := id hC
  obtain ⟨r, h1, hlen, cell, q1, q2, q3, q4⟩ := xobj hR hg hci
  cases h1.symm.trans hc
  have hlen : fs.length = N := hlen
  have hap : ∀ x y, x < N → y < N → x ≠ y → (O.1.2 ci) x ≠ (O.1.2 ci) y := va_apart (own := C) (C := C) (T := T) hts hin ty0 hty hnm hK.1 hc
  obtain ⟨hSl, hfc, kC, hkC, hkind⟩ := xcl_find hK hc
  obtain ⟨cf, kf, fi, f, hif, hsl⟩ := hSl k hk
  have hst := (u_facts hfc hkC (u_lays hts hin hk) hif).1
  have hd9 : parseFieldDescriptor (T k).2.2.1 = some ty := by rw [hty k hk, he]
  have fin : ∀ H' : Heap, H'[O.2.2.1 + i]? = some (cell.setSlot f.slot (xtr O v)) → H'.size = H.size → (∀ q, q ≠ O.2.2.1 + i → H'[q]? = H[q]?) → W p L e R s m args below meth c H' (locs ++ [⟨O.2.2.1 + i, f.slot⟩]) cs ns (vx_MQ below (xQc O K) (xXC O K) args s R.cells R.slots (xA O)) (F0 m (pc + 3) lsM (st.map (xtr O))) := by
    intro H' e1 e2 e3
    refine kk p e s m args below meth c H' _ lsM hC (hR.set hg e2 ?_ e3) (hS.put e2 e3 (by show O.2.2.1 ≤ _; omega)) hl
    unfold xobAt
    rw [if_pos hci]
    refine ⟨_, hc, by rw [List.length_set]; exact hlen, ?_⟩
    rw [hsl] at e1
    refine t_OB.to (V := updV (fun k => xtr O (fs.getD k .null)) k (xtr O v)) ⟨_, e1, q2, q3, t_set q4 hap hk (xtr O v)⟩ (fun j _ => ?_)
    show (if j = k then xtr O v else xtr O (fs.getD j .null)) = xtr O ((fs.set k v).getD j .null)
    rw [xset_getD (by omega)]
    split <;> rfl
  show W p L e R s m args below meth c H locs cs ns _ (F0 m pc lsM (xtr O v :: xtr O (.ref i) :: st.map (xtr O)))
  rw [xtr_id hi]
  have hlt : f.slot < cell.slots.size := by rw [hsl]; exact k2_hasslot (q4 k hk)
  have hlay := hts _ (hin _ (u_in_lay hk))
  unfold u_lay at hlay
  rcases hf with hf | ⟨hf, hin2, hdecl⟩
  · rw [if_neg (by rw [hf]; decide)] at hlay
    have h6 := u_store hfc hkC hkind hlay hif hd9 hn hfit
    rcases hw with hw | ⟨-, host, hw⟩
    · exact W.putK hx hb (f := f) ⟨hown, hts _ hw, ⟨_, _, _, hif⟩, hst⟩ (by rw [q2]; exact h6) q1 q3 hlt rfl rfl hd fin
    · exact va_WputK hx hb (f := f) hown (va_Nw.use rfl (hE.2.2.2.2.1 _ hw)) hif hst (by rw [q2]; exact h6) q1 q3 hlt rfl rfl hd fin
  · rw [if_pos hf] at hlay
    have hcf : m.cls = cf := by
      obtain ⟨_, _, c', _, _, _, -, -, hf', -, -, -, hown2, -⟩ := Cond.laysFinal_spec hlay
      have e1 : c' = cf := by have := hif.symm.trans hf'; simp at this; exact this.1.symm
      rw [hdecl] at hown2
      rw [← e1]; exact Option.some.inj (hown.symm.trans hown2)
    have h6 := u_fits hfc hkC hkind (Or.inr hlay) hif hd9 hn hfit
    rcases hw with hw | ⟨hf2, -⟩
    · exact W.putFinK hx hb hown (hts _ hw) hif hst hcf (by rw [hmn]; exact hin2) (by rw [q2]; exact h6) q1 q3 hlt rfl rfl hd fin
    · rw [hf] at hf2; cases hf2
/-- a new object -/
theorem xw_new {ci idx N : Nat} {fs : List Value} {C : String} {T : u_T} (ty0 : Nat → FieldType) (hd : decode M.2.1 pc = .ok (.new idx, 3)) (hci : ci < 64) (hc : xcl[ci]? = some (C, T, N)) (hin : ∀ w ∈ u_ws C T N, w ∈ xTG) (hty : ∀ k, k < N → parseFieldDescriptor (T k).2.2.1 = some (ty0 k))
    (w1 : Cond.classLink M.1.cls idx C ∈ xTG) (w2 : Cond.instantiable C N ∈ xTG) (w3 : Cond.initialized C ∈ xTG) (hlen : fs.length = N) (hfs : ∀ j, j < N → defaultValue (ty0 j) = xtr O (fs.getD j .null)) (hG : G.length + 1 < xBig) (hcs : cs + 1 ≤ R.cells) (hns : ns + N ≤ R.slots)
    (kk : xWP L O M R K (pc + 3) ls (.ref G.length :: st) (G ++ [(ci, fs)]) (cs + 1) (ns + N)) : xWP L O M R K pc ls st G cs ns := by
  intro p e s m args below meth c H locs lsM hC hR hS hl
  obtain ⟨hx, hb, -, -, hown, hts, -, -, -, -, hK, hE, -⟩ := id hC
  have hKn := xcl_find hK hc
  refine W.newcK hx hb hown (hts _ w1) (hts _ w2) (hts _ w3) rfl hd hcs hns hKn.2.1 rfl fun H1 kC hkC e1 z1 o1 => ?_
  have h9 := kk p e s m args below meth c H1 locs lsM hC (hR.push z1 hG (by
    unfold xobAt
    rw [if_pos hci]
    refine ⟨_, hc, hlen, ?_⟩
    rw [← hR.1]
    exact (u_born ty0 hts hin hKn hkC e1 hty).to hfs) o1) ⟨Nat.le_trans hS.1 (by omega), fun x h1 h2 => (o1 x (Nat.lt_of_lt_of_le h1 hS.1)).trans (hS.2.1 x h1 h2), hS.2.2⟩ hl
  have e2 : xtr O (.ref G.length) = .ref H.size := by rw [xtr_id (by omega), hR.1]
  rw [List.map_cons, e2] at h9
  exact h9
/-- a new array of numbers -/
theorem xw_newa {t : Nat} {atype : ArrayType} {n : Int32} {N : Nat} {d : Value} (hd : decode M.2.1 pc = .ok (.newarray atype, 2)) (ht : t < 63) (hat : xaT[t]? = some (newarray.typeOf atype)) (w1 : Cond.arrayClass (newarray.typeOf atype) ∈ xTG) (hn : n = nI N) (hN : N ≤ 65536) (hv : defaultValue (newarray.typeOf atype) = xtr O d) (hcb : componentBytes (newarray.typeOf atype) ≤ 8) (hG : G.length + 1 < xBig) (hcs : cs + 1 ≤ R.cells) (hns : ns + N ≤ R.slots)
    (kk : xWP L O M R K (pc + 2) ls (.ref G.length :: st) (G ++ [(64 + t, List.replicate N d)]) (cs + 1) (ns + N)) : xWP L O M R K pc ls (.int n :: st) G cs ns := by
  intro p e s m args below meth c H locs lsM hC hR hS hl
  obtain ⟨hx, hb, -, -, hown, hts, -, -, -, -, hK, hE, -⟩ := id hC
  subst hn
  have hcl : (nI N).toNatClampNeg = N := nI_clamp (by omega)
  refine va_newaK hx hb (hts _ w1) rfl hd rfl (nI_pos (by omega)) hcl (by
    have h1 := Nat.mul_le_mul hN hcb
    omega) hcs hns rfl fun H1 cA e1 z1 o1 hAr hNm => ?_
  have hcA : cA = O.2.1 t := by
    have h2 := (hK.2 t _ hat).2
    have h3 : s.vm.findClass ("[" ++ (newarray.typeOf atype).toString) = some (O.2.1 t) := by
      cases atype <;> exact h2
    exact Option.some.inj (hNm.symm.trans h3)
  subst hcA
  have h9 := kk p e s m args below meth c H1 locs lsM hC (hR.push z1 hG (by
    unfold xobAt
    rw [if_neg (by show ¬ 64 + t < 64; omega), if_pos (by show 64 + t < 127; omega)]
    show H1[O.2.2.1 + G.length]? = some (arrV (O.2.1 (64 + t - 64)) (List.replicate N d).length _)
    rw [← hR.1, e1, show 64 + t - 64 = t by omega, List.length_replicate]
    refine congrArg some ?_
    unfold arrV
    congr 1
    refine congrArg _ (funext fun j => ?_)
    rw [hv]
    show xtr O d = xtr O ((List.replicate N d).getD j.val .null)
    rw [List.getD_eq_getElem?_getD, List.getElem?_replicate, if_pos j.isLt]; rfl) o1) ⟨Nat.le_trans hS.1 (by omega), fun x h1 h2 => (o1 x (Nat.lt_of_lt_of_le h1 hS.1)).trans (hS.2.1 x h1 h2), hS.2.2⟩ hl
  have e2 : xtr O (.ref G.length) = .ref H.size := by rw [xtr_id (by omega), hR.1]
  rw [List.map_cons, e2] at h9
  exact h9
end XH
end
section
section XARR
variable {L : Launch} {O : xWd} {M : xMd} {R : Room} {K : xOc → List xOb → Prop} {pc : Nat} {ls : List (Nat × Value)} {st : List Value} {G : List xOb} {cs ns : Nat}
theorem xarrOf {U : State} {t : Nat} {ty : FieldType} (hK : xKn O U) (ht : xaT[t]? = some ty) (n : Nat) (f : Nat → Value) : U.isArrayOf (arrV (O.2.1 t) n f) ty := (hK.2 t ty ht).1 n f
theorem xin {x : Int32} {j n : Nat} {f : Nat → Value} {cA : ClassId} (hx : x = nI j) (hj : j < n) (hb : n < 2147483648) : ¬ (x < 0 ∨ (arrV cA n f).slots.size ≤ x.toNatClampNeg) := by
  rw [arrV_size, hx]
  exact nI_in hj (by omega)
theorem xrd {x : Int32} {j n : Nat} {vs : List Value} {v : Value} {cA : ClassId} (hx : x = nI j) (hn : n = vs.length) (hb : n < 2147483648) (hv : vs[j]? = some v) : (arrV cA n (fun k => xtr O (vs.getD k .null))).slots[x.toNatClampNeg]? = some (xtr O v) := by
  have hj := xlen hv
  rw [hx, nI_clamp (by omega), arrV_read _ _ (by omega), xgetD hv]
theorem xarr_set {i t j : Nat} {vs : List Value} {v : Value} {H H1 : Heap} {locs : List Loc} {s : State} (hR : xRep O G H) (hS : va_S (xA O) s.heap H locs) (hg : G[i]? = some (64 + t, vs)) (ht : t < 63) (hj : j < vs.length)
    (e : H1[O.2.2.1 + i]? = some ((arrV (O.2.1 t) vs.length (fun k => xtr O (vs.getD k .null))).setSlot j (xtr O v))) (z : H1.size = H.size) (oq : ∀ q, q ≠ O.2.2.1 + i → H1[q]? = H[q]?) :
    xRep O (G.set i (64 + t, vs.set j v)) H1 ∧ va_S (xA O) s.heap H1 (locs ++ [⟨O.2.2.1 + i, j⟩]) := by
  refine ⟨hR.set hg z ?_ oq, hS.put z oq (by show O.2.2.1 ≤ _; omega)⟩
  unfold xobAt
  rw [if_neg (by show ¬ 64 + t < 64; omega), if_pos (by show 64 + t < 127; omega)]
  show H1[O.2.2.1 + i]? = some (arrV (O.2.1 (64 + t - 64)) (vs.set j v).length (fun k => xtr O ((vs.set j v).getD k .null)))
  rw [e, show 64 + t - 64 = t by omega, List.length_set, arrV_store]
  refine congrArg some (congrArg (arrV _ _) (funext fun q => ?_))
  show (if q = j then xtr O v else xtr O (vs.getD q .null)) = xtr O ((vs.set j v).getD q .null)
  rw [xset_getD hj]
  split <;> rfl
theorem xw_iald {i j : Nat} {x : Int32} {vs : List Value} {v : Value} (hi : i < xBig) (hd : decode M.2.1 pc = .ok (.iaload, 1)) (hat : xaT[0]? = some .int) (hg : G[i]? = some (64, vs)) (hx : x = nI j) (hb : vs.length < 2147483648) (hv : vs[j]? = some v) (kk : xWP L O M R K (pc + 1) ls (v :: st) G cs ns) : xWP L O M R K pc ls (.int x :: .ref i :: st) G cs ns := by
  intro p e s m args below meth c H locs lsM hC hR hS hl
  have h9 := kk p e s m args below meth c H locs lsM hC hR hS hl
  show W p L e R s m args below meth c H locs cs ns _ (F0 m pc lsM (.int x :: xtr O (.ref i) :: st.map (xtr O)))
  rw [xtr_id hi]
  exact W.iald hC.1 hC.2.1 (xarr (t := 0) hR hg (by omega)) (xarrOf hC.2.2.2.2.2.2.2.2.2.2.1 hat _ _) (fun q => by cases q) (xin hx (xlen hv) hb) (xrd hx rfl hb hv) rfl rfl hd h9
theorem xw_zald {i j : Nat} {x : Int32} {vs : List Value} {v : Value} (hi : i < xBig) (hd : decode M.2.1 pc = .ok (.baload, 1)) (hat : xaT[1]? = some .boolean) (hg : G[i]? = some (65, vs)) (hx : x = nI j) (hb : vs.length < 2147483648) (hv : vs[j]? = some v) (kk : xWP L O M R K (pc + 1) ls (v :: st) G cs ns) : xWP L O M R K pc ls (.int x :: .ref i :: st) G cs ns := by
  intro p e s m args below meth c H locs lsM hC hR hS hl
  have h9 := kk p e s m args below meth c H locs lsM hC hR hS hl
  show W p L e R s m args below meth c H locs cs ns _ (F0 m pc lsM (.int x :: xtr O (.ref i) :: st.map (xtr O)))
  rw [xtr_id hi]
  exact W.zald hC.1 hC.2.1 (xarr (t := 1) hR hg (by omega)) (xarrOf hC.2.2.2.2.2.2.2.2.2.2.1 hat _ _) (fun q => by cases q) (xin hx (xlen hv) hb) (xrd hx rfl hb hv) rfl rfl hd h9
theorem xw_cald {i j : Nat} {x : Int32} {vs : List Value} {v : Value} (hi : i < xBig) (hd : decode M.2.1 pc = .ok (.caload, 1)) (hat : xaT[2]? = some .char) (hg : G[i]? = some (66, vs)) (hx : x = nI j) (hb : vs.length < 2147483648) (hv : vs[j]? = some v) (kk : xWP L O M R K (pc + 1) ls (v :: st) G cs ns) : xWP L O M R K pc ls (.int x :: .ref i :: st) G cs ns := by
  intro p e s m args below meth c H locs lsM hC hR hS hl
  have h9 := kk p e s m args below meth c H locs lsM hC hR hS hl
  show W p L e R s m args below meth c H locs cs ns _ (F0 m pc lsM (.int x :: xtr O (.ref i) :: st.map (xtr O)))
  rw [xtr_id hi]
  exact W.cald hC.1 hC.2.1 (xarr (t := 2) hR hg (by omega)) (xarrOf hC.2.2.2.2.2.2.2.2.2.2.1 hat _ _) (fun q => by cases q) (xin hx (xlen hv) hb) (xrd hx rfl hb hv) rfl rfl hd h9
theorem xw_aald (t : Nat) {ty : FieldType} {i j : Nat} {x : Int32} {vs : List Value} {v : Value} (hi : i < xBig) (hd : decode M.2.1 pc = .ok (.aaload, 1)) (ht : t < 63) (hat : xaT[t]? = some ty) (href : ty.isReference = true) (hg : G[i]? = some (64 + t, vs)) (hx : x = nI j) (hb : vs.length < 2147483648) (hv : vs[j]? = some v) (kk : xWP L O M R K (pc + 1) ls (v :: st) G cs ns) : xWP L O M R K pc ls (.int x :: .ref i :: st) G cs ns := by
  intro p e s m args below meth c H locs lsM hC hR hS hl
  have h9 := kk p e s m args below meth c H locs lsM hC hR hS hl
  show W p L e R s m args below meth c H locs cs ns _ (F0 m pc lsM (.int x :: xtr O (.ref i) :: st.map (xtr O)))
  rw [xtr_id hi]
  exact W.aald hC.1 hC.2.1 (xarr hR hg ht) (xarrOf hC.2.2.2.2.2.2.2.2.2.2.1 hat _ _) href (fun q => by cases q) (xin hx (xlen hv) hb) (xrd hx rfl hb hv) rfl rfl hd h9
theorem xw_alen (t : Nat) {ty : FieldType} {i : Nat} {vs : List Value} {n : Int32} (hi : i < xBig) (hd : decode M.2.1 pc = .ok (.arraylength, 1)) (ht : t < 63) (hat : xaT[t]? = some ty) (hg : G[i]? = some (64 + t, vs)) (hn : n = nI vs.length) (kk : xWP L O M R K (pc + 1) ls (.int n :: st) G cs ns) : xWP L O M R K pc ls (.ref i :: st) G cs ns := by
  intro p e s m args below meth c H locs lsM hC hR hS hl
  have h9 := kk p e s m args below meth c H locs lsM hC hR hS hl
  show W p L e R s m args below meth c H locs cs ns _ (F0 m pc lsM (xtr O (.ref i) :: st.map (xtr O)))
  rw [xtr_id hi]
  exact W.alen hC.1 hC.2.1 (xarr hR hg ht) (xarrOf hC.2.2.2.2.2.2.2.2.2.2.1 hat _ _) (by rw [arrV_size, hn]; rfl) rfl rfl hd h9
theorem xw_iast {i j : Nat} {x y : Int32} {vs : List Value} (hi : i < xBig) (hd : decode M.2.1 pc = .ok (.iastore, 1)) (hat : xaT[0]? = some .int) (hg : G[i]? = some (64, vs)) (hx : x = nI j) (hj : j < vs.length) (hb : vs.length < 2147483648) (kk : xWP L O M R K (pc + 1) ls st (G.set i (64, vs.set j (.int y))) cs ns) : xWP L O M R K pc ls (.int y :: .int x :: .ref i :: st) G cs ns := by
  intro p e s m args below meth c H locs lsM hC hR hS hl
  show W p L e R s m args below meth c H locs cs ns _ (F0 m pc lsM (.int y :: .int x :: xtr O (.ref i) :: st.map (xtr O)))
  rw [xtr_id hi]
  refine W.iast hC.1 hC.2.1 (xarr (t := 0) hR hg (by omega)) (xarrOf hC.2.2.2.2.2.2.2.2.2.2.1 hat _ _) (fun q => by cases q) (xin hx hj hb) rfl rfl hd fun H1 e1 z1 o1 => ?_
  rw [hx, nI_clamp (by omega)] at e1 ⊢
  obtain ⟨h1, h2⟩ := xarr_set (t := 0) (v := .int y) hR hS hg (by omega) hj e1 z1 o1
  exact kk p e s m args below meth c H1 _ lsM hC h1 h2 hl
theorem xw_zast {i j : Nat} {x y : Int32} {vs : List Value} (hi : i < xBig) (hd : decode M.2.1 pc = .ok (.bastore, 1)) (hat : xaT[1]? = some .boolean) (hg : G[i]? = some (65, vs)) (hx : x = nI j) (hj : j < vs.length) (hb : vs.length < 2147483648) (hn : narrow .boolean (.int y) = .int y) (kk : xWP L O M R K (pc + 1) ls st (G.set i (65, vs.set j (.int y))) cs ns) : xWP L O M R K pc ls (.int y :: .int x :: .ref i :: st) G cs ns := by
  intro p e s m args below meth c H locs lsM hC hR hS hl
  show W p L e R s m args below meth c H locs cs ns _ (F0 m pc lsM (.int y :: .int x :: xtr O (.ref i) :: st.map (xtr O)))
  rw [xtr_id hi]
  refine W.zast hC.1 hC.2.1 (xarr (t := 1) hR hg (by omega)) (xarrOf hC.2.2.2.2.2.2.2.2.2.2.1 hat _ _) (fun q => by cases q) (xin hx hj hb) rfl rfl hd fun H1 e1 z1 o1 => ?_
  rw [hx, nI_clamp (by omega), hn] at e1
  rw [hx, nI_clamp (by omega)]
  obtain ⟨h1, h2⟩ := xarr_set (t := 1) (v := .int y) hR hS hg (by omega) hj e1 z1 o1
  exact kk p e s m args below meth c H1 _ lsM hC h1 h2 hl
/-- an object is put into an array of its class -/
theorem xw_aast (t : Nat) {i j v ci N : Nat} {x : Int32} {vs fs : List Value} {C : String} {T : u_T} (hi : i < xBig) (hv : v < xBig) (hd : decode M.2.1 pc = .ok (.aastore, 1)) (ht : t < 63) (hat : xaT[t]? = some (.object C)) (hg : G[i]? = some (64 + t, vs)) (ho : G[v]? = some (ci, fs)) (hci : ci < 64) (hc : xcl[ci]? = some (C, T, N)) (hx : x = nI j) (hj : j < vs.length) (hb : vs.length < 2147483648)
    (kk : xWP L O M R K (pc + 1) ls st (G.set i (64 + t, vs.set j (.ref v))) cs ns) : xWP L O M R K pc ls (.ref v :: .int x :: .ref i :: st) G cs ns := by
  intro p e s m args below meth c H locs lsM hC hR hS hl
  have hK := hC.2.2.2.2.2.2.2.2.2.2.1
  obtain ⟨r, h1, -, cellV, g1, g2, g3, -⟩ := xobj hR ho hci
  have hcls := (xcl_find hK hc).2
  obtain ⟨kA, comp, k1, k2, k3, -⟩ := (hK.2 t _ hat).2
  have hcomp : comp = O.1.1 ci := Option.some.inj (k3.symm.trans hcls.1)
  subst hcomp
  obtain ⟨kC, hkC, -⟩ := hcls.2
  show W p L e R s m args below meth c H locs cs ns _ (F0 m pc lsM (xtr O (.ref v) :: .int x :: xtr O (.ref i) :: st.map (xtr O)))
  rw [xtr_id hi, xtr_id hv]
  refine W.aast hC.1 hC.2.1 (xarr hR hg ht) (fun q h => by cases h) (fun h => by cases h) k1 k2 rfl hkC ⟨fun q => (xin (cA := O.2.1 t) (f := fun _ => .null) hx hj hb) (Or.inl q), by rw [arrV_size, hx, nI_clamp (by omega)]; exact hj⟩ g1 (fun q h => by rw [g3] at h; cases h) (by rw [g2]; exact hkC) (by rw [g2]; exact va_assign hcls) rfl rfl hd fun H1 e1 z1 o1 => ?_
  rw [hx, nI_clamp (by omega)] at e1 ⊢
  obtain ⟨h1, h2⟩ := xarr_set (v := .ref v) hR hS hg ht hj (by rw [e1, xtr_id hv]) z1 o1
  exact kk p e s m args below meth c H1 _ lsM hC h1 h2 hl
/-- a new array of objects -/
theorem xw_anew {t idx : Nat} {C : String} {n : Int32} {N : Nat} (hd : decode M.2.1 pc = .ok (.anewarray idx, 3)) (ht : t < 63) (hat : xaT[t]? = some (.object C)) (w1 : Cond.classLink M.1.cls idx C ∈ xTG) (hAO : ∀ (U : State) (H : Heap), xEy O.2.2.1 O.2.2.2.1 U H → va_AO C U) (hn : n = nI N) (hN : N ≤ 65536) (hG : G.length + 1 < xBig) (hcs : cs + 1 ≤ R.cells) (hns : ns + N ≤ R.slots)
    (kk : xWP L O M R K (pc + 3) ls (.ref G.length :: st) (G ++ [(64 + t, List.replicate N .null)]) (cs + 1) (ns + N)) : xWP L O M R K pc ls (.int n :: st) G cs ns := by
  intro p e s m args below meth c H locs lsM hC hR hS hl
  obtain ⟨hx, hb, -, -, hown, hts, -, -, -, -, hK, hE, -⟩ := id hC
  subst hn
  have hcl : (nI N).toNatClampNeg = N := nI_clamp (by omega)
  refine W.anew hx hb hown (hts _ w1) (va_AO.use (hAO _ _ hE.2.2.2.2.2.2.2)) rfl hd rfl (nI_pos (by omega)) (by rw [hcl]; omega) hcs (by rw [hcl]; exact hns) fun cA kA comp f1 f2 f3 f4 => ?_
  rw [hcl]
  have hcA : cA = O.2.1 t := by
    obtain ⟨_, _, -, -, -, h2⟩ := (hK.2 t _ hat).2
    exact Option.some.inj (f1.symm.trans h2)
  subst hcA
  generalize hH1 : H.push ({ cls := O.2.1 t, slots := Array.replicate N .null, vm := .none } : Cell) = H1
  have z1 : H1.size = H.size + 1 := by rw [← hH1, Array.size_push]
  have e1 : H1[H.size]? = some (arrV (O.2.1 t) N (fun _ => .null)) := by rw [← hH1, Array.getElem?_push_size, ← arrV_new]
  have o1 : ∀ q : Nat, q < H.size → H1[q]? = H[q]? := fun q hq => by rw [← hH1, Array.getElem?_push, if_neg (Nat.ne_of_lt hq)]
  have h9 := kk p e s m args below meth c H1 locs lsM hC (hR.push z1 hG (by
    unfold xobAt
    rw [if_neg (by show ¬ 64 + t < 64; omega), if_pos (by show 64 + t < 127; omega)]
    show H1[O.2.2.1 + G.length]? = some (arrV (O.2.1 (64 + t - 64)) (List.replicate N Value.null).length _)
    rw [← hR.1, e1, show 64 + t - 64 = t by omega, List.length_replicate]
    refine congrArg some ?_
    unfold arrV
    congr 1
    refine congrArg _ (funext fun j => ?_)
    show Value.null = xtr O ((List.replicate N Value.null).getD j.val .null)
    rw [List.getD_eq_getElem?_getD, List.getElem?_replicate, if_pos j.isLt]; rfl) o1) ⟨Nat.le_trans hS.1 (by omega), fun x h1 h2 => (o1 x (Nat.lt_of_lt_of_le h1 hS.1)).trans (hS.2.1 x h1 h2), hS.2.2⟩ hl
  have e2 : xtr O (.ref G.length) = .ref H.size := by rw [xtr_id (by omega), hR.1]
  rw [List.map_cons, e2] at h9
  exact h9
/-- the script is read -/
theorem xw_sld {x : Int32} {j : Nat} (hd : decode M.2.1 pc = .ok (.iaload, 1)) (hx : x = nI j) (hj : j < O.2.2.2.2.1) (hb : O.2.2.2.2.1 < 2147483648) (kk : xWP L O M R K (pc + 1) ls (.int (O.2.2.2.2.2 j) :: st) G cs ns) : xWP L O M R K pc ls (.int x :: .ref xBig :: st) G cs ns := by
  intro p e s m args below meth c H locs lsM hC hR hS hl
  have h9 := kk p e s m args below meth c H locs lsM hC hR hS hl
  obtain ⟨hx9, hb9, -, -, -, -, -, -, -, -, -, hE, hbs⟩ := id hC
  have e0 : xtr O (.ref xBig) = .ref (O.2.2.2.1 0) := by simp [xtr]
  show W p L e R s m args below meth c H locs cs ns _ (F0 m pc lsM (.int x :: xtr O (.ref xBig) :: st.map (xtr O)))
  rw [e0]
  have hcl : x.toNatClampNeg = j := by rw [hx, nI_clamp (by omega)]
  refine va_sld hx9 hb9 hE.2.2.1 (Nat.lt_of_lt_of_le hE.2.2.2.1 hbs) (Nat.not_le.mpr hE.2.2.2.1) hS (by rw [hx]; exact vp_in_nI hj (by omega)) hd ?_
  rw [hcl]
  exact h9
theorem xw_slen {n : Int32} (hd : decode M.2.1 pc = .ok (.arraylength, 1)) (hn : n = nI O.2.2.2.2.1) (kk : xWP L O M R K (pc + 1) ls (.int n :: st) G cs ns) : xWP L O M R K pc ls (.ref xBig :: st) G cs ns := by
  intro p e s m args below meth c H locs lsM hC hR hS hl
  have h9 := kk p e s m args below meth c H locs lsM hC hR hS hl
  obtain ⟨hx9, hb9, -, -, -, -, -, -, -, -, -, hE, hbs⟩ := id hC
  have e0 : xtr O (.ref xBig) = .ref (O.2.2.2.1 0) := by simp [xtr]
  show W p L e R s m args below meth c H locs cs ns _ (F0 m pc lsM (xtr O (.ref xBig) :: st.map (xtr O)))
  rw [e0]
  refine va_slen hx9 hb9 hE.2.2.1 (Nat.lt_of_lt_of_le hE.2.2.2.1 hbs) (Nat.not_le.mpr hE.2.2.2.1) hS hd ?_
  rw [hn] at h9
  exact h9
end XARR
end
section
section XCALL
variable {L : Launch} {O : xWd} {M M' : xMd} {R rm : Room} {K K' : xOc → List xOb → Prop} {pc : Nat} {ls : List (Nat × Value)} {st : List Value} {G : List xOb} {cs ns : Nat}
/-- an exception of the class E is under way at pc -/
def xTh (L : Launch) (O : xWd) (M : xMd) (R : Room) (K : xOc → List xOb → Prop) (pc : Nat) (ls : List (Nat × Value)) (st : List Value) (G : List xOb) (cs ns : Nat) (E : String) : Prop :=
  ∀ (p : Program) (e : Env) (s : State) (m : MethodId) (args : Array Value) (below : List Frame) (meth : Method) (c : Code) (H : Heap) (locs : List Loc) (lsM : Array Slot) (q : Addr) (ce : Cell),
    xCt L O M R p s m args meth c → xRep O G H → va_S (xA O) s.heap H locs → lv_has lsM M.2.2.1 (ls.map (fun q => (q.1, xtr O q.2))) → H[q]? = some ce → ce.vm = .none → s.vm.findClass E = some ce.cls →
    vx_W p L e R s m args below meth c H locs cs ns (vx_MQ below (xQc O K) (xXC O K) args s R.cells R.slots (xA O)) (F0 m pc lsM (st.map (xtr O))) q
theorem xth_out {E : String} (hh : M.2.2.2.2 = []) (hc : cs ≤ R.cells) (hs : ns ≤ R.slots) (hK : K (.inr E) G) : xTh L O M R K pc ls st G cs ns E := by
  intro p e s m args below meth c H locs lsM q ce hC hR hS hl h1 h2 h3
  refine vx_out (fun x hx => ?_) hC.2.2.2.2.2.2.1 h1 h2 h3 (fun t ht ha => ⟨G, hK, by rw [ht]; exact hR, xF hS ht⟩) hS.2.2 hc hs
  rw [hC.2.2.2.2.2.2.2.2.1, hh] at hx
  cases hx
theorem xth_mono (h : ∀ o G, K o G → K' o G) {E : String} (k : xTh L O M R K pc ls st G cs ns E) : xTh L O M R K' pc ls st G cs ns E := by
  intro p e s m args below meth c H locs lsM q ce hC hR hS hl h1 h2 h3
  intro T hT X
  obtain ⟨t, a, b⟩ := k p e s m args below meth c H locs lsM q ce hC hR hS hl h1 h2 h3 T hT X
  exact ⟨t, a, xMQ_mono h t b⟩
/-- it is caught by the n-th row of the table, whose handler begins by putting it away -/
theorem xth_catch {E nm : String} {a b h ct kl len : Nat} (n : Nat) (hrow : M.2.2.2.2[n]? = some (a, b, h, ct)) (hcov : covers ⟨a, b, h, ct⟩ pc = true) (hct : ct ≠ 0) (hlink : Cond.classLink M.1.cls ct nm ∈ xTG) (hcast : Cond.castable E nm ∈ xTN)
    (hpre : ∀ z ∈ M.2.2.2.2.take n, covers ⟨z.1, z.2.1, z.2.2.1, z.2.2.2⟩ pc = false ∨ (z.2.2.2 ≠ 0 ∧ ∃ nm : String, Cond.classLink M.1.cls z.2.2.2 nm ∈ xTG ∧ (E, nm) ∈ xNC))
    (hd : (∃ i : Fin 4, (i : Nat) = kl ∧ len = 1 ∧ decode M.2.1 h = .ok (.astore_n i, 1)) ∨ (len = 2 ∧ decode M.2.1 h = .ok (.astore kl, 2))) (hkl : kl < M.2.2.1) (hok : xok1 kl ls = true) {l2 : List (Nat × Value)} (hl2 : ls.filter (fun q => !(q.1 == kl)) = l2)
    (kk : xWP L O M R K (h + len) l2 [] G cs ns) : xTh L O M R K pc ls st G cs ns E := by
  intro p e s m args below meth c H locs lsM q ce hC hR hS hl h1 h2 h3
  obtain ⟨hx, hb, hml, -, hown, hts, -, -, htb, -, hK, hE, -⟩ := id hC
  have hsp : M.2.2.2.2 = M.2.2.2.2.take n ++ (a, b, h, ct) :: M.2.2.2.2.drop (n + 1) := by
    obtain ⟨hlt, hget⟩ := List.getElem?_eq_some_iff.mp hrow
    rw [← hget, ← List.drop_eq_getElem_cons hlt, List.take_append_drop]
  have hsplit : c.exceptionTable.toList = tableOf (M.2.2.2.2.take n) ++ ⟨a, b, h, ct⟩ :: tableOf (M.2.2.2.2.drop (n + 1)) := by
    rw [htb]
    exact (congrArg tableOf hsp).trans (by simp [tableOf])
  refine vx_catch hown _ _ _ hsplit (fun z hz => ?_) hcov hct (hts _ hlink) (va_Nw.use rfl (hE.2.2.2.2.1 _ hcast)) h1 h2 h3 ?_
  · obtain ⟨z9, hz9, rfl⟩ := List.mem_map.mp hz
    rcases hpre z9 hz9 with h | ⟨h, nm2, h5, h6⟩
    · exact Or.inl h
    · exact Or.inr ⟨h, nm2, hts _ h5, hE.2.2.2.2.2.1 _ h6⟩
  · have fin : ∀ l9 : Array Slot, lv_has l9 M.2.2.1 ((kl, Value.ref q) :: (ls.map (fun q => (q.1, xtr O q.2))).filter (fun q => !(q.1 == kl) && !(q.1 + 1 == kl && q.2.category == 2))) → W p L e R s m args below meth c H locs cs ns (vx_MQ below (xQc O K) (xXC O K) args s R.cells R.slots (xA O)) (F0 m (h + len) l9 []) := fun l9 h9 =>
      kk p e s m args below meth c H locs l9 hC hR hS (lv_has_in h9 fun w hw => by
        obtain ⟨w9, hw9, rfl⟩ := List.mem_map.mp hw
        rw [← hl2] at hw9
        obtain ⟨g1, g2⟩ := List.mem_filter.mp hw9
        refine List.mem_cons_of_mem _ (List.mem_filter.mpr ⟨List.mem_map.mpr ⟨w9, g1, rfl⟩, ?_⟩)
        have h3 := List.all_eq_true.mp hok w9 g1
        simp only [xtr_cat]
        rw [Bool.and_eq_true]
        exact ⟨g2, h3⟩)
    rcases hd with ⟨i, rfl, rfl, hd⟩ | ⟨rfl, hd⟩
    · exact lv_astore_n hx hb hd rfl hl hkl rfl fin
    · exact lv_astore hx hb hd hl hkl rfl fin
theorem xblind {As : List Value} : FrameBlind (va_Pc (As.map (xtr O)) (xPre O G)) := fun a U g mk q => by
  obtain ⟨h0, h1, h2, h3, h4⟩ := q
  exact ⟨h0, h1, h2, xKn.warm (s := U) (U := U.calling g mk a) (Vm.Alike.refl U.vm) h3, xEx.warm (s := U) (U := U.calling g mk a) (State.WarmedH.refl U) h4⟩
theorem xpre {s U : State} {H : Heap} {locs : List Loc} (hR : xRep O G H) (hS : va_S (xA O) s.heap H locs) (hK : xKn O s) (hE : xEx O s s.heap) (hb : O.2.2.1 ≤ s.heap.size) (hU : U.heap = H) (hW : s.WarmedH U.vm) : xPre O G U :=
  ⟨by rw [hU]; exact hR, by rw [hU]; exact Nat.le_trans hb hS.1, hK.warm hW.alike, by rw [hU]; exact xEx.warm hW (hE.kept hb hS.2.1)⟩
theorem xwords {s : State} {args : Array Value} (hts : ∀ w ∈ xTG, w.before args s = true) (hcw : xcw M' ∈ xTG) : ∀ w ∈ xcw M' :: xTG, ∀ (a' : Array Value) (U : State), s.WarmedH U.vm → w.before a' U = true := fun w hw a' U hW => by
  have h1 : w ∈ xTG := (List.mem_cons.mp hw).elim (fun e => by rw [e]; exact hcw) id
  exact word_at hW (good_of_word (List.mem_filter.mp h1).2) (hts w h1)
/-- behind a call -/
theorem xw_run {p : Program} {e : Env} {s : State} {m : MethodId} {args a : Array Value} {below : List Frame} {meth : Method} {c : Code} {H : Heap} {locs : List Loc} {lsM : Array Slot} {mc ms : Nat} {st0 : List Value} (hC : xCt L O M R p s m args meth c) (hS : va_S (xA O) s.heap H locs) (hl : lv_has lsM M.2.2.1 (ls.map (fun q => (q.1, xtr O q.2))))
    (hr : vx_Run p L e R s m args below meth c H locs cs ns mc ms (F0 m pc lsM st0) (st.map (xtr O)) (xQc O K' a) (xXC O K') (xA O))
    (hk : ∀ (v : Option Value) (G' : List xOb), K' (.inl v) G' → xWP L O M R K (pc + 3) ls (v.toList ++ st) G' (cs + mc) (ns + ms)) (hx : ∀ (E : String) (G' : List xOb), K' (.inr E) G' → xTh L O M R K pc ls st G' (cs + mc) (ns + ms) E) :
    W p L e R s m args below meth c H locs cs ns (vx_MQ below (xQc O K) (xXC O K) args s R.cells R.slots (xA O)) (F0 m pc lsM st0) := by
  intro T hT X
  rcases hr T hT X with ⟨v, st₀, t, T', L9, h0, X', hL, e1, e2, ⟨v', G', hv, hK', hR', hF⟩, stp⟩ | ⟨q, st₀, t, T', L9, E, ce, h0, X', hL, e1, e2, ⟨G', hK', hR', hF⟩, hce, hcv, hcl, stp⟩
  · cases hv
    obtain ⟨-, -, k3⟩ := vx_keep h0 e1 hS (fun _ _ h => h) (fun _ h => h) hL hF
    have h9 := hk v' G' hK' p e s m args below meth c T'.heap (locs ++ L9) lsM hC (by rw [e1]; exact hR') k3 hl
    have e9 : (v'.toList ++ st).map (xtr O) = (v'.map (xtr O)).toList ++ st.map (xtr O) := by cases v' <;> rfl
    rw [e9] at h9
    obtain ⟨t2, a1, b1⟩ := h9 T' rfl X'
    exact ⟨t2, stp t2 a1, b1⟩
  · obtain ⟨-, -, k3⟩ := vx_keep h0 e1 hS (fun _ _ h => h) (fun _ h => h) hL hF
    obtain ⟨t2, a1, b1⟩ := hx E G' hK' p e s m args below meth c T'.heap (locs ++ L9) lsM q ce hC (by rw [e1]; exact hR') k3 hl (by rw [e1]; exact hce) hcv hcl T' rfl X'
    exact ⟨t2, stp.trans a1, b1⟩
/-- what the tables say of a method that is called: n parameters -/
def xOkB (M : xMd) (n : Nat) : Prop := plainName M.1.cls = true ∧ (M.1.cls ≠ "java/lang/invoke/MethodHandle" ∧ M.1.cls ≠ "java/lang/invoke/VarHandle") ∧ (parseMethodDescriptor M.1.desc).map (fun d => d.parameters.length) = some n ∧ xcw M ∈ xTG ∧ Cond.initialized M.1.cls ∈ xTG
def xOkV (M : xMd) (n : Nat) : Prop := xOkB M n ∧ M.2.2.2.2 = [] ∧ Cond.instanceMethod M.1 ∈ xTG ∧ Cond.selects M.1.cls M.1 M.1 ∈ xTG
def xOkI (M : xMd) (n : Nat) : Prop := xOkB M n ∧ M.2.2.2.2 = [] ∧ M.2.2.2.1 = none ∧ M.1.name = "<init>" ∧ Cond.instanceMethod M.1 ∈ xTG
def xOkS (M : xMd) (n : Nat) : Prop := xOkB M n ∧ Cond.static M.1 ∈ xTG
theorem xdesc {n : Nat} {y : MethodName} (h : (parseMethodDescriptor y.desc).map (fun d => d.parameters.length) = some n) : ∀ sig, parseMethodDescriptor y.desc = some sig → n = sig.parameters.length := fun sig h2 => by
  rw [h2] at h
  exact (Option.some.inj h).symm
theorem xstk (As : List Value) (i : Nat) (hi : i < xBig) : (As.reverse ++ Value.ref i :: st).map (xtr O) = (As.map (xtr O)).reverse ++ .ref (O.2.2.1 + i) :: st.map (xtr O) := by
  rw [List.map_append, List.map_cons, xtr_id hi, List.map_reverse]
theorem xrm (h : (st.map (fun v => v.category)).sum ≤ 8) {m : MethodId} {pc : Nat} {lsM : Array Slot} {s0 : List Value} : 2 * (F0 m pc lsM s0).monitorRoom + ((st.map (xtr O)).map fun v => v.category).sum ≤ 8 := by
  refine lv_room ?_
  rw [List.map_map]
  have e : ((fun v => Value.category v) ∘ xtr O) = (fun v => Value.category v) := funext fun v => xtr_cat O v
  rw [e]
  exact h
/-- CALLS -/
theorem xw_callV {idx i ci N n : Nat} {As fs : List Value} {T : u_T} (hd : decode M.2.1 pc = .ok (.invokevirtual idx, 3)) (hok : xOkV M' n) (hw : Cond.methodLink M.1.cls idx M'.1 ∈ xTG ∨ ∃ host, Cond.methodLinkNest M.1.cls idx M'.1 host ∈ xTN)
    (hi : i < xBig) (hg : G[i]? = some (ci, fs)) (hci : ci < 64) (hc : xcl[ci]? = some (M'.1.cls, T, N)) (hn : As.length = n) (hsum : (st.map (fun v => v.category)).sum ≤ 8)
    (hfr : rm.frames + 1 ≤ R.frames) (hlo : 8 + (M'.2.2.1 + 11) + rm.locals ≤ R.locals) (hcs : cs + rm.cells ≤ R.cells) (hns : ns + rm.slots ≤ R.slots)
    (hM : xMet L O M' rm (.ref i :: As) G K')
    (hk : ∀ (v : Option Value) (G' : List xOb), K' (.inl v) G' → xWP L O M R K (pc + 3) ls (v.toList ++ st) G' (cs + rm.cells) (ns + rm.slots)) (hx : ∀ (E : String) (G' : List xOb), K' (.inr E) G' → xTh L O M R K pc ls st G' (cs + rm.cells) (ns + rm.slots) E) :
    xWP L O M R K pc ls (As.reverse ++ .ref i :: st) G cs ns := by
  intro p e s m args below meth c H locs lsM hC hR hS hl
  obtain ⟨hx9, hb, hml, -, hown, hts, -, -, -, -, hK, hE, hbs⟩ := id hC
  obtain ⟨⟨-, hy, hdsc, hcw, hini⟩, hhn, hins, hsel⟩ := hok
  obtain ⟨r, h1, -, cell, g1, g2, g3, -⟩ := xobj hR hg hci
  cases h1.symm.trans hc
  have hcls := (xcl_find hK hc).2.1
  have hrecv : ∃ cellB : Cell, H[O.2.2.1 + i]? = some cellB ∧ cellB.vm.isStatics = false ∧ s.vm.findClass M'.1.cls = some cellB.cls := ⟨cell, g1, by rw [g3]; rfl, by rw [g2]; exact hcls⟩
  have hcode : xcw M' = Cond.code M'.1 M'.2.1 M'.2.2.1 M'.2.2.2.1 := by unfold xcw; rw [hhn]
  have hPc : ∀ U : State, U.heap = H → s.WarmedH U.vm → va_Pc ((Value.ref i :: As).map (xtr O)) (xPre O G) (Value.ref (O.2.2.1 + i) :: As.map (xtr O)).toArray U := fun U hU hW => ⟨by rw [List.map_cons, xtr_id hi], xpre hR hS hK hE hbs hU hW⟩
  rw [xstk As i hi]
  rcases hw with hw | ⟨host, hw⟩
  · exact xw_run hC hS hl (vx_runV ⟨hx9, hb, hml, hown, hts⟩ hM ⟨⟨rfl, rfl, hfr, hlo, xwords hts hcw, by rw [hcode]; exact List.mem_cons_self, by rw [← hcode]; exact hts _ hcw, hts _ hini, hy, xdesc hdsc, hts _ hw⟩, hts _ hins, hts _ hsel⟩ ⟨xblind, hrecv, hPc⟩ rfl (by rw [List.length_map]; exact hn) hl.1 rfl (xrm hsum) hd ⟨hcs, hns⟩) hk hx
  · exact xw_run hC hS hl (vx_runVN ⟨hx9, hb, hml, hown, hts⟩ hM ⟨⟨⟨rfl, rfl, hfr, hlo, xwords hts hcw, by rw [hcode]; exact List.mem_cons_self⟩, by rw [← hcode]; exact hts _ hcw, hts _ hini, hy, xdesc hdsc, va_Nw.use rfl (hE.2.2.2.2.1 _ hw)⟩, hts _ hins, hts _ hsel⟩ ⟨xblind, hrecv, hPc⟩ rfl (by rw [List.length_map]; exact hn) hl.1 rfl (xrm hsum) hd ⟨hcs, hns⟩) hk hx
theorem xw_callI {idx i n : Nat} {As : List Value} (hd : decode M.2.1 pc = .ok (.invokespecial idx, 3)) (hok : xOkI M' n) (hw : Cond.methodLink M.1.cls idx M'.1 ∈ xTG ∨ ∃ host, Cond.methodLinkNest M.1.cls idx M'.1 host ∈ xTN)
    (hi : i < xBig) (hn : As.length = n) (hsum : (st.map (fun v => v.category)).sum ≤ 8)
    (hfr : rm.frames + 1 ≤ R.frames) (hlo : 8 + (M'.2.2.1 + 11) + rm.locals ≤ R.locals) (hcs : cs + rm.cells ≤ R.cells) (hns : ns + rm.slots ≤ R.slots)
    (hM : xMet L O M' rm (.ref i :: As) G K')
    (hk : ∀ (v : Option Value) (G' : List xOb), K' (.inl v) G' → xWP L O M R K (pc + 3) ls (v.toList ++ st) G' (cs + rm.cells) (ns + rm.slots)) (hx : ∀ (E : String) (G' : List xOb), K' (.inr E) G' → xTh L O M R K pc ls st G' (cs + rm.cells) (ns + rm.slots) E) :
    xWP L O M R K pc ls (As.reverse ++ .ref i :: st) G cs ns := by
  intro p e s m args below meth c H locs lsM hC hR hS hl
  obtain ⟨hx9, hb, hml, -, hown, hts, -, -, -, -, hK, hE, hbs⟩ := id hC
  obtain ⟨⟨-, hy, hdsc, hcw, hini⟩, hhn, hrt, hnm, hins⟩ := hok
  have hcode : xcw M' = Cond.code M'.1 M'.2.1 M'.2.2.1 none := by unfold xcw; rw [hhn, hrt]
  have hPc : ∀ U : State, U.heap = H → s.WarmedH U.vm → va_Pc ((Value.ref i :: As).map (xtr O)) (xPre O G) (Value.ref (O.2.2.1 + i) :: As.map (xtr O)).toArray U := fun U hU hW => ⟨by rw [List.map_cons, xtr_id hi], xpre hR hS hK hE hbs hU hW⟩
  rw [xstk As i hi]
  rcases hw with hw | ⟨host, hw⟩
  · exact xw_run hC hS hl (vx_runI ⟨hx9, hb, hml, hown, hts⟩ hM ⟨⟨rfl, rfl, hfr, hlo, xwords hts hcw, by rw [hcode]; exact List.mem_cons_self, by rw [← hcode]; exact hts _ hcw, hts _ hini, hy, xdesc hdsc, hts _ hw⟩, hnm, hts _ hins⟩ ⟨xblind, hPc⟩ rfl (by rw [List.length_map]; exact hn) hl.1 rfl (xrm hsum) hd ⟨hcs, hns⟩) hk hx
  · exact xw_run hC hS hl (vx_runIN ⟨hx9, hb, hml, hown, hts⟩ hM ⟨⟨⟨rfl, rfl, hfr, hlo, xwords hts hcw, by rw [hcode]; exact List.mem_cons_self⟩, by rw [← hcode]; exact hts _ hcw, hts _ hini, hy, xdesc hdsc, va_Nw.use rfl (hE.2.2.2.2.1 _ hw)⟩, hnm, hts _ hins⟩ ⟨xblind, hPc⟩ rfl (by rw [List.length_map]; exact hn) hl.1 rfl (xrm hsum) hd ⟨hcs, hns⟩) hk hx
theorem xw_callS {idx n : Nat} {As : List Value} (hd : decode M.2.1 pc = .ok (.invokestatic idx, 3)) (hok : xOkS M' n) (hw : Cond.methodLink M.1.cls idx M'.1 ∈ xTG ∨ (M'.2.2.2.2 = [] ∧ ∃ host, Cond.methodLinkNest M.1.cls idx M'.1 host ∈ xTN))
    (hn : As.length = n) (hsum : (st.map (fun v => v.category)).sum ≤ 8)
    (hfr : rm.frames + 1 ≤ R.frames) (hlo : 8 + (M'.2.2.1 + 11) + rm.locals ≤ R.locals) (hcs : cs + rm.cells ≤ R.cells) (hns : ns + rm.slots ≤ R.slots)
    (hM : xMet L O M' rm As G K')
    (hk : ∀ (v : Option Value) (G' : List xOb), K' (.inl v) G' → xWP L O M R K (pc + 3) ls (v.toList ++ st) G' (cs + rm.cells) (ns + rm.slots)) (hx : ∀ (E : String) (G' : List xOb), K' (.inr E) G' → xTh L O M R K pc ls st G' (cs + rm.cells) (ns + rm.slots) E) :
    xWP L O M R K pc ls (As.reverse ++ st) G cs ns := by
  intro p e s m args below meth c H locs lsM hC hR hS hl
  obtain ⟨hx9, hb, hml, -, hown, hts, -, -, -, -, hK, hE, hbs⟩ := id hC
  obtain ⟨⟨-, hy, hdsc, hcw, hini⟩, hst9⟩ := hok
  have hPc : ∀ U : State, U.heap = H → s.WarmedH U.vm → va_Pc (As.map (xtr O)) (xPre O G) (As.map (xtr O)).toArray U := fun U hU hW => ⟨rfl, xpre hR hS hK hE hbs hU hW⟩
  rw [List.map_append, List.map_reverse]
  obtain ⟨y', cc', maxL', ret', hh'⟩ := M'
  cases hh' with
  | nil =>
    rcases hw with hw | ⟨-, host, hw⟩
    · exact xw_run hC hS hl (vx_runS ⟨hx9, hb, hml, hown, hts⟩ hM ⟨⟨rfl, rfl, hfr, hlo, xwords hts hcw, List.mem_cons_self, hts _ hcw, hts _ hini, hy, xdesc hdsc, hts _ hw⟩, hts _ hst9⟩ ⟨xblind, hPc⟩ rfl (by rw [List.length_map]; exact hn) hl.1 rfl (xrm hsum) hd ⟨hcs, hns⟩) hk hx
    · exact xw_run hC hS hl (vx_runSN ⟨hx9, hb, hml, hown, hts⟩ hM ⟨⟨⟨rfl, rfl, hfr, hlo, xwords hts hcw, List.mem_cons_self⟩, hts _ hcw, hts _ hini, hy, xdesc hdsc, va_Nw.use rfl (hE.2.2.2.2.1 _ hw)⟩, hts _ hst9, trivial⟩ ⟨xblind, hPc⟩ rfl (by rw [List.length_map]; exact hn) hl.1 rfl (xrm hsum) hd ⟨hcs, hns⟩) hk hx
  | cons h9 t9 =>
    rcases hw with hw | ⟨h0, -⟩
    · exact xw_run hC hS hl (vx_runSX (hh := h9 :: t9) ⟨hx9, hb, hml, hown, hts⟩ hM ⟨⟨rfl, rfl, hfr, hlo, xwords hts hcw, List.mem_cons_self⟩, hts _ hcw, hts _ hini, hy, xdesc hdsc, hts _ hw, hts _ hst9⟩ ⟨xblind, hPc⟩ rfl (by rw [List.length_map]; exact hn) hl.1 rfl (xrm hsum) hd ⟨hcs, hns⟩) hk hx
    · cases h0
/-- Object() -/
theorem xw_objInit {idx i : Nat} (hd : decode M.2.1 pc = .ok (.invokespecial idx, 3)) (hi : i < xBig) (w1 : Cond.methodLink M.1.cls idx objectInit ∈ xTG) (w2 : Cond.instanceMethod objectInit ∈ xTG) (w3 : Cond.code objectInit ⟨#[0xb1]⟩ 1 none ∈ xTG) (hsum : (st.map (fun v => v.category)).sum ≤ 8) (hfr : 1 ≤ R.frames) (hlo : 20 ≤ R.locals)
    (kk : xWP L O M R K (pc + 3) ls st G cs ns) : xWP L O M R K pc ls (.ref i :: st) G cs ns := by
  intro p e s m args below meth c H locs lsM hC hR hS hl
  have h9 := kk p e s m args below meth c H locs lsM hC hR hS hl
  obtain ⟨hx9, hb, hml, -, hown, hts, -, -, -, -, -, -, -⟩ := id hC
  have hs9 := xrm (O := O) hsum (m := m) (pc := pc) (lsM := lsM) (s0 := (Value.ref i :: st).map (xtr O))
  show W p L e R s m args below meth c H locs cs ns _ (F0 m pc lsM (xtr O (.ref i) :: st.map (xtr O)))
  rw [xtr_id hi]
  exact W.objInit hx9 hb hown (hts _ w1) (hts _ w2) (hts _ w3) rfl (by rw [hml]; exact hl.1) rfl hd hfr (by
    have h0 : (F0 m pc lsM ((Value.ref i :: st).map (xtr O))).monitorRoom = (F0 m pc lsM (Value.ref (O.2.2.1 + i) :: st.map (xtr O))).monitorRoom := rfl
    rw [h0] at hs9
    omega) h9
/-- throw new E("text") -/
theorem xw_throw {ik is ic : Nat} {cls text : String} {names : List String} (hd0 : decode M.2.1 pc = .ok (.new ik, 3)) (hd3 : decode M.2.1 (pc + 3) = .ok (.dup, 1)) (hd4 : decode M.2.1 (pc + 4) = .ok (.ldc is, 2)) (hd6 : decode M.2.1 (pc + 6) = .ok (.invokespecial ic, 3)) (hd9 : decode M.2.1 (pc + 9) = .ok (.athrow, 1))
    (hh : M.2.2.2.2 = []) (hcls : Bundle.fit cls = true) (hnames : ∀ n ∈ names, Bundle.fit n = true) (hk : Cond.classLink M.1.cls ik cls ∈ xTG) (hini : Cond.initialized cls ∈ xTG) (hstr : (M.1.cls, is, text) ∈ xST) (hat : ∀ w ∈ vx_atS M.1.cls ic cls names, w ∈ xTG ∨ w ∈ xTN) (hgood : ∀ w ∈ Cond.classLink M.1.cls ik cls :: Cond.initialized cls :: vx_atS M.1.cls ic cls names, vx_ot w = true)
    (hfr : names.length + 3 < R.frames) (hlo : (st.map (fun v => v.category)).sum + (13 * (names.length + 1) + 43) ≤ R.locals) (hcs : cs + 1 ≤ R.cells) (hns : ns + 6 ≤ R.slots) (hG : G.length + 1 < xBig) (hK : K (.inr cls) (G ++ [(127, [])])) : xWP L O M R K pc ls st G cs ns := by
  intro p e s m args below meth c H locs lsM hC hR hS hl
  obtain ⟨hx9, hb, hml, -, hown, hts, hlk, -, htb, hlf, hK9, hE, hbs⟩ := id hC
  obtain ⟨sa, hsa⟩ := hE.2.2.2.2.2.2.1 _ hstr
  have hsum : ((st.map (xtr O)).map fun v => v.category).sum = (st.map (fun v => v.category)).sum := by
    rw [List.map_map]
    have e : ((fun v => Value.category v) ∘ xtr O) = (fun v => Value.category v) := funext fun v => xtr_cat O v
    rw [e]
  exact vx_throwS hx9 hb hlf hown hcls hnames (hts _ hk) (hts _ hini) hsa (fun w hw => (hat w hw).elim (fun h => hts _ h) (fun h => va_Nw.use (by
      have h2 := (List.mem_filter.mp h).2
      unfold xNw at h2
      split at h2 <;> first | rfl | cases h2) (hE.2.2.2.2.1 _ h))) hgood hE.1 hE.2.1 hS (by rw [hml]; exact hl.1) hd0 hd3 hd4 hd6 hd9 (fun x hx => by rw [htb, hh] at hx; cases hx) hfr (by rw [hsum]; exact hlo) hcs hns hlk
    (fun t ha hz hq => ⟨G ++ [(127, [])], hK, hR.push hz hG (by unfold xobAt; rw [if_neg (by show ¬ 127 < 64; omega), if_neg (by show ¬ 127 < 127; omega)]; trivial) hq, ⟨by rw [hz]; exact Nat.le_trans hS.1 (Nat.le_succ _), fun q h1 h2 => (hq q (Nat.lt_of_lt_of_le h1 hS.1)).trans (hS.2.1 q h1 h2)⟩⟩) hS.2.2 hcs hns
end XCALL
end
section
/-! ints and longs by their mathematical numbers -/
def iI (z : Int) : Int32 := Int32.ofInt z
def lI (z : Int) : Int64 := Int64.ofInt z
theorem iI_toInt {z : Int} (h : -2147483648 ≤ z ∧ z < 2147483648) : (iI z).toInt = z := by
  unfold iI
  exact Int32.toInt_ofInt_of_le (by omega) (by omega)
theorem lI_toInt {z : Int} (h : -9223372036854775808 ≤ z ∧ z < 9223372036854775808) : (lI z).toInt = z := by
  unfold lI
  exact Int64.toInt_ofInt_of_le (by omega) (by omega)
theorem iI_of (x : Int32) : x = iI x.toInt := by unfold iI; exact (Int32.ofInt_toInt x).symm
theorem iI_bd (x : Int32) : -2147483648 ≤ x.toInt ∧ x.toInt < 2147483648 := ⟨Int32.le_toInt x, Int32.toInt_lt x⟩
theorem iI_add (a b : Int) : iI a + iI b = iI (a + b) := by unfold iI; exact (Int32.ofInt_add a b).symm
theorem iI_sub (a b : Int) : iI a - iI b = iI (a - b) := by unfold iI; exact (Int32.ofInt_sub a b).symm
theorem iI_mul (a b : Int) : iI a * iI b = iI (a * b) := by unfold iI; exact (Int32.ofInt_mul a b).symm
theorem iI_neg (a : Int) : -iI a = iI (-a) := by unfold iI; exact (Int32.ofInt_neg a).symm
theorem lI_add (a b : Int) : lI a + lI b = lI (a + b) := by unfold lI; exact (Int64.ofInt_add a b).symm
theorem lI_sub (a b : Int) : lI a - lI b = lI (a - b) := by unfold lI; exact (Int64.ofInt_sub a b).symm
theorem lI_mul (a b : Int) : lI a * lI b = lI (a * b) := by unfold lI; exact (Int64.ofInt_mul a b).symm
theorem iI_lt {a b : Int} (ha : -2147483648 ≤ a ∧ a < 2147483648) (hb : -2147483648 ≤ b ∧ b < 2147483648) : iI a < iI b ↔ a < b := by
  rw [Int32.lt_iff_toInt_lt, iI_toInt ha, iI_toInt hb]
theorem iI_le {a b : Int} (ha : -2147483648 ≤ a ∧ a < 2147483648) (hb : -2147483648 ≤ b ∧ b < 2147483648) : iI a ≤ iI b ↔ a ≤ b := by
  rw [Int32.le_iff_toInt_le, iI_toInt ha, iI_toInt hb]
theorem iI_eq {a b : Int} (ha : -2147483648 ≤ a ∧ a < 2147483648) (hb : -2147483648 ≤ b ∧ b < 2147483648) : iI a = iI b ↔ a = b := by
  rw [← Int32.toInt_inj, iI_toInt ha, iI_toInt hb]
theorem lI_lt {a b : Int} (ha : -9223372036854775808 ≤ a ∧ a < 9223372036854775808) (hb : -9223372036854775808 ≤ b ∧ b < 9223372036854775808) : lI a < lI b ↔ a < b := by
  rw [Int64.lt_iff_toInt_lt, lI_toInt ha, lI_toInt hb]
theorem lI_eq {a b : Int} (ha : -9223372036854775808 ≤ a ∧ a < 9223372036854775808) (hb : -9223372036854775808 ≤ b ∧ b < 9223372036854775808) : lI a = lI b ↔ a = b := by
  rw [← Int64.toInt_inj, lI_toInt ha, lI_toInt hb]
theorem iI_div {a b : Int} (ha : 0 ≤ a ∧ a < 2147483648) (hb : 0 < b ∧ b < 2147483648) : iI a / iI b = iI (a / b) := by
  rw [← Int32.toInt_inj, Int32.toInt_div, iI_toInt ⟨by omega, ha.2⟩, iI_toInt ⟨by omega, hb.2⟩]
  have h1 : 0 ≤ a / b := Int.ediv_nonneg ha.1 (by omega)
  have h2 : a / b ≤ a := Int.ediv_le_self b ha.1
  rw [iI_toInt ⟨by omega, by omega⟩, Int.tdiv_eq_ediv_of_nonneg ha.1]
  exact Int.bmod_eq_of_le (by omega) (by omega)
theorem iI_rem {a b : Int} (ha : 0 ≤ a ∧ a < 2147483648) (hb : 0 < b ∧ b < 2147483648) : iI a - iI a / iI b * iI b = iI (a % b) := by
  rw [iI_div ha hb, iI_mul, iI_sub]
  congr 1
  have := Int.ediv_mul_add_emod a b
  omega
theorem lI_div {a b : Int} (ha : 0 ≤ a ∧ a < 9223372036854775808) (hb : 0 < b ∧ b < 9223372036854775808) : lI a / lI b = lI (a / b) := by
  rw [← Int64.toInt_inj, Int64.toInt_div, lI_toInt ⟨by omega, ha.2⟩, lI_toInt ⟨by omega, hb.2⟩]
  have h1 : 0 ≤ a / b := Int.ediv_nonneg ha.1 (by omega)
  have h2 : a / b ≤ a := Int.ediv_le_self b ha.1
  rw [lI_toInt ⟨by omega, by omega⟩, Int.tdiv_eq_ediv_of_nonneg ha.1]
  exact Int.bmod_eq_of_le (by omega) (by omega)
theorem iI_long {a : Int} (ha : -2147483648 ≤ a ∧ a < 2147483648) : (iI a).toInt64 = lI a := by
  rw [← Int64.toInt_inj, Int32.toInt_toInt64, iI_toInt ha, lI_toInt ⟨by omega, by omega⟩]
theorem lI_int {a : Int} (ha : -2147483648 ≤ a ∧ a < 2147483648) : (lI a).toInt32 = iI a := by
  rw [← Int32.toInt_inj, Int64.toInt_toInt32, iI_toInt ha, lI_toInt ⟨by omega, by omega⟩]
  exact Int.bmod_eq_of_le (by omega) (by omega)
theorem iI_nI {z : Int} (h : 0 ≤ z) : iI z = nI z.toNat := by
  unfold iI nI
  obtain ⟨n, rfl⟩ := Int.eq_ofNat_of_zero_le h
  rfl
theorem iI_n (n : Nat) : iI (n : Int) = nI n := rfl
theorem iI_lit8 {n : Int} (h : -128 ≤ n ∧ n < 128) : (Int8.ofInt n).toInt32 = iI n := by
  rw [← Int32.toInt_inj, Int8.toInt_toInt32, iI_toInt ⟨by omega, by omega⟩]
  exact Int8.toInt_ofInt_of_le (by omega) (by omega)
theorem iI_lit16 {n : Int} (h : -32768 ≤ n ∧ n < 32768) : (Int16.ofInt n).toInt32 = iI n := by
  rw [← Int32.toInt_inj, Int16.toInt_toInt32, iI_toInt ⟨by omega, by omega⟩]
  exact Int16.toInt_ofInt_of_le (by omega) (by omega)
end
section
/-- an array of ints by a function of its places -/
def iaL (n : Nat) (f : Int → Int) : List Value := (List.range n).map (fun (j : Nat) => Value.int (iI (f (j : Int))))
def raL (n : Nat) (r : Int → Nat) : List Value := (List.range n).map (fun (j : Nat) => Value.ref (r (j : Int)))
def fup (f : Int → Int) (z x : Int) : Int → Int := fun j => if j = z then x else f j
theorem fup_s {f : Int → Int} {z x : Int} : fup f z x z = x := if_pos rfl
theorem fup_n {f : Int → Int} {z x j : Int} (h : j ≠ z) : fup f z x j = f j := if_neg h
theorem iaL_len (n : Nat) (f : Int → Int) : (iaL n f).length = n := by simp [iaL]
theorem raL_len (n : Nat) (r : Int → Nat) : (raL n r).length = n := by simp [raL]
theorem iaL_get {n : Nat} {f : Int → Int} {z : Int} (h : 0 ≤ z ∧ z < n) : (iaL n f)[z.toNat]? = some (.int (iI (f z))) := by
  have h1 : z.toNat < n := by omega
  have h2 : ((z.toNat : Nat) : Int) = z := Int.toNat_of_nonneg h.1
  simp [iaL, List.getElem?_map, List.getElem?_range h1, h2]
theorem raL_get {n : Nat} {r : Int → Nat} {z : Int} (h : 0 ≤ z ∧ z < n) : (raL n r)[z.toNat]? = some (.ref (r z)) := by
  have h1 : z.toNat < n := by omega
  have h2 : ((z.toNat : Nat) : Int) = z := Int.toNat_of_nonneg h.1
  simp [raL, List.getElem?_map, List.getElem?_range h1, h2]
theorem iaL_set {n : Nat} {f : Int → Int} {z x : Int} (h : 0 ≤ z ∧ z < n) : (iaL n f).set z.toNat (.int (iI x)) = iaL n (fup f z x) := by
  refine List.ext_getElem? fun j => ?_
  by_cases hj : j < n
  · by_cases e : j = z.toNat
    · subst e
      rw [List.getElem?_set_self (by rw [iaL_len]; exact hj)]
      have h2 := iaL_get (n := n) (f := fup f z x) h
      rw [fup_s] at h2
      exact h2.symm
    · rw [List.getElem?_set_ne (Ne.symm e)]
      have e2 : ((j : Nat) : Int) ≠ z := by omega
      simp [iaL, List.getElem?_map, List.getElem?_range hj, fup_n e2]
  · rw [List.getElem?_eq_none (by rw [List.length_set, iaL_len]; omega), List.getElem?_eq_none (by rw [iaL_len]; omega)]
theorem iaL_cong {n : Nat} {f g : Int → Int} (h : ∀ j : Int, 0 ≤ j → j < n → f j = g j) : iaL n f = iaL n g := by
  unfold iaL
  refine List.map_congr_left fun j hj => ?_
  rw [h j (by omega) (by have := List.mem_range.mp hj; omega)]
theorem raL_set {n : Nat} {r : Int → Nat} {z : Int} {x : Nat} (h : 0 ≤ z ∧ z < n) : (raL n r).set z.toNat (.ref x) = raL n (fun j => if j = z then x else r j) := by
  refine List.ext_getElem? fun j => ?_
  by_cases hj : j < n
  · by_cases e : j = z.toNat
    · subst e
      rw [List.getElem?_set_self (by rw [raL_len]; exact hj)]
      have h2 := raL_get (n := n) (r := fun j => if j = z then x else r j) h
      rw [if_pos rfl] at h2
      exact h2.symm
    · rw [List.getElem?_set_ne (Ne.symm e)]
      have e2 : ((j : Nat) : Int) ≠ z := by omega
      simp [raL, List.getElem?_map, List.getElem?_range hj, e2]
  · rw [List.getElem?_eq_none (by rw [List.length_set, raL_len]; omega), List.getElem?_eq_none (by rw [raL_len]; omega)]
theorem iaL_new (n : Nat) : List.replicate n (Value.int (iI 0)) = iaL n (fun _ => 0) := by
  refine List.ext_getElem? fun j => ?_
  by_cases hj : j < n
  · rw [List.getElem?_replicate, if_pos hj]
    simp [iaL, List.getElem?_map, List.getElem?_range hj]
  · rw [List.getElem?_eq_none (by rw [List.length_replicate]; omega), List.getElem?_eq_none (by rw [iaL_len]; omega)]
def cmpI (a b : Int) : Int := if a < b then -1 else if a = b then 0 else 1
theorem lg_cmpI {a b : Int} (ha : -9223372036854775808 ≤ a ∧ a < 9223372036854775808) (hb : -9223372036854775808 ≤ b ∧ b < 9223372036854775808) : lg_cmp (lI a) (lI b) = iI (cmpI a b) := by
  unfold lg_cmp cmpI
  have h1 : (lI a > lI b) ↔ b < a := lI_lt hb ha
  have h2 := lI_eq ha hb
  by_cases c1 : b < a
  · rw [if_pos (h1.mpr c1), if_neg (by omega), if_neg (by omega)]; rfl
  · rw [if_neg (fun q => c1 (h1.mp q))]
    by_cases c2 : a = b
    · rw [if_pos (h2.mpr c2), if_neg (by omega), if_pos c2]; rfl
    · rw [if_neg (fun q => c2 (h2.mp q)), if_pos (by omega)]; rfl

theorem xlenO {G : List xOb} {i : Nat} {q : xOb} (h : G[i]? = some q) : i < G.length := (List.getElem?_eq_some_iff.mp h).1
theorem xnarZ {z : Int} (h : z = 0 ∨ z = 1) : narrow .boolean (.int (iI z)) = .int (iI z) := by rcases h with rfl | rfl <;> decide
theorem xfitZ {z : Int} (h : z = 0 ∨ z = 1) : fits .boolean (.int (iI z)) = true := by rcases h with rfl | rfl <;> decide
section XZ
variable {L : Launch} {O : xWd} {M M' : xMd} {R rm : Room} {K K' : xOc → List xOb → Prop} {pc : Nat} {ls : List (Nat × Value)} {st : List Value} {G : List xOb} {cs ns : Nat}
theorem xz_iconst {n : Int} (hd : decode M.2.1 pc = .ok (.iconst n, 1)) (k : xWP L O M R K (pc + 1) ls (.int (iI n) :: st) G cs ns) : xWP L O M R K pc ls (st) G cs ns := xw_iconst hd rfl k
theorem xz_bipush {n : Int} (hd : decode M.2.1 pc = .ok (.bipush n, 2)) (hn : -128 ≤ n ∧ n < 128) (k : xWP L O M R K (pc + 2) ls (.int (iI n) :: st) G cs ns) : xWP L O M R K pc ls (st) G cs ns := xw_bipush hd (iI_lit8 hn) k
theorem xz_sipush {n : Int} (hd : decode M.2.1 pc = .ok (.sipush n, 3)) (hn : -32768 ≤ n ∧ n < 32768) (k : xWP L O M R K (pc + 3) ls (.int (iI n) :: st) G cs ns) : xWP L O M R K pc ls (st) G cs ns := xw_sipush hd (iI_lit16 hn) k
theorem xz_ldc {i : Nat} {v : Int32} {z : Int} (hd : decode M.2.1 pc = .ok (.ldc i, 2)) (hw : Cond.constant M.1.cls i v ∈ xTG) (hv : v = iI z) (k : xWP L O M R K (pc + 2) ls (.int (iI z) :: st) G cs ns) : xWP L O M R K pc ls (st) G cs ns := by subst hv; exact xw_ldc hd hw k
theorem xz_ldcw {i : Nat} {v : Int32} {z : Int} (hd : decode M.2.1 pc = .ok (.ldc_w i, 3)) (hw : Cond.constant M.1.cls i v ∈ xTG) (hv : v = iI z) (k : xWP L O M R K (pc + 3) ls (.int (iI z) :: st) G cs ns) : xWP L O M R K pc ls (st) G cs ns := by subst hv; exact xw_ldcw hd hw k
theorem xz_ldc2 {i : Nat} {v : Int64} {z : Int} (hd : decode M.2.1 pc = .ok (.ldc2_w i, 3)) (hw : Cond.constantLong M.1.cls i v ∈ xTG) (hv : v = lI z) (k : xWP L O M R K (pc + 3) ls (.long (lI z) :: st) G cs ns) : xWP L O M R K pc ls (st) G cs ns := by subst hv; exact xw_ldc2 hd hw k
theorem xz_lconst {n : Fin 2} {z : Int} (hd : decode M.2.1 pc = .ok (.lconst n, 1)) (hv : Int64.ofNat (n : Nat) = lI z) (k : xWP L O M R K (pc + 1) ls (.long (lI z) :: st) G cs ns) : xWP L O M R K pc ls (st) G cs ns := xw_lconst hd hv k
theorem xz_iinc {z n : Int} {i : Nat} {l2 : List (Nat × Value)} (k0 : Nat) (hd : decode M.2.1 pc = .ok (.iinc i n, 3)) (hk : ls[k0]? = some (i, .int (iI z))) (hn : i < M.2.2.1) (hok : xok1 i ls = true) (hu : xup i (.int (iI (z + n))) ls = l2) (k : xWP L O M R K (pc + 3) l2 st G cs ns) : xWP L O M R K pc ls st G cs ns := xw_iinc k0 hd hk (iI_add z n) hn hok hu k
theorem xz_iadd {a b : Int} (hd : decode M.2.1 pc = .ok (.iadd, 1)) (k : xWP L O M R K (pc + 1) ls (.int (iI (a + b)) :: st) G cs ns) : xWP L O M R K pc ls (.int (iI b) :: .int (iI a) :: st) G cs ns := xw_iadd hd (by rw [iI_add]; exact k)
theorem xz_isub {a b : Int} (hd : decode M.2.1 pc = .ok (.isub, 1)) (k : xWP L O M R K (pc + 1) ls (.int (iI (a - b)) :: st) G cs ns) : xWP L O M R K pc ls (.int (iI b) :: .int (iI a) :: st) G cs ns := xw_isub hd (by rw [iI_sub]; exact k)
theorem xz_imul {a b : Int} (hd : decode M.2.1 pc = .ok (.imul, 1)) (k : xWP L O M R K (pc + 1) ls (.int (iI (a * b)) :: st) G cs ns) : xWP L O M R K pc ls (.int (iI b) :: .int (iI a) :: st) G cs ns := xw_imul hd (by rw [iI_mul]; exact k)
theorem xz_ladd {a b : Int} (hd : decode M.2.1 pc = .ok (.ladd, 1)) (k : xWP L O M R K (pc + 1) ls (.long (lI (a + b)) :: st) G cs ns) : xWP L O M R K pc ls (.long (lI b) :: .long (lI a) :: st) G cs ns := xw_ladd hd (by rw [lI_add]; exact k)
theorem xz_lsub {a b : Int} (hd : decode M.2.1 pc = .ok (.lsub, 1)) (k : xWP L O M R K (pc + 1) ls (.long (lI (a - b)) :: st) G cs ns) : xWP L O M R K pc ls (.long (lI b) :: .long (lI a) :: st) G cs ns := xw_lsub hd (by rw [lI_sub]; exact k)
theorem xz_lmul {a b : Int} (hd : decode M.2.1 pc = .ok (.lmul, 1)) (k : xWP L O M R K (pc + 1) ls (.long (lI (a * b)) :: st) G cs ns) : xWP L O M R K pc ls (.long (lI b) :: .long (lI a) :: st) G cs ns := xw_lmul hd (by rw [lI_mul]; exact k)
theorem xz_ineg {a : Int} (hd : decode M.2.1 pc = .ok (.ineg, 1)) (k : xWP L O M R K (pc + 1) ls (.int (iI (-a)) :: st) G cs ns) : xWP L O M R K pc ls (.int (iI a) :: st) G cs ns := xw_ineg hd (by rw [iI_neg]; exact k)
theorem xz_idiv {a b : Int} (hd : decode M.2.1 pc = .ok (.idiv, 1)) (ha : 0 ≤ a ∧ a < 2147483648) (hb : 0 < b ∧ b < 2147483648) (k : xWP L O M R K (pc + 1) ls (.int (iI (a / b)) :: st) G cs ns) : xWP L O M R K pc ls (.int (iI b) :: .int (iI a) :: st) G cs ns := xw_idiv hd (fun q => by have := (iI_eq (a := b) (b := 0) ⟨by omega, by omega⟩ ⟨by omega, by omega⟩).mp q; omega) (by rw [iI_div ha hb]; exact k)
theorem xz_irem {a b : Int} (hd : decode M.2.1 pc = .ok (.irem, 1)) (ha : 0 ≤ a ∧ a < 2147483648) (hb : 0 < b ∧ b < 2147483648) (k : xWP L O M R K (pc + 1) ls (.int (iI (a % b)) :: st) G cs ns) : xWP L O M R K pc ls (.int (iI b) :: .int (iI a) :: st) G cs ns := xw_irem hd (fun q => by have := (iI_eq (a := b) (b := 0) ⟨by omega, by omega⟩ ⟨by omega, by omega⟩).mp q; omega) (by rw [iI_rem ha hb]; exact k)
theorem xz_ldiv {a b : Int} (hd : decode M.2.1 pc = .ok (.ldiv, 1)) (ha : 0 ≤ a ∧ a < 9223372036854775808) (hb : 0 < b ∧ b < 9223372036854775808) (k : xWP L O M R K (pc + 1) ls (.long (lI (a / b)) :: st) G cs ns) : xWP L O M R K pc ls (.long (lI b) :: .long (lI a) :: st) G cs ns := xw_ldiv hd (fun q => by have := (lI_eq (a := b) (b := 0) ⟨by omega, by omega⟩ ⟨by omega, by omega⟩).mp q; omega) (by rw [lI_div ha hb]; exact k)
theorem xz_i2l {a : Int} (hd : decode M.2.1 pc = .ok (.i2l, 1)) (ha : (-2147483648 ≤ a ∧ a < 2147483648)) (k : xWP L O M R K (pc + 1) ls (.long (lI a) :: st) G cs ns) : xWP L O M R K pc ls (.int (iI a) :: st) G cs ns := xw_i2l hd (by rw [iI_long ha]; exact k)
theorem xz_l2i {a : Int} (hd : decode M.2.1 pc = .ok (.l2i, 1)) (ha : (-2147483648 ≤ a ∧ a < 2147483648)) (k : xWP L O M R K (pc + 1) ls (.int (iI a) :: st) G cs ns) : xWP L O M R K pc ls (.long (lI a) :: st) G cs ns := xw_l2i hd (by rw [lI_int ha]; exact k)
theorem xz_lcmp {a b : Int} (hd : decode M.2.1 pc = .ok (.lcmp, 1)) (ha : (-9223372036854775808 ≤ a ∧ a < 9223372036854775808)) (hb : (-9223372036854775808 ≤ b ∧ b < 9223372036854775808)) (k : xWP L O M R K (pc + 1) ls (.int (iI (cmpI a b)) :: st) G cs ns) : xWP L O M R K pc ls (.long (lI b) :: .long (lI a) :: st) G cs ns := xw_lcmp hd (by rw [lg_cmpI ha hb]; exact k)
theorem xz_if_eq {z off : Int} {tgt : Nat} (hd : decode M.2.1 pc = .ok (.ifCond .eq off, 3)) (ht : (pc : Int) + off = (tgt : Int)) (hz : (-2147483648 ≤ z ∧ z < 2147483648)) (kt : z = 0 → xWP L O M R K tgt ls st G cs ns) (kf : ¬ z = 0 → xWP L O M R K (pc + 3) ls st G cs ns) : xWP L O M R K pc ls (.int (iI z) :: st) G cs ns := by
  have z9 := (by decide : (-2147483648 : Int) ≤ 0 ∧ (0 : Int) < 2147483648)
  exact xw_if_eq hd ht (fun q => kt ((iI_eq hz z9).mp q)) (fun q => kf (fun w => q ((iI_eq hz z9).mpr w)))
theorem xz_icmp_eq {a b off : Int} {tgt : Nat} (hd : decode M.2.1 pc = .ok (.if_icmp .eq off, 3)) (ht : (pc : Int) + off = (tgt : Int)) (ha : (-2147483648 ≤ a ∧ a < 2147483648)) (hb : (-2147483648 ≤ b ∧ b < 2147483648)) (kt : a = b → xWP L O M R K tgt ls st G cs ns) (kf : ¬ a = b → xWP L O M R K (pc + 3) ls st G cs ns) : xWP L O M R K pc ls (.int (iI b) :: .int (iI a) :: st) G cs ns := by
  exact xw_icmp_eq hd ht (fun q => kt ((iI_eq ha hb).mp q)) (fun q => kf (fun w => q ((iI_eq ha hb).mpr w)))
theorem xz_if_ne {z off : Int} {tgt : Nat} (hd : decode M.2.1 pc = .ok (.ifCond .ne off, 3)) (ht : (pc : Int) + off = (tgt : Int)) (hz : (-2147483648 ≤ z ∧ z < 2147483648)) (kt : ¬ z = 0 → xWP L O M R K tgt ls st G cs ns) (kf : z = 0 → xWP L O M R K (pc + 3) ls st G cs ns) : xWP L O M R K pc ls (.int (iI z) :: st) G cs ns := by
  have z9 := (by decide : (-2147483648 : Int) ≤ 0 ∧ (0 : Int) < 2147483648)
  exact xw_if_ne hd ht (fun q => kt (fun w => q ((iI_eq hz z9).mpr w))) (fun q => kf ((iI_eq hz z9).mp q))
theorem xz_icmp_ne {a b off : Int} {tgt : Nat} (hd : decode M.2.1 pc = .ok (.if_icmp .ne off, 3)) (ht : (pc : Int) + off = (tgt : Int)) (ha : (-2147483648 ≤ a ∧ a < 2147483648)) (hb : (-2147483648 ≤ b ∧ b < 2147483648)) (kt : ¬ a = b → xWP L O M R K tgt ls st G cs ns) (kf : a = b → xWP L O M R K (pc + 3) ls st G cs ns) : xWP L O M R K pc ls (.int (iI b) :: .int (iI a) :: st) G cs ns := by
  exact xw_icmp_ne hd ht (fun q => kt (fun w => q ((iI_eq ha hb).mpr w))) (fun q => kf ((iI_eq ha hb).mp q))
theorem xz_if_lt {z off : Int} {tgt : Nat} (hd : decode M.2.1 pc = .ok (.ifCond .lt off, 3)) (ht : (pc : Int) + off = (tgt : Int)) (hz : (-2147483648 ≤ z ∧ z < 2147483648)) (kt : z < 0 → xWP L O M R K tgt ls st G cs ns) (kf : 0 ≤ z → xWP L O M R K (pc + 3) ls st G cs ns) : xWP L O M R K pc ls (.int (iI z) :: st) G cs ns := by
  have z9 := (by decide : (-2147483648 : Int) ≤ 0 ∧ (0 : Int) < 2147483648)
  exact xw_if_lt hd ht (fun q => kt ((iI_lt hz z9).mp q)) (fun q => kf (Int.not_lt.mp (fun w => q ((iI_lt hz z9).mpr w))))
theorem xz_icmp_lt {a b off : Int} {tgt : Nat} (hd : decode M.2.1 pc = .ok (.if_icmp .lt off, 3)) (ht : (pc : Int) + off = (tgt : Int)) (ha : (-2147483648 ≤ a ∧ a < 2147483648)) (hb : (-2147483648 ≤ b ∧ b < 2147483648)) (kt : a < b → xWP L O M R K tgt ls st G cs ns) (kf : b ≤ a → xWP L O M R K (pc + 3) ls st G cs ns) : xWP L O M R K pc ls (.int (iI b) :: .int (iI a) :: st) G cs ns := by
  exact xw_icmp_lt hd ht (fun q => kt ((iI_lt ha hb).mp q)) (fun q => kf (Int.not_lt.mp (fun w => q ((iI_lt ha hb).mpr w))))
theorem xz_if_ge {z off : Int} {tgt : Nat} (hd : decode M.2.1 pc = .ok (.ifCond .ge off, 3)) (ht : (pc : Int) + off = (tgt : Int)) (hz : (-2147483648 ≤ z ∧ z < 2147483648)) (kt : 0 ≤ z → xWP L O M R K tgt ls st G cs ns) (kf : z < 0 → xWP L O M R K (pc + 3) ls st G cs ns) : xWP L O M R K pc ls (.int (iI z) :: st) G cs ns := by
  have z9 := (by decide : (-2147483648 : Int) ≤ 0 ∧ (0 : Int) < 2147483648)
  exact xw_if_ge hd ht (fun q => kt ((iI_le z9 hz).mp q)) (fun q => kf (Int.not_le.mp (fun w => q ((iI_le z9 hz).mpr w))))
theorem xz_icmp_ge {a b off : Int} {tgt : Nat} (hd : decode M.2.1 pc = .ok (.if_icmp .ge off, 3)) (ht : (pc : Int) + off = (tgt : Int)) (ha : (-2147483648 ≤ a ∧ a < 2147483648)) (hb : (-2147483648 ≤ b ∧ b < 2147483648)) (kt : b ≤ a → xWP L O M R K tgt ls st G cs ns) (kf : a < b → xWP L O M R K (pc + 3) ls st G cs ns) : xWP L O M R K pc ls (.int (iI b) :: .int (iI a) :: st) G cs ns := by
  exact xw_icmp_ge hd ht (fun q => kt ((iI_le hb ha).mp q)) (fun q => kf (Int.not_le.mp (fun w => q ((iI_le hb ha).mpr w))))
theorem xz_if_gt {z off : Int} {tgt : Nat} (hd : decode M.2.1 pc = .ok (.ifCond .gt off, 3)) (ht : (pc : Int) + off = (tgt : Int)) (hz : (-2147483648 ≤ z ∧ z < 2147483648)) (kt : 0 < z → xWP L O M R K tgt ls st G cs ns) (kf : z ≤ 0 → xWP L O M R K (pc + 3) ls st G cs ns) : xWP L O M R K pc ls (.int (iI z) :: st) G cs ns := by
  have z9 := (by decide : (-2147483648 : Int) ≤ 0 ∧ (0 : Int) < 2147483648)
  exact xw_if_gt hd ht (fun q => kt ((iI_lt z9 hz).mp q)) (fun q => kf (Int.not_lt.mp (fun w => q ((iI_lt z9 hz).mpr w))))
theorem xz_icmp_gt {a b off : Int} {tgt : Nat} (hd : decode M.2.1 pc = .ok (.if_icmp .gt off, 3)) (ht : (pc : Int) + off = (tgt : Int)) (ha : (-2147483648 ≤ a ∧ a < 2147483648)) (hb : (-2147483648 ≤ b ∧ b < 2147483648)) (kt : b < a → xWP L O M R K tgt ls st G cs ns) (kf : a ≤ b → xWP L O M R K (pc + 3) ls st G cs ns) : xWP L O M R K pc ls (.int (iI b) :: .int (iI a) :: st) G cs ns := by
  exact xw_icmp_gt hd ht (fun q => kt ((iI_lt hb ha).mp q)) (fun q => kf (Int.not_lt.mp (fun w => q ((iI_lt hb ha).mpr w))))
theorem xz_if_le {z off : Int} {tgt : Nat} (hd : decode M.2.1 pc = .ok (.ifCond .le off, 3)) (ht : (pc : Int) + off = (tgt : Int)) (hz : (-2147483648 ≤ z ∧ z < 2147483648)) (kt : z ≤ 0 → xWP L O M R K tgt ls st G cs ns) (kf : 0 < z → xWP L O M R K (pc + 3) ls st G cs ns) : xWP L O M R K pc ls (.int (iI z) :: st) G cs ns := by
  have z9 := (by decide : (-2147483648 : Int) ≤ 0 ∧ (0 : Int) < 2147483648)
  exact xw_if_le hd ht (fun q => kt ((iI_le hz z9).mp q)) (fun q => kf (Int.not_le.mp (fun w => q ((iI_le hz z9).mpr w))))
theorem xz_icmp_le {a b off : Int} {tgt : Nat} (hd : decode M.2.1 pc = .ok (.if_icmp .le off, 3)) (ht : (pc : Int) + off = (tgt : Int)) (ha : (-2147483648 ≤ a ∧ a < 2147483648)) (hb : (-2147483648 ≤ b ∧ b < 2147483648)) (kt : a ≤ b → xWP L O M R K tgt ls st G cs ns) (kf : b < a → xWP L O M R K (pc + 3) ls st G cs ns) : xWP L O M R K pc ls (.int (iI b) :: .int (iI a) :: st) G cs ns := by
  exact xw_icmp_le hd ht (fun q => kt ((iI_le ha hb).mp q)) (fun q => kf (Int.not_le.mp (fun w => q ((iI_le ha hb).mpr w))))
theorem xz_tabIn {dflt lo hi z off : Int} {offs : Array Int} {len : Nat} {tgt : Nat} (hd : decode M.2.1 pc = .ok (.tableswitch dflt lo hi offs, len)) (hz : -2147483648 ≤ z ∧ z < 2147483648) (h1 : lo ≤ z ∧ z ≤ hi) (ho : offs[(z - lo).toNat]? = some off) (ht : (pc : Int) + off = (tgt : Int)) (k : xWP L O M R K tgt ls st G cs ns) : xWP L O M R K pc ls (.int (iI z) :: st) G cs ns :=
  xw_tabIn hd (by rw [iI_toInt hz]; omega) (by rw [iI_toInt hz]; omega) (by rw [iI_toInt hz]; exact ho) ht k
theorem xz_tabOut {dflt lo hi z : Int} {offs : Array Int} {len : Nat} {tgt : Nat} (hd : decode M.2.1 pc = .ok (.tableswitch dflt lo hi offs, len)) (hz : -2147483648 ≤ z ∧ z < 2147483648) (h : z < lo ∨ hi < z) (ht : (pc : Int) + dflt = (tgt : Int)) (k : xWP L O M R K tgt ls st G cs ns) : xWP L O M R K pc ls (.int (iI z) :: st) G cs ns :=
  xw_tabOut hd (by rw [iI_toInt hz]; exact h) ht k
theorem xz_lookup {dflt z off : Int} {ps : Array (Int × Int)} {len : Nat} {tgt : Nat} (hd : decode M.2.1 pc = .ok (.lookupswitch dflt ps, len)) (hz : -2147483648 ≤ z ∧ z < 2147483648) (hp : (ps.toList.zip (ps.toList.drop 1)).all (fun (a, next) => a.1 < next.1) = true) (ho : Op.lookupswitch.offset ps.toList dflt z = off) (ht : (pc : Int) + off = (tgt : Int)) (k : xWP L O M R K tgt ls st G cs ns) : xWP L O M R K pc ls (.int (iI z) :: st) G cs ns :=
  xw_lookup hd hp (by rw [iI_toInt hz]; exact ho) ht k
/-! arrays -/
theorem xz_iald {i n : Nat} {f : Int → Int} {z : Int} (hi : i < xBig) (hd : decode M.2.1 pc = .ok (.iaload, 1)) (hg : G[i]? = some (64, iaL n f)) (hz : 0 ≤ z ∧ z < n) (hb : n < 2147483648) (k : xWP L O M R K (pc + 1) ls (.int (iI (f z)) :: st) G cs ns) : xWP L O M R K pc ls (.int (iI z) :: .ref i :: st) G cs ns :=
  xw_iald (j := z.toNat) hi hd rfl hg (iI_nI hz.1) (by rw [iaL_len]; exact hb) (iaL_get hz) k
theorem xz_zald {i n : Nat} {f : Int → Int} {z : Int} (hi : i < xBig) (hd : decode M.2.1 pc = .ok (.baload, 1)) (hg : G[i]? = some (65, iaL n f)) (hz : 0 ≤ z ∧ z < n) (hb : n < 2147483648) (k : xWP L O M R K (pc + 1) ls (.int (iI (f z)) :: st) G cs ns) : xWP L O M R K pc ls (.int (iI z) :: .ref i :: st) G cs ns :=
  xw_zald (j := z.toNat) hi hd rfl hg (iI_nI hz.1) (by rw [iaL_len]; exact hb) (iaL_get hz) k
theorem xz_aald (t : Nat) {ty : FieldType} {i n : Nat} {r : Int → Nat} {z : Int} (hi : i < xBig) (hd : decode M.2.1 pc = .ok (.aaload, 1)) (ht : t < 63) (hat : xaT[t]? = some ty) (href : ty.isReference = true) (hg : G[i]? = some (64 + t, raL n r)) (hz : 0 ≤ z ∧ z < n) (hb : n < 2147483648) (k : xWP L O M R K (pc + 1) ls (.ref (r z) :: st) G cs ns) : xWP L O M R K pc ls (.int (iI z) :: .ref i :: st) G cs ns :=
  xw_aald t (j := z.toNat) hi hd ht hat href hg (iI_nI hz.1) (by rw [raL_len]; exact hb) (raL_get hz) k
theorem xz_alen (t : Nat) {ty : FieldType} {i n : Nat} {vs : List Value} (hi : i < xBig) (hd : decode M.2.1 pc = .ok (.arraylength, 1)) (ht : t < 63) (hat : xaT[t]? = some ty) (hg : G[i]? = some (64 + t, vs)) (hn : vs.length = n) (k : xWP L O M R K (pc + 1) ls (.int (iI n) :: st) G cs ns) : xWP L O M R K pc ls (.ref i :: st) G cs ns :=
  xw_alen t hi hd ht hat hg (by rw [hn]; rfl) k
theorem xz_iast {i n : Nat} {f : Int → Int} {z x : Int} (hi : i < xBig) (hd : decode M.2.1 pc = .ok (.iastore, 1)) (hg : G[i]? = some (64, iaL n f)) (hz : 0 ≤ z ∧ z < n) (hb : n < 2147483648)
    (k : ∀ G1 : List xOb, G1.length = G.length → G1[i]? = some (64, iaL n (fup f z x)) → (∀ j, j ≠ i → G1[j]? = G[j]?) → xWP L O M R K (pc + 1) ls st G1 cs ns) : xWP L O M R K pc ls (.int (iI x) :: .int (iI z) :: .ref i :: st) G cs ns := by
  refine xw_iast (j := z.toNat) hi hd rfl hg (iI_nI hz.1) (by rw [iaL_len]; omega) (by rw [iaL_len]; exact hb) (k _ (List.length_set ..) ?_ (fun j hj => List.getElem?_set_ne (Ne.symm hj)))
  rw [List.getElem?_set_self (xlenO hg), iaL_set hz]
theorem xz_zast {i n : Nat} {f : Int → Int} {z x : Int} (hi : i < xBig) (hd : decode M.2.1 pc = .ok (.bastore, 1)) (hg : G[i]? = some (65, iaL n f)) (hz : 0 ≤ z ∧ z < n) (hb : n < 2147483648) (hx : x = 0 ∨ x = 1)
    (k : ∀ G1 : List xOb, G1.length = G.length → G1[i]? = some (65, iaL n (fup f z x)) → (∀ j, j ≠ i → G1[j]? = G[j]?) → xWP L O M R K (pc + 1) ls st G1 cs ns) : xWP L O M R K pc ls (.int (iI x) :: .int (iI z) :: .ref i :: st) G cs ns := by
  refine xw_zast (j := z.toNat) hi hd rfl hg (iI_nI hz.1) (by rw [iaL_len]; omega) (by rw [iaL_len]; exact hb) (xnarZ hx) (k _ (List.length_set ..) ?_ (fun j hj => List.getElem?_set_ne (Ne.symm hj)))
  rw [List.getElem?_set_self (xlenO hg), iaL_set hz]
theorem xz_aast (t : Nat) {i n v ci N : Nat} {r : Int → Nat} {z : Int} {vs fs : List Value} {C : String} {T : u_T} (hi : i < xBig) (hv : v < xBig) (hd : decode M.2.1 pc = .ok (.aastore, 1)) (ht : t < 63) (hat : xaT[t]? = some (.object C)) (hg : G[i]? = some (64 + t, vs)) (ho : G[v]? = some (ci, fs)) (hci : ci < 64) (hc : xcl[ci]? = some (C, T, N)) (hz : 0 ≤ z ∧ z < n) (hl : vs.length = n) (hb : n < 2147483648)
    (k : ∀ G1 : List xOb, G1.length = G.length → G1[i]? = some (64 + t, vs.set z.toNat (.ref v)) → (∀ j, j ≠ i → G1[j]? = G[j]?) → xWP L O M R K (pc + 1) ls st G1 cs ns) : xWP L O M R K pc ls (.ref v :: .int (iI z) :: .ref i :: st) G cs ns :=
  xw_aast t (j := z.toNat) hi hv hd ht hat hg ho hci hc (iI_nI hz.1) (by omega) (by omega) (k _ (List.length_set ..) (List.getElem?_set_self (xlenO hg)) (fun j hj => List.getElem?_set_ne (Ne.symm hj)))
theorem xz_newa {t : Nat} {atype : ArrayType} {n : Int} {g : Nat} (hd : decode M.2.1 pc = .ok (.newarray atype, 2)) (ht : t < 63) (hat : xaT[t]? = some (newarray.typeOf atype)) (w1 : Cond.arrayClass (newarray.typeOf atype) ∈ xTG) (hn : 0 ≤ n ∧ n ≤ 65536) (hv : defaultValue (newarray.typeOf atype) = .int 0) (hcb : componentBytes (newarray.typeOf atype) ≤ 8) (hg : G.length = g) (hG : g + 1 < xBig) (hcs : cs + 1 ≤ R.cells) (hns : ns + n.toNat ≤ R.slots)
    (k : ∀ G1 : List xOb, G1.length = g + 1 → G1[g]? = some (64 + t, iaL n.toNat (fun _ => 0)) → (∀ j, j < g → G1[j]? = G[j]?) → xWP L O M R K (pc + 2) ls (.ref g :: st) G1 (cs + 1) (ns + n.toNat)) : xWP L O M R K pc ls (.int (iI n) :: st) G cs ns := by
  subst hg
  refine xw_newa (d := .int (iI 0)) (N := n.toNat) hd ht hat w1 (iI_nI hn.1) (by omega) (by rw [hv]; rfl) hcb hG hcs hns (k _ (by rw [List.length_append]; rfl) ?_ (fun j hj => List.getElem?_append_left hj))
  rw [List.getElem?_append_right (Nat.le_refl _), Nat.sub_self, ← iaL_new]; rfl
theorem xz_new {ci idx N : Nat} {fs : List Value} {C : String} {T : u_T} {g : Nat} (ty0 : Nat → FieldType) (hd : decode M.2.1 pc = .ok (.new idx, 3)) (hci : ci < 64) (hc : xcl[ci]? = some (C, T, N)) (hin : ∀ w ∈ u_ws C T N, w ∈ xTG) (hty : ∀ k, k < N → parseFieldDescriptor (T k).2.2.1 = some (ty0 k))
    (w1 : Cond.classLink M.1.cls idx C ∈ xTG) (w2 : Cond.instantiable C N ∈ xTG) (w3 : Cond.initialized C ∈ xTG) (hlen : fs.length = N) (hfs : ∀ j, j < N → defaultValue (ty0 j) = xtr O (fs.getD j .null)) (hg : G.length = g) (hG : g + 1 < xBig) (hcs : cs + 1 ≤ R.cells) (hns : ns + N ≤ R.slots)
    (k : ∀ G1 : List xOb, G1.length = g + 1 → G1[g]? = some (ci, fs) → (∀ j, j < g → G1[j]? = G[j]?) → xWP L O M R K (pc + 3) ls (.ref g :: st) G1 (cs + 1) (ns + N)) : xWP L O M R K pc ls st G cs ns := by
  subst hg
  refine xw_new ty0 hd hci hc hin hty w1 w2 w3 hlen hfs hG hcs hns (k _ (by rw [List.length_append]; rfl) ?_ (fun j hj => List.getElem?_append_left hj))
  rw [List.getElem?_append_right (Nat.le_refl _), Nat.sub_self]; rfl
/-! fields: a class's row by its place -/
def xFo (M : xMd) (idx ci k : Nat) : Prop := ci < 64 ∧ ∃ (C : String) (T : u_T) (N : Nat) (ty0 : Nat → FieldType), xcl[ci]? = some (C, T, N) ∧ (∀ w ∈ u_ws C T N, w ∈ xTG) ∧ k < N ∧ (∀ k, k < N → parseFieldDescriptor (T k).2.2.1 = some (ty0 k)) ∧ (∀ a, a < N → ∀ b, b < N → a ≠ b → (T a).2.1 ≠ (T b).2.1) ∧
  (Cond.fieldLink M.1.cls idx (T k).1 (T k).2.1 (T k).2.2.1 ∈ xTG ∨ ∃ host, Cond.fieldLinkNest M.1.cls idx (T k).1 (T k).2.1 (T k).2.2.1 host ∈ xTN)
theorem xz_getf {i ci kf idx : Nat} {fs : List Value} {v : Value} (hF : xFo M idx ci kf) (hi : i < xBig) (hd : decode M.2.1 pc = .ok (.getfield idx, 3)) (hg : G[i]? = some (ci, fs)) (hv : fs[kf]? = some v) (k : xWP L O M R K (pc + 3) ls (v :: st) G cs ns) : xWP L O M R K pc ls (.ref i :: st) G cs ns := by
  obtain ⟨h1, C, T, N, ty0, h2, h3, h4, h5, h6, h7⟩ := hF
  exact xw_getf hi hd hg h1 h2 h3 h4 h7 hv k
/-- a field that is written: of the type ty, not final, or in its class's constructor -/
def xFp (M : xMd) (idx ci k : Nat) (ty : FieldType) : Prop := ci < 64 ∧ ∃ (C : String) (T : u_T) (N : Nat) (ty0 : Nat → FieldType), xcl[ci]? = some (C, T, N) ∧ (∀ w ∈ u_ws C T N, w ∈ xTG) ∧ k < N ∧ (∀ k, k < N → parseFieldDescriptor (T k).2.2.1 = some (ty0 k)) ∧ (∀ a, a < N → ∀ b, b < N → a ≠ b → (T a).2.1 ≠ (T b).2.1) ∧
  ((T k).2.2.2 = false ∨ ((T k).2.2.2 = true ∧ M.1.name = "<init>" ∧ (T k).1 = M.1.cls)) ∧ (Cond.fieldLink M.1.cls idx (T k).1 (T k).2.1 (T k).2.2.1 ∈ xTG ∨ ((T k).2.2.2 = false ∧ ∃ host, Cond.fieldLinkNest M.1.cls idx (T k).1 (T k).2.1 (T k).2.2.1 host ∈ xTN)) ∧ ty0 k = ty
theorem xz_putf {i ci kf idx : Nat} {fs fs2 : List Value} {v : Value} {ty : FieldType} (hF : xFp M idx ci kf ty) (hi : i < xBig) (hd : decode M.2.1 pc = .ok (.putfield idx, 3)) (hg : G[i]? = some (ci, fs)) (hn : narrow ty (xtr O v) = xtr O v) (hfit : fits ty (xtr O v) = true) (hf : fs.set kf v = fs2)
    (k : ∀ G1 : List xOb, G1.length = G.length → G1[i]? = some (ci, fs2) → (∀ j, j ≠ i → G1[j]? = G[j]?) → xWP L O M R K (pc + 3) ls st G1 cs ns) : xWP L O M R K pc ls (v :: .ref i :: st) G cs ns := by
  obtain ⟨h1, C, T, N, ty0, h2, h3, h4, h5, h6, h7, h8, h9⟩ := hF
  refine xw_putf ty0 hi hd hg h1 h2 h3 h4 h5 h6 h7 h8 h9 hn hfit (k _ (List.length_set ..) ?_ (fun j hj => List.getElem?_set_ne (Ne.symm hj)))
  rw [List.getElem?_set_self (xlenO hg), hf]
theorem xz_puti {i ci kf idx : Nat} {fs fs2 : List Value} {z : Int} (hF : xFp M idx ci kf .int) (hi : i < xBig) (hd : decode M.2.1 pc = .ok (.putfield idx, 3)) (hg : G[i]? = some (ci, fs)) (hf : fs.set kf (.int (iI z)) = fs2)
    (k : ∀ G1 : List xOb, G1.length = G.length → G1[i]? = some (ci, fs2) → (∀ j, j ≠ i → G1[j]? = G[j]?) → xWP L O M R K (pc + 3) ls st G1 cs ns) : xWP L O M R K pc ls (.int (iI z) :: .ref i :: st) G cs ns := xz_putf hF hi hd hg rfl rfl hf k
theorem xz_putz {i ci kf idx : Nat} {fs fs2 : List Value} {z : Int} (hF : xFp M idx ci kf .boolean) (hi : i < xBig) (hd : decode M.2.1 pc = .ok (.putfield idx, 3)) (hg : G[i]? = some (ci, fs)) (hz : z = 0 ∨ z = 1) (hf : fs.set kf (.int (iI z)) = fs2)
    (k : ∀ G1 : List xOb, G1.length = G.length → G1[i]? = some (ci, fs2) → (∀ j, j ≠ i → G1[j]? = G[j]?) → xWP L O M R K (pc + 3) ls st G1 cs ns) : xWP L O M R K pc ls (.int (iI z) :: .ref i :: st) G cs ns := xz_putf hF hi hd hg (xnarZ hz) (xfitZ hz) hf k
theorem xz_putr {i ci kf idx x : Nat} {fs fs2 : List Value} {ty : FieldType} (hF : xFp M idx ci kf ty) (hi : i < xBig) (hx : x < xBig) (hd : decode M.2.1 pc = .ok (.putfield idx, 3)) (hg : G[i]? = some (ci, fs)) (hty : ∀ q : Nat, narrow ty (.ref q) = .ref q ∧ fits ty (.ref q) = true) (hf : fs.set kf (.ref x) = fs2)
    (k : ∀ G1 : List xOb, G1.length = G.length → G1[i]? = some (ci, fs2) → (∀ j, j ≠ i → G1[j]? = G[j]?) → xWP L O M R K (pc + 3) ls st G1 cs ns) : xWP L O M R K pc ls (.ref x :: .ref i :: st) G cs ns := xz_putf hF hi hd hg (by rw [xtr_id hx]; exact (hty _).1) (by rw [xtr_id hx]; exact (hty _).2) hf k
theorem xz_iret {z : Int} (hd : decode M.2.1 pc = .ok (.ireturn, 1)) (hr : M.2.2.2.1 = some .int) (hc : cs ≤ R.cells) (hs : ns ≤ R.slots) (hK : K (.inl (some (.int (iI z)))) G) : xWP L O M R K pc ls [.int (iI z)] G cs ns := xw_iret hd hr rfl hc hs hK
theorem xz_zret {z : Int} (hd : decode M.2.1 pc = .ok (.ireturn, 1)) (hr : M.2.2.2.1 = some .boolean) (hz : z = 0 ∨ z = 1) (hc : cs ≤ R.cells) (hs : ns ≤ R.slots) (hK : K (.inl (some (.int (iI z)))) G) : xWP L O M R K pc ls [.int (iI z)] G cs ns := xw_iret hd hr (xnarZ hz) hc hs hK
theorem xz_aret {i : Nat} {rt : FieldType} (hd : decode M.2.1 pc = .ok (.areturn, 1)) (hr : M.2.2.2.1 = some rt) (hrt : (∃ n, rt = .object n) ∨ ∃ t, rt = .array t) (hc : cs ≤ R.cells) (hs : ns ≤ R.slots) (hK : K (.inl (some (.ref i))) G) : xWP L O M R K pc ls [.ref i] G cs ns := xw_aret hd hr hrt hc hs hK
end XZ
end

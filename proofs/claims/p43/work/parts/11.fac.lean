theorem xTG_sub (ws : List Cond) (is : List Nat) (hp : ws.map some = is.map (fun i => lw_tbl[i]?)) (g : ws.all goodWord = true) : ∀ w ∈ ws, w ∈ xTG := by
  intro w hw
  have h1 : some w ∈ ws.map some := List.mem_map.mpr ⟨w, hw, rfl⟩
  rw [hp] at h1
  obtain ⟨i, -, hi⟩ := List.mem_map.mp h1
  exact xTG_mem i hi (List.all_eq_true.mp g w hw)
theorem inX0 : ∀ w ∈ u_ws RX0 TX0 3, w ∈ xTG := xTG_sub _ [311, 313, 315] (by decide +kernel) (by decide +kernel)
theorem inX1 : ∀ w ∈ u_ws RX1 TX1 3, w ∈ xTG := xTG_sub _ [293, 295, 297] (by decide +kernel) (by decide +kernel)
theorem inX2 : ∀ w ∈ u_ws RX2 TX2 5, w ∈ xTG := xTG_sub _ [83, 85, 87, 89, 91] (by decide +kernel) (by decide +kernel)
theorem inX3 : ∀ w ∈ u_ws RX3 TX3 10, w ∈ xTG := xTG_sub _ [211, 213, 215, 217, 219, 221, 223, 225, 227, 229] (by decide +kernel) (by decide +kernel)
theorem inX4 : ∀ w ∈ u_ws RX4 TX4 2, w ∈ xTG := xTG_sub _ [278, 280] (by decide +kernel) (by decide +kernel)
theorem inX5 : ∀ w ∈ u_ws RX5 TX5 5, w ∈ xTG := xTG_sub _ [331, 333, 335, 337, 339] (by decide +kernel) (by decide +kernel)
theorem inX6 : ∀ w ∈ u_ws RX6 TX6 3, w ∈ xTG := xTG_sub _ [165, 167, 169] (by decide +kernel) (by decide +kernel)
theorem inX7 : ∀ w ∈ u_ws RX7 TX7 2, w ∈ xTG := xTG_sub _ [114, 116] (by decide +kernel) (by decide +kernel)
theorem inX8 : ∀ w ∈ u_ws RX8 TX8 4, w ∈ xTG := xTG_sub _ [352, 354, 356, 358] (by decide +kernel) (by decide +kernel)
theorem inX9 : ∀ w ∈ u_ws RX9 TX9 8, w ∈ xTG := xTG_sub _ [131, 133, 135, 137, 139, 141, 143, 145] (by decide +kernel) (by decide +kernel)
theorem inX10 : ∀ w ∈ u_ws RX10 TX10 9, w ∈ xTG := xTG_sub _ [249, 251, 253, 255, 257, 259, 261, 263, 265] (by decide +kernel) (by decide +kernel)
theorem inX11 : ∀ w ∈ u_ws RX11 TX11 12, w ∈ xTG := xTG_sub _ [373, 375, 377, 379, 381, 383, 385, 387, 389, 391, 393, 395] (by decide +kernel) (by decide +kernel)
def mX0_init : xMd := (yX0_init, cX0_init, 1, none, [])
theorem okX0_init : xOkI mX0_init 0 := ⟨⟨by decide, by decide, by decide +kernel, xTG_mem 304 (by decide +kernel) (by decide +kernel), xTG_mem 44 (by decide +kernel) (by decide +kernel)⟩, rfl, rfl, rfl, xTG_mem 303 (by decide +kernel) (by decide +kernel)⟩
def mX0_setPrice : xMd := (yX0_setPrice, cX0_setPrice, 4, none, [])
theorem okX0_setPrice : xOkV mX0_setPrice 3 := ⟨⟨by decide, by decide, by decide +kernel, xTG_mem 482 (by decide +kernel) (by decide +kernel), xTG_mem 44 (by decide +kernel) (by decide +kernel)⟩, rfl, xTG_mem 480 (by decide +kernel) (by decide +kernel), xTG_mem 481 (by decide +kernel) (by decide +kernel)⟩
def mX0_partnerOf : xMd := (yX0_partnerOf, cX0_partnerOf, 2, (some .int), [])
theorem okX0_partnerOf : xOkV mX0_partnerOf 1 := ⟨⟨by decide, by decide, by decide +kernel, xTG_mem 1100 (by decide +kernel) (by decide +kernel), xTG_mem 44 (by decide +kernel) (by decide +kernel)⟩, rfl, xTG_mem 1098 (by decide +kernel) (by decide +kernel), xTG_mem 1099 (by decide +kernel) (by decide +kernel)⟩
def mX0_align : xMd := (yX0_align, cX0_align, 8, (some .int), [])
theorem okX0_align : xOkV mX0_align 4 := ⟨⟨by decide, by decide, by decide +kernel, xTG_mem 489 (by decide +kernel) (by decide +kernel), xTG_mem 44 (by decide +kernel) (by decide +kernel)⟩, rfl, xTG_mem 487 (by decide +kernel) (by decide +kernel), xTG_mem 488 (by decide +kernel) (by decide +kernel)⟩
def mX0_pairedCost : xMd := (yX0_pairedCost, cX0_pairedCost, 3, (some .int), [])
theorem okX0_pairedCost : xOkV mX0_pairedCost 2 := ⟨⟨by decide, by decide, by decide +kernel, xTG_mem 494 (by decide +kernel) (by decide +kernel), xTG_mem 44 (by decide +kernel) (by decide +kernel)⟩, rfl, xTG_mem 493 (by decide +kernel) (by decide +kernel), xTG_mem 7 (by decide +kernel) (by decide +kernel)⟩
def mX0_choose : xMd := (yX0_choose, cX0_choose, 7, none, [])
theorem okX0_choose : xOkV mX0_choose 3 := ⟨⟨by decide, by decide, by decide +kernel, xTG_mem 498 (by decide +kernel) (by decide +kernel), xTG_mem 44 (by decide +kernel) (by decide +kernel)⟩, rfl, xTG_mem 497 (by decide +kernel) (by decide +kernel), xTG_mem 8 (by decide +kernel) (by decide +kernel)⟩
def mX1_init : xMd := (yX1_init, cX1_init, 1, none, [])
theorem okX1_init : xOkI mX1_init 0 := ⟨⟨by decide, by decide, by decide +kernel, xTG_mem 287 (by decide +kernel) (by decide +kernel), xTG_mem 43 (by decide +kernel) (by decide +kernel)⟩, rfl, rfl, rfl, xTG_mem 286 (by decide +kernel) (by decide +kernel)⟩
def mX1_areBelow : xMd := (yX1_areBelow, cX1_areBelow, 3, (some .boolean), [])
theorem okX1_areBelow : xOkV mX1_areBelow 2 := ⟨⟨by decide, by decide, by decide +kernel, xTG_mem 936 (by decide +kernel) (by decide +kernel), xTG_mem 43 (by decide +kernel) (by decide +kernel)⟩, rfl, xTG_mem 934 (by decide +kernel) (by decide +kernel), xTG_mem 935 (by decide +kernel) (by decide +kernel)⟩
def mX1_add : xMd := (yX1_add, cX1_add, 3, none, [])
theorem okX1_add : xOkV mX1_add 2 := ⟨⟨by decide, by decide, by decide +kernel, xTG_mem 941 (by decide +kernel) (by decide +kernel), xTG_mem 43 (by decide +kernel) (by decide +kernel)⟩, rfl, xTG_mem 939 (by decide +kernel) (by decide +kernel), xTG_mem 940 (by decide +kernel) (by decide +kernel)⟩
def mX1_moved : xMd := (yX1_moved, cX1_moved, 4, (some .long), [])
theorem okX1_moved : xOkV mX1_moved 1 := ⟨⟨by decide, by decide, by decide +kernel, xTG_mem 950 (by decide +kernel) (by decide +kernel), xTG_mem 43 (by decide +kernel) (by decide +kernel)⟩, rfl, xTG_mem 948 (by decide +kernel) (by decide +kernel), xTG_mem 949 (by decide +kernel) (by decide +kernel)⟩
def mX2_init : xMd := (yX2_init, cX2_init, 1, none, [])
theorem okX2_init : xOkI mX2_init 0 := ⟨⟨by decide, by decide, by decide +kernel, xTG_mem 71 (by decide +kernel) (by decide +kernel), xTG_mem 35 (by decide +kernel) (by decide +kernel)⟩, rfl, rfl, rfl, xTG_mem 70 (by decide +kernel) (by decide +kernel)⟩
def mX2_countUpTo : xMd := (yX2_countUpTo, cX2_countUpTo, 3, (some .int), [])
theorem okX2_countUpTo : xOkV mX2_countUpTo 1 := ⟨⟨by decide, by decide, by decide +kernel, xTG_mem 629 (by decide +kernel) (by decide +kernel), xTG_mem 35 (by decide +kernel) (by decide +kernel)⟩, rfl, xTG_mem 627 (by decide +kernel) (by decide +kernel), xTG_mem 628 (by decide +kernel) (by decide +kernel)⟩
def mX2_hasAt : xMd := (yX2_hasAt, cX2_hasAt, 3, (some .boolean), [])
theorem okX2_hasAt : xOkV mX2_hasAt 1 := ⟨⟨by decide, by decide, by decide +kernel, xTG_mem 756 (by decide +kernel) (by decide +kernel), xTG_mem 35 (by decide +kernel) (by decide +kernel)⟩, rfl, xTG_mem 754 (by decide +kernel) (by decide +kernel), xTG_mem 755 (by decide +kernel) (by decide +kernel)⟩
def mX2_put : xMd := (yX2_put, cX2_put, 6, (some .boolean), [])
theorem okX2_put : xOkV mX2_put 3 := ⟨⟨by decide, by decide, by decide +kernel, xTG_mem 780 (by decide +kernel) (by decide +kernel), xTG_mem 35 (by decide +kernel) (by decide +kernel)⟩, rfl, xTG_mem 778 (by decide +kernel) (by decide +kernel), xTG_mem 779 (by decide +kernel) (by decide +kernel)⟩
def mX2_takeAway : xMd := (yX2_takeAway, cX2_takeAway, 4, (some .boolean), [])
theorem okX2_takeAway : xOkV mX2_takeAway 1 := ⟨⟨by decide, by decide, by decide +kernel, xTG_mem 804 (by decide +kernel) (by decide +kernel), xTG_mem 35 (by decide +kernel) (by decide +kernel)⟩, rfl, xTG_mem 802 (by decide +kernel) (by decide +kernel), xTG_mem 803 (by decide +kernel) (by decide +kernel)⟩
def mX2_shift : xMd := (yX2_shift, cX2_shift, 4, none, [])
theorem okX2_shift : xOkV mX2_shift 2 := ⟨⟨by decide, by decide, by decide +kernel, xTG_mem 785 (by decide +kernel) (by decide +kernel), xTG_mem 35 (by decide +kernel) (by decide +kernel)⟩, rfl, xTG_mem 784 (by decide +kernel) (by decide +kernel), xTG_mem 24 (by decide +kernel) (by decide +kernel)⟩
def mX2_markRepeats : xMd := (yX2_markRepeats, cX2_markRepeats, 3, none, [])
theorem okX2_markRepeats : xOkV mX2_markRepeats 0 := ⟨⟨by decide, by decide, by decide +kernel, xTG_mem 792 (by decide +kernel) (by decide +kernel), xTG_mem 35 (by decide +kernel) (by decide +kernel)⟩, rfl, xTG_mem 791 (by decide +kernel) (by decide +kernel), xTG_mem 25 (by decide +kernel) (by decide +kernel)⟩
def mX2_isTwinOfFormer : xMd := (yX2_isTwinOfFormer, cX2_isTwinOfFormer, 2, (some .boolean), [])
theorem okX2_isTwinOfFormer : xOkV mX2_isTwinOfFormer 1 := ⟨⟨by decide, by decide, by decide +kernel, xTG_mem 796 (by decide +kernel) (by decide +kernel), xTG_mem 35 (by decide +kernel) (by decide +kernel)⟩, rfl, xTG_mem 795 (by decide +kernel) (by decide +kernel), xTG_mem 26 (by decide +kernel) (by decide +kernel)⟩
def mX3_init : xMd := (yX3_init, cX3_init, 1, none, [])
theorem okX3_init : xOkI mX3_init 0 := ⟨⟨by decide, by decide, by decide +kernel, xTG_mem 175 (by decide +kernel) (by decide +kernel), xTG_mem 41 (by decide +kernel) (by decide +kernel)⟩, rfl, rfl, rfl, xTG_mem 174 (by decide +kernel) (by decide +kernel)⟩
def mX3_length : xMd := (yX3_length, cX3_length, 1, (some .int), [])
theorem okX3_length : xOkV mX3_length 0 := ⟨⟨by decide, by decide, by decide +kernel, xTG_mem 593 (by decide +kernel) (by decide +kernel), xTG_mem 41 (by decide +kernel) (by decide +kernel)⟩, rfl, xTG_mem 591 (by decide +kernel) (by decide +kernel), xTG_mem 592 (by decide +kernel) (by decide +kernel)⟩
def mX3_lettersOf : xMd := (yX3_lettersOf, cX3_lettersOf, 2, (some .int), [])
theorem okX3_lettersOf : xOkV mX3_lettersOf 1 := ⟨⟨by decide, by decide, by decide +kernel, xTG_mem 444 (by decide +kernel) (by decide +kernel), xTG_mem 41 (by decide +kernel) (by decide +kernel)⟩, rfl, xTG_mem 442 (by decide +kernel) (by decide +kernel), xTG_mem 443 (by decide +kernel) (by decide +kernel)⟩
def mX3_letters : xMd := (yX3_letters, cX3_letters, 4, (some .int), [])
theorem okX3_letters : xOkV mX3_letters 1 := ⟨⟨by decide, by decide, by decide +kernel, xTG_mem 582 (by decide +kernel) (by decide +kernel), xTG_mem 41 (by decide +kernel) (by decide +kernel)⟩, rfl, xTG_mem 580 (by decide +kernel) (by decide +kernel), xTG_mem 581 (by decide +kernel) (by decide +kernel)⟩
def mX3_append : xMd := (yX3_append, cX3_append, 2, none, [])
theorem okX3_append : xOkV mX3_append 1 := ⟨⟨by decide, by decide, by decide +kernel, xTG_mem 1020 (by decide +kernel) (by decide +kernel), xTG_mem 41 (by decide +kernel) (by decide +kernel)⟩, rfl, xTG_mem 1018 (by decide +kernel) (by decide +kernel), xTG_mem 1019 (by decide +kernel) (by decide +kernel)⟩
def mX3_appendFrom : xMd := (yX3_appendFrom, cX3_appendFrom, 4, none, [])
theorem okX3_appendFrom : xOkV mX3_appendFrom 2 := ⟨⟨by decide, by decide, by decide +kernel, xTG_mem 1067 (by decide +kernel) (by decide +kernel), xTG_mem 41 (by decide +kernel) (by decide +kernel)⟩, rfl, xTG_mem 1065 (by decide +kernel) (by decide +kernel), xTG_mem 1066 (by decide +kernel) (by decide +kernel)⟩
def mX3_cutWords : xMd := (yX3_cutWords, cX3_cutWords, 2, none, [])
theorem okX3_cutWords : xOkV mX3_cutWords 1 := ⟨⟨by decide, by decide, by decide +kernel, xTG_mem 1078 (by decide +kernel) (by decide +kernel), xTG_mem 41 (by decide +kernel) (by decide +kernel)⟩, rfl, xTG_mem 1076 (by decide +kernel) (by decide +kernel), xTG_mem 1077 (by decide +kernel) (by decide +kernel)⟩
def mX3_moveTo : xMd := (yX3_moveTo, cX3_moveTo, 4, (some .int), [])
theorem okX3_moveTo : xOkV mX3_moveTo 2 := ⟨⟨by decide, by decide, by decide +kernel, xTG_mem 887 (by decide +kernel) (by decide +kernel), xTG_mem 41 (by decide +kernel) (by decide +kernel)⟩, rfl, xTG_mem 885 (by decide +kernel) (by decide +kernel), xTG_mem 886 (by decide +kernel) (by decide +kernel)⟩
def mX3_isThereAt : xMd := (yX3_isThereAt, cX3_isThereAt, 2, (some .boolean), [])
theorem okX3_isThereAt : xOkV mX3_isThereAt 1 := ⟨⟨by decide, by decide, by decide +kernel, xTG_mem 699 (by decide +kernel) (by decide +kernel), xTG_mem 41 (by decide +kernel) (by decide +kernel)⟩, rfl, xTG_mem 697 (by decide +kernel) (by decide +kernel), xTG_mem 698 (by decide +kernel) (by decide +kernel)⟩
def mX3_isOnRow : xMd := (yX3_isOnRow, cX3_isOnRow, 2, (some .boolean), [])
theorem okX3_isOnRow : xOkV mX3_isOnRow 1 := ⟨⟨by decide, by decide, by decide +kernel, xTG_mem 459 (by decide +kernel) (by decide +kernel), xTG_mem 41 (by decide +kernel) (by decide +kernel)⟩, rfl, xTG_mem 457 (by decide +kernel) (by decide +kernel), xTG_mem 458 (by decide +kernel) (by decide +kernel)⟩
def mX4_init : xMd := (yX4_init, cX4_init, 1, none, [])
theorem okX4_init : xOkI mX4_init 0 := ⟨⟨by decide, by decide, by decide +kernel, xTG_mem 272 (by decide +kernel) (by decide +kernel), xTG_mem 42 (by decide +kernel) (by decide +kernel)⟩, rfl, rfl, rfl, xTG_mem 271 (by decide +kernel) (by decide +kernel)⟩
def mX4_add : xMd := (yX4_add, cX4_add, 2, none, [])
theorem okX4_add : xOkV mX4_add 1 := ⟨⟨by decide, by decide, by decide +kernel, xTG_mem 874 (by decide +kernel) (by decide +kernel), xTG_mem 42 (by decide +kernel) (by decide +kernel)⟩, rfl, xTG_mem 872 (by decide +kernel) (by decide +kernel), xTG_mem 873 (by decide +kernel) (by decide +kernel)⟩
def mX4_nearest : xMd := (yX4_nearest, cX4_nearest, 6, (some .int), [])
theorem okX4_nearest : xOkV mX4_nearest 1 := ⟨⟨by decide, by decide, by decide +kernel, xTG_mem 868 (by decide +kernel) (by decide +kernel), xTG_mem 42 (by decide +kernel) (by decide +kernel)⟩, rfl, xTG_mem 866 (by decide +kernel) (by decide +kernel), xTG_mem 867 (by decide +kernel) (by decide +kernel)⟩
def mX4_snapped : xMd := (yX4_snapped, cX4_snapped, 4, (some .int), [])
theorem okX4_snapped : xOkV mX4_snapped 2 := ⟨⟨by decide, by decide, by decide +kernel, xTG_mem 882 (by decide +kernel) (by decide +kernel), xTG_mem 42 (by decide +kernel) (by decide +kernel)⟩, rfl, xTG_mem 880 (by decide +kernel) (by decide +kernel), xTG_mem 881 (by decide +kernel) (by decide +kernel)⟩
def mX5_init : xMd := (yX5_init, cX5_init, 1, none, [])
theorem okX5_init : xOkI mX5_init 0 := ⟨⟨by decide, by decide, by decide +kernel, xTG_mem 322 (by decide +kernel) (by decide +kernel), xTG_mem 45 (by decide +kernel) (by decide +kernel)⟩, rfl, rfl, rfl, xTG_mem 321 (by decide +kernel) (by decide +kernel)⟩
def mX5_add : xMd := (yX5_add, cX5_add, 3, none, [])
theorem okX5_add : xOkV mX5_add 2 := ⟨⟨by decide, by decide, by decide +kernel, xTG_mem 970 (by decide +kernel) (by decide +kernel), xTG_mem 45 (by decide +kernel) (by decide +kernel)⟩, rfl, xTG_mem 968 (by decide +kernel) (by decide +kernel), xTG_mem 969 (by decide +kernel) (by decide +kernel)⟩
def mX5_setTimes : xMd := (yX5_setTimes, cX5_setTimes, 6, (some .int), [])
theorem okX5_setTimes : xOkV mX5_setTimes 2 := ⟨⟨by decide, by decide, by decide +kernel, xTG_mem 1086 (by decide +kernel) (by decide +kernel), xTG_mem 45 (by decide +kernel) (by decide +kernel)⟩, rfl, xTG_mem 1084 (by decide +kernel) (by decide +kernel), xTG_mem 1085 (by decide +kernel) (by decide +kernel)⟩
def mX5_gatherNear : xMd := (yX5_gatherNear, cX5_gatherNear, 4, none, [])
theorem okX5_gatherNear : xOkV mX5_gatherNear 2 := ⟨⟨by decide, by decide, by decide +kernel, xTG_mem 1090 (by decide +kernel) (by decide +kernel), xTG_mem 45 (by decide +kernel) (by decide +kernel)⟩, rfl, xTG_mem 1089 (by decide +kernel) (by decide +kernel), xTG_mem 31 (by decide +kernel) (by decide +kernel)⟩
def mX5_insert : xMd := (yX5_insert, cX5_insert, 3, none, [])
theorem okX5_insert : xOkV mX5_insert 1 := ⟨⟨by decide, by decide, by decide +kernel, xTG_mem 1094 (by decide +kernel) (by decide +kernel), xTG_mem 45 (by decide +kernel) (by decide +kernel)⟩, rfl, xTG_mem 1093 (by decide +kernel) (by decide +kernel), xTG_mem 32 (by decide +kernel) (by decide +kernel)⟩
def mX6_init : xMd := (yX6_init, cX6_init, 1, none, [])
theorem okX6_init : xOkI mX6_init 0 := ⟨⟨by decide, by decide, by decide +kernel, xTG_mem 160 (by decide +kernel) (by decide +kernel), xTG_mem 40 (by decide +kernel) (by decide +kernel)⟩, rfl, rfl, rfl, xTG_mem 159 (by decide +kernel) (by decide +kernel)⟩
def mX6_breakUp : xMd := (yX6_breakUp, cX6_breakUp, 6, none, [])
theorem okX6_breakUp : xOkV mX6_breakUp 2 := ⟨⟨by decide, by decide, by decide +kernel, xTG_mem 433 (by decide +kernel) (by decide +kernel), xTG_mem 40 (by decide +kernel) (by decide +kernel)⟩, rfl, xTG_mem 431 (by decide +kernel) (by decide +kernel), xTG_mem 432 (by decide +kernel) (by decide +kernel)⟩
def mX6_chooseLine : xMd := (yX6_chooseLine, cX6_chooseLine, 7, none, [])
theorem okX6_chooseLine : xOkV mX6_chooseLine 4 := ⟨⟨by decide, by decide, by decide +kernel, xTG_mem 440 (by decide +kernel) (by decide +kernel), xTG_mem 40 (by decide +kernel) (by decide +kernel)⟩, rfl, xTG_mem 439 (by decide +kernel) (by decide +kernel), xTG_mem 3 (by decide +kernel) (by decide +kernel)⟩
def mX6_consider : xMd := (yX6_consider, cX6_consider, 8, none, [])
theorem okX6_consider : xOkV mX6_consider 4 := ⟨⟨by decide, by decide, by decide +kernel, xTG_mem 451 (by decide +kernel) (by decide +kernel), xTG_mem 40 (by decide +kernel) (by decide +kernel)⟩, rfl, xTG_mem 450 (by decide +kernel) (by decide +kernel), xTG_mem 4 (by decide +kernel) (by decide +kernel)⟩
def mX7_init : xMd := (yX7_init, cX7_init, 1, none, [])
theorem okX7_init : xOkI mX7_init 0 := ⟨⟨by decide, by decide, by decide +kernel, xTG_mem 107 (by decide +kernel) (by decide +kernel), xTG_mem 37 (by decide +kernel) (by decide +kernel)⟩, rfl, rfl, rfl, xTG_mem 106 (by decide +kernel) (by decide +kernel)⟩
def mX7_cellOf : xMd := (yX7_cellOf, cX7_cellOf, 3, (some .int), [])
theorem okX7_cellOf : xOkS mX7_cellOf 2 := ⟨⟨by decide, by decide, by decide +kernel, xTG_mem 649 (by decide +kernel) (by decide +kernel), xTG_mem 37 (by decide +kernel) (by decide +kernel)⟩, xTG_mem 648 (by decide +kernel) (by decide +kernel)⟩
def mX7_letterIn : xMd := (yX7_letterIn, cX7_letterIn, 4, (some .int), [])
theorem okX7_letterIn : xOkV mX7_letterIn 2 := ⟨⟨by decide, by decide, by decide +kernel, xTG_mem 820 (by decide +kernel) (by decide +kernel), xTG_mem 37 (by decide +kernel) (by decide +kernel)⟩, rfl, xTG_mem 818 (by decide +kernel) (by decide +kernel), xTG_mem 819 (by decide +kernel) (by decide +kernel)⟩
def mX7_colourIn : xMd := (yX7_colourIn, cX7_colourIn, 4, (some .int), [])
theorem okX7_colourIn : xOkV mX7_colourIn 2 := ⟨⟨by decide, by decide, by decide +kernel, xTG_mem 832 (by decide +kernel) (by decide +kernel), xTG_mem 37 (by decide +kernel) (by decide +kernel)⟩, rfl, xTG_mem 830 (by decide +kernel) (by decide +kernel), xTG_mem 831 (by decide +kernel) (by decide +kernel)⟩
def mX7_put : xMd := (yX7_put, cX7_put, 6, none, [])
theorem okX7_put : xOkV mX7_put 4 := ⟨⟨by decide, by decide, by decide +kernel, xTG_mem 646 (by decide +kernel) (by decide +kernel), xTG_mem 37 (by decide +kernel) (by decide +kernel)⟩, rfl, xTG_mem 644 (by decide +kernel) (by decide +kernel), xTG_mem 645 (by decide +kernel) (by decide +kernel)⟩
def mX7_emptyAll : xMd := (yX7_emptyAll, cX7_emptyAll, 1, none, [])
theorem okX7_emptyAll : xOkV mX7_emptyAll 0 := ⟨⟨by decide, by decide, by decide +kernel, xTG_mem 617 (by decide +kernel) (by decide +kernel), xTG_mem 37 (by decide +kernel) (by decide +kernel)⟩, rfl, xTG_mem 615 (by decide +kernel) (by decide +kernel), xTG_mem 616 (by decide +kernel) (by decide +kernel)⟩
def mX7_emptyRows : xMd := (yX7_emptyRows, cX7_emptyRows, 4, none, [])
theorem okX7_emptyRows : xOkV mX7_emptyRows 2 := ⟨⟨by decide, by decide, by decide +kernel, xTG_mem 621 (by decide +kernel) (by decide +kernel), xTG_mem 37 (by decide +kernel) (by decide +kernel)⟩, rfl, xTG_mem 620 (by decide +kernel) (by decide +kernel), xTG_mem 12 (by decide +kernel) (by decide +kernel)⟩
def mX7_rollUp : xMd := (yX7_rollUp, cX7_rollUp, 4, none, [])
theorem okX7_rollUp : xOkV mX7_rollUp 2 := ⟨⟨by decide, by decide, by decide +kernel, xTG_mem 667 (by decide +kernel) (by decide +kernel), xTG_mem 37 (by decide +kernel) (by decide +kernel)⟩, rfl, xTG_mem 665 (by decide +kernel) (by decide +kernel), xTG_mem 666 (by decide +kernel) (by decide +kernel)⟩
def mX7_filledCells : xMd := (yX7_filledCells, cX7_filledCells, 3, (some .int), [])
theorem okX7_filledCells : xOkV mX7_filledCells 0 := ⟨⟨by decide, by decide, by decide +kernel, xTG_mem 848 (by decide +kernel) (by decide +kernel), xTG_mem 37 (by decide +kernel) (by decide +kernel)⟩, rfl, xTG_mem 846 (by decide +kernel) (by decide +kernel), xTG_mem 847 (by decide +kernel) (by decide +kernel)⟩
def mX7_looksLike : xMd := (yX7_looksLike, cX7_looksLike, 3, (some .boolean), [])
theorem okX7_looksLike : xOkV mX7_looksLike 1 := ⟨⟨by decide, by decide, by decide +kernel, xTG_mem 679 (by decide +kernel) (by decide +kernel), xTG_mem 37 (by decide +kernel) (by decide +kernel)⟩, rfl, xTG_mem 677 (by decide +kernel) (by decide +kernel), xTG_mem 678 (by decide +kernel) (by decide +kernel)⟩
def mX8_init : xMd := (yX8_init, cX8_init, 1, none, [])
theorem okX8_init : xOkI mX8_init 0 := ⟨⟨by decide, by decide, by decide +kernel, xTG_mem 346 (by decide +kernel) (by decide +kernel), xTG_mem 46 (by decide +kernel) (by decide +kernel)⟩, rfl, rfl, rfl, xTG_mem 345 (by decide +kernel) (by decide +kernel)⟩
def mX8_pairAll : xMd := (yX8_pairAll, cX8_pairAll, 5, (some .int), [])
theorem okX8_pairAll : xOkV mX8_pairAll 2 := ⟨⟨by decide, by decide, by decide +kernel, xTG_mem 467 (by decide +kernel) (by decide +kernel), xTG_mem 46 (by decide +kernel) (by decide +kernel)⟩, rfl, xTG_mem 465 (by decide +kernel) (by decide +kernel), xTG_mem 466 (by decide +kernel) (by decide +kernel)⟩
def mX8_gather : xMd := (yX8_gather, cX8_gather, 5, (some .int), [])
theorem okX8_gather : xOkS mX8_gather 3 := ⟨⟨by decide, by decide, by decide +kernel, xTG_mem 470 (by decide +kernel) (by decide +kernel), xTG_mem 46 (by decide +kernel) (by decide +kernel)⟩, xTG_mem 469 (by decide +kernel) (by decide +kernel)⟩
def mX8_priceOf : xMd := (yX8_priceOf, cX8_priceOf, 2, (some .int), [])
theorem okX8_priceOf : xOkS mX8_priceOf 2 := ⟨⟨by decide, by decide, by decide +kernel, xTG_mem 475 (by decide +kernel) (by decide +kernel), xTG_mem 46 (by decide +kernel) (by decide +kernel)⟩, xTG_mem 474 (by decide +kernel) (by decide +kernel)⟩
def mX8_secondOf : xMd := (yX8_secondOf, cX8_secondOf, 5, (some .int), [])
theorem okX8_secondOf : xOkV mX8_secondOf 2 := ⟨⟨by decide, by decide, by decide +kernel, xTG_mem 1119 (by decide +kernel) (by decide +kernel), xTG_mem 46 (by decide +kernel) (by decide +kernel)⟩, rfl, xTG_mem 1117 (by decide +kernel) (by decide +kernel), xTG_mem 1118 (by decide +kernel) (by decide +kernel)⟩
def mX8_firstOf : xMd := (yX8_firstOf, cX8_firstOf, 5, (some .int), [])
theorem okX8_firstOf : xOkV mX8_firstOf 2 := ⟨⟨by decide, by decide, by decide +kernel, xTG_mem 1125 (by decide +kernel) (by decide +kernel), xTG_mem 46 (by decide +kernel) (by decide +kernel)⟩, rfl, xTG_mem 1123 (by decide +kernel) (by decide +kernel), xTG_mem 1124 (by decide +kernel) (by decide +kernel)⟩
def mX9_init : xMd := (yX9_init, cX9_init, 1, none, [])
theorem okX9_init : xOkI mX9_init 0 := ⟨⟨by decide, by decide, by decide +kernel, xTG_mem 101 (by decide +kernel) (by decide +kernel), xTG_mem 36 (by decide +kernel) (by decide +kernel)⟩, rfl, rfl, rfl, xTG_mem 100 (by decide +kernel) (by decide +kernel)⟩
def mX9_restart : xMd := (yX9_restart, cX9_restart, 1, none, [])
theorem okX9_restart : xOkV mX9_restart 0 := ⟨⟨by decide, by decide, by decide +kernel, xTG_mem 613 (by decide +kernel) (by decide +kernel), xTG_mem 36 (by decide +kernel) (by decide +kernel)⟩, rfl, xTG_mem 611 (by decide +kernel) (by decide +kernel), xTG_mem 612 (by decide +kernel) (by decide +kernel)⟩
def mX9_goTo : xMd := (yX9_goTo, cX9_goTo, 5, none, [])
theorem okX9_goTo : xOkV mX9_goTo 2 := ⟨⟨by decide, by decide, by decide +kernel, xTG_mem 625 (by decide +kernel) (by decide +kernel), xTG_mem 36 (by decide +kernel) (by decide +kernel)⟩, rfl, xTG_mem 623 (by decide +kernel) (by decide +kernel), xTG_mem 624 (by decide +kernel) (by decide +kernel)⟩
def mX9_obey : xMd := (yX9_obey, cX9_obey, 3, none, [])
theorem okX9_obey : xOkV mX9_obey 2 := ⟨⟨by decide, by decide, by decide +kernel, xTG_mem 634 (by decide +kernel) (by decide +kernel), xTG_mem 36 (by decide +kernel) (by decide +kernel)⟩, rfl, xTG_mem 633 (by decide +kernel) (by decide +kernel), xTG_mem 13 (by decide +kernel) (by decide +kernel)⟩
def mX9_written : xMd := (yX9_written, cX9_written, 1, (some (.object "SubtitleHarbour$Memory")), [])
theorem okX9_written : xOkV mX9_written 0 := ⟨⟨by decide, by decide, by decide +kernel, xTG_mem 642 (by decide +kernel) (by decide +kernel), xTG_mem 36 (by decide +kernel) (by decide +kernel)⟩, rfl, xTG_mem 641 (by decide +kernel) (by decide +kernel), xTG_mem 15 (by decide +kernel) (by decide +kernel)⟩
def mX9_write : xMd := (yX9_write, cX9_write, 2, none, [])
theorem okX9_write : xOkV mX9_write 1 := ⟨⟨by decide, by decide, by decide +kernel, xTG_mem 638 (by decide +kernel) (by decide +kernel), xTG_mem 36 (by decide +kernel) (by decide +kernel)⟩, rfl, xTG_mem 637 (by decide +kernel) (by decide +kernel), xTG_mem 14 (by decide +kernel) (by decide +kernel)⟩
def mX9_startRolling : xMd := (yX9_startRolling, cX9_startRolling, 2, none, [])
theorem okX9_startRolling : xOkV mX9_startRolling 1 := ⟨⟨by decide, by decide, by decide +kernel, xTG_mem 654 (by decide +kernel) (by decide +kernel), xTG_mem 36 (by decide +kernel) (by decide +kernel)⟩, rfl, xTG_mem 653 (by decide +kernel) (by decide +kernel), xTG_mem 16 (by decide +kernel) (by decide +kernel)⟩
def mX9_exchange : xMd := (yX9_exchange, cX9_exchange, 2, none, [])
theorem okX9_exchange : xOkV mX9_exchange 0 := ⟨⟨by decide, by decide, by decide +kernel, xTG_mem 658 (by decide +kernel) (by decide +kernel), xTG_mem 36 (by decide +kernel) (by decide +kernel)⟩, rfl, xTG_mem 657 (by decide +kernel) (by decide +kernel), xTG_mem 17 (by decide +kernel) (by decide +kernel)⟩
def mX9_newLine : xMd := (yX9_newLine, cX9_newLine, 1, none, [])
theorem okX9_newLine : xOkV mX9_newLine 0 := ⟨⟨by decide, by decide, by decide +kernel, xTG_mem 662 (by decide +kernel) (by decide +kernel), xTG_mem 36 (by decide +kernel) (by decide +kernel)⟩, rfl, xTG_mem 661 (by decide +kernel) (by decide +kernel), xTG_mem 18 (by decide +kernel) (by decide +kernel)⟩
def mX9_stepBack : xMd := (yX9_stepBack, cX9_stepBack, 1, none, [])
theorem okX9_stepBack : xOkV mX9_stepBack 0 := ⟨⟨by decide, by decide, by decide +kernel, xTG_mem 671 (by decide +kernel) (by decide +kernel), xTG_mem 36 (by decide +kernel) (by decide +kernel)⟩, rfl, xTG_mem 670 (by decide +kernel) (by decide +kernel), xTG_mem 19 (by decide +kernel) (by decide +kernel)⟩
def mX9_moveCursor : xMd := (yX9_moveCursor, cX9_moveCursor, 3, none, [])
theorem okX9_moveCursor : xOkV mX9_moveCursor 2 := ⟨⟨by decide, by decide, by decide +kernel, xTG_mem 675 (by decide +kernel) (by decide +kernel), xTG_mem 36 (by decide +kernel) (by decide +kernel)⟩, rfl, xTG_mem 674 (by decide +kernel) (by decide +kernel), xTG_mem 20 (by decide +kernel) (by decide +kernel)⟩
def mX10_init : xMd := (yX10_init, cX10_init, 2, none, [])
theorem okX10_init : xOkI mX10_init 0 := ⟨⟨by decide, by decide, by decide +kernel, xTG_mem 152 (by decide +kernel) (by decide +kernel), xTG_mem 39 (by decide +kernel) (by decide +kernel)⟩, rfl, rfl, rfl, xTG_mem 151 (by decide +kernel) (by decide +kernel)⟩
def mX10_cueIn : xMd := (yX10_cueIn, cX10_cueIn, 2, (some (.object "SubtitleHarbour$Cue")), [])
theorem okX10_cueIn : xOkV mX10_cueIn 1 := ⟨⟨by decide, by decide, by decide +kernel, xTG_mem 425 (by decide +kernel) (by decide +kernel), xTG_mem 39 (by decide +kernel) (by decide +kernel)⟩, rfl, xTG_mem 423 (by decide +kernel) (by decide +kernel), xTG_mem 424 (by decide +kernel) (by decide +kernel)⟩
def mX10_numberIn : xMd := (yX10_numberIn, cX10_numberIn, 2, (some .int), [])
theorem okX10_numberIn : xOkV mX10_numberIn 1 := ⟨⟨by decide, by decide, by decide +kernel, xTG_mem 429 (by decide +kernel) (by decide +kernel), xTG_mem 39 (by decide +kernel) (by decide +kernel)⟩, rfl, xTG_mem 427 (by decide +kernel) (by decide +kernel), xTG_mem 428 (by decide +kernel) (by decide +kernel)⟩
def mX10_arrangeAll : xMd := (yX10_arrangeAll, cX10_arrangeAll, 3, none, [])
theorem okX10_arrangeAll : xOkV mX10_arrangeAll 0 := ⟨⟨by decide, by decide, by decide +kernel, xTG_mem 413 (by decide +kernel) (by decide +kernel), xTG_mem 39 (by decide +kernel) (by decide +kernel)⟩, rfl, xTG_mem 411 (by decide +kernel) (by decide +kernel), xTG_mem 412 (by decide +kernel) (by decide +kernel)⟩
def mX10_sortCues : xMd := (yX10_sortCues, cX10_sortCues, 2, none, [])
theorem okX10_sortCues : xOkV mX10_sortCues 0 := ⟨⟨by decide, by decide, by decide +kernel, xTG_mem 417 (by decide +kernel) (by decide +kernel), xTG_mem 39 (by decide +kernel) (by decide +kernel)⟩, rfl, xTG_mem 416 (by decide +kernel) (by decide +kernel), xTG_mem 1 (by decide +kernel) (by decide +kernel)⟩
def mX10_insert : xMd := (yX10_insert, cX10_insert, 3, none, [])
theorem okX10_insert : xOkV mX10_insert 1 := ⟨⟨by decide, by decide, by decide +kernel, xTG_mem 421 (by decide +kernel) (by decide +kernel), xTG_mem 39 (by decide +kernel) (by decide +kernel)⟩, rfl, xTG_mem 420 (by decide +kernel) (by decide +kernel), xTG_mem 2 (by decide +kernel) (by decide +kernel)⟩
def mX10_takeRows : xMd := (yX10_takeRows, cX10_takeRows, 6, none, [])
theorem okX10_takeRows : xOkV mX10_takeRows 2 := ⟨⟨by decide, by decide, by decide +kernel, xTG_mem 455 (by decide +kernel) (by decide +kernel), xTG_mem 39 (by decide +kernel) (by decide +kernel)⟩, rfl, xTG_mem 454 (by decide +kernel) (by decide +kernel), xTG_mem 5 (by decide +kernel) (by decide +kernel)⟩
def mX10_lowestRows : xMd := (yX10_lowestRows, cX10_lowestRows, 5, (some .int), [])
theorem okX10_lowestRows : xOkV mX10_lowestRows 1 := ⟨⟨by decide, by decide, by decide +kernel, xTG_mem 463 (by decide +kernel) (by decide +kernel), xTG_mem 39 (by decide +kernel) (by decide +kernel)⟩, rfl, xTG_mem 462 (by decide +kernel) (by decide +kernel), xTG_mem 6 (by decide +kernel) (by decide +kernel)⟩
def mX10_nextOfRegion : xMd := (yX10_nextOfRegion, cX10_nextOfRegion, 3, (some .int), [])
theorem okX10_nextOfRegion : xOkV mX10_nextOfRegion 1 := ⟨⟨by decide, by decide, by decide +kernel, xTG_mem 896 (by decide +kernel) (by decide +kernel), xTG_mem 39 (by decide +kernel) (by decide +kernel)⟩, rfl, xTG_mem 894 (by decide +kernel) (by decide +kernel), xTG_mem 895 (by decide +kernel) (by decide +kernel)⟩
def mX10_cueOn : xMd := (yX10_cueOn, cX10_cueOn, 5, (some .int), [])
theorem okX10_cueOn : xOkV mX10_cueOn 2 := ⟨⟨by decide, by decide, by decide +kernel, xTG_mem 695 (by decide +kernel) (by decide +kernel), xTG_mem 39 (by decide +kernel) (by decide +kernel)⟩, rfl, xTG_mem 693 (by decide +kernel) (by decide +kernel), xTG_mem 694 (by decide +kernel) (by decide +kernel)⟩
def mX10_playTo : xMd := (yX10_playTo, cX10_playTo, 6, none, [])
theorem okX10_playTo : xOkV mX10_playTo 1 := ⟨⟨by decide, by decide, by decide +kernel, xTG_mem 687 (by decide +kernel) (by decide +kernel), xTG_mem 39 (by decide +kernel) (by decide +kernel)⟩, rfl, xTG_mem 685 (by decide +kernel) (by decide +kernel), xTG_mem 686 (by decide +kernel) (by decide +kernel)⟩
def mX10_letGo : xMd := (yX10_letGo, cX10_letGo, 3, none, [])
theorem okX10_letGo : xOkV mX10_letGo 1 := ⟨⟨by decide, by decide, by decide +kernel, xTG_mem 691 (by decide +kernel) (by decide +kernel), xTG_mem 39 (by decide +kernel) (by decide +kernel)⟩, rfl, xTG_mem 690 (by decide +kernel) (by decide +kernel), xTG_mem 22 (by decide +kernel) (by decide +kernel)⟩
def mX10_playedCueOn : xMd := (yX10_playedCueOn, cX10_playedCueOn, 2, (some .int), [])
theorem okX10_playedCueOn : xOkV mX10_playedCueOn 1 := ⟨⟨by decide, by decide, by decide +kernel, xTG_mem 703 (by decide +kernel) (by decide +kernel), xTG_mem 39 (by decide +kernel) (by decide +kernel)⟩, rfl, xTG_mem 701 (by decide +kernel) (by decide +kernel), xTG_mem 702 (by decide +kernel) (by decide +kernel)⟩
def mX10_hasClash : xMd := (yX10_hasClash, cX10_hasClash, 3, (some .boolean), [])
theorem okX10_hasClash : xOkV mX10_hasClash 0 := ⟨⟨by decide, by decide, by decide +kernel, xTG_mem 602 (by decide +kernel) (by decide +kernel), xTG_mem 39 (by decide +kernel) (by decide +kernel)⟩, rfl, xTG_mem 600 (by decide +kernel) (by decide +kernel), xTG_mem 601 (by decide +kernel) (by decide +kernel)⟩
def mX10_isClash : xMd := (yX10_isClash, cX10_isClash, 3, (some .boolean), [])
theorem okX10_isClash : xOkS mX10_isClash 2 := ⟨⟨by decide, by decide, by decide +kernel, xTG_mem 605 (by decide +kernel) (by decide +kernel), xTG_mem 39 (by decide +kernel) (by decide +kernel)⟩, xTG_mem 604 (by decide +kernel) (by decide +kernel)⟩
def mX11_init : xMd := (yX11_init, cX11_init, 1, none, [])
theorem okX11_init : xOkI mX11_init 0 := ⟨⟨by decide, by decide, by decide +kernel, xTG_mem 63 (by decide +kernel) (by decide +kernel), xTG_mem 34 (by decide +kernel) (by decide +kernel)⟩, rfl, rfl, rfl, xTG_mem 62 (by decide +kernel) (by decide +kernel)⟩
def mX11_frameOf : xMd := (yX11_frameOf, cX11_frameOf, 10, (some .int), [])
theorem okX11_frameOf : xOkV mX11_frameOf 5 := ⟨⟨by decide, by decide, by decide +kernel, xTG_mem 1132 (by decide +kernel) (by decide +kernel), xTG_mem 34 (by decide +kernel) (by decide +kernel)⟩, rfl, xTG_mem 1130 (by decide +kernel) (by decide +kernel), xTG_mem 1131 (by decide +kernel) (by decide +kernel)⟩
def mX11_stampOf : xMd := (yX11_stampOf, cX11_stampOf, 5, (some .int), [])
theorem okX11_stampOf : xOkV mX11_stampOf 3 := ⟨⟨by decide, by decide, by decide +kernel, xTG_mem 1143 (by decide +kernel) (by decide +kernel), xTG_mem 34 (by decide +kernel) (by decide +kernel)⟩, rfl, xTG_mem 1141 (by decide +kernel) (by decide +kernel), xTG_mem 1142 (by decide +kernel) (by decide +kernel)⟩
def mX11_code : xMd := (yX11_code, cX11_code, 5, (some .boolean), [])
theorem okX11_code : xOkV mX11_code 3 := ⟨⟨by decide, by decide, by decide +kernel, xTG_mem 724 (by decide +kernel) (by decide +kernel), xTG_mem 34 (by decide +kernel) (by decide +kernel)⟩, rfl, xTG_mem 722 (by decide +kernel) (by decide +kernel), xTG_mem 723 (by decide +kernel) (by decide +kernel)⟩
def mX11_dropCode : xMd := (yX11_dropCode, cX11_dropCode, 3, (some .boolean), [])
theorem okX11_dropCode : xOkV mX11_dropCode 1 := ⟨⟨by decide, by decide, by decide +kernel, xTG_mem 800 (by decide +kernel) (by decide +kernel), xTG_mem 34 (by decide +kernel) (by decide +kernel)⟩, rfl, xTG_mem 798 (by decide +kernel) (by decide +kernel), xTG_mem 799 (by decide +kernel) (by decide +kernel)⟩
def mX11_cellAt : xMd := (yX11_cellAt, cX11_cellAt, 4, (some .int), [])
theorem okX11_cellAt : xOkV mX11_cellAt 3 := ⟨⟨by decide, by decide, by decide +kernel, xTG_mem 808 (by decide +kernel) (by decide +kernel), xTG_mem 34 (by decide +kernel) (by decide +kernel)⟩, rfl, xTG_mem 806 (by decide +kernel) (by decide +kernel), xTG_mem 807 (by decide +kernel) (by decide +kernel)⟩
def mX11_cellAnew : xMd := (yX11_cellAnew, cX11_cellAnew, 4, (some .int), [])
theorem okX11_cellAnew : xOkV mX11_cellAnew 3 := ⟨⟨by decide, by decide, by decide +kernel, xTG_mem 824 (by decide +kernel) (by decide +kernel), xTG_mem 34 (by decide +kernel) (by decide +kernel)⟩, rfl, xTG_mem 822 (by decide +kernel) (by decide +kernel), xTG_mem 823 (by decide +kernel) (by decide +kernel)⟩
def mX11_colourAt : xMd := (yX11_colourAt, cX11_colourAt, 4, (some .int), [])
theorem okX11_colourAt : xOkV mX11_colourAt 3 := ⟨⟨by decide, by decide, by decide +kernel, xTG_mem 828 (by decide +kernel) (by decide +kernel), xTG_mem 34 (by decide +kernel) (by decide +kernel)⟩, rfl, xTG_mem 826 (by decide +kernel) (by decide +kernel), xTG_mem 827 (by decide +kernel) (by decide +kernel)⟩
def mX11_modeAt : xMd := (yX11_modeAt, cX11_modeAt, 2, (some .char), [])
theorem okX11_modeAt : xOkV mX11_modeAt 1 := ⟨⟨by decide, by decide, by decide +kernel, xTG_mem 836 (by decide +kernel) (by decide +kernel), xTG_mem 34 (by decide +kernel) (by decide +kernel)⟩, rfl, xTG_mem 834 (by decide +kernel) (by decide +kernel), xTG_mem 835 (by decide +kernel) (by decide +kernel)⟩
def mX11_cursorAt : xMd := (yX11_cursorAt, cX11_cursorAt, 3, (some .int), [])
theorem okX11_cursorAt : xOkV mX11_cursorAt 1 := ⟨⟨by decide, by decide, by decide +kernel, xTG_mem 840 (by decide +kernel) (by decide +kernel), xTG_mem 34 (by decide +kernel) (by decide +kernel)⟩, rfl, xTG_mem 838 (by decide +kernel) (by decide +kernel), xTG_mem 839 (by decide +kernel) (by decide +kernel)⟩
def mX11_shown : xMd := (yX11_shown, cX11_shown, 2, (some .int), [])
theorem okX11_shown : xOkV mX11_shown 1 := ⟨⟨by decide, by decide, by decide +kernel, xTG_mem 844 (by decide +kernel) (by decide +kernel), xTG_mem 34 (by decide +kernel) (by decide +kernel)⟩, rfl, xTG_mem 842 (by decide +kernel) (by decide +kernel), xTG_mem 843 (by decide +kernel) (by decide +kernel)⟩
def mX11_setRegion : xMd := (yX11_setRegion, cX11_setRegion, 6, (some .int), [])
theorem okX11_setRegion : xOkV mX11_setRegion 4 := ⟨⟨by decide, by decide, by decide +kernel, xTG_mem 852 (by decide +kernel) (by decide +kernel), xTG_mem 34 (by decide +kernel) (by decide +kernel)⟩, rfl, xTG_mem 850 (by decide +kernel) (by decide +kernel), xTG_mem 851 (by decide +kernel) (by decide +kernel)⟩
def mX11_addCue : xMd := (yX11_addCue, cX11_addCue, 4, (some .int), [])
theorem okX11_addCue : xOkV mX11_addCue 3 := ⟨⟨by decide, by decide, by decide +kernel, xTG_mem 1002 (by decide +kernel) (by decide +kernel), xTG_mem 34 (by decide +kernel) (by decide +kernel)⟩, rfl, xTG_mem 1000 (by decide +kernel) (by decide +kernel), xTG_mem 1001 (by decide +kernel) (by decide +kernel)⟩
def mX11_addWord : xMd := (yX11_addWord, cX11_addWord, 4, (some .int), [])
theorem okX11_addWord : xOkV mX11_addWord 2 := ⟨⟨by decide, by decide, by decide +kernel, xTG_mem 1015 (by decide +kernel) (by decide +kernel), xTG_mem 34 (by decide +kernel) (by decide +kernel)⟩, rfl, xTG_mem 1013 (by decide +kernel) (by decide +kernel), xTG_mem 1014 (by decide +kernel) (by decide +kernel)⟩
def mX11_dropCue : xMd := (yX11_dropCue, cX11_dropCue, 3, (some .int), [])
theorem okX11_dropCue : xOkV mX11_dropCue 1 := ⟨⟨by decide, by decide, by decide +kernel, xTG_mem 1025 (by decide +kernel) (by decide +kernel), xTG_mem 34 (by decide +kernel) (by decide +kernel)⟩, rfl, xTG_mem 1023 (by decide +kernel) (by decide +kernel), xTG_mem 1024 (by decide +kernel) (by decide +kernel)⟩
def mX11_cues : xMd := (yX11_cues, cX11_cues, 3, (some .int), [])
theorem okX11_cues : xOkV mX11_cues 0 := ⟨⟨by decide, by decide, by decide +kernel, xTG_mem 401 (by decide +kernel) (by decide +kernel), xTG_mem 34 (by decide +kernel) (by decide +kernel)⟩, rfl, xTG_mem 399 (by decide +kernel) (by decide +kernel), xTG_mem 400 (by decide +kernel) (by decide +kernel)⟩
def mX11_startOf : xMd := (yX11_startOf, cX11_startOf, 2, (some .int), [])
theorem okX11_startOf : xOkV mX11_startOf 1 := ⟨⟨by decide, by decide, by decide +kernel, xTG_mem 1029 (by decide +kernel) (by decide +kernel), xTG_mem 34 (by decide +kernel) (by decide +kernel)⟩, rfl, xTG_mem 1027 (by decide +kernel) (by decide +kernel), xTG_mem 1028 (by decide +kernel) (by decide +kernel)⟩
def mX11_endOf : xMd := (yX11_endOf, cX11_endOf, 2, (some .int), [])
theorem okX11_endOf : xOkV mX11_endOf 1 := ⟨⟨by decide, by decide, by decide +kernel, xTG_mem 1033 (by decide +kernel) (by decide +kernel), xTG_mem 34 (by decide +kernel) (by decide +kernel)⟩, rfl, xTG_mem 1031 (by decide +kernel) (by decide +kernel), xTG_mem 1032 (by decide +kernel) (by decide +kernel)⟩
def mX11_lines : xMd := (yX11_lines, cX11_lines, 3, (some .int), [])
theorem okX11_lines : xOkV mX11_lines 1 := ⟨⟨by decide, by decide, by decide +kernel, xTG_mem 1037 (by decide +kernel) (by decide +kernel), xTG_mem 34 (by decide +kernel) (by decide +kernel)⟩, rfl, xTG_mem 1035 (by decide +kernel) (by decide +kernel), xTG_mem 1036 (by decide +kernel) (by decide +kernel)⟩
def mX11_wordsIn : xMd := (yX11_wordsIn, cX11_wordsIn, 4, (some .int), [])
theorem okX11_wordsIn : xOkV mX11_wordsIn 2 := ⟨⟨by decide, by decide, by decide +kernel, xTG_mem 1041 (by decide +kernel) (by decide +kernel), xTG_mem 34 (by decide +kernel) (by decide +kernel)⟩, rfl, xTG_mem 1039 (by decide +kernel) (by decide +kernel), xTG_mem 1040 (by decide +kernel) (by decide +kernel)⟩
def mX11_rowOf : xMd := (yX11_rowOf, cX11_rowOf, 3, (some .int), [])
theorem okX11_rowOf : xOkV mX11_rowOf 1 := ⟨⟨by decide, by decide, by decide +kernel, xTG_mem 1058 (by decide +kernel) (by decide +kernel), xTG_mem 34 (by decide +kernel) (by decide +kernel)⟩, rfl, xTG_mem 1056 (by decide +kernel) (by decide +kernel), xTG_mem 1057 (by decide +kernel) (by decide +kernel)⟩
def mX11_cueAt : xMd := (yX11_cueAt, cX11_cueAt, 3, (some .int), [])
theorem okX11_cueAt : xOkV mX11_cueAt 2 := ⟨⟨by decide, by decide, by decide +kernel, xTG_mem 856 (by decide +kernel) (by decide +kernel), xTG_mem 34 (by decide +kernel) (by decide +kernel)⟩, rfl, xTG_mem 854 (by decide +kernel) (by decide +kernel), xTG_mem 855 (by decide +kernel) (by decide +kernel)⟩
def mX11_cueAnew : xMd := (yX11_cueAnew, cX11_cueAnew, 3, (some .int), [])
theorem okX11_cueAnew : xOkV mX11_cueAnew 2 := ⟨⟨by decide, by decide, by decide +kernel, xTG_mem 860 (by decide +kernel) (by decide +kernel), xTG_mem 34 (by decide +kernel) (by decide +kernel)⟩, rfl, xTG_mem 858 (by decide +kernel) (by decide +kernel), xTG_mem 859 (by decide +kernel) (by decide +kernel)⟩
def mX11_addCut : xMd := (yX11_addCut, cX11_addCut, 2, (some .int), [])
theorem okX11_addCut : xOkV mX11_addCut 1 := ⟨⟨by decide, by decide, by decide +kernel, xTG_mem 864 (by decide +kernel) (by decide +kernel), xTG_mem 34 (by decide +kernel) (by decide +kernel)⟩, rfl, xTG_mem 862 (by decide +kernel) (by decide +kernel), xTG_mem 863 (by decide +kernel) (by decide +kernel)⟩
def mX11_snap : xMd := (yX11_snap, cX11_snap, 7, (some .int), [])
theorem okX11_snap : xOkV mX11_snap 1 := ⟨⟨by decide, by decide, by decide +kernel, xTG_mem 878 (by decide +kernel) (by decide +kernel), xTG_mem 34 (by decide +kernel) (by decide +kernel)⟩, rfl, xTG_mem 876 (by decide +kernel) (by decide +kernel), xTG_mem 877 (by decide +kernel) (by decide +kernel)⟩
def mX11_stretch : xMd := (yX11_stretch, cX11_stretch, 8, (some .int), [])
theorem okX11_stretch : xOkV mX11_stretch 2 := ⟨⟨by decide, by decide, by decide +kernel, xTG_mem 891 (by decide +kernel) (by decide +kernel), xTG_mem 34 (by decide +kernel) (by decide +kernel)⟩, rfl, xTG_mem 889 (by decide +kernel) (by decide +kernel), xTG_mem 890 (by decide +kernel) (by decide +kernel)⟩
def mX11_merge : xMd := (yX11_merge, cX11_merge, 5, (some .int), [])
theorem okX11_merge : xOkV mX11_merge 2 := ⟨⟨by decide, by decide, by decide +kernel, xTG_mem 1062 (by decide +kernel) (by decide +kernel), xTG_mem 34 (by decide +kernel) (by decide +kernel)⟩, rfl, xTG_mem 1060 (by decide +kernel) (by decide +kernel), xTG_mem 1061 (by decide +kernel) (by decide +kernel)⟩
def mX11_split : xMd := (yX11_split, cX11_split, 8, (some .int), [])
theorem okX11_split : xOkV mX11_split 2 := ⟨⟨by decide, by decide, by decide +kernel, xTG_mem 1073 (by decide +kernel) (by decide +kernel), xTG_mem 34 (by decide +kernel) (by decide +kernel)⟩, rfl, xTG_mem 1071 (by decide +kernel) (by decide +kernel), xTG_mem 1072 (by decide +kernel) (by decide +kernel)⟩
def mX11_convert : xMd := (yX11_convert, cX11_convert, 6, (some .int), [])
theorem okX11_convert : xOkV mX11_convert 2 := ⟨⟨by decide, by decide, by decide +kernel, xTG_mem 900 (by decide +kernel) (by decide +kernel), xTG_mem 34 (by decide +kernel) (by decide +kernel)⟩, rfl, xTG_mem 898 (by decide +kernel) (by decide +kernel), xTG_mem 899 (by decide +kernel) (by decide +kernel)⟩
def mX11_addAnchor : xMd := (yX11_addAnchor, cX11_addAnchor, 3, (some .int), [])
theorem okX11_addAnchor : xOkV mX11_addAnchor 2 := ⟨⟨by decide, by decide, by decide +kernel, xTG_mem 932 (by decide +kernel) (by decide +kernel), xTG_mem 34 (by decide +kernel) (by decide +kernel)⟩, rfl, xTG_mem 930 (by decide +kernel) (by decide +kernel), xTG_mem 931 (by decide +kernel) (by decide +kernel)⟩
def mX11_drift : xMd := (yX11_drift, cX11_drift, 6, (some .int), [])
theorem okX11_drift : xOkV mX11_drift 0 := ⟨⟨by decide, by decide, by decide +kernel, xTG_mem 945 (by decide +kernel) (by decide +kernel), xTG_mem 34 (by decide +kernel) (by decide +kernel)⟩, rfl, xTG_mem 943 (by decide +kernel) (by decide +kernel), xTG_mem 944 (by decide +kernel) (by decide +kernel)⟩
def mX11_addHeard : xMd := (yX11_addHeard, cX11_addHeard, 3, (some .int), [])
theorem okX11_addHeard : xOkV mX11_addHeard 2 := ⟨⟨by decide, by decide, by decide +kernel, xTG_mem 965 (by decide +kernel) (by decide +kernel), xTG_mem 34 (by decide +kernel) (by decide +kernel)⟩, rfl, xTG_mem 963 (by decide +kernel) (by decide +kernel), xTG_mem 964 (by decide +kernel) (by decide +kernel)⟩
def mX11_hear : xMd := (yX11_hear, cX11_hear, 2, (some .int), [])
theorem okX11_hear : xOkV mX11_hear 1 := ⟨⟨by decide, by decide, by decide +kernel, xTG_mem 1082 (by decide +kernel) (by decide +kernel), xTG_mem 34 (by decide +kernel) (by decide +kernel)⟩, rfl, xTG_mem 1080 (by decide +kernel) (by decide +kernel), xTG_mem 1081 (by decide +kernel) (by decide +kernel)⟩
def mX11_timeOf : xMd := (yX11_timeOf, cX11_timeOf, 4, (some .int), [])
theorem okX11_timeOf : xOkV mX11_timeOf 2 := ⟨⟨by decide, by decide, by decide +kernel, xTG_mem 1105 (by decide +kernel) (by decide +kernel), xTG_mem 34 (by decide +kernel) (by decide +kernel)⟩, rfl, xTG_mem 1103 (by decide +kernel) (by decide +kernel), xTG_mem 1104 (by decide +kernel) (by decide +kernel)⟩
def mX11_sung : xMd := (yX11_sung, cX11_sung, 6, (some .int), [])
theorem okX11_sung : xOkV mX11_sung 2 := ⟨⟨by decide, by decide, by decide +kernel, xTG_mem 1110 (by decide +kernel) (by decide +kernel), xTG_mem 34 (by decide +kernel) (by decide +kernel)⟩, rfl, xTG_mem 1108 (by decide +kernel) (by decide +kernel), xTG_mem 1109 (by decide +kernel) (by decide +kernel)⟩
def mX11_pairOf : xMd := (yX11_pairOf, cX11_pairOf, 3, (some .int), [])
theorem okX11_pairOf : xOkV mX11_pairOf 1 := ⟨⟨by decide, by decide, by decide +kernel, xTG_mem 1114 (by decide +kernel) (by decide +kernel), xTG_mem 34 (by decide +kernel) (by decide +kernel)⟩, rfl, xTG_mem 1112 (by decide +kernel) (by decide +kernel), xTG_mem 1113 (by decide +kernel) (by decide +kernel)⟩
def mX11_pairCost : xMd := (yX11_pairCost, cX11_pairCost, 1, (some .int), [])
theorem okX11_pairCost : xOkV mX11_pairCost 0 := ⟨⟨by decide, by decide, by decide +kernel, xTG_mem 405 (by decide +kernel) (by decide +kernel), xTG_mem 34 (by decide +kernel) (by decide +kernel)⟩, rfl, xTG_mem 403 (by decide +kernel) (by decide +kernel), xTG_mem 404 (by decide +kernel) (by decide +kernel)⟩
def mX11_readingTime : xMd := (yX11_readingTime, cX11_readingTime, 5, (some .long), [])
theorem okX11_readingTime : xOkV mX11_readingTime 1 := ⟨⟨by decide, by decide, by decide +kernel, xTG_mem 502 (by decide +kernel) (by decide +kernel), xTG_mem 34 (by decide +kernel) (by decide +kernel)⟩, rfl, xTG_mem 500 (by decide +kernel) (by decide +kernel), xTG_mem 501 (by decide +kernel) (by decide +kernel)⟩
def mX11_speed : xMd := (yX11_speed, cX11_speed, 4, (some .float), [])
theorem okX11_speed : xOkV mX11_speed 1 := ⟨⟨by decide, by decide, by decide +kernel, xTG_mem 589 (by decide +kernel) (by decide +kernel), xTG_mem 34 (by decide +kernel) (by decide +kernel)⟩, rfl, xTG_mem 587 (by decide +kernel) (by decide +kernel), xTG_mem 588 (by decide +kernel) (by decide +kernel)⟩
def mX11_isSound : xMd := (yX11_isSound, cX11_isSound, 1, (some .boolean), [])
theorem okX11_isSound : xOkV mX11_isSound 0 := ⟨⟨by decide, by decide, by decide +kernel, xTG_mem 598 (by decide +kernel) (by decide +kernel), xTG_mem 34 (by decide +kernel) (by decide +kernel)⟩, rfl, xTG_mem 596 (by decide +kernel) (by decide +kernel), xTG_mem 597 (by decide +kernel) (by decide +kernel)⟩
def mX11_isIn : xMd := (yX11_isIn, cX11_isIn, 3, (some .boolean), [])
theorem okX11_isIn : xOkS mX11_isIn 3 := ⟨⟨by decide, by decide, by decide +kernel, xTG_mem 485 (by decide +kernel) (by decide +kernel), xTG_mem 34 (by decide +kernel) (by decide +kernel)⟩, xTG_mem 484 (by decide +kernel) (by decide +kernel)⟩
def mX11_needArgument : xMd := (yX11_needArgument, cX11_needArgument, 1, none, [])
theorem okX11_needArgument : xOkS mX11_needArgument 1 := ⟨⟨by decide, by decide, by decide +kernel, xTG_mem 751 (by decide +kernel) (by decide +kernel), xTG_mem 34 (by decide +kernel) (by decide +kernel)⟩, xTG_mem 750 (by decide +kernel) (by decide +kernel)⟩
def mX11_needFrame : xMd := (yX11_needFrame, cX11_needFrame, 1, none, [])
theorem okX11_needFrame : xOkS mX11_needFrame 1 := ⟨⟨by decide, by decide, by decide +kernel, xTG_mem 727 (by decide +kernel) (by decide +kernel), xTG_mem 34 (by decide +kernel) (by decide +kernel)⟩, xTG_mem 726 (by decide +kernel) (by decide +kernel)⟩
def mX11_needCell : xMd := (yX11_needCell, cX11_needCell, 3, none, [])
theorem okX11_needCell : xOkS mX11_needCell 3 := ⟨⟨by decide, by decide, by decide +kernel, xTG_mem 811 (by decide +kernel) (by decide +kernel), xTG_mem 34 (by decide +kernel) (by decide +kernel)⟩, xTG_mem 810 (by decide +kernel) (by decide +kernel)⟩
def mX11_needRoomForCue : xMd := (yX11_needRoomForCue, cX11_needRoomForCue, 1, none, [])
theorem okX11_needRoomForCue : xOkV mX11_needRoomForCue 0 := ⟨⟨by decide, by decide, by decide +kernel, xTG_mem 1006 (by decide +kernel) (by decide +kernel), xTG_mem 34 (by decide +kernel) (by decide +kernel)⟩, rfl, xTG_mem 1005 (by decide +kernel) (by decide +kernel), xTG_mem 29 (by decide +kernel) (by decide +kernel)⟩
def mX11_cueOf : xMd := (yX11_cueOf, cX11_cueOf, 2, (some (.object "SubtitleHarbour$Cue")), [])
theorem okX11_cueOf : xOkV mX11_cueOf 1 := ⟨⟨by decide, by decide, by decide +kernel, xTG_mem 506 (by decide +kernel) (by decide +kernel), xTG_mem 34 (by decide +kernel) (by decide +kernel)⟩, rfl, xTG_mem 505 (by decide +kernel) (by decide +kernel), xTG_mem 9 (by decide +kernel) (by decide +kernel)⟩
def mX11_countedWithDropped : xMd := (yX11_countedWithDropped, cX11_countedWithDropped, 4, (some .int), [])
theorem okX11_countedWithDropped : xOkS mX11_countedWithDropped 1 := ⟨⟨by decide, by decide, by decide +kernel, xTG_mem 1146 (by decide +kernel) (by decide +kernel), xTG_mem 34 (by decide +kernel) (by decide +kernel)⟩, xTG_mem 1145 (by decide +kernel) (by decide +kernel)⟩
def mX11_hasValue : xMd := (yX11_hasValue, cX11_hasValue, 1, (some .boolean), [])
theorem okX11_hasValue : xOkS mX11_hasValue 1 := ⟨⟨by decide, by decide, by decide +kernel, xTG_mem 776 (by decide +kernel) (by decide +kernel), xTG_mem 34 (by decide +kernel) (by decide +kernel)⟩, xTG_mem 775 (by decide +kernel) (by decide +kernel)⟩
def mX11_isCode : xMd := (yX11_isCode, cX11_isCode, 2, (some .boolean), [])
theorem okX11_isCode : xOkS mX11_isCode 2 := ⟨⟨by decide, by decide, by decide +kernel, xTG_mem 748 (by decide +kernel) (by decide +kernel), xTG_mem 34 (by decide +kernel) (by decide +kernel)⟩, xTG_mem 747 (by decide +kernel) (by decide +kernel)⟩
def mX11_jumpTo : xMd := (yX11_jumpTo, cX11_jumpTo, 2, (some (.object "SubtitleHarbour$Screen")), [])
theorem okX11_jumpTo : xOkV mX11_jumpTo 1 := ⟨⟨by decide, by decide, by decide +kernel, xTG_mem 816 (by decide +kernel) (by decide +kernel), xTG_mem 34 (by decide +kernel) (by decide +kernel)⟩, rfl, xTG_mem 815 (by decide +kernel) (by decide +kernel), xTG_mem 27 (by decide +kernel) (by decide +kernel)⟩
def mX11_makeCue : xMd := (yX11_makeCue, cX11_makeCue, 6, (some .int), [])
theorem okX11_makeCue : xOkV mX11_makeCue 3 := ⟨⟨by decide, by decide, by decide +kernel, xTG_mem 1011 (by decide +kernel) (by decide +kernel), xTG_mem 34 (by decide +kernel) (by decide +kernel)⟩, rfl, xTG_mem 1010 (by decide +kernel) (by decide +kernel), xTG_mem 30 (by decide +kernel) (by decide +kernel)⟩
def mX11_arrange : xMd := (yX11_arrange, cX11_arrange, 1, none, [])
theorem okX11_arrange : xOkV mX11_arrange 0 := ⟨⟨by decide, by decide, by decide +kernel, xTG_mem 409 (by decide +kernel) (by decide +kernel), xTG_mem 34 (by decide +kernel) (by decide +kernel)⟩, rfl, xTG_mem 408 (by decide +kernel) (by decide +kernel), xTG_mem 0 (by decide +kernel) (by decide +kernel)⟩
def mX11_isSameAtCodes : xMd := (yX11_isSameAtCodes, cX11_isSameAtCodes, 3, (some .boolean), [])
theorem okX11_isSameAtCodes : xOkV mX11_isSameAtCodes 0 := ⟨⟨by decide, by decide, by decide +kernel, xTG_mem 609 (by decide +kernel) (by decide +kernel), xTG_mem 34 (by decide +kernel) (by decide +kernel)⟩, rfl, xTG_mem 608 (by decide +kernel) (by decide +kernel), xTG_mem 11 (by decide +kernel) (by decide +kernel)⟩
def mX11_isSameAtCues : xMd := (yX11_isSameAtCues, cX11_isSameAtCues, 3, (some .boolean), [])
theorem okX11_isSameAtCues : xOkV mX11_isSameAtCues 0 := ⟨⟨by decide, by decide, by decide +kernel, xTG_mem 707 (by decide +kernel) (by decide +kernel), xTG_mem 34 (by decide +kernel) (by decide +kernel)⟩, rfl, xTG_mem 706 (by decide +kernel) (by decide +kernel), xTG_mem 23 (by decide +kernel) (by decide +kernel)⟩
def mX11_hasSameCuesAt : xMd := (yX11_hasSameCuesAt, cX11_hasSameCuesAt, 3, (some .boolean), [])
theorem okX11_hasSameCuesAt : xOkV mX11_hasSameCuesAt 1 := ⟨⟨by decide, by decide, by decide +kernel, xTG_mem 683 (by decide +kernel) (by decide +kernel), xTG_mem 34 (by decide +kernel) (by decide +kernel)⟩, rfl, xTG_mem 682 (by decide +kernel) (by decide +kernel), xTG_mem 21 (by decide +kernel) (by decide +kernel)⟩
def mX11_scaled : xMd := (yX11_scaled, cX11_scaled, 6, (some .long), [])
theorem okX11_scaled : xOkS mX11_scaled 3 := ⟨⟨by decide, by decide, by decide +kernel, xTG_mem 907 (by decide +kernel) (by decide +kernel), xTG_mem 34 (by decide +kernel) (by decide +kernel)⟩, xTG_mem 906 (by decide +kernel) (by decide +kernel)⟩
def mX11_scaleAll : xMd := (yX11_scaleAll, cX11_scaleAll, 5, none, [])
theorem okX11_scaleAll : xOkS mX11_scaleAll 4 := ⟨⟨by decide, by decide, by decide +kernel, xTG_mem 927 (by decide +kernel) (by decide +kernel), xTG_mem 34 (by decide +kernel) (by decide +kernel)⟩, xTG_mem 926 (by decide +kernel) (by decide +kernel)⟩
def mX11_clamped : xMd := (yX11_clamped, cX11_clamped, 3, (some .int), [])
theorem okX11_clamped : xOkS mX11_clamped 2 := ⟨⟨by decide, by decide, by decide +kernel, xTG_mem 955 (by decide +kernel) (by decide +kernel), xTG_mem 34 (by decide +kernel) (by decide +kernel)⟩, xTG_mem 954 (by decide +kernel) (by decide +kernel)⟩
def mX11_greatestFrame : xMd := (yX11_greatestFrame, cX11_greatestFrame, 3, (some .int), [])
theorem okX11_greatestFrame : xOkV mX11_greatestFrame 0 := ⟨⟨by decide, by decide, by decide +kernel, xTG_mem 904 (by decide +kernel) (by decide +kernel), xTG_mem 34 (by decide +kernel) (by decide +kernel)⟩, rfl, xTG_mem 903 (by decide +kernel) (by decide +kernel), xTG_mem 28 (by decide +kernel) (by decide +kernel)⟩
def mJ9_abs_0f7a4 : xMd := (yJ9_abs_0f7a4, cJ9_abs_0f7a4, 1, (some .int), [])
def mJ9_max_7cf53 : xMd := (yJ9_max_7cf53, cJ9_max_7cf53, 2, (some .int), [])
def mJ9_max_f86c9 : xMd := (yJ9_max_f86c9, cJ9_max_f86c9, 4, (some .long), [])
def mJ9_min_7cf53 : xMd := (yJ9_min_7cf53, cJ9_min_7cf53, 2, (some .int), [])
def mJ9_min_f86c9 : xMd := (yJ9_min_f86c9, cJ9_min_f86c9, 4, (some .long), [])
def mJ7_fill_53178 : xMd := (yJ7_fill_53178, cJ7_fill_53178, 4, none, [])
theorem okJ7_fill_53178 : xOkS mJ7_fill_53178 2 := ⟨⟨by decide, by decide, by decide +kernel, xTG_mem 111 (by decide +kernel) (by decide +kernel), xTG_mem 38 (by decide +kernel) (by decide +kernel)⟩, xTG_mem 110 (by decide +kernel) (by decide +kernel)⟩
def mL_at : xMd := (yL_at, cL_at, 2, (some .int), [])
theorem okL_at : xOkS mL_at 2 := ⟨⟨by decide, by decide, by decide +kernel, xTG_mem 711 (by decide +kernel) (by decide +kernel), xTG_mem 33 (by decide +kernel) (by decide +kernel)⟩, xTG_mem 710 (by decide +kernel) (by decide +kernel)⟩
def mL_some : xMd := (yL_some, cL_some, 3, (some .int), [])
theorem okL_some : xOkS mL_some 2 := ⟨⟨by decide, by decide, by decide +kernel, xTG_mem 714 (by decide +kernel) (by decide +kernel), xTG_mem 33 (by decide +kernel) (by decide +kernel)⟩, xTG_mem 713 (by decide +kernel) (by decide +kernel)⟩
def mL_ask : xMd := (yL_ask, cL_ask, 4, (some .int), [(0, 250, 437, 71), (251, 266, 437, 71), (267, 280, 437, 71), (281, 294, 437, 71), (295, 308, 437, 71), (309, 316, 437, 71), (317, 324, 437, 71), (325, 332, 437, 71), (333, 349, 437, 71), (350, 360, 437, 71), (361, 371, 437, 71), (372, 379, 437, 71), (380, 387, 437, 71), (388, 398, 437, 71), (399, 409, 437, 71), (410, 420, 437, 71), (421, 425, 437, 71), (426, 436, 437, 71), (0, 250, 442, 73), (251, 266, 442, 73), (267, 280, 442, 73), (281, 294, 442, 73), (295, 308, 442, 73), (309, 316, 442, 73), (317, 324, 442, 73), (325, 332, 442, 73), (333, 349, 442, 73), (350, 360, 442, 73), (361, 371, 442, 73), (372, 379, 442, 73), (380, 387, 442, 73), (388, 398, 442, 73), (399, 409, 442, 73), (410, 420, 442, 73), (421, 425, 442, 73), (426, 436, 442, 73), (0, 250, 447, 75), (251, 266, 447, 75), (267, 280, 447, 75), (281, 294, 447, 75), (295, 308, 447, 75), (309, 316, 447, 75), (317, 324, 447, 75), (325, 332, 447, 75), (333, 349, 447, 75), (350, 360, 447, 75), (361, 371, 447, 75), (372, 379, 447, 75), (380, 387, 447, 75), (388, 398, 447, 75), (399, 409, 447, 75), (410, 420, 447, 75), (421, 425, 447, 75), (426, 436, 447, 75)])
theorem okL_ask : xOkS mL_ask 3 := ⟨⟨by decide, by decide, by decide +kernel, xTG_mem 717 (by decide +kernel) (by decide +kernel), xTG_mem 33 (by decide +kernel) (by decide +kernel)⟩, xTG_mem 716 (by decide +kernel) (by decide +kernel)⟩
def mL_cue : xMd := (yL_cue, cL_cue, 4, (some .int), [(0, 121, 244, 119), (122, 132, 244, 119), (133, 140, 244, 119), (141, 148, 244, 119), (149, 156, 244, 119), (157, 164, 244, 119), (165, 175, 244, 119), (176, 183, 244, 119), (184, 194, 244, 119), (195, 205, 244, 119), (206, 213, 244, 119), (214, 224, 244, 119), (225, 235, 244, 119), (236, 243, 244, 119), (0, 121, 249, 71), (122, 132, 249, 71), (133, 140, 249, 71), (141, 148, 249, 71), (149, 156, 249, 71), (157, 164, 249, 71), (165, 175, 249, 71), (176, 183, 249, 71), (184, 194, 249, 71), (195, 205, 249, 71), (206, 213, 249, 71), (214, 224, 249, 71), (225, 235, 249, 71), (236, 243, 249, 71), (0, 121, 254, 73), (122, 132, 254, 73), (133, 140, 254, 73), (141, 148, 254, 73), (149, 156, 254, 73), (157, 164, 254, 73), (165, 175, 254, 73), (176, 183, 254, 73), (184, 194, 254, 73), (195, 205, 254, 73), (206, 213, 254, 73), (214, 224, 254, 73), (225, 235, 254, 73), (236, 243, 254, 73), (0, 121, 259, 75), (122, 132, 259, 75), (133, 140, 259, 75), (141, 148, 259, 75), (149, 156, 259, 75), (157, 164, 259, 75), (165, 175, 259, 75), (176, 183, 259, 75), (184, 194, 259, 75), (195, 205, 259, 75), (206, 213, 259, 75), (214, 224, 259, 75), (225, 235, 259, 75), (236, 243, 259, 75), (0, 121, 264, 121), (122, 132, 264, 121), (133, 140, 264, 121), (141, 148, 264, 121), (149, 156, 264, 121), (157, 164, 264, 121), (165, 175, 264, 121), (176, 183, 264, 121), (184, 194, 264, 121), (195, 205, 264, 121), (206, 213, 264, 121), (214, 224, 264, 121), (225, 235, 264, 121), (236, 243, 264, 121)])
theorem okL_cue : xOkS mL_cue 3 := ⟨⟨by decide, by decide, by decide +kernel, xTG_mem 973 (by decide +kernel) (by decide +kernel), xTG_mem 33 (by decide +kernel) (by decide +kernel)⟩, xTG_mem 972 (by decide +kernel) (by decide +kernel)⟩
def mL_stamp : xMd := (yL_stamp, cL_stamp, 5, (some .int), [(0, 35, 36, 71)])
theorem okL_stamp : xOkS mL_stamp 4 := ⟨⟨by decide, by decide, by decide +kernel, xTG_mem 1128 (by decide +kernel) (by decide +kernel), xTG_mem 33 (by decide +kernel) (by decide +kernel)⟩, xTG_mem 1127 (by decide +kernel) (by decide +kernel)⟩
def mL_dropped : xMd := (yL_dropped, cL_dropped, 5, (some (.array .int)), [])
theorem okL_dropped : xOkS mL_dropped 1 := ⟨⟨by decide, by decide, by decide +kernel, xTG_mem 1154 (by decide +kernel) (by decide +kernel), xTG_mem 33 (by decide +kernel) (by decide +kernel)⟩, xTG_mem 1153 (by decide +kernel) (by decide +kernel)⟩
def mL_stampsAreGood : xMd := (yL_stampsAreGood, cL_stampsAreGood, 5, (some .boolean), [])
theorem okL_stampsAreGood : xOkS mL_stampsAreGood 2 := ⟨⟨by decide, by decide, by decide +kernel, xTG_mem 1150 (by decide +kernel) (by decide +kernel), xTG_mem 33 (by decide +kernel) (by decide +kernel)⟩, xTG_mem 1149 (by decide +kernel) (by decide +kernel)⟩
def mL_snapped : xMd := (yL_snapped, cL_snapped, 7, (some .int), [])
theorem okL_snapped : xOkS mL_snapped 4 := ⟨⟨by decide, by decide, by decide +kernel, xTG_mem 1157 (by decide +kernel) (by decide +kernel), xTG_mem 33 (by decide +kernel) (by decide +kernel)⟩, xTG_mem 1156 (by decide +kernel) (by decide +kernel)⟩
def mL_law : xMd := (yL_law, cL_law, 25, (some .boolean), [])
theorem fo_X2_9 {M : xMd} (h : M.1.cls = RX2) : xFo M 9 2 0 := ⟨by decide, RX2, TX2, 5, tyX2, rfl, inX2, by decide, tyX2_ok, nmX2, by rw [h]; exact Or.inl (xTG_mem 73 (by decide +kernel) (by decide +kernel))⟩
theorem fp_X2_9 {M : xMd} (h : M.1.cls = RX2) (hi : M.1.name = "<init>") : xFp M 9 2 0 (.array .int) := ⟨by decide, RX2, TX2, 5, tyX2, rfl, inX2, by decide, tyX2_ok, nmX2, Or.inr ⟨rfl, hi, by rw [h]; rfl⟩, by rw [h]; exact Or.inl (xTG_mem 73 (by decide +kernel) (by decide +kernel)), rfl⟩
theorem fo_X11_415 {M : xMd} (h : M.1.cls = RX11) : xFo M 415 2 0 := ⟨by decide, RX2, TX2, 5, tyX2, rfl, inX2, by decide, tyX2_ok, nmX2, by rw [h]; exact Or.inr ⟨"SubtitleHarbour", xTN_mem 74 (by decide +kernel) (by decide +kernel)⟩⟩
theorem fo_X2_15 {M : xMd} (h : M.1.cls = RX2) : xFo M 15 2 1 := ⟨by decide, RX2, TX2, 5, tyX2, rfl, inX2, by decide, tyX2_ok, nmX2, by rw [h]; exact Or.inl (xTG_mem 75 (by decide +kernel) (by decide +kernel))⟩
theorem fp_X2_15 {M : xMd} (h : M.1.cls = RX2) (hi : M.1.name = "<init>") : xFp M 15 2 1 (.array .char) := ⟨by decide, RX2, TX2, 5, tyX2, rfl, inX2, by decide, tyX2_ok, nmX2, Or.inr ⟨rfl, hi, by rw [h]; rfl⟩, by rw [h]; exact Or.inl (xTG_mem 75 (by decide +kernel) (by decide +kernel)), rfl⟩
theorem fo_X9_57 {M : xMd} (h : M.1.cls = RX9) : xFo M 57 2 1 := ⟨by decide, RX2, TX2, 5, tyX2, rfl, inX2, by decide, tyX2_ok, nmX2, by rw [h]; exact Or.inr ⟨"SubtitleHarbour", xTN_mem 76 (by decide +kernel) (by decide +kernel)⟩⟩
theorem fo_X2_19 {M : xMd} (h : M.1.cls = RX2) : xFo M 19 2 2 := ⟨by decide, RX2, TX2, 5, tyX2, rfl, inX2, by decide, tyX2_ok, nmX2, by rw [h]; exact Or.inl (xTG_mem 77 (by decide +kernel) (by decide +kernel))⟩
theorem fp_X2_19 {M : xMd} (h : M.1.cls = RX2) (hi : M.1.name = "<init>") : xFp M 19 2 2 (.array .int) := ⟨by decide, RX2, TX2, 5, tyX2, rfl, inX2, by decide, tyX2_ok, nmX2, Or.inr ⟨rfl, hi, by rw [h]; rfl⟩, by rw [h]; exact Or.inl (xTG_mem 77 (by decide +kernel) (by decide +kernel)), rfl⟩
theorem fo_X9_61 {M : xMd} (h : M.1.cls = RX9) : xFo M 61 2 2 := ⟨by decide, RX2, TX2, 5, tyX2, rfl, inX2, by decide, tyX2_ok, nmX2, by rw [h]; exact Or.inr ⟨"SubtitleHarbour", xTN_mem 78 (by decide +kernel) (by decide +kernel)⟩⟩
theorem fo_X2_22 {M : xMd} (h : M.1.cls = RX2) : xFo M 22 2 3 := ⟨by decide, RX2, TX2, 5, tyX2, rfl, inX2, by decide, tyX2_ok, nmX2, by rw [h]; exact Or.inl (xTG_mem 79 (by decide +kernel) (by decide +kernel))⟩
theorem fp_X2_22 {M : xMd} (h : M.1.cls = RX2) (hi : M.1.name = "<init>") : xFp M 22 2 3 (.array .boolean) := ⟨by decide, RX2, TX2, 5, tyX2, rfl, inX2, by decide, tyX2_ok, nmX2, Or.inr ⟨rfl, hi, by rw [h]; rfl⟩, by rw [h]; exact Or.inl (xTG_mem 79 (by decide +kernel) (by decide +kernel)), rfl⟩
theorem fo_X9_53 {M : xMd} (h : M.1.cls = RX9) : xFo M 53 2 3 := ⟨by decide, RX2, TX2, 5, tyX2, rfl, inX2, by decide, tyX2_ok, nmX2, by rw [h]; exact Or.inr ⟨"SubtitleHarbour", xTN_mem 80 (by decide +kernel) (by decide +kernel)⟩⟩
theorem fo_X2_26 {M : xMd} (h : M.1.cls = RX2) : xFo M 26 2 4 := ⟨by decide, RX2, TX2, 5, tyX2, rfl, inX2, by decide, tyX2_ok, nmX2, by rw [h]; exact Or.inl (xTG_mem 81 (by decide +kernel) (by decide +kernel))⟩
theorem fp_X2_26 {M : xMd} (h : M.1.cls = RX2) : xFp M 26 2 4 .int := ⟨by decide, RX2, TX2, 5, tyX2, rfl, inX2, by decide, tyX2_ok, nmX2, Or.inl rfl, by rw [h]; exact Or.inl (xTG_mem 81 (by decide +kernel) (by decide +kernel)), rfl⟩
theorem fo_X11_117 {M : xMd} (h : M.1.cls = RX11) : xFo M 117 2 4 := ⟨by decide, RX2, TX2, 5, tyX2, rfl, inX2, by decide, tyX2_ok, nmX2, by rw [h]; exact Or.inr ⟨"SubtitleHarbour", xTN_mem 82 (by decide +kernel) (by decide +kernel)⟩⟩
theorem fp_X11_117 {M : xMd} (h : M.1.cls = RX11) : xFp M 117 2 4 .int := ⟨by decide, RX2, TX2, 5, tyX2, rfl, inX2, by decide, tyX2_ok, nmX2, Or.inl rfl, by rw [h]; exact Or.inr ⟨rfl, "SubtitleHarbour", xTN_mem 82 (by decide +kernel) (by decide +kernel)⟩, rfl⟩
theorem fo_X7_9 {M : xMd} (h : M.1.cls = RX7) : xFo M 9 7 0 := ⟨by decide, RX7, TX7, 2, tyX7, rfl, inX7, by decide, tyX7_ok, nmX7, by rw [h]; exact Or.inl (xTG_mem 112 (by decide +kernel) (by decide +kernel))⟩
theorem fp_X7_9 {M : xMd} (h : M.1.cls = RX7) (hi : M.1.name = "<init>") : xFp M 9 7 0 (.array .int) := ⟨by decide, RX7, TX7, 2, tyX7, rfl, inX7, by decide, tyX7_ok, nmX7, Or.inr ⟨rfl, hi, by rw [h]; rfl⟩, by rw [h]; exact Or.inl (xTG_mem 112 (by decide +kernel) (by decide +kernel)), rfl⟩
theorem fo_X7_15 {M : xMd} (h : M.1.cls = RX7) : xFo M 15 7 1 := ⟨by decide, RX7, TX7, 2, tyX7, rfl, inX7, by decide, tyX7_ok, nmX7, by rw [h]; exact Or.inl (xTG_mem 113 (by decide +kernel) (by decide +kernel))⟩
theorem fp_X7_15 {M : xMd} (h : M.1.cls = RX7) (hi : M.1.name = "<init>") : xFp M 15 7 1 (.array .int) := ⟨by decide, RX7, TX7, 2, tyX7, rfl, inX7, by decide, tyX7_ok, nmX7, Or.inr ⟨rfl, hi, by rw [h]; rfl⟩, by rw [h]; exact Or.inl (xTG_mem 113 (by decide +kernel) (by decide +kernel)), rfl⟩
theorem fo_X9_12 {M : xMd} (h : M.1.cls = RX9) : xFo M 12 9 0 := ⟨by decide, RX9, TX9, 8, tyX9, rfl, inX9, by decide, tyX9_ok, nmX9, by rw [h]; exact Or.inl (xTG_mem 119 (by decide +kernel) (by decide +kernel))⟩
theorem fp_X9_12 {M : xMd} (h : M.1.cls = RX9) : xFp M 12 9 0 (.object "SubtitleHarbour$Memory") := ⟨by decide, RX9, TX9, 8, tyX9, rfl, inX9, by decide, tyX9_ok, nmX9, Or.inl rfl, by rw [h]; exact Or.inl (xTG_mem 119 (by decide +kernel) (by decide +kernel)), rfl⟩
theorem fo_X11_152 {M : xMd} (h : M.1.cls = RX11) : xFo M 152 9 0 := ⟨by decide, RX9, TX9, 8, tyX9, rfl, inX9, by decide, tyX9_ok, nmX9, by rw [h]; exact Or.inr ⟨"SubtitleHarbour", xTN_mem 120 (by decide +kernel) (by decide +kernel)⟩⟩
theorem fp_X11_152 {M : xMd} (h : M.1.cls = RX11) : xFp M 152 9 0 (.object "SubtitleHarbour$Memory") := ⟨by decide, RX9, TX9, 8, tyX9, rfl, inX9, by decide, tyX9_ok, nmX9, Or.inl rfl, by rw [h]; exact Or.inr ⟨rfl, "SubtitleHarbour", xTN_mem 120 (by decide +kernel) (by decide +kernel)⟩, rfl⟩
theorem fo_X9_18 {M : xMd} (h : M.1.cls = RX9) : xFo M 18 9 1 := ⟨by decide, RX9, TX9, 8, tyX9, rfl, inX9, by decide, tyX9_ok, nmX9, by rw [h]; exact Or.inl (xTG_mem 121 (by decide +kernel) (by decide +kernel))⟩
theorem fp_X9_18 {M : xMd} (h : M.1.cls = RX9) : xFp M 18 9 1 (.object "SubtitleHarbour$Memory") := ⟨by decide, RX9, TX9, 8, tyX9, rfl, inX9, by decide, tyX9_ok, nmX9, Or.inl rfl, by rw [h]; exact Or.inl (xTG_mem 121 (by decide +kernel) (by decide +kernel)), rfl⟩
theorem fo_X9_21 {M : xMd} (h : M.1.cls = RX9) : xFo M 21 9 2 := ⟨by decide, RX9, TX9, 8, tyX9, rfl, inX9, by decide, tyX9_ok, nmX9, by rw [h]; exact Or.inl (xTG_mem 122 (by decide +kernel) (by decide +kernel))⟩
theorem fp_X9_21 {M : xMd} (h : M.1.cls = RX9) : xFp M 21 9 2 .char := ⟨by decide, RX9, TX9, 8, tyX9, rfl, inX9, by decide, tyX9_ok, nmX9, Or.inl rfl, by rw [h]; exact Or.inl (xTG_mem 122 (by decide +kernel) (by decide +kernel)), rfl⟩
theorem fo_X11_169 {M : xMd} (h : M.1.cls = RX11) : xFo M 169 9 2 := ⟨by decide, RX9, TX9, 8, tyX9, rfl, inX9, by decide, tyX9_ok, nmX9, by rw [h]; exact Or.inr ⟨"SubtitleHarbour", xTN_mem 123 (by decide +kernel) (by decide +kernel)⟩⟩
theorem fp_X11_169 {M : xMd} (h : M.1.cls = RX11) : xFp M 169 9 2 .char := ⟨by decide, RX9, TX9, 8, tyX9, rfl, inX9, by decide, tyX9_ok, nmX9, Or.inl rfl, by rw [h]; exact Or.inr ⟨rfl, "SubtitleHarbour", xTN_mem 123 (by decide +kernel) (by decide +kernel)⟩, rfl⟩
theorem fo_X9_25 {M : xMd} (h : M.1.cls = RX9) : xFo M 25 9 3 := ⟨by decide, RX9, TX9, 8, tyX9, rfl, inX9, by decide, tyX9_ok, nmX9, by rw [h]; exact Or.inl (xTG_mem 124 (by decide +kernel) (by decide +kernel))⟩
theorem fp_X9_25 {M : xMd} (h : M.1.cls = RX9) : xFp M 25 9 3 .int := ⟨by decide, RX9, TX9, 8, tyX9, rfl, inX9, by decide, tyX9_ok, nmX9, Or.inl rfl, by rw [h]; exact Or.inl (xTG_mem 124 (by decide +kernel) (by decide +kernel)), rfl⟩
theorem fo_X11_173 {M : xMd} (h : M.1.cls = RX11) : xFo M 173 9 3 := ⟨by decide, RX9, TX9, 8, tyX9, rfl, inX9, by decide, tyX9_ok, nmX9, by rw [h]; exact Or.inr ⟨"SubtitleHarbour", xTN_mem 125 (by decide +kernel) (by decide +kernel)⟩⟩
theorem fp_X11_173 {M : xMd} (h : M.1.cls = RX11) : xFp M 173 9 3 .int := ⟨by decide, RX9, TX9, 8, tyX9, rfl, inX9, by decide, tyX9_ok, nmX9, Or.inl rfl, by rw [h]; exact Or.inr ⟨rfl, "SubtitleHarbour", xTN_mem 125 (by decide +kernel) (by decide +kernel)⟩, rfl⟩
theorem fo_X9_38 {M : xMd} (h : M.1.cls = RX9) : xFo M 38 9 4 := ⟨by decide, RX9, TX9, 8, tyX9, rfl, inX9, by decide, tyX9_ok, nmX9, by rw [h]; exact Or.inl (xTG_mem 126 (by decide +kernel) (by decide +kernel))⟩
theorem fp_X9_38 {M : xMd} (h : M.1.cls = RX9) : xFp M 38 9 4 .int := ⟨by decide, RX9, TX9, 8, tyX9, rfl, inX9, by decide, tyX9_ok, nmX9, Or.inl rfl, by rw [h]; exact Or.inl (xTG_mem 126 (by decide +kernel) (by decide +kernel)), rfl⟩
theorem fo_X11_176 {M : xMd} (h : M.1.cls = RX11) : xFo M 176 9 4 := ⟨by decide, RX9, TX9, 8, tyX9, rfl, inX9, by decide, tyX9_ok, nmX9, by rw [h]; exact Or.inr ⟨"SubtitleHarbour", xTN_mem 127 (by decide +kernel) (by decide +kernel)⟩⟩
theorem fp_X11_176 {M : xMd} (h : M.1.cls = RX11) : xFp M 176 9 4 .int := ⟨by decide, RX9, TX9, 8, tyX9, rfl, inX9, by decide, tyX9_ok, nmX9, Or.inl rfl, by rw [h]; exact Or.inr ⟨rfl, "SubtitleHarbour", xTN_mem 127 (by decide +kernel) (by decide +kernel)⟩, rfl⟩
theorem fo_X9_29 {M : xMd} (h : M.1.cls = RX9) : xFo M 29 9 5 := ⟨by decide, RX9, TX9, 8, tyX9, rfl, inX9, by decide, tyX9_ok, nmX9, by rw [h]; exact Or.inl (xTG_mem 128 (by decide +kernel) (by decide +kernel))⟩
theorem fp_X9_29 {M : xMd} (h : M.1.cls = RX9) : xFp M 29 9 5 .int := ⟨by decide, RX9, TX9, 8, tyX9, rfl, inX9, by decide, tyX9_ok, nmX9, Or.inl rfl, by rw [h]; exact Or.inl (xTG_mem 128 (by decide +kernel) (by decide +kernel)), rfl⟩
theorem fo_X9_41 {M : xMd} (h : M.1.cls = RX9) : xFo M 41 9 6 := ⟨by decide, RX9, TX9, 8, tyX9, rfl, inX9, by decide, tyX9_ok, nmX9, by rw [h]; exact Or.inl (xTG_mem 129 (by decide +kernel) (by decide +kernel))⟩
theorem fp_X9_41 {M : xMd} (h : M.1.cls = RX9) : xFp M 41 9 6 .int := ⟨by decide, RX9, TX9, 8, tyX9, rfl, inX9, by decide, tyX9_ok, nmX9, Or.inl rfl, by rw [h]; exact Or.inl (xTG_mem 129 (by decide +kernel) (by decide +kernel)), rfl⟩
theorem fo_X9_32 {M : xMd} (h : M.1.cls = RX9) : xFo M 32 9 7 := ⟨by decide, RX9, TX9, 8, tyX9, rfl, inX9, by decide, tyX9_ok, nmX9, by rw [h]; exact Or.inl (xTG_mem 130 (by decide +kernel) (by decide +kernel))⟩
theorem fp_X9_32 {M : xMd} (h : M.1.cls = RX9) : xFp M 32 9 7 .int := ⟨by decide, RX9, TX9, 8, tyX9, rfl, inX9, by decide, tyX9_ok, nmX9, Or.inl rfl, by rw [h]; exact Or.inl (xTG_mem 130 (by decide +kernel) (by decide +kernel)), rfl⟩
theorem fo_X6_9 {M : xMd} (h : M.1.cls = RX6) : xFo M 9 6 0 := ⟨by decide, RX6, TX6, 3, tyX6, rfl, inX6, by decide, tyX6_ok, nmX6, by rw [h]; exact Or.inl (xTG_mem 162 (by decide +kernel) (by decide +kernel))⟩
theorem fp_X6_9 {M : xMd} (h : M.1.cls = RX6) (hi : M.1.name = "<init>") : xFp M 9 6 0 (.array .int) := ⟨by decide, RX6, TX6, 3, tyX6, rfl, inX6, by decide, tyX6_ok, nmX6, Or.inr ⟨rfl, hi, by rw [h]; rfl⟩, by rw [h]; exact Or.inl (xTG_mem 162 (by decide +kernel) (by decide +kernel)), rfl⟩
theorem fo_X6_15 {M : xMd} (h : M.1.cls = RX6) : xFo M 15 6 1 := ⟨by decide, RX6, TX6, 3, tyX6, rfl, inX6, by decide, tyX6_ok, nmX6, by rw [h]; exact Or.inl (xTG_mem 163 (by decide +kernel) (by decide +kernel))⟩
theorem fp_X6_15 {M : xMd} (h : M.1.cls = RX6) (hi : M.1.name = "<init>") : xFp M 15 6 1 (.array .int) := ⟨by decide, RX6, TX6, 3, tyX6, rfl, inX6, by decide, tyX6_ok, nmX6, Or.inr ⟨rfl, hi, by rw [h]; rfl⟩, by rw [h]; exact Or.inl (xTG_mem 163 (by decide +kernel) (by decide +kernel)), rfl⟩
theorem fo_X6_18 {M : xMd} (h : M.1.cls = RX6) : xFo M 18 6 2 := ⟨by decide, RX6, TX6, 3, tyX6, rfl, inX6, by decide, tyX6_ok, nmX6, by rw [h]; exact Or.inl (xTG_mem 164 (by decide +kernel) (by decide +kernel))⟩
theorem fp_X6_18 {M : xMd} (h : M.1.cls = RX6) (hi : M.1.name = "<init>") : xFp M 18 6 2 (.array .int) := ⟨by decide, RX6, TX6, 3, tyX6, rfl, inX6, by decide, tyX6_ok, nmX6, Or.inr ⟨rfl, hi, by rw [h]; rfl⟩, by rw [h]; exact Or.inl (xTG_mem 164 (by decide +kernel) (by decide +kernel)), rfl⟩
theorem fo_X10_76 {M : xMd} (h : M.1.cls = RX10) : xFo M 76 3 0 := ⟨by decide, RX3, TX3, 10, tyX3, rfl, inX3, by decide, tyX3_ok, nmX3, by rw [h]; exact Or.inr ⟨"SubtitleHarbour", xTN_mem 177 (by decide +kernel) (by decide +kernel)⟩⟩
theorem fp_X10_76 {M : xMd} (h : M.1.cls = RX10) : xFp M 76 3 0 .boolean := ⟨by decide, RX3, TX3, 10, tyX3, rfl, inX3, by decide, tyX3_ok, nmX3, Or.inl rfl, by rw [h]; exact Or.inr ⟨rfl, "SubtitleHarbour", xTN_mem 177 (by decide +kernel) (by decide +kernel)⟩, rfl⟩
theorem fo_X11_218 {M : xMd} (h : M.1.cls = RX11) : xFo M 218 3 0 := ⟨by decide, RX3, TX3, 10, tyX3, rfl, inX3, by decide, tyX3_ok, nmX3, by rw [h]; exact Or.inr ⟨"SubtitleHarbour", xTN_mem 178 (by decide +kernel) (by decide +kernel)⟩⟩
theorem fp_X11_218 {M : xMd} (h : M.1.cls = RX11) : xFp M 218 3 0 .boolean := ⟨by decide, RX3, TX3, 10, tyX3, rfl, inX3, by decide, tyX3_ok, nmX3, Or.inl rfl, by rw [h]; exact Or.inr ⟨rfl, "SubtitleHarbour", xTN_mem 178 (by decide +kernel) (by decide +kernel)⟩, rfl⟩
theorem fo_X3_28 {M : xMd} (h : M.1.cls = RX3) : xFo M 28 3 1 := ⟨by decide, RX3, TX3, 10, tyX3, rfl, inX3, by decide, tyX3_ok, nmX3, by rw [h]; exact Or.inl (xTG_mem 179 (by decide +kernel) (by decide +kernel))⟩
theorem fp_X3_28 {M : xMd} (h : M.1.cls = RX3) : xFp M 28 3 1 .int := ⟨by decide, RX3, TX3, 10, tyX3, rfl, inX3, by decide, tyX3_ok, nmX3, Or.inl rfl, by rw [h]; exact Or.inl (xTG_mem 179 (by decide +kernel) (by decide +kernel)), rfl⟩
theorem fo_X5_25 {M : xMd} (h : M.1.cls = RX5) : xFo M 25 3 1 := ⟨by decide, RX3, TX3, 10, tyX3, rfl, inX3, by decide, tyX3_ok, nmX3, by rw [h]; exact Or.inr ⟨"SubtitleHarbour", xTN_mem 180 (by decide +kernel) (by decide +kernel)⟩⟩
theorem fp_X5_25 {M : xMd} (h : M.1.cls = RX5) : xFp M 25 3 1 .int := ⟨by decide, RX3, TX3, 10, tyX3, rfl, inX3, by decide, tyX3_ok, nmX3, Or.inl rfl, by rw [h]; exact Or.inr ⟨rfl, "SubtitleHarbour", xTN_mem 180 (by decide +kernel) (by decide +kernel)⟩, rfl⟩
theorem fo_X8_65 {M : xMd} (h : M.1.cls = RX8) : xFo M 65 3 1 := ⟨by decide, RX3, TX3, 10, tyX3, rfl, inX3, by decide, tyX3_ok, nmX3, by rw [h]; exact Or.inr ⟨"SubtitleHarbour", xTN_mem 181 (by decide +kernel) (by decide +kernel)⟩⟩
theorem fp_X8_65 {M : xMd} (h : M.1.cls = RX8) : xFp M 65 3 1 .int := ⟨by decide, RX3, TX3, 10, tyX3, rfl, inX3, by decide, tyX3_ok, nmX3, Or.inl rfl, by rw [h]; exact Or.inr ⟨rfl, "SubtitleHarbour", xTN_mem 181 (by decide +kernel) (by decide +kernel)⟩, rfl⟩
theorem fo_X10_84 {M : xMd} (h : M.1.cls = RX10) : xFo M 84 3 1 := ⟨by decide, RX3, TX3, 10, tyX3, rfl, inX3, by decide, tyX3_ok, nmX3, by rw [h]; exact Or.inr ⟨"SubtitleHarbour", xTN_mem 182 (by decide +kernel) (by decide +kernel)⟩⟩
theorem fp_X10_84 {M : xMd} (h : M.1.cls = RX10) : xFp M 84 3 1 .int := ⟨by decide, RX3, TX3, 10, tyX3, rfl, inX3, by decide, tyX3_ok, nmX3, Or.inl rfl, by rw [h]; exact Or.inr ⟨rfl, "SubtitleHarbour", xTN_mem 182 (by decide +kernel) (by decide +kernel)⟩, rfl⟩
theorem fo_X11_221 {M : xMd} (h : M.1.cls = RX11) : xFo M 221 3 1 := ⟨by decide, RX3, TX3, 10, tyX3, rfl, inX3, by decide, tyX3_ok, nmX3, by rw [h]; exact Or.inr ⟨"SubtitleHarbour", xTN_mem 183 (by decide +kernel) (by decide +kernel)⟩⟩
theorem fp_X11_221 {M : xMd} (h : M.1.cls = RX11) : xFp M 221 3 1 .int := ⟨by decide, RX3, TX3, 10, tyX3, rfl, inX3, by decide, tyX3_ok, nmX3, Or.inl rfl, by rw [h]; exact Or.inr ⟨rfl, "SubtitleHarbour", xTN_mem 183 (by decide +kernel) (by decide +kernel)⟩, rfl⟩
theorem fo_X3_25 {M : xMd} (h : M.1.cls = RX3) : xFo M 25 3 2 := ⟨by decide, RX3, TX3, 10, tyX3, rfl, inX3, by decide, tyX3_ok, nmX3, by rw [h]; exact Or.inl (xTG_mem 184 (by decide +kernel) (by decide +kernel))⟩
theorem fp_X3_25 {M : xMd} (h : M.1.cls = RX3) : xFp M 25 3 2 .int := ⟨by decide, RX3, TX3, 10, tyX3, rfl, inX3, by decide, tyX3_ok, nmX3, Or.inl rfl, by rw [h]; exact Or.inl (xTG_mem 184 (by decide +kernel) (by decide +kernel)), rfl⟩
theorem fo_X5_30 {M : xMd} (h : M.1.cls = RX5) : xFo M 30 3 2 := ⟨by decide, RX3, TX3, 10, tyX3, rfl, inX3, by decide, tyX3_ok, nmX3, by rw [h]; exact Or.inr ⟨"SubtitleHarbour", xTN_mem 185 (by decide +kernel) (by decide +kernel)⟩⟩
theorem fp_X5_30 {M : xMd} (h : M.1.cls = RX5) : xFp M 30 3 2 .int := ⟨by decide, RX3, TX3, 10, tyX3, rfl, inX3, by decide, tyX3_ok, nmX3, Or.inl rfl, by rw [h]; exact Or.inr ⟨rfl, "SubtitleHarbour", xTN_mem 185 (by decide +kernel) (by decide +kernel)⟩, rfl⟩
theorem fo_X10_87 {M : xMd} (h : M.1.cls = RX10) : xFo M 87 3 2 := ⟨by decide, RX3, TX3, 10, tyX3, rfl, inX3, by decide, tyX3_ok, nmX3, by rw [h]; exact Or.inr ⟨"SubtitleHarbour", xTN_mem 186 (by decide +kernel) (by decide +kernel)⟩⟩
theorem fp_X10_87 {M : xMd} (h : M.1.cls = RX10) : xFp M 87 3 2 .int := ⟨by decide, RX3, TX3, 10, tyX3, rfl, inX3, by decide, tyX3_ok, nmX3, Or.inl rfl, by rw [h]; exact Or.inr ⟨rfl, "SubtitleHarbour", xTN_mem 186 (by decide +kernel) (by decide +kernel)⟩, rfl⟩
theorem fo_X11_224 {M : xMd} (h : M.1.cls = RX11) : xFo M 224 3 2 := ⟨by decide, RX3, TX3, 10, tyX3, rfl, inX3, by decide, tyX3_ok, nmX3, by rw [h]; exact Or.inr ⟨"SubtitleHarbour", xTN_mem 187 (by decide +kernel) (by decide +kernel)⟩⟩
theorem fp_X11_224 {M : xMd} (h : M.1.cls = RX11) : xFp M 224 3 2 .int := ⟨by decide, RX3, TX3, 10, tyX3, rfl, inX3, by decide, tyX3_ok, nmX3, Or.inl rfl, by rw [h]; exact Or.inr ⟨rfl, "SubtitleHarbour", xTN_mem 187 (by decide +kernel) (by decide +kernel)⟩, rfl⟩
theorem fo_X8_56 {M : xMd} (h : M.1.cls = RX8) : xFo M 56 3 3 := ⟨by decide, RX3, TX3, 10, tyX3, rfl, inX3, by decide, tyX3_ok, nmX3, by rw [h]; exact Or.inr ⟨"SubtitleHarbour", xTN_mem 188 (by decide +kernel) (by decide +kernel)⟩⟩
theorem fp_X8_56 {M : xMd} (h : M.1.cls = RX8) : xFp M 56 3 3 .int := ⟨by decide, RX3, TX3, 10, tyX3, rfl, inX3, by decide, tyX3_ok, nmX3, Or.inl rfl, by rw [h]; exact Or.inr ⟨rfl, "SubtitleHarbour", xTN_mem 188 (by decide +kernel) (by decide +kernel)⟩, rfl⟩
theorem fo_X10_66 {M : xMd} (h : M.1.cls = RX10) : xFo M 66 3 3 := ⟨by decide, RX3, TX3, 10, tyX3, rfl, inX3, by decide, tyX3_ok, nmX3, by rw [h]; exact Or.inr ⟨"SubtitleHarbour", xTN_mem 189 (by decide +kernel) (by decide +kernel)⟩⟩
theorem fp_X10_66 {M : xMd} (h : M.1.cls = RX10) : xFp M 66 3 3 .int := ⟨by decide, RX3, TX3, 10, tyX3, rfl, inX3, by decide, tyX3_ok, nmX3, Or.inl rfl, by rw [h]; exact Or.inr ⟨rfl, "SubtitleHarbour", xTN_mem 189 (by decide +kernel) (by decide +kernel)⟩, rfl⟩
theorem fo_X11_282 {M : xMd} (h : M.1.cls = RX11) : xFo M 282 3 3 := ⟨by decide, RX3, TX3, 10, tyX3, rfl, inX3, by decide, tyX3_ok, nmX3, by rw [h]; exact Or.inr ⟨"SubtitleHarbour", xTN_mem 190 (by decide +kernel) (by decide +kernel)⟩⟩
theorem fp_X11_282 {M : xMd} (h : M.1.cls = RX11) : xFp M 282 3 3 .int := ⟨by decide, RX3, TX3, 10, tyX3, rfl, inX3, by decide, tyX3_ok, nmX3, Or.inl rfl, by rw [h]; exact Or.inr ⟨rfl, "SubtitleHarbour", xTN_mem 190 (by decide +kernel) (by decide +kernel)⟩, rfl⟩
theorem fo_X3_9 {M : xMd} (h : M.1.cls = RX3) : xFo M 9 3 4 := ⟨by decide, RX3, TX3, 10, tyX3, rfl, inX3, by decide, tyX3_ok, nmX3, by rw [h]; exact Or.inl (xTG_mem 191 (by decide +kernel) (by decide +kernel))⟩
theorem fp_X3_9 {M : xMd} (h : M.1.cls = RX3) (hi : M.1.name = "<init>") : xFp M 9 3 4 (.array .int) := ⟨by decide, RX3, TX3, 10, tyX3, rfl, inX3, by decide, tyX3_ok, nmX3, Or.inr ⟨rfl, hi, by rw [h]; rfl⟩, by rw [h]; exact Or.inl (xTG_mem 191 (by decide +kernel) (by decide +kernel)), rfl⟩
theorem fo_X5_43 {M : xMd} (h : M.1.cls = RX5) : xFo M 43 3 4 := ⟨by decide, RX3, TX3, 10, tyX3, rfl, inX3, by decide, tyX3_ok, nmX3, by rw [h]; exact Or.inr ⟨"SubtitleHarbour", xTN_mem 192 (by decide +kernel) (by decide +kernel)⟩⟩
theorem fo_X3_15 {M : xMd} (h : M.1.cls = RX3) : xFo M 15 3 5 := ⟨by decide, RX3, TX3, 10, tyX3, rfl, inX3, by decide, tyX3_ok, nmX3, by rw [h]; exact Or.inl (xTG_mem 193 (by decide +kernel) (by decide +kernel))⟩
theorem fp_X3_15 {M : xMd} (h : M.1.cls = RX3) (hi : M.1.name = "<init>") : xFp M 15 3 5 (.array .int) := ⟨by decide, RX3, TX3, 10, tyX3, rfl, inX3, by decide, tyX3_ok, nmX3, Or.inr ⟨rfl, hi, by rw [h]; rfl⟩, by rw [h]; exact Or.inl (xTG_mem 193 (by decide +kernel) (by decide +kernel)), rfl⟩
theorem fo_X5_58 {M : xMd} (h : M.1.cls = RX5) : xFo M 58 3 5 := ⟨by decide, RX3, TX3, 10, tyX3, rfl, inX3, by decide, tyX3_ok, nmX3, by rw [h]; exact Or.inr ⟨"SubtitleHarbour", xTN_mem 194 (by decide +kernel) (by decide +kernel)⟩⟩
theorem fo_X11_360 {M : xMd} (h : M.1.cls = RX11) : xFo M 360 3 5 := ⟨by decide, RX3, TX3, 10, tyX3, rfl, inX3, by decide, tyX3_ok, nmX3, by rw [h]; exact Or.inr ⟨"SubtitleHarbour", xTN_mem 195 (by decide +kernel) (by decide +kernel)⟩⟩
theorem fo_X6_21 {M : xMd} (h : M.1.cls = RX6) : xFo M 21 3 6 := ⟨by decide, RX3, TX3, 10, tyX3, rfl, inX3, by decide, tyX3_ok, nmX3, by rw [h]; exact Or.inr ⟨"SubtitleHarbour", xTN_mem 196 (by decide +kernel) (by decide +kernel)⟩⟩
theorem fp_X6_21 {M : xMd} (h : M.1.cls = RX6) : xFp M 21 3 6 .int := ⟨by decide, RX3, TX3, 10, tyX3, rfl, inX3, by decide, tyX3_ok, nmX3, Or.inl rfl, by rw [h]; exact Or.inr ⟨rfl, "SubtitleHarbour", xTN_mem 196 (by decide +kernel) (by decide +kernel)⟩, rfl⟩
theorem fo_X5_37 {M : xMd} (h : M.1.cls = RX5) : xFo M 37 3 6 := ⟨by decide, RX3, TX3, 10, tyX3, rfl, inX3, by decide, tyX3_ok, nmX3, by rw [h]; exact Or.inr ⟨"SubtitleHarbour", xTN_mem 197 (by decide +kernel) (by decide +kernel)⟩⟩
theorem fp_X5_37 {M : xMd} (h : M.1.cls = RX5) : xFp M 37 3 6 .int := ⟨by decide, RX3, TX3, 10, tyX3, rfl, inX3, by decide, tyX3_ok, nmX3, Or.inl rfl, by rw [h]; exact Or.inr ⟨rfl, "SubtitleHarbour", xTN_mem 197 (by decide +kernel) (by decide +kernel)⟩, rfl⟩
theorem fo_X8_73 {M : xMd} (h : M.1.cls = RX8) : xFo M 73 3 6 := ⟨by decide, RX3, TX3, 10, tyX3, rfl, inX3, by decide, tyX3_ok, nmX3, by rw [h]; exact Or.inr ⟨"SubtitleHarbour", xTN_mem 198 (by decide +kernel) (by decide +kernel)⟩⟩
theorem fp_X8_73 {M : xMd} (h : M.1.cls = RX8) : xFp M 73 3 6 .int := ⟨by decide, RX3, TX3, 10, tyX3, rfl, inX3, by decide, tyX3_ok, nmX3, Or.inl rfl, by rw [h]; exact Or.inr ⟨rfl, "SubtitleHarbour", xTN_mem 198 (by decide +kernel) (by decide +kernel)⟩, rfl⟩
theorem fo_X3_35 {M : xMd} (h : M.1.cls = RX3) : xFo M 35 3 6 := ⟨by decide, RX3, TX3, 10, tyX3, rfl, inX3, by decide, tyX3_ok, nmX3, by rw [h]; exact Or.inl (xTG_mem 199 (by decide +kernel) (by decide +kernel))⟩
theorem fp_X3_35 {M : xMd} (h : M.1.cls = RX3) : xFp M 35 3 6 .int := ⟨by decide, RX3, TX3, 10, tyX3, rfl, inX3, by decide, tyX3_ok, nmX3, Or.inl rfl, by rw [h]; exact Or.inl (xTG_mem 199 (by decide +kernel) (by decide +kernel)), rfl⟩
theorem fo_X11_208 {M : xMd} (h : M.1.cls = RX11) : xFo M 208 3 6 := ⟨by decide, RX3, TX3, 10, tyX3, rfl, inX3, by decide, tyX3_ok, nmX3, by rw [h]; exact Or.inr ⟨"SubtitleHarbour", xTN_mem 200 (by decide +kernel) (by decide +kernel)⟩⟩
theorem fp_X11_208 {M : xMd} (h : M.1.cls = RX11) : xFp M 208 3 6 .int := ⟨by decide, RX3, TX3, 10, tyX3, rfl, inX3, by decide, tyX3_ok, nmX3, Or.inl rfl, by rw [h]; exact Or.inr ⟨rfl, "SubtitleHarbour", xTN_mem 200 (by decide +kernel) (by decide +kernel)⟩, rfl⟩
theorem fo_X3_18 {M : xMd} (h : M.1.cls = RX3) : xFo M 18 3 7 := ⟨by decide, RX3, TX3, 10, tyX3, rfl, inX3, by decide, tyX3_ok, nmX3, by rw [h]; exact Or.inl (xTG_mem 201 (by decide +kernel) (by decide +kernel))⟩
theorem fp_X3_18 {M : xMd} (h : M.1.cls = RX3) (hi : M.1.name = "<init>") : xFp M 18 3 7 (.array .int) := ⟨by decide, RX3, TX3, 10, tyX3, rfl, inX3, by decide, tyX3_ok, nmX3, Or.inr ⟨rfl, hi, by rw [h]; rfl⟩, by rw [h]; exact Or.inl (xTG_mem 201 (by decide +kernel) (by decide +kernel)), rfl⟩
theorem fo_X6_40 {M : xMd} (h : M.1.cls = RX6) : xFo M 40 3 7 := ⟨by decide, RX3, TX3, 10, tyX3, rfl, inX3, by decide, tyX3_ok, nmX3, by rw [h]; exact Or.inr ⟨"SubtitleHarbour", xTN_mem 202 (by decide +kernel) (by decide +kernel)⟩⟩
theorem fo_X11_238 {M : xMd} (h : M.1.cls = RX11) : xFo M 238 3 7 := ⟨by decide, RX3, TX3, 10, tyX3, rfl, inX3, by decide, tyX3_ok, nmX3, by rw [h]; exact Or.inr ⟨"SubtitleHarbour", xTN_mem 203 (by decide +kernel) (by decide +kernel)⟩⟩
theorem fo_X6_37 {M : xMd} (h : M.1.cls = RX6) : xFo M 37 3 8 := ⟨by decide, RX3, TX3, 10, tyX3, rfl, inX3, by decide, tyX3_ok, nmX3, by rw [h]; exact Or.inr ⟨"SubtitleHarbour", xTN_mem 204 (by decide +kernel) (by decide +kernel)⟩⟩
theorem fp_X6_37 {M : xMd} (h : M.1.cls = RX6) : xFp M 37 3 8 .int := ⟨by decide, RX3, TX3, 10, tyX3, rfl, inX3, by decide, tyX3_ok, nmX3, Or.inl rfl, by rw [h]; exact Or.inr ⟨rfl, "SubtitleHarbour", xTN_mem 204 (by decide +kernel) (by decide +kernel)⟩, rfl⟩
theorem fo_X10_101 {M : xMd} (h : M.1.cls = RX10) : xFo M 101 3 8 := ⟨by decide, RX3, TX3, 10, tyX3, rfl, inX3, by decide, tyX3_ok, nmX3, by rw [h]; exact Or.inr ⟨"SubtitleHarbour", xTN_mem 205 (by decide +kernel) (by decide +kernel)⟩⟩
theorem fp_X10_101 {M : xMd} (h : M.1.cls = RX10) : xFp M 101 3 8 .int := ⟨by decide, RX3, TX3, 10, tyX3, rfl, inX3, by decide, tyX3_ok, nmX3, Or.inl rfl, by rw [h]; exact Or.inr ⟨rfl, "SubtitleHarbour", xTN_mem 205 (by decide +kernel) (by decide +kernel)⟩, rfl⟩
theorem fo_X3_54 {M : xMd} (h : M.1.cls = RX3) : xFo M 54 3 8 := ⟨by decide, RX3, TX3, 10, tyX3, rfl, inX3, by decide, tyX3_ok, nmX3, by rw [h]; exact Or.inl (xTG_mem 206 (by decide +kernel) (by decide +kernel))⟩
theorem fp_X3_54 {M : xMd} (h : M.1.cls = RX3) : xFp M 54 3 8 .int := ⟨by decide, RX3, TX3, 10, tyX3, rfl, inX3, by decide, tyX3_ok, nmX3, Or.inl rfl, by rw [h]; exact Or.inl (xTG_mem 206 (by decide +kernel) (by decide +kernel)), rfl⟩
theorem fo_X11_230 {M : xMd} (h : M.1.cls = RX11) : xFo M 230 3 8 := ⟨by decide, RX3, TX3, 10, tyX3, rfl, inX3, by decide, tyX3_ok, nmX3, by rw [h]; exact Or.inr ⟨"SubtitleHarbour", xTN_mem 207 (by decide +kernel) (by decide +kernel)⟩⟩
theorem fp_X11_230 {M : xMd} (h : M.1.cls = RX11) : xFp M 230 3 8 .int := ⟨by decide, RX3, TX3, 10, tyX3, rfl, inX3, by decide, tyX3_ok, nmX3, Or.inl rfl, by rw [h]; exact Or.inr ⟨rfl, "SubtitleHarbour", xTN_mem 207 (by decide +kernel) (by decide +kernel)⟩, rfl⟩
theorem fo_X3_21 {M : xMd} (h : M.1.cls = RX3) : xFo M 21 3 9 := ⟨by decide, RX3, TX3, 10, tyX3, rfl, inX3, by decide, tyX3_ok, nmX3, by rw [h]; exact Or.inl (xTG_mem 208 (by decide +kernel) (by decide +kernel))⟩
theorem fp_X3_21 {M : xMd} (h : M.1.cls = RX3) : xFp M 21 3 9 .int := ⟨by decide, RX3, TX3, 10, tyX3, rfl, inX3, by decide, tyX3_ok, nmX3, Or.inl rfl, by rw [h]; exact Or.inl (xTG_mem 208 (by decide +kernel) (by decide +kernel)), rfl⟩
theorem fo_X10_98 {M : xMd} (h : M.1.cls = RX10) : xFo M 98 3 9 := ⟨by decide, RX3, TX3, 10, tyX3, rfl, inX3, by decide, tyX3_ok, nmX3, by rw [h]; exact Or.inr ⟨"SubtitleHarbour", xTN_mem 209 (by decide +kernel) (by decide +kernel)⟩⟩
theorem fp_X10_98 {M : xMd} (h : M.1.cls = RX10) : xFp M 98 3 9 .int := ⟨by decide, RX3, TX3, 10, tyX3, rfl, inX3, by decide, tyX3_ok, nmX3, Or.inl rfl, by rw [h]; exact Or.inr ⟨rfl, "SubtitleHarbour", xTN_mem 209 (by decide +kernel) (by decide +kernel)⟩, rfl⟩
theorem fo_X11_241 {M : xMd} (h : M.1.cls = RX11) : xFo M 241 3 9 := ⟨by decide, RX3, TX3, 10, tyX3, rfl, inX3, by decide, tyX3_ok, nmX3, by rw [h]; exact Or.inr ⟨"SubtitleHarbour", xTN_mem 210 (by decide +kernel) (by decide +kernel)⟩⟩
theorem fp_X11_241 {M : xMd} (h : M.1.cls = RX11) : xFp M 241 3 9 .int := ⟨by decide, RX3, TX3, 10, tyX3, rfl, inX3, by decide, tyX3_ok, nmX3, Or.inl rfl, by rw [h]; exact Or.inr ⟨rfl, "SubtitleHarbour", xTN_mem 210 (by decide +kernel) (by decide +kernel)⟩, rfl⟩
theorem fo_X10_11 {M : xMd} (h : M.1.cls = RX10) : xFo M 11 10 0 := ⟨by decide, RX10, TX10, 9, tyX10, rfl, inX10, by decide, tyX10_ok, nmX10, by rw [h]; exact Or.inl (xTG_mem 233 (by decide +kernel) (by decide +kernel))⟩
theorem fp_X10_11 {M : xMd} (h : M.1.cls = RX10) (hi : M.1.name = "<init>") : xFp M 11 10 0 (.array (.object "SubtitleHarbour$Cue")) := ⟨by decide, RX10, TX10, 9, tyX10, rfl, inX10, by decide, tyX10_ok, nmX10, Or.inr ⟨rfl, hi, by rw [h]; rfl⟩, by rw [h]; exact Or.inl (xTG_mem 233 (by decide +kernel) (by decide +kernel)), rfl⟩
theorem fo_X11_33 {M : xMd} (h : M.1.cls = RX11) : xFo M 33 10 0 := ⟨by decide, RX10, TX10, 9, tyX10, rfl, inX10, by decide, tyX10_ok, nmX10, by rw [h]; exact Or.inr ⟨"SubtitleHarbour", xTN_mem 234 (by decide +kernel) (by decide +kernel)⟩⟩
theorem fo_X8_29 {M : xMd} (h : M.1.cls = RX8) : xFo M 29 10 0 := ⟨by decide, RX10, TX10, 9, tyX10, rfl, inX10, by decide, tyX10_ok, nmX10, by rw [h]; exact Or.inr ⟨"SubtitleHarbour", xTN_mem 235 (by decide +kernel) (by decide +kernel)⟩⟩
theorem fo_X10_17 {M : xMd} (h : M.1.cls = RX10) : xFo M 17 10 1 := ⟨by decide, RX10, TX10, 9, tyX10, rfl, inX10, by decide, tyX10_ok, nmX10, by rw [h]; exact Or.inl (xTG_mem 236 (by decide +kernel) (by decide +kernel))⟩
theorem fp_X10_17 {M : xMd} (h : M.1.cls = RX10) (hi : M.1.name = "<init>") : xFp M 17 10 1 (.array .int) := ⟨by decide, RX10, TX10, 9, tyX10, rfl, inX10, by decide, tyX10_ok, nmX10, Or.inr ⟨rfl, hi, by rw [h]; rfl⟩, by rw [h]; exact Or.inl (xTG_mem 236 (by decide +kernel) (by decide +kernel)), rfl⟩
theorem fo_X11_187 {M : xMd} (h : M.1.cls = RX11) : xFo M 187 10 1 := ⟨by decide, RX10, TX10, 9, tyX10, rfl, inX10, by decide, tyX10_ok, nmX10, by rw [h]; exact Or.inr ⟨"SubtitleHarbour", xTN_mem 237 (by decide +kernel) (by decide +kernel)⟩⟩
theorem fo_X10_21 {M : xMd} (h : M.1.cls = RX10) : xFo M 21 10 2 := ⟨by decide, RX10, TX10, 9, tyX10, rfl, inX10, by decide, tyX10_ok, nmX10, by rw [h]; exact Or.inl (xTG_mem 238 (by decide +kernel) (by decide +kernel))⟩
theorem fp_X10_21 {M : xMd} (h : M.1.cls = RX10) (hi : M.1.name = "<init>") : xFp M 21 10 2 (.array .int) := ⟨by decide, RX10, TX10, 9, tyX10, rfl, inX10, by decide, tyX10_ok, nmX10, Or.inr ⟨rfl, hi, by rw [h]; rfl⟩, by rw [h]; exact Or.inl (xTG_mem 238 (by decide +kernel) (by decide +kernel)), rfl⟩
theorem fo_X11_190 {M : xMd} (h : M.1.cls = RX11) : xFo M 190 10 2 := ⟨by decide, RX10, TX10, 9, tyX10, rfl, inX10, by decide, tyX10_ok, nmX10, by rw [h]; exact Or.inr ⟨"SubtitleHarbour", xTN_mem 239 (by decide +kernel) (by decide +kernel)⟩⟩
theorem fo_X10_24 {M : xMd} (h : M.1.cls = RX10) : xFo M 24 10 3 := ⟨by decide, RX10, TX10, 9, tyX10, rfl, inX10, by decide, tyX10_ok, nmX10, by rw [h]; exact Or.inl (xTG_mem 240 (by decide +kernel) (by decide +kernel))⟩
theorem fp_X10_24 {M : xMd} (h : M.1.cls = RX10) (hi : M.1.name = "<init>") : xFp M 24 10 3 (.array .int) := ⟨by decide, RX10, TX10, 9, tyX10, rfl, inX10, by decide, tyX10_ok, nmX10, Or.inr ⟨rfl, hi, by rw [h]; rfl⟩, by rw [h]; exact Or.inl (xTG_mem 240 (by decide +kernel) (by decide +kernel)), rfl⟩
theorem fo_X11_183 {M : xMd} (h : M.1.cls = RX11) : xFo M 183 10 3 := ⟨by decide, RX10, TX10, 9, tyX10, rfl, inX10, by decide, tyX10_ok, nmX10, by rw [h]; exact Or.inr ⟨"SubtitleHarbour", xTN_mem 241 (by decide +kernel) (by decide +kernel)⟩⟩
theorem fo_X10_30 {M : xMd} (h : M.1.cls = RX10) : xFo M 30 10 4 := ⟨by decide, RX10, TX10, 9, tyX10, rfl, inX10, by decide, tyX10_ok, nmX10, by rw [h]; exact Or.inl (xTG_mem 242 (by decide +kernel) (by decide +kernel))⟩
theorem fp_X10_30 {M : xMd} (h : M.1.cls = RX10) (hi : M.1.name = "<init>") : xFp M 30 10 4 (.object "SubtitleHarbour$LineBreaker") := ⟨by decide, RX10, TX10, 9, tyX10, rfl, inX10, by decide, tyX10_ok, nmX10, Or.inr ⟨rfl, hi, by rw [h]; rfl⟩, by rw [h]; exact Or.inl (xTG_mem 242 (by decide +kernel) (by decide +kernel)), rfl⟩
theorem fo_X10_34 {M : xMd} (h : M.1.cls = RX10) : xFo M 34 10 5 := ⟨by decide, RX10, TX10, 9, tyX10, rfl, inX10, by decide, tyX10_ok, nmX10, by rw [h]; exact Or.inl (xTG_mem 243 (by decide +kernel) (by decide +kernel))⟩
theorem fp_X10_34 {M : xMd} (h : M.1.cls = RX10) (hi : M.1.name = "<init>") : xFp M 34 10 5 (.array .int) := ⟨by decide, RX10, TX10, 9, tyX10, rfl, inX10, by decide, tyX10_ok, nmX10, Or.inr ⟨rfl, hi, by rw [h]; rfl⟩, by rw [h]; exact Or.inl (xTG_mem 243 (by decide +kernel) (by decide +kernel)), rfl⟩
theorem fo_X8_49 {M : xMd} (h : M.1.cls = RX8) : xFo M 49 10 6 := ⟨by decide, RX10, TX10, 9, tyX10, rfl, inX10, by decide, tyX10_ok, nmX10, by rw [h]; exact Or.inr ⟨"SubtitleHarbour", xTN_mem 244 (by decide +kernel) (by decide +kernel)⟩⟩
theorem fp_X8_49 {M : xMd} (h : M.1.cls = RX8) : xFp M 49 10 6 .int := ⟨by decide, RX10, TX10, 9, tyX10, rfl, inX10, by decide, tyX10_ok, nmX10, Or.inl rfl, by rw [h]; exact Or.inr ⟨rfl, "SubtitleHarbour", xTN_mem 244 (by decide +kernel) (by decide +kernel)⟩, rfl⟩
theorem fo_X10_58 {M : xMd} (h : M.1.cls = RX10) : xFo M 58 10 6 := ⟨by decide, RX10, TX10, 9, tyX10, rfl, inX10, by decide, tyX10_ok, nmX10, by rw [h]; exact Or.inl (xTG_mem 245 (by decide +kernel) (by decide +kernel))⟩
theorem fp_X10_58 {M : xMd} (h : M.1.cls = RX10) : xFp M 58 10 6 .int := ⟨by decide, RX10, TX10, 9, tyX10, rfl, inX10, by decide, tyX10_ok, nmX10, Or.inl rfl, by rw [h]; exact Or.inl (xTG_mem 245 (by decide +kernel) (by decide +kernel)), rfl⟩
theorem fo_X11_266 {M : xMd} (h : M.1.cls = RX11) : xFo M 266 10 6 := ⟨by decide, RX10, TX10, 9, tyX10, rfl, inX10, by decide, tyX10_ok, nmX10, by rw [h]; exact Or.inr ⟨"SubtitleHarbour", xTN_mem 246 (by decide +kernel) (by decide +kernel)⟩⟩
theorem fp_X11_266 {M : xMd} (h : M.1.cls = RX11) : xFp M 266 10 6 .int := ⟨by decide, RX10, TX10, 9, tyX10, rfl, inX10, by decide, tyX10_ok, nmX10, Or.inl rfl, by rw [h]; exact Or.inr ⟨rfl, "SubtitleHarbour", xTN_mem 246 (by decide +kernel) (by decide +kernel)⟩, rfl⟩
theorem fo_X10_37 {M : xMd} (h : M.1.cls = RX10) : xFo M 37 10 7 := ⟨by decide, RX10, TX10, 9, tyX10, rfl, inX10, by decide, tyX10_ok, nmX10, by rw [h]; exact Or.inl (xTG_mem 247 (by decide +kernel) (by decide +kernel))⟩
theorem fp_X10_37 {M : xMd} (h : M.1.cls = RX10) (hi : M.1.name = "<init>") : xFp M 37 10 7 (.array .boolean) := ⟨by decide, RX10, TX10, 9, tyX10, rfl, inX10, by decide, tyX10_ok, nmX10, Or.inr ⟨rfl, hi, by rw [h]; rfl⟩, by rw [h]; exact Or.inl (xTG_mem 247 (by decide +kernel) (by decide +kernel)), rfl⟩
theorem fo_X10_41 {M : xMd} (h : M.1.cls = RX10) : xFo M 41 10 8 := ⟨by decide, RX10, TX10, 9, tyX10, rfl, inX10, by decide, tyX10_ok, nmX10, by rw [h]; exact Or.inl (xTG_mem 248 (by decide +kernel) (by decide +kernel))⟩
theorem fp_X10_41 {M : xMd} (h : M.1.cls = RX10) (hi : M.1.name = "<init>") : xFp M 41 10 8 (.array .int) := ⟨by decide, RX10, TX10, 9, tyX10, rfl, inX10, by decide, tyX10_ok, nmX10, Or.inr ⟨rfl, hi, by rw [h]; rfl⟩, by rw [h]; exact Or.inl (xTG_mem 248 (by decide +kernel) (by decide +kernel)), rfl⟩
theorem fo_X4_9 {M : xMd} (h : M.1.cls = RX4) : xFo M 9 4 0 := ⟨by decide, RX4, TX4, 2, tyX4, rfl, inX4, by decide, tyX4_ok, nmX4, by rw [h]; exact Or.inl (xTG_mem 274 (by decide +kernel) (by decide +kernel))⟩
theorem fp_X4_9 {M : xMd} (h : M.1.cls = RX4) (hi : M.1.name = "<init>") : xFp M 9 4 0 (.array .int) := ⟨by decide, RX4, TX4, 2, tyX4, rfl, inX4, by decide, tyX4_ok, nmX4, Or.inr ⟨rfl, hi, by rw [h]; rfl⟩, by rw [h]; exact Or.inl (xTG_mem 274 (by decide +kernel) (by decide +kernel)), rfl⟩
theorem fo_X11_319 {M : xMd} (h : M.1.cls = RX11) : xFo M 319 4 0 := ⟨by decide, RX4, TX4, 2, tyX4, rfl, inX4, by decide, tyX4_ok, nmX4, by rw [h]; exact Or.inr ⟨"SubtitleHarbour", xTN_mem 275 (by decide +kernel) (by decide +kernel)⟩⟩
theorem fo_X4_15 {M : xMd} (h : M.1.cls = RX4) : xFo M 15 4 1 := ⟨by decide, RX4, TX4, 2, tyX4, rfl, inX4, by decide, tyX4_ok, nmX4, by rw [h]; exact Or.inl (xTG_mem 276 (by decide +kernel) (by decide +kernel))⟩
theorem fp_X4_15 {M : xMd} (h : M.1.cls = RX4) : xFp M 15 4 1 .int := ⟨by decide, RX4, TX4, 2, tyX4, rfl, inX4, by decide, tyX4_ok, nmX4, Or.inl rfl, by rw [h]; exact Or.inl (xTG_mem 276 (by decide +kernel) (by decide +kernel)), rfl⟩
theorem fo_X11_251 {M : xMd} (h : M.1.cls = RX11) : xFo M 251 4 1 := ⟨by decide, RX4, TX4, 2, tyX4, rfl, inX4, by decide, tyX4_ok, nmX4, by rw [h]; exact Or.inr ⟨"SubtitleHarbour", xTN_mem 277 (by decide +kernel) (by decide +kernel)⟩⟩
theorem fp_X11_251 {M : xMd} (h : M.1.cls = RX11) : xFp M 251 4 1 .int := ⟨by decide, RX4, TX4, 2, tyX4, rfl, inX4, by decide, tyX4_ok, nmX4, Or.inl rfl, by rw [h]; exact Or.inr ⟨rfl, "SubtitleHarbour", xTN_mem 277 (by decide +kernel) (by decide +kernel)⟩, rfl⟩
theorem fo_X1_9 {M : xMd} (h : M.1.cls = RX1) : xFo M 9 1 0 := ⟨by decide, RX1, TX1, 3, tyX1, rfl, inX1, by decide, tyX1_ok, nmX1, by rw [h]; exact Or.inl (xTG_mem 289 (by decide +kernel) (by decide +kernel))⟩
theorem fp_X1_9 {M : xMd} (h : M.1.cls = RX1) (hi : M.1.name = "<init>") : xFp M 9 1 0 (.array .int) := ⟨by decide, RX1, TX1, 3, tyX1, rfl, inX1, by decide, tyX1_ok, nmX1, Or.inr ⟨rfl, hi, by rw [h]; rfl⟩, by rw [h]; exact Or.inl (xTG_mem 289 (by decide +kernel) (by decide +kernel)), rfl⟩
theorem fo_X1_15 {M : xMd} (h : M.1.cls = RX1) : xFo M 15 1 1 := ⟨by decide, RX1, TX1, 3, tyX1, rfl, inX1, by decide, tyX1_ok, nmX1, by rw [h]; exact Or.inl (xTG_mem 290 (by decide +kernel) (by decide +kernel))⟩
theorem fp_X1_15 {M : xMd} (h : M.1.cls = RX1) (hi : M.1.name = "<init>") : xFp M 15 1 1 (.array .int) := ⟨by decide, RX1, TX1, 3, tyX1, rfl, inX1, by decide, tyX1_ok, nmX1, Or.inr ⟨rfl, hi, by rw [h]; rfl⟩, by rw [h]; exact Or.inl (xTG_mem 290 (by decide +kernel) (by decide +kernel)), rfl⟩
theorem fo_X1_18 {M : xMd} (h : M.1.cls = RX1) : xFo M 18 1 2 := ⟨by decide, RX1, TX1, 3, tyX1, rfl, inX1, by decide, tyX1_ok, nmX1, by rw [h]; exact Or.inl (xTG_mem 291 (by decide +kernel) (by decide +kernel))⟩
theorem fp_X1_18 {M : xMd} (h : M.1.cls = RX1) : xFp M 18 1 2 .int := ⟨by decide, RX1, TX1, 3, tyX1, rfl, inX1, by decide, tyX1_ok, nmX1, Or.inl rfl, by rw [h]; exact Or.inl (xTG_mem 291 (by decide +kernel) (by decide +kernel)), rfl⟩
theorem fo_X11_334 {M : xMd} (h : M.1.cls = RX11) : xFo M 334 1 2 := ⟨by decide, RX1, TX1, 3, tyX1, rfl, inX1, by decide, tyX1_ok, nmX1, by rw [h]; exact Or.inr ⟨"SubtitleHarbour", xTN_mem 292 (by decide +kernel) (by decide +kernel)⟩⟩
theorem fp_X11_334 {M : xMd} (h : M.1.cls = RX11) : xFp M 334 1 2 .int := ⟨by decide, RX1, TX1, 3, tyX1, rfl, inX1, by decide, tyX1_ok, nmX1, Or.inl rfl, by rw [h]; exact Or.inr ⟨rfl, "SubtitleHarbour", xTN_mem 292 (by decide +kernel) (by decide +kernel)⟩, rfl⟩
theorem fo_X0_11 {M : xMd} (h : M.1.cls = RX0) : xFo M 11 0 0 := ⟨by decide, RX0, TX0, 3, tyX0, rfl, inX0, by decide, tyX0_ok, nmX0, by rw [h]; exact Or.inl (xTG_mem 308 (by decide +kernel) (by decide +kernel))⟩
theorem fp_X0_11 {M : xMd} (h : M.1.cls = RX0) (hi : M.1.name = "<init>") : xFp M 11 0 0 (.array (.array .int)) := ⟨by decide, RX0, TX0, 3, tyX0, rfl, inX0, by decide, tyX0_ok, nmX0, Or.inr ⟨rfl, hi, by rw [h]; rfl⟩, by rw [h]; exact Or.inl (xTG_mem 308 (by decide +kernel) (by decide +kernel)), rfl⟩
theorem fo_X0_16 {M : xMd} (h : M.1.cls = RX0) : xFo M 16 0 1 := ⟨by decide, RX0, TX0, 3, tyX0, rfl, inX0, by decide, tyX0_ok, nmX0, by rw [h]; exact Or.inl (xTG_mem 309 (by decide +kernel) (by decide +kernel))⟩
theorem fp_X0_16 {M : xMd} (h : M.1.cls = RX0) (hi : M.1.name = "<init>") : xFp M 16 0 1 (.array (.array .int)) := ⟨by decide, RX0, TX0, 3, tyX0, rfl, inX0, by decide, tyX0_ok, nmX0, Or.inr ⟨rfl, hi, by rw [h]; rfl⟩, by rw [h]; exact Or.inl (xTG_mem 309 (by decide +kernel) (by decide +kernel)), rfl⟩
theorem fo_X0_19 {M : xMd} (h : M.1.cls = RX0) : xFo M 19 0 2 := ⟨by decide, RX0, TX0, 3, tyX0, rfl, inX0, by decide, tyX0_ok, nmX0, by rw [h]; exact Or.inl (xTG_mem 310 (by decide +kernel) (by decide +kernel))⟩
theorem fp_X0_19 {M : xMd} (h : M.1.cls = RX0) (hi : M.1.name = "<init>") : xFp M 19 0 2 (.array .int) := ⟨by decide, RX0, TX0, 3, tyX0, rfl, inX0, by decide, tyX0_ok, nmX0, Or.inr ⟨rfl, hi, by rw [h]; rfl⟩, by rw [h]; exact Or.inl (xTG_mem 310 (by decide +kernel) (by decide +kernel)), rfl⟩
theorem fo_X5_9 {M : xMd} (h : M.1.cls = RX5) : xFo M 9 5 0 := ⟨by decide, RX5, TX5, 5, tyX5, rfl, inX5, by decide, tyX5_ok, nmX5, by rw [h]; exact Or.inl (xTG_mem 324 (by decide +kernel) (by decide +kernel))⟩
theorem fp_X5_9 {M : xMd} (h : M.1.cls = RX5) (hi : M.1.name = "<init>") : xFp M 9 5 0 (.array .int) := ⟨by decide, RX5, TX5, 5, tyX5, rfl, inX5, by decide, tyX5_ok, nmX5, Or.inr ⟨rfl, hi, by rw [h]; rfl⟩, by rw [h]; exact Or.inl (xTG_mem 324 (by decide +kernel) (by decide +kernel)), rfl⟩
theorem fo_X11_326 {M : xMd} (h : M.1.cls = RX11) : xFo M 326 5 0 := ⟨by decide, RX5, TX5, 5, tyX5, rfl, inX5, by decide, tyX5_ok, nmX5, by rw [h]; exact Or.inr ⟨"SubtitleHarbour", xTN_mem 325 (by decide +kernel) (by decide +kernel)⟩⟩
theorem fo_X5_15 {M : xMd} (h : M.1.cls = RX5) : xFo M 15 5 1 := ⟨by decide, RX5, TX5, 5, tyX5, rfl, inX5, by decide, tyX5_ok, nmX5, by rw [h]; exact Or.inl (xTG_mem 326 (by decide +kernel) (by decide +kernel))⟩
theorem fp_X5_15 {M : xMd} (h : M.1.cls = RX5) (hi : M.1.name = "<init>") : xFp M 15 5 1 (.array .int) := ⟨by decide, RX5, TX5, 5, tyX5, rfl, inX5, by decide, tyX5_ok, nmX5, Or.inr ⟨rfl, hi, by rw [h]; rfl⟩, by rw [h]; exact Or.inl (xTG_mem 326 (by decide +kernel) (by decide +kernel)), rfl⟩
theorem fo_X5_21 {M : xMd} (h : M.1.cls = RX5) : xFo M 21 5 2 := ⟨by decide, RX5, TX5, 5, tyX5, rfl, inX5, by decide, tyX5_ok, nmX5, by rw [h]; exact Or.inl (xTG_mem 327 (by decide +kernel) (by decide +kernel))⟩
theorem fp_X5_21 {M : xMd} (h : M.1.cls = RX5) : xFp M 21 5 2 .int := ⟨by decide, RX5, TX5, 5, tyX5, rfl, inX5, by decide, tyX5_ok, nmX5, Or.inl rfl, by rw [h]; exact Or.inl (xTG_mem 327 (by decide +kernel) (by decide +kernel)), rfl⟩
theorem fo_X11_327 {M : xMd} (h : M.1.cls = RX11) : xFo M 327 5 2 := ⟨by decide, RX5, TX5, 5, tyX5, rfl, inX5, by decide, tyX5_ok, nmX5, by rw [h]; exact Or.inr ⟨"SubtitleHarbour", xTN_mem 328 (by decide +kernel) (by decide +kernel)⟩⟩
theorem fp_X11_327 {M : xMd} (h : M.1.cls = RX11) : xFp M 327 5 2 .int := ⟨by decide, RX5, TX5, 5, tyX5, rfl, inX5, by decide, tyX5_ok, nmX5, Or.inl rfl, by rw [h]; exact Or.inr ⟨rfl, "SubtitleHarbour", xTN_mem 328 (by decide +kernel) (by decide +kernel)⟩, rfl⟩
theorem fo_X5_18 {M : xMd} (h : M.1.cls = RX5) : xFo M 18 5 3 := ⟨by decide, RX5, TX5, 5, tyX5, rfl, inX5, by decide, tyX5_ok, nmX5, by rw [h]; exact Or.inl (xTG_mem 329 (by decide +kernel) (by decide +kernel))⟩
theorem fp_X5_18 {M : xMd} (h : M.1.cls = RX5) (hi : M.1.name = "<init>") : xFp M 18 5 3 (.array .int) := ⟨by decide, RX5, TX5, 5, tyX5, rfl, inX5, by decide, tyX5_ok, nmX5, Or.inr ⟨rfl, hi, by rw [h]; rfl⟩, by rw [h]; exact Or.inl (xTG_mem 329 (by decide +kernel) (by decide +kernel)), rfl⟩
theorem fo_X5_40 {M : xMd} (h : M.1.cls = RX5) : xFo M 40 5 4 := ⟨by decide, RX5, TX5, 5, tyX5, rfl, inX5, by decide, tyX5_ok, nmX5, by rw [h]; exact Or.inl (xTG_mem 330 (by decide +kernel) (by decide +kernel))⟩
theorem fp_X5_40 {M : xMd} (h : M.1.cls = RX5) : xFp M 40 5 4 .int := ⟨by decide, RX5, TX5, 5, tyX5, rfl, inX5, by decide, tyX5_ok, nmX5, Or.inl rfl, by rw [h]; exact Or.inl (xTG_mem 330 (by decide +kernel) (by decide +kernel)), rfl⟩
theorem fo_X8_9 {M : xMd} (h : M.1.cls = RX8) : xFo M 9 8 0 := ⟨by decide, RX8, TX8, 4, tyX8, rfl, inX8, by decide, tyX8_ok, nmX8, by rw [h]; exact Or.inl (xTG_mem 348 (by decide +kernel) (by decide +kernel))⟩
theorem fp_X8_9 {M : xMd} (h : M.1.cls = RX8) (hi : M.1.name = "<init>") : xFp M 9 8 0 (.array .int) := ⟨by decide, RX8, TX8, 4, tyX8, rfl, inX8, by decide, tyX8_ok, nmX8, Or.inr ⟨rfl, hi, by rw [h]; rfl⟩, by rw [h]; exact Or.inl (xTG_mem 348 (by decide +kernel) (by decide +kernel)), rfl⟩
theorem fo_X8_15 {M : xMd} (h : M.1.cls = RX8) : xFo M 15 8 1 := ⟨by decide, RX8, TX8, 4, tyX8, rfl, inX8, by decide, tyX8_ok, nmX8, by rw [h]; exact Or.inl (xTG_mem 349 (by decide +kernel) (by decide +kernel))⟩
theorem fp_X8_15 {M : xMd} (h : M.1.cls = RX8) (hi : M.1.name = "<init>") : xFp M 15 8 1 (.array .int) := ⟨by decide, RX8, TX8, 4, tyX8, rfl, inX8, by decide, tyX8_ok, nmX8, Or.inr ⟨rfl, hi, by rw [h]; rfl⟩, by rw [h]; exact Or.inl (xTG_mem 349 (by decide +kernel) (by decide +kernel)), rfl⟩
theorem fo_X8_22 {M : xMd} (h : M.1.cls = RX8) : xFo M 22 8 2 := ⟨by decide, RX8, TX8, 4, tyX8, rfl, inX8, by decide, tyX8_ok, nmX8, by rw [h]; exact Or.inl (xTG_mem 350 (by decide +kernel) (by decide +kernel))⟩
theorem fp_X8_22 {M : xMd} (h : M.1.cls = RX8) : xFp M 22 8 2 .int := ⟨by decide, RX8, TX8, 4, tyX8, rfl, inX8, by decide, tyX8_ok, nmX8, Or.inl rfl, by rw [h]; exact Or.inl (xTG_mem 350 (by decide +kernel) (by decide +kernel)), rfl⟩
theorem fo_X8_26 {M : xMd} (h : M.1.cls = RX8) : xFo M 26 8 3 := ⟨by decide, RX8, TX8, 4, tyX8, rfl, inX8, by decide, tyX8_ok, nmX8, by rw [h]; exact Or.inl (xTG_mem 351 (by decide +kernel) (by decide +kernel))⟩
theorem fp_X8_26 {M : xMd} (h : M.1.cls = RX8) : xFp M 26 8 3 .int := ⟨by decide, RX8, TX8, 4, tyX8, rfl, inX8, by decide, tyX8_ok, nmX8, Or.inl rfl, by rw [h]; exact Or.inl (xTG_mem 351 (by decide +kernel) (by decide +kernel)), rfl⟩
theorem fo_X11_10 {M : xMd} (h : M.1.cls = RX11) : xFo M 10 11 0 := ⟨by decide, RX11, TX11, 12, tyX11, rfl, inX11, by decide, tyX11_ok, nmX11, by rw [h]; exact Or.inl (xTG_mem 361 (by decide +kernel) (by decide +kernel))⟩
theorem fp_X11_10 {M : xMd} (h : M.1.cls = RX11) (hi : M.1.name = "<init>") : xFp M 10 11 0 (.object "SubtitleHarbour$Codes") := ⟨by decide, RX11, TX11, 12, tyX11, rfl, inX11, by decide, tyX11_ok, nmX11, Or.inr ⟨rfl, hi, by rw [h]; rfl⟩, by rw [h]; exact Or.inl (xTG_mem 361 (by decide +kernel) (by decide +kernel)), rfl⟩
theorem fo_X11_19 {M : xMd} (h : M.1.cls = RX11) : xFo M 19 11 1 := ⟨by decide, RX11, TX11, 12, tyX11, rfl, inX11, by decide, tyX11_ok, nmX11, by rw [h]; exact Or.inl (xTG_mem 362 (by decide +kernel) (by decide +kernel))⟩
theorem fp_X11_19 {M : xMd} (h : M.1.cls = RX11) (hi : M.1.name = "<init>") : xFp M 19 11 1 (.object "SubtitleHarbour$Screen") := ⟨by decide, RX11, TX11, 12, tyX11, rfl, inX11, by decide, tyX11_ok, nmX11, Or.inr ⟨rfl, hi, by rw [h]; rfl⟩, by rw [h]; exact Or.inl (xTG_mem 362 (by decide +kernel) (by decide +kernel)), rfl⟩
theorem fo_X11_23 {M : xMd} (h : M.1.cls = RX11) : xFo M 23 11 2 := ⟨by decide, RX11, TX11, 12, tyX11, rfl, inX11, by decide, tyX11_ok, nmX11, by rw [h]; exact Or.inl (xTG_mem 363 (by decide +kernel) (by decide +kernel))⟩
theorem fp_X11_23 {M : xMd} (h : M.1.cls = RX11) (hi : M.1.name = "<init>") : xFp M 23 11 2 (.object "SubtitleHarbour$Screen") := ⟨by decide, RX11, TX11, 12, tyX11, rfl, inX11, by decide, tyX11_ok, nmX11, Or.inr ⟨rfl, hi, by rw [h]; rfl⟩, by rw [h]; exact Or.inl (xTG_mem 363 (by decide +kernel) (by decide +kernel)), rfl⟩
theorem fo_X11_29 {M : xMd} (h : M.1.cls = RX11) : xFo M 29 11 3 := ⟨by decide, RX11, TX11, 12, tyX11, rfl, inX11, by decide, tyX11_ok, nmX11, by rw [h]; exact Or.inl (xTG_mem 364 (by decide +kernel) (by decide +kernel))⟩
theorem fp_X11_29 {M : xMd} (h : M.1.cls = RX11) (hi : M.1.name = "<init>") : xFp M 29 11 3 (.object "SubtitleHarbour$Stage") := ⟨by decide, RX11, TX11, 12, tyX11, rfl, inX11, by decide, tyX11_ok, nmX11, Or.inr ⟨rfl, hi, by rw [h]; rfl⟩, by rw [h]; exact Or.inl (xTG_mem 364 (by decide +kernel) (by decide +kernel)), rfl⟩
theorem fo_X11_37 {M : xMd} (h : M.1.cls = RX11) : xFo M 37 11 4 := ⟨by decide, RX11, TX11, 12, tyX11, rfl, inX11, by decide, tyX11_ok, nmX11, by rw [h]; exact Or.inl (xTG_mem 365 (by decide +kernel) (by decide +kernel))⟩
theorem fp_X11_37 {M : xMd} (h : M.1.cls = RX11) (hi : M.1.name = "<init>") : xFp M 37 11 4 (.array (.object "SubtitleHarbour$Cue")) := ⟨by decide, RX11, TX11, 12, tyX11, rfl, inX11, by decide, tyX11_ok, nmX11, Or.inr ⟨rfl, hi, by rw [h]; rfl⟩, by rw [h]; exact Or.inl (xTG_mem 365 (by decide +kernel) (by decide +kernel)), rfl⟩
theorem fo_X11_402 {M : xMd} (h : M.1.cls = RX11) : xFo M 402 11 5 := ⟨by decide, RX11, TX11, 12, tyX11, rfl, inX11, by decide, tyX11_ok, nmX11, by rw [h]; exact Or.inl (xTG_mem 366 (by decide +kernel) (by decide +kernel))⟩
theorem fp_X11_402 {M : xMd} (h : M.1.cls = RX11) : xFp M 402 11 5 .int := ⟨by decide, RX11, TX11, 12, tyX11, rfl, inX11, by decide, tyX11_ok, nmX11, Or.inl rfl, by rw [h]; exact Or.inl (xTG_mem 366 (by decide +kernel) (by decide +kernel)), rfl⟩
theorem fo_X11_193 {M : xMd} (h : M.1.cls = RX11) : xFo M 193 11 6 := ⟨by decide, RX11, TX11, 12, tyX11, rfl, inX11, by decide, tyX11_ok, nmX11, by rw [h]; exact Or.inl (xTG_mem 367 (by decide +kernel) (by decide +kernel))⟩
theorem fp_X11_193 {M : xMd} (h : M.1.cls = RX11) : xFp M 193 11 6 .boolean := ⟨by decide, RX11, TX11, 12, tyX11, rfl, inX11, by decide, tyX11_ok, nmX11, Or.inl rfl, by rw [h]; exact Or.inl (xTG_mem 367 (by decide +kernel) (by decide +kernel)), rfl⟩
theorem fo_X11_43 {M : xMd} (h : M.1.cls = RX11) : xFo M 43 11 7 := ⟨by decide, RX11, TX11, 12, tyX11, rfl, inX11, by decide, tyX11_ok, nmX11, by rw [h]; exact Or.inl (xTG_mem 368 (by decide +kernel) (by decide +kernel))⟩
theorem fp_X11_43 {M : xMd} (h : M.1.cls = RX11) (hi : M.1.name = "<init>") : xFp M 43 11 7 (.object "SubtitleHarbour$Cuts") := ⟨by decide, RX11, TX11, 12, tyX11, rfl, inX11, by decide, tyX11_ok, nmX11, Or.inr ⟨rfl, hi, by rw [h]; rfl⟩, by rw [h]; exact Or.inl (xTG_mem 368 (by decide +kernel) (by decide +kernel)), rfl⟩
theorem fo_X11_50 {M : xMd} (h : M.1.cls = RX11) : xFo M 50 11 8 := ⟨by decide, RX11, TX11, 12, tyX11, rfl, inX11, by decide, tyX11_ok, nmX11, by rw [h]; exact Or.inl (xTG_mem 369 (by decide +kernel) (by decide +kernel))⟩
theorem fp_X11_50 {M : xMd} (h : M.1.cls = RX11) (hi : M.1.name = "<init>") : xFp M 50 11 8 (.object "SubtitleHarbour$Anchors") := ⟨by decide, RX11, TX11, 12, tyX11, rfl, inX11, by decide, tyX11_ok, nmX11, Or.inr ⟨rfl, hi, by rw [h]; rfl⟩, by rw [h]; exact Or.inl (xTG_mem 369 (by decide +kernel) (by decide +kernel)), rfl⟩
theorem fo_X11_57 {M : xMd} (h : M.1.cls = RX11) : xFo M 57 11 9 := ⟨by decide, RX11, TX11, 12, tyX11, rfl, inX11, by decide, tyX11_ok, nmX11, by rw [h]; exact Or.inl (xTG_mem 370 (by decide +kernel) (by decide +kernel))⟩
theorem fp_X11_57 {M : xMd} (h : M.1.cls = RX11) (hi : M.1.name = "<init>") : xFp M 57 11 9 (.object "SubtitleHarbour$Alignment") := ⟨by decide, RX11, TX11, 12, tyX11, rfl, inX11, by decide, tyX11_ok, nmX11, Or.inr ⟨rfl, hi, by rw [h]; rfl⟩, by rw [h]; exact Or.inl (xTG_mem 370 (by decide +kernel) (by decide +kernel)), rfl⟩
theorem fo_X11_64 {M : xMd} (h : M.1.cls = RX11) : xFo M 64 11 10 := ⟨by decide, RX11, TX11, 12, tyX11, rfl, inX11, by decide, tyX11_ok, nmX11, by rw [h]; exact Or.inl (xTG_mem 371 (by decide +kernel) (by decide +kernel))⟩
theorem fp_X11_64 {M : xMd} (h : M.1.cls = RX11) (hi : M.1.name = "<init>") : xFp M 64 11 10 (.object "SubtitleHarbour$Hearing") := ⟨by decide, RX11, TX11, 12, tyX11, rfl, inX11, by decide, tyX11_ok, nmX11, Or.inr ⟨rfl, hi, by rw [h]; rfl⟩, by rw [h]; exact Or.inl (xTG_mem 371 (by decide +kernel) (by decide +kernel)), rfl⟩
theorem fo_X11_71 {M : xMd} (h : M.1.cls = RX11) : xFo M 71 11 11 := ⟨by decide, RX11, TX11, 12, tyX11, rfl, inX11, by decide, tyX11_ok, nmX11, by rw [h]; exact Or.inl (xTG_mem 372 (by decide +kernel) (by decide +kernel))⟩
theorem fp_X11_71 {M : xMd} (h : M.1.cls = RX11) (hi : M.1.name = "<init>") : xFp M 71 11 11 (.object "SubtitleHarbour$Pairing") := ⟨by decide, RX11, TX11, 12, tyX11, rfl, inX11, by decide, tyX11_ok, nmX11, Or.inr ⟨rfl, hi, by rw [h]; rfl⟩, by rw [h]; exact Or.inl (xTG_mem 372 (by decide +kernel) (by decide +kernel)), rfl⟩
theorem w_33 : Cond.initialized "SubtitleHarbourLaw" ∈ xTG := xTG_mem 33 (by decide +kernel) (by decide +kernel)
theorem w_34 : Cond.initialized "SubtitleHarbour" ∈ xTG := xTG_mem 34 (by decide +kernel) (by decide +kernel)
theorem w_35 : Cond.initialized "SubtitleHarbour$Codes" ∈ xTG := xTG_mem 35 (by decide +kernel) (by decide +kernel)
theorem w_36 : Cond.initialized "SubtitleHarbour$Screen" ∈ xTG := xTG_mem 36 (by decide +kernel) (by decide +kernel)
theorem w_37 : Cond.initialized "SubtitleHarbour$Memory" ∈ xTG := xTG_mem 37 (by decide +kernel) (by decide +kernel)
theorem w_39 : Cond.initialized "SubtitleHarbour$Stage" ∈ xTG := xTG_mem 39 (by decide +kernel) (by decide +kernel)
theorem w_40 : Cond.initialized "SubtitleHarbour$LineBreaker" ∈ xTG := xTG_mem 40 (by decide +kernel) (by decide +kernel)
theorem w_41 : Cond.initialized "SubtitleHarbour$Cue" ∈ xTG := xTG_mem 41 (by decide +kernel) (by decide +kernel)
theorem w_42 : Cond.initialized "SubtitleHarbour$Cuts" ∈ xTG := xTG_mem 42 (by decide +kernel) (by decide +kernel)
theorem w_43 : Cond.initialized "SubtitleHarbour$Anchors" ∈ xTG := xTG_mem 43 (by decide +kernel) (by decide +kernel)
theorem w_44 : Cond.initialized "SubtitleHarbour$Alignment" ∈ xTG := xTG_mem 44 (by decide +kernel) (by decide +kernel)
theorem w_45 : Cond.initialized "SubtitleHarbour$Hearing" ∈ xTG := xTG_mem 45 (by decide +kernel) (by decide +kernel)
theorem w_46 : Cond.initialized "SubtitleHarbour$Pairing" ∈ xTG := xTG_mem 46 (by decide +kernel) (by decide +kernel)
theorem w_48 : Cond.initialized "java/lang/Exception" ∈ xTG := xTG_mem 48 (by decide +kernel) (by decide +kernel)
theorem w_49 : Cond.initialized "java/lang/RuntimeException" ∈ xTG := xTG_mem 49 (by decide +kernel) (by decide +kernel)
theorem w_50 : Cond.initialized "java/lang/IllegalArgumentException" ∈ xTG := xTG_mem 50 (by decide +kernel) (by decide +kernel)
theorem w_51 : Cond.initialized "java/lang/IndexOutOfBoundsException" ∈ xTG := xTG_mem 51 (by decide +kernel) (by decide +kernel)
theorem w_52 : Cond.initialized "java/lang/ArrayIndexOutOfBoundsException" ∈ xTG := xTG_mem 52 (by decide +kernel) (by decide +kernel)
theorem w_54 : Cond.initialized "java/lang/IllegalStateException" ∈ xTG := xTG_mem 54 (by decide +kernel) (by decide +kernel)
theorem w_55 : Cond.initialized "java/util/NoSuchElementException" ∈ xTG := xTG_mem 55 (by decide +kernel) (by decide +kernel)
theorem w_57 : Cond.initialized "java/lang/UnsupportedOperationException" ∈ xTG := xTG_mem 57 (by decide +kernel) (by decide +kernel)
theorem w_59 : Cond.classLink "SubtitleHarbourLaw" 8 "SubtitleHarbour" ∈ xTG := xTG_mem 59 (by decide +kernel) (by decide +kernel)
theorem w_60 : Cond.instantiable "SubtitleHarbour" 12 ∈ xTG := xTG_mem 60 (by decide +kernel) (by decide +kernel)
theorem w_61 : Cond.methodLink "SubtitleHarbourLaw" 142 ⟨"SubtitleHarbour", "<init>", "()V"⟩ ∈ xTG := xTG_mem 61 (by decide +kernel) (by decide +kernel)
theorem w_64 : Cond.methodLink "SubtitleHarbour" 1 ⟨"java/lang/Object", "<init>", "()V"⟩ ∈ xTG := xTG_mem 64 (by decide +kernel) (by decide +kernel)
theorem w_65 : Cond.instanceMethod ⟨"java/lang/Object", "<init>", "()V"⟩ ∈ xTG := xTG_mem 65 (by decide +kernel) (by decide +kernel)
theorem w_66 : Cond.code ⟨"java/lang/Object", "<init>", "()V"⟩ object_method_1_code 1 (Option.none : Option Jvm.ClassFile.FieldType) ∈ xTG := xTG_mem 66 (by decide +kernel) (by decide +kernel)
theorem w_67 : Cond.classLink "SubtitleHarbour" 7 "SubtitleHarbour$Codes" ∈ xTG := xTG_mem 67 (by decide +kernel) (by decide +kernel)
theorem w_68 : Cond.instantiable "SubtitleHarbour$Codes" 5 ∈ xTG := xTG_mem 68 (by decide +kernel) (by decide +kernel)
theorem w_69 : Cond.methodLinkNest "SubtitleHarbour" 9 ⟨"SubtitleHarbour$Codes", "<init>", "()V"⟩ "SubtitleHarbour" ∈ xTN := xTN_mem 69 (by decide +kernel) (by decide +kernel)
theorem w_72 : Cond.methodLink "SubtitleHarbour$Codes" 3 ⟨"java/lang/Object", "<init>", "()V"⟩ ∈ xTG := xTG_mem 72 (by decide +kernel) (by decide +kernel)
theorem w_94 : Cond.arrayClass .int ∈ xTG := xTG_mem 94 (by decide +kernel) (by decide +kernel)
theorem w_95 : Cond.arrayClass .char ∈ xTG := xTG_mem 95 (by decide +kernel) (by decide +kernel)
theorem w_96 : Cond.arrayClass .boolean ∈ xTG := xTG_mem 96 (by decide +kernel) (by decide +kernel)
theorem w_97 : Cond.classLink "SubtitleHarbour" 16 "SubtitleHarbour$Screen" ∈ xTG := xTG_mem 97 (by decide +kernel) (by decide +kernel)
theorem w_98 : Cond.instantiable "SubtitleHarbour$Screen" 8 ∈ xTG := xTG_mem 98 (by decide +kernel) (by decide +kernel)
theorem w_99 : Cond.methodLinkNest "SubtitleHarbour" 18 ⟨"SubtitleHarbour$Screen", "<init>", "()V"⟩ "SubtitleHarbour" ∈ xTN := xTN_mem 99 (by decide +kernel) (by decide +kernel)
theorem w_102 : Cond.methodLink "SubtitleHarbour$Screen" 3 ⟨"java/lang/Object", "<init>", "()V"⟩ ∈ xTG := xTG_mem 102 (by decide +kernel) (by decide +kernel)
theorem w_103 : Cond.classLink "SubtitleHarbour$Screen" 9 "SubtitleHarbour$Memory" ∈ xTG := xTG_mem 103 (by decide +kernel) (by decide +kernel)
theorem w_104 : Cond.instantiable "SubtitleHarbour$Memory" 2 ∈ xTG := xTG_mem 104 (by decide +kernel) (by decide +kernel)
theorem w_105 : Cond.methodLink "SubtitleHarbour$Screen" 11 ⟨"SubtitleHarbour$Memory", "<init>", "()V"⟩ ∈ xTG := xTG_mem 105 (by decide +kernel) (by decide +kernel)
theorem w_108 : Cond.methodLink "SubtitleHarbour$Memory" 3 ⟨"java/lang/Object", "<init>", "()V"⟩ ∈ xTG := xTG_mem 108 (by decide +kernel) (by decide +kernel)
theorem w_109 : Cond.methodLink "SubtitleHarbour$Memory" 18 ⟨"java/util/Arrays", "fill", "([II)V"⟩ ∈ xTG := xTG_mem 109 (by decide +kernel) (by decide +kernel)
theorem w_148 : Cond.classLink "SubtitleHarbour" 26 "SubtitleHarbour$Stage" ∈ xTG := xTG_mem 148 (by decide +kernel) (by decide +kernel)
theorem w_149 : Cond.instantiable "SubtitleHarbour$Stage" 9 ∈ xTG := xTG_mem 149 (by decide +kernel) (by decide +kernel)
theorem w_150 : Cond.methodLink "SubtitleHarbour" 28 ⟨"SubtitleHarbour$Stage", "<init>", "()V"⟩ ∈ xTG := xTG_mem 150 (by decide +kernel) (by decide +kernel)
theorem w_153 : Cond.methodLink "SubtitleHarbour$Stage" 3 ⟨"java/lang/Object", "<init>", "()V"⟩ ∈ xTG := xTG_mem 153 (by decide +kernel) (by decide +kernel)
theorem w_154 : Cond.classLink "SubtitleHarbour$Stage" 9 "SubtitleHarbour$Cue" ∈ xTG := xTG_mem 154 (by decide +kernel) (by decide +kernel)
theorem w_156 : Cond.classLink "SubtitleHarbour$Stage" 27 "SubtitleHarbour$LineBreaker" ∈ xTG := xTG_mem 156 (by decide +kernel) (by decide +kernel)
theorem w_157 : Cond.instantiable "SubtitleHarbour$LineBreaker" 3 ∈ xTG := xTG_mem 157 (by decide +kernel) (by decide +kernel)
theorem w_158 : Cond.methodLinkNest "SubtitleHarbour$Stage" 29 ⟨"SubtitleHarbour$LineBreaker", "<init>", "()V"⟩ "SubtitleHarbour" ∈ xTN := xTN_mem 158 (by decide +kernel) (by decide +kernel)
theorem w_161 : Cond.methodLink "SubtitleHarbour$LineBreaker" 3 ⟨"java/lang/Object", "<init>", "()V"⟩ ∈ xTG := xTG_mem 161 (by decide +kernel) (by decide +kernel)
theorem w_172 : Cond.instantiable "SubtitleHarbour$Cue" 10 ∈ xTG := xTG_mem 172 (by decide +kernel) (by decide +kernel)
theorem w_173 : Cond.methodLinkNest "SubtitleHarbour$Stage" 44 ⟨"SubtitleHarbour$Cue", "<init>", "()V"⟩ "SubtitleHarbour" ∈ xTN := xTN_mem 173 (by decide +kernel) (by decide +kernel)
theorem w_176 : Cond.methodLink "SubtitleHarbour$Cue" 3 ⟨"java/lang/Object", "<init>", "()V"⟩ ∈ xTG := xTG_mem 176 (by decide +kernel) (by decide +kernel)
theorem w_232 : Cond.methodLink "SubtitleHarbour$Stage" 45 ⟨"java/util/Arrays", "fill", "([II)V"⟩ ∈ xTG := xTG_mem 232 (by decide +kernel) (by decide +kernel)
theorem w_268 : Cond.classLink "SubtitleHarbour" 40 "SubtitleHarbour$Cuts" ∈ xTG := xTG_mem 268 (by decide +kernel) (by decide +kernel)
theorem w_269 : Cond.instantiable "SubtitleHarbour$Cuts" 2 ∈ xTG := xTG_mem 269 (by decide +kernel) (by decide +kernel)
theorem w_270 : Cond.methodLinkNest "SubtitleHarbour" 42 ⟨"SubtitleHarbour$Cuts", "<init>", "()V"⟩ "SubtitleHarbour" ∈ xTN := xTN_mem 270 (by decide +kernel) (by decide +kernel)
theorem w_273 : Cond.methodLink "SubtitleHarbour$Cuts" 3 ⟨"java/lang/Object", "<init>", "()V"⟩ ∈ xTG := xTG_mem 273 (by decide +kernel) (by decide +kernel)
theorem w_283 : Cond.classLink "SubtitleHarbour" 47 "SubtitleHarbour$Anchors" ∈ xTG := xTG_mem 283 (by decide +kernel) (by decide +kernel)
theorem w_284 : Cond.instantiable "SubtitleHarbour$Anchors" 3 ∈ xTG := xTG_mem 284 (by decide +kernel) (by decide +kernel)
theorem w_285 : Cond.methodLinkNest "SubtitleHarbour" 49 ⟨"SubtitleHarbour$Anchors", "<init>", "()V"⟩ "SubtitleHarbour" ∈ xTN := xTN_mem 285 (by decide +kernel) (by decide +kernel)
theorem w_288 : Cond.methodLink "SubtitleHarbour$Anchors" 3 ⟨"java/lang/Object", "<init>", "()V"⟩ ∈ xTG := xTG_mem 288 (by decide +kernel) (by decide +kernel)
theorem w_300 : Cond.classLink "SubtitleHarbour" 54 "SubtitleHarbour$Alignment" ∈ xTG := xTG_mem 300 (by decide +kernel) (by decide +kernel)
theorem w_301 : Cond.instantiable "SubtitleHarbour$Alignment" 3 ∈ xTG := xTG_mem 301 (by decide +kernel) (by decide +kernel)
theorem w_302 : Cond.methodLinkNest "SubtitleHarbour" 56 ⟨"SubtitleHarbour$Alignment", "<init>", "()V"⟩ "SubtitleHarbour" ∈ xTN := xTN_mem 302 (by decide +kernel) (by decide +kernel)
theorem w_305 : Cond.methodLink "SubtitleHarbour$Alignment" 3 ⟨"java/lang/Object", "<init>", "()V"⟩ ∈ xTG := xTG_mem 305 (by decide +kernel) (by decide +kernel)
theorem w_306 : Cond.classLink "SubtitleHarbour$Alignment" 9 "[[I" ∈ xTG := xTG_mem 306 (by decide +kernel) (by decide +kernel)
theorem w_318 : Cond.classLink "SubtitleHarbour" 61 "SubtitleHarbour$Hearing" ∈ xTG := xTG_mem 318 (by decide +kernel) (by decide +kernel)
theorem w_319 : Cond.instantiable "SubtitleHarbour$Hearing" 5 ∈ xTG := xTG_mem 319 (by decide +kernel) (by decide +kernel)
theorem w_320 : Cond.methodLinkNest "SubtitleHarbour" 63 ⟨"SubtitleHarbour$Hearing", "<init>", "()V"⟩ "SubtitleHarbour" ∈ xTN := xTN_mem 320 (by decide +kernel) (by decide +kernel)
theorem w_323 : Cond.methodLink "SubtitleHarbour$Hearing" 3 ⟨"java/lang/Object", "<init>", "()V"⟩ ∈ xTG := xTG_mem 323 (by decide +kernel) (by decide +kernel)
theorem w_342 : Cond.classLink "SubtitleHarbour" 68 "SubtitleHarbour$Pairing" ∈ xTG := xTG_mem 342 (by decide +kernel) (by decide +kernel)
theorem w_343 : Cond.instantiable "SubtitleHarbour$Pairing" 4 ∈ xTG := xTG_mem 343 (by decide +kernel) (by decide +kernel)
theorem w_344 : Cond.methodLinkNest "SubtitleHarbour" 70 ⟨"SubtitleHarbour$Pairing", "<init>", "()V"⟩ "SubtitleHarbour" ∈ xTN := xTN_mem 344 (by decide +kernel) (by decide +kernel)
theorem w_347 : Cond.methodLink "SubtitleHarbour$Pairing" 3 ⟨"java/lang/Object", "<init>", "()V"⟩ ∈ xTG := xTG_mem 347 (by decide +kernel) (by decide +kernel)
theorem w_398 : Cond.methodLink "SubtitleHarbourLaw" 193 ⟨"SubtitleHarbour", "cues", "()I"⟩ ∈ xTG := xTG_mem 398 (by decide +kernel) (by decide +kernel)
theorem w_402 : Cond.methodLink "SubtitleHarbourLaw" 213 ⟨"SubtitleHarbour", "pairCost", "()I"⟩ ∈ xTG := xTG_mem 402 (by decide +kernel) (by decide +kernel)
theorem w_406 : Cond.methodLink "SubtitleHarbour" 227 ⟨"SubtitleHarbour", "arrange", "()V"⟩ ∈ xTG := xTG_mem 406 (by decide +kernel) (by decide +kernel)
theorem w_410 : Cond.methodLink "SubtitleHarbour" 412 ⟨"SubtitleHarbour$Stage", "arrangeAll", "()V"⟩ ∈ xTG := xTG_mem 410 (by decide +kernel) (by decide +kernel)
theorem w_414 : Cond.methodLink "SubtitleHarbour$Stage" 55 ⟨"SubtitleHarbour$Stage", "sortCues", "()V"⟩ ∈ xTG := xTG_mem 414 (by decide +kernel) (by decide +kernel)
theorem w_418 : Cond.methodLink "SubtitleHarbour$Stage" 80 ⟨"SubtitleHarbour$Stage", "insert", "(I)V"⟩ ∈ xTG := xTG_mem 418 (by decide +kernel) (by decide +kernel)
theorem w_422 : Cond.methodLink "SubtitleHarbour$Stage" 62 ⟨"SubtitleHarbour$Stage", "cueIn", "(I)LSubtitleHarbour$Cue;"⟩ ∈ xTG := xTG_mem 422 (by decide +kernel) (by decide +kernel)
theorem w_426 : Cond.methodLink "SubtitleHarbour$Stage" 51 ⟨"SubtitleHarbour$Stage", "numberIn", "(I)I"⟩ ∈ xTG := xTG_mem 426 (by decide +kernel) (by decide +kernel)
theorem w_430 : Cond.methodLink "SubtitleHarbour$Stage" 69 ⟨"SubtitleHarbour$LineBreaker", "breakUp", "(LSubtitleHarbour$Cue;I)V"⟩ ∈ xTG := xTG_mem 430 (by decide +kernel) (by decide +kernel)
theorem w_434 : Cond.methodLink "SubtitleHarbour$LineBreaker" 27 ⟨"java/lang/Math", "min", "(II)I"⟩ ∈ xTG := xTG_mem 434 (by decide +kernel) (by decide +kernel)
theorem w_437 : Cond.methodLink "SubtitleHarbour$LineBreaker" 33 ⟨"SubtitleHarbour$LineBreaker", "chooseLine", "(LSubtitleHarbour$Cue;III)V"⟩ ∈ xTG := xTG_mem 437 (by decide +kernel) (by decide +kernel)
theorem w_441 : Cond.methodLink "SubtitleHarbour$LineBreaker" 43 ⟨"SubtitleHarbour$Cue", "lettersOf", "(I)I"⟩ ∈ xTG := xTG_mem 441 (by decide +kernel) (by decide +kernel)
theorem w_445 : Cond.methodLink "SubtitleHarbour$LineBreaker" 47 ⟨"java/lang/Math", "max", "(II)I"⟩ ∈ xTG := xTG_mem 445 (by decide +kernel) (by decide +kernel)
theorem w_448 : Cond.methodLink "SubtitleHarbour$LineBreaker" 50 ⟨"SubtitleHarbour$LineBreaker", "consider", "(IIIZ)V"⟩ ∈ xTG := xTG_mem 448 (by decide +kernel) (by decide +kernel)
theorem w_452 : Cond.methodLink "SubtitleHarbour$Stage" 73 ⟨"SubtitleHarbour$Stage", "takeRows", "(LSubtitleHarbour$Cue;I)V"⟩ ∈ xTG := xTG_mem 452 (by decide +kernel) (by decide +kernel)
theorem w_456 : Cond.methodLink "SubtitleHarbour$Stage" 90 ⟨"SubtitleHarbour$Cue", "isOnRow", "(I)Z"⟩ ∈ xTG := xTG_mem 456 (by decide +kernel) (by decide +kernel)
theorem w_460 : Cond.methodLink "SubtitleHarbour$Stage" 94 ⟨"SubtitleHarbour$Stage", "lowestRows", "(LSubtitleHarbour$Cue;)I"⟩ ∈ xTG := xTG_mem 460 (by decide +kernel) (by decide +kernel)
theorem w_464 : Cond.methodLink "SubtitleHarbour" 365 ⟨"SubtitleHarbour$Pairing", "pairAll", "(LSubtitleHarbour$Stage;LSubtitleHarbour$Alignment;)I"⟩ ∈ xTG := xTG_mem 464 (by decide +kernel) (by decide +kernel)
theorem w_468 : Cond.methodLink "SubtitleHarbour$Pairing" 18 ⟨"SubtitleHarbour$Pairing", "gather", "(LSubtitleHarbour$Stage;I[I)I"⟩ ∈ xTG := xTG_mem 468 (by decide +kernel) (by decide +kernel)
theorem w_471 : Cond.methodLink "SubtitleHarbour$Pairing" 52 ⟨"SubtitleHarbour$Stage", "cueIn", "(I)LSubtitleHarbour$Cue;"⟩ ∈ xTG := xTG_mem 471 (by decide +kernel) (by decide +kernel)
theorem w_472 : Cond.methodLink "SubtitleHarbour$Pairing" 61 ⟨"SubtitleHarbour$Stage", "numberIn", "(I)I"⟩ ∈ xTG := xTG_mem 472 (by decide +kernel) (by decide +kernel)
theorem w_473 : Cond.methodLink "SubtitleHarbour$Pairing" 35 ⟨"SubtitleHarbour$Pairing", "priceOf", "(LSubtitleHarbour$Cue;LSubtitleHarbour$Cue;)I"⟩ ∈ xTG := xTG_mem 473 (by decide +kernel) (by decide +kernel)
theorem w_476 : Cond.methodLink "SubtitleHarbour$Pairing" 68 ⟨"java/lang/Math", "abs", "(I)I"⟩ ∈ xTG := xTG_mem 476 (by decide +kernel) (by decide +kernel)
theorem w_479 : Cond.methodLink "SubtitleHarbour$Pairing" 39 ⟨"SubtitleHarbour$Alignment", "setPrice", "(III)V"⟩ ∈ xTG := xTG_mem 479 (by decide +kernel) (by decide +kernel)
theorem w_483 : Cond.methodLinkNest "SubtitleHarbour$Alignment" 23 ⟨"SubtitleHarbour", "isIn", "(III)Z"⟩ "SubtitleHarbour" ∈ xTN := xTN_mem 483 (by decide +kernel) (by decide +kernel)
theorem w_486 : Cond.methodLink "SubtitleHarbour$Pairing" 45 ⟨"SubtitleHarbour$Alignment", "align", "(IIII)I"⟩ ∈ xTG := xTG_mem 486 (by decide +kernel) (by decide +kernel)
theorem w_490 : Cond.methodLink "SubtitleHarbour$Alignment" 27 ⟨"java/lang/Math", "min", "(II)I"⟩ ∈ xTG := xTG_mem 490 (by decide +kernel) (by decide +kernel)
theorem w_491 : Cond.methodLink "SubtitleHarbour$Alignment" 33 ⟨"SubtitleHarbour$Alignment", "pairedCost", "(II)I"⟩ ∈ xTG := xTG_mem 491 (by decide +kernel) (by decide +kernel)
theorem w_495 : Cond.methodLink "SubtitleHarbour$Alignment" 36 ⟨"SubtitleHarbour$Alignment", "choose", "(III)V"⟩ ∈ xTG := xTG_mem 495 (by decide +kernel) (by decide +kernel)
theorem w_499 : Cond.methodLink "SubtitleHarbourLaw" 200 ⟨"SubtitleHarbour", "readingTime", "(I)J"⟩ ∈ xTG := xTG_mem 499 (by decide +kernel) (by decide +kernel)
theorem w_503 : Cond.methodLink "SubtitleHarbour" 204 ⟨"SubtitleHarbour", "cueOf", "(I)LSubtitleHarbour$Cue;"⟩ ∈ xTG := xTG_mem 503 (by decide +kernel) (by decide +kernel)
theorem w_507 : Cond.classLink "SubtitleHarbour" 407 "java/util/NoSuchElementException" ∈ xTG := xTG_mem 507 (by decide +kernel) (by decide +kernel)
theorem w_508 : Cond.instantiable "java/util/NoSuchElementException" 6 ∈ xTG := xTG_mem 508 (by decide +kernel) (by decide +kernel)
theorem w_509 : Cond.castable "java/util/NoSuchElementException" "java/util/NoSuchElementException" ∈ xTN := xTN_mem 509 (by decide +kernel) (by decide +kernel)
theorem w_532 : Cond.methodLink "java/lang/Throwable" 1 ⟨"java/lang/Object", "<init>", "()V"⟩ ∈ xTG := xTG_mem 532 (by decide +kernel) (by decide +kernel)
theorem w_552 : Cond.methodLink "SubtitleHarbour" 411 ⟨"java/util/NoSuchElementException", "<init>", "(Ljava/lang/String;)V"⟩ ∈ xTG := xTG_mem 552 (by decide +kernel) (by decide +kernel)
theorem w_577 : Cond.arrayClass .byte ∈ xTG := xTG_mem 577 (by decide +kernel) (by decide +kernel)
theorem w_578 : Cond.methodLink "SubtitleHarbour" 270 ⟨"java/lang/Math", "max", "(II)I"⟩ ∈ xTG := xTG_mem 578 (by decide +kernel) (by decide +kernel)
theorem w_579 : Cond.methodLink "SubtitleHarbour" 299 ⟨"SubtitleHarbour$Cue", "letters", "(I)I"⟩ ∈ xTG := xTG_mem 579 (by decide +kernel) (by decide +kernel)
theorem w_583 : Cond.methodLink "SubtitleHarbour$Cue" 31 ⟨"SubtitleHarbour$Cue", "lettersOf", "(I)I"⟩ ∈ xTG := xTG_mem 583 (by decide +kernel) (by decide +kernel)
theorem w_584 : Cond.constantLong "SubtitleHarbour" 376 2000 ∈ xTG := xTG_mem 584 (by decide +kernel) (by decide +kernel)
theorem w_585 : Cond.constantLong "SubtitleHarbour" 378 300 ∈ xTG := xTG_mem 585 (by decide +kernel) (by decide +kernel)
theorem w_586 : Cond.methodLink "SubtitleHarbourLaw" 208 ⟨"SubtitleHarbour", "speed", "(I)F"⟩ ∈ xTG := xTG_mem 586 (by decide +kernel) (by decide +kernel)
theorem w_590 : Cond.methodLink "SubtitleHarbour" 291 ⟨"SubtitleHarbour$Cue", "length", "()I"⟩ ∈ xTG := xTG_mem 590 (by decide +kernel) (by decide +kernel)
theorem w_594 : Cond.constantFloat "SubtitleHarbour" 380 1106247680 ∈ xTG := xTG_mem 594 (by decide +kernel) (by decide +kernel)
theorem w_595 : Cond.methodLink "SubtitleHarbourLaw" 196 ⟨"SubtitleHarbour", "isSound", "()Z"⟩ ∈ xTG := xTG_mem 595 (by decide +kernel) (by decide +kernel)
theorem w_599 : Cond.methodLink "SubtitleHarbour" 386 ⟨"SubtitleHarbour$Stage", "hasClash", "()Z"⟩ ∈ xTG := xTG_mem 599 (by decide +kernel) (by decide +kernel)
theorem w_603 : Cond.methodLink "SubtitleHarbour$Stage" 110 ⟨"SubtitleHarbour$Stage", "isClash", "(LSubtitleHarbour$Cue;LSubtitleHarbour$Cue;)Z"⟩ ∈ xTG := xTG_mem 603 (by decide +kernel) (by decide +kernel)
theorem w_606 : Cond.methodLink "SubtitleHarbour" 390 ⟨"SubtitleHarbour", "isSameAtCodes", "()Z"⟩ ∈ xTG := xTG_mem 606 (by decide +kernel) (by decide +kernel)
theorem w_610 : Cond.methodLink "SubtitleHarbour" 138 ⟨"SubtitleHarbour$Screen", "restart", "()V"⟩ ∈ xTG := xTG_mem 610 (by decide +kernel) (by decide +kernel)
theorem w_614 : Cond.methodLink "SubtitleHarbour$Screen" 35 ⟨"SubtitleHarbour$Memory", "emptyAll", "()V"⟩ ∈ xTG := xTG_mem 614 (by decide +kernel) (by decide +kernel)
theorem w_618 : Cond.methodLink "SubtitleHarbour$Memory" 28 ⟨"SubtitleHarbour$Memory", "emptyRows", "(II)V"⟩ ∈ xTG := xTG_mem 618 (by decide +kernel) (by decide +kernel)
theorem w_622 : Cond.methodLink "SubtitleHarbour" 162 ⟨"SubtitleHarbour$Screen", "goTo", "(LSubtitleHarbour$Codes;I)V"⟩ ∈ xTG := xTG_mem 622 (by decide +kernel) (by decide +kernel)
theorem w_626 : Cond.methodLink "SubtitleHarbour$Screen" 44 ⟨"SubtitleHarbour$Codes", "countUpTo", "(I)I"⟩ ∈ xTG := xTG_mem 626 (by decide +kernel) (by decide +kernel)
theorem w_630 : Cond.methodLink "SubtitleHarbour$Screen" 50 ⟨"SubtitleHarbour$Screen", "restart", "()V"⟩ ∈ xTG := xTG_mem 630 (by decide +kernel) (by decide +kernel)
theorem w_631 : Cond.methodLink "SubtitleHarbour$Screen" 65 ⟨"SubtitleHarbour$Screen", "obey", "(CI)V"⟩ ∈ xTG := xTG_mem 631 (by decide +kernel) (by decide +kernel)
theorem w_635 : Cond.methodLink "SubtitleHarbour$Screen" 69 ⟨"SubtitleHarbour$Screen", "write", "(I)V"⟩ ∈ xTG := xTG_mem 635 (by decide +kernel) (by decide +kernel)
theorem w_639 : Cond.methodLink "SubtitleHarbour$Screen" 89 ⟨"SubtitleHarbour$Screen", "written", "()LSubtitleHarbour$Memory;"⟩ ∈ xTG := xTG_mem 639 (by decide +kernel) (by decide +kernel)
theorem w_643 : Cond.methodLink "SubtitleHarbour$Screen" 93 ⟨"SubtitleHarbour$Memory", "put", "(IIII)V"⟩ ∈ xTG := xTG_mem 643 (by decide +kernel) (by decide +kernel)
theorem w_647 : Cond.methodLink "SubtitleHarbour$Memory" 24 ⟨"SubtitleHarbour$Memory", "cellOf", "(II)I"⟩ ∈ xTG := xTG_mem 647 (by decide +kernel) (by decide +kernel)
theorem w_650 : Cond.methodLink "SubtitleHarbour$Screen" 97 ⟨"java/lang/Math", "min", "(II)I"⟩ ∈ xTG := xTG_mem 650 (by decide +kernel) (by decide +kernel)
theorem w_651 : Cond.methodLink "SubtitleHarbour$Screen" 73 ⟨"SubtitleHarbour$Screen", "startRolling", "(I)V"⟩ ∈ xTG := xTG_mem 651 (by decide +kernel) (by decide +kernel)
theorem w_655 : Cond.methodLink "SubtitleHarbour$Screen" 76 ⟨"SubtitleHarbour$Screen", "exchange", "()V"⟩ ∈ xTG := xTG_mem 655 (by decide +kernel) (by decide +kernel)
theorem w_659 : Cond.methodLink "SubtitleHarbour$Screen" 79 ⟨"SubtitleHarbour$Screen", "newLine", "()V"⟩ ∈ xTG := xTG_mem 659 (by decide +kernel) (by decide +kernel)
theorem w_663 : Cond.methodLink "SubtitleHarbour$Screen" 103 ⟨"java/lang/Math", "max", "(II)I"⟩ ∈ xTG := xTG_mem 663 (by decide +kernel) (by decide +kernel)
theorem w_664 : Cond.methodLink "SubtitleHarbour$Screen" 106 ⟨"SubtitleHarbour$Memory", "rollUp", "(II)V"⟩ ∈ xTG := xTG_mem 664 (by decide +kernel) (by decide +kernel)
theorem w_668 : Cond.methodLink "SubtitleHarbour$Screen" 82 ⟨"SubtitleHarbour$Screen", "stepBack", "()V"⟩ ∈ xTG := xTG_mem 668 (by decide +kernel) (by decide +kernel)
theorem w_672 : Cond.methodLink "SubtitleHarbour$Screen" 85 ⟨"SubtitleHarbour$Screen", "moveCursor", "(II)V"⟩ ∈ xTG := xTG_mem 672 (by decide +kernel) (by decide +kernel)
theorem w_676 : Cond.methodLink "SubtitleHarbour" 416 ⟨"SubtitleHarbour$Memory", "looksLike", "(LSubtitleHarbour$Memory;)Z"⟩ ∈ xTG := xTG_mem 676 (by decide +kernel) (by decide +kernel)
theorem w_680 : Cond.methodLink "SubtitleHarbour" 420 ⟨"SubtitleHarbour", "hasSameCuesAt", "(I)Z"⟩ ∈ xTG := xTG_mem 680 (by decide +kernel) (by decide +kernel)
theorem w_684 : Cond.methodLink "SubtitleHarbour" 245 ⟨"SubtitleHarbour$Stage", "playTo", "(I)V"⟩ ∈ xTG := xTG_mem 684 (by decide +kernel) (by decide +kernel)
theorem w_688 : Cond.methodLink "SubtitleHarbour$Stage" 107 ⟨"SubtitleHarbour$Stage", "letGo", "(I)V"⟩ ∈ xTG := xTG_mem 688 (by decide +kernel) (by decide +kernel)
theorem w_692 : Cond.methodLink "SubtitleHarbour" 242 ⟨"SubtitleHarbour$Stage", "cueOn", "(II)I"⟩ ∈ xTG := xTG_mem 692 (by decide +kernel) (by decide +kernel)
theorem w_696 : Cond.methodLink "SubtitleHarbour$Stage" 104 ⟨"SubtitleHarbour$Cue", "isThereAt", "(I)Z"⟩ ∈ xTG := xTG_mem 696 (by decide +kernel) (by decide +kernel)
theorem w_700 : Cond.methodLink "SubtitleHarbour" 248 ⟨"SubtitleHarbour$Stage", "playedCueOn", "(I)I"⟩ ∈ xTG := xTG_mem 700 (by decide +kernel) (by decide +kernel)
theorem w_704 : Cond.methodLink "SubtitleHarbour" 393 ⟨"SubtitleHarbour", "isSameAtCues", "()Z"⟩ ∈ xTG := xTG_mem 704 (by decide +kernel) (by decide +kernel)
theorem w_708 : Cond.methodLink "SubtitleHarbour" 267 ⟨"SubtitleHarbour$Stage", "cueIn", "(I)LSubtitleHarbour$Cue;"⟩ ∈ xTG := xTG_mem 708 (by decide +kernel) (by decide +kernel)
theorem w_709 : Cond.methodLink "SubtitleHarbourLaw" 144 ⟨"SubtitleHarbourLaw", "at", "([II)I"⟩ ∈ xTG := xTG_mem 709 (by decide +kernel) (by decide +kernel)
theorem w_712 : Cond.methodLink "SubtitleHarbourLaw" 149 ⟨"SubtitleHarbourLaw", "some", "(II)I"⟩ ∈ xTG := xTG_mem 712 (by decide +kernel) (by decide +kernel)
theorem w_715 : Cond.methodLink "SubtitleHarbourLaw" 162 ⟨"SubtitleHarbourLaw", "ask", "(LSubtitleHarbour;C[I)I"⟩ ∈ xTG := xTG_mem 715 (by decide +kernel) (by decide +kernel)
theorem w_718 : Cond.classLink "SubtitleHarbourLaw" 71 "java/lang/IllegalArgumentException" ∈ xTG := xTG_mem 718 (by decide +kernel) (by decide +kernel)
theorem w_719 : Cond.classLink "SubtitleHarbourLaw" 73 "java/lang/IllegalStateException" ∈ xTG := xTG_mem 719 (by decide +kernel) (by decide +kernel)
theorem w_720 : Cond.classLink "SubtitleHarbourLaw" 75 "java/lang/UnsupportedOperationException" ∈ xTG := xTG_mem 720 (by decide +kernel) (by decide +kernel)
theorem w_721 : Cond.methodLink "SubtitleHarbourLaw" 7 ⟨"SubtitleHarbour", "code", "(ICI)Z"⟩ ∈ xTG := xTG_mem 721 (by decide +kernel) (by decide +kernel)
theorem w_725 : Cond.methodLink "SubtitleHarbour" 100 ⟨"SubtitleHarbour", "needFrame", "(I)V"⟩ ∈ xTG := xTG_mem 725 (by decide +kernel) (by decide +kernel)
theorem w_728 : Cond.constant "SubtitleHarbour" 275 99999 ∈ xTG := xTG_mem 728 (by decide +kernel) (by decide +kernel)
theorem w_729 : Cond.methodLink "SubtitleHarbour" 75 ⟨"SubtitleHarbour", "isIn", "(III)Z"⟩ ∈ xTG := xTG_mem 729 (by decide +kernel) (by decide +kernel)
theorem w_730 : Cond.classLink "SubtitleHarbour" 79 "java/lang/IllegalArgumentException" ∈ xTG := xTG_mem 730 (by decide +kernel) (by decide +kernel)
theorem w_731 : Cond.instantiable "java/lang/IllegalArgumentException" 6 ∈ xTG := xTG_mem 731 (by decide +kernel) (by decide +kernel)
theorem w_732 : Cond.castable "java/lang/IllegalArgumentException" "java/lang/IllegalArgumentException" ∈ xTN := xTN_mem 732 (by decide +kernel) (by decide +kernel)
theorem w_740 : Cond.methodLink "SubtitleHarbour" 83 ⟨"java/lang/IllegalArgumentException", "<init>", "(Ljava/lang/String;)V"⟩ ∈ xTG := xTG_mem 740 (by decide +kernel) (by decide +kernel)
theorem w_746 : Cond.methodLink "SubtitleHarbour" 113 ⟨"SubtitleHarbour", "isCode", "(CI)Z"⟩ ∈ xTG := xTG_mem 746 (by decide +kernel) (by decide +kernel)
theorem w_749 : Cond.methodLink "SubtitleHarbour" 104 ⟨"SubtitleHarbour", "needArgument", "(Z)V"⟩ ∈ xTG := xTG_mem 749 (by decide +kernel) (by decide +kernel)
theorem w_753 : Cond.methodLink "SubtitleHarbour" 121 ⟨"SubtitleHarbour$Codes", "hasAt", "(I)Z"⟩ ∈ xTG := xTG_mem 753 (by decide +kernel) (by decide +kernel)
theorem w_757 : Cond.methodLink "SubtitleHarbour$Codes" 30 ⟨"SubtitleHarbour$Codes", "countUpTo", "(I)I"⟩ ∈ xTG := xTG_mem 757 (by decide +kernel) (by decide +kernel)
theorem w_758 : Cond.classLink "SubtitleHarbour" 125 "java/lang/IllegalStateException" ∈ xTG := xTG_mem 758 (by decide +kernel) (by decide +kernel)
theorem w_759 : Cond.instantiable "java/lang/IllegalStateException" 6 ∈ xTG := xTG_mem 759 (by decide +kernel) (by decide +kernel)
theorem w_760 : Cond.castable "java/lang/IllegalStateException" "java/lang/IllegalStateException" ∈ xTN := xTN_mem 760 (by decide +kernel) (by decide +kernel)
theorem w_768 : Cond.methodLink "SubtitleHarbour" 129 ⟨"java/lang/IllegalStateException", "<init>", "(Ljava/lang/String;)V"⟩ ∈ xTG := xTG_mem 768 (by decide +kernel) (by decide +kernel)
theorem w_774 : Cond.methodLink "SubtitleHarbour" 130 ⟨"SubtitleHarbour", "hasValue", "(C)Z"⟩ ∈ xTG := xTG_mem 774 (by decide +kernel) (by decide +kernel)
theorem w_777 : Cond.methodLink "SubtitleHarbour" 134 ⟨"SubtitleHarbour$Codes", "put", "(ICI)Z"⟩ ∈ xTG := xTG_mem 777 (by decide +kernel) (by decide +kernel)
theorem w_781 : Cond.methodLink "SubtitleHarbour$Codes" 34 ⟨"SubtitleHarbour$Codes", "hasAt", "(I)Z"⟩ ∈ xTG := xTG_mem 781 (by decide +kernel) (by decide +kernel)
theorem w_782 : Cond.methodLink "SubtitleHarbour$Codes" 38 ⟨"SubtitleHarbour$Codes", "shift", "(II)V"⟩ ∈ xTG := xTG_mem 782 (by decide +kernel) (by decide +kernel)
theorem w_786 : Cond.methodLink "SubtitleHarbour$Codes" 45 ⟨"java/lang/System", "arraycopy", "(Ljava/lang/Object;ILjava/lang/Object;II)V"⟩ ∈ xTG := xTG_mem 786 (by decide +kernel) (by decide +kernel)
theorem w_789 : Cond.methodLink "SubtitleHarbour$Codes" 42 ⟨"SubtitleHarbour$Codes", "markRepeats", "()V"⟩ ∈ xTG := xTG_mem 789 (by decide +kernel) (by decide +kernel)
theorem w_793 : Cond.methodLink "SubtitleHarbour$Codes" 51 ⟨"SubtitleHarbour$Codes", "isTwinOfFormer", "(I)Z"⟩ ∈ xTG := xTG_mem 793 (by decide +kernel) (by decide +kernel)
theorem w_797 : Cond.methodLink "SubtitleHarbourLaw" 13 ⟨"SubtitleHarbour", "dropCode", "(I)Z"⟩ ∈ xTG := xTG_mem 797 (by decide +kernel) (by decide +kernel)
theorem w_801 : Cond.methodLink "SubtitleHarbour" 141 ⟨"SubtitleHarbour$Codes", "takeAway", "(I)Z"⟩ ∈ xTG := xTG_mem 801 (by decide +kernel) (by decide +kernel)
theorem w_805 : Cond.methodLink "SubtitleHarbourLaw" 17 ⟨"SubtitleHarbour", "cellAt", "(III)I"⟩ ∈ xTG := xTG_mem 805 (by decide +kernel) (by decide +kernel)
theorem w_809 : Cond.methodLink "SubtitleHarbour" 144 ⟨"SubtitleHarbour", "needCell", "(III)V"⟩ ∈ xTG := xTG_mem 809 (by decide +kernel) (by decide +kernel)
theorem w_813 : Cond.methodLink "SubtitleHarbour" 148 ⟨"SubtitleHarbour", "jumpTo", "(I)LSubtitleHarbour$Screen;"⟩ ∈ xTG := xTG_mem 813 (by decide +kernel) (by decide +kernel)
theorem w_817 : Cond.methodLink "SubtitleHarbour" 156 ⟨"SubtitleHarbour$Memory", "letterIn", "(II)I"⟩ ∈ xTG := xTG_mem 817 (by decide +kernel) (by decide +kernel)
theorem w_821 : Cond.methodLink "SubtitleHarbourLaw" 21 ⟨"SubtitleHarbour", "cellAnew", "(III)I"⟩ ∈ xTG := xTG_mem 821 (by decide +kernel) (by decide +kernel)
theorem w_825 : Cond.methodLink "SubtitleHarbourLaw" 24 ⟨"SubtitleHarbour", "colourAt", "(III)I"⟩ ∈ xTG := xTG_mem 825 (by decide +kernel) (by decide +kernel)
theorem w_829 : Cond.methodLink "SubtitleHarbour" 166 ⟨"SubtitleHarbour$Memory", "colourIn", "(II)I"⟩ ∈ xTG := xTG_mem 829 (by decide +kernel) (by decide +kernel)
theorem w_833 : Cond.methodLink "SubtitleHarbourLaw" 27 ⟨"SubtitleHarbour", "modeAt", "(I)C"⟩ ∈ xTG := xTG_mem 833 (by decide +kernel) (by decide +kernel)
theorem w_837 : Cond.methodLink "SubtitleHarbourLaw" 31 ⟨"SubtitleHarbour", "cursorAt", "(I)I"⟩ ∈ xTG := xTG_mem 837 (by decide +kernel) (by decide +kernel)
theorem w_841 : Cond.methodLink "SubtitleHarbourLaw" 35 ⟨"SubtitleHarbour", "shown", "(I)I"⟩ ∈ xTG := xTG_mem 841 (by decide +kernel) (by decide +kernel)
theorem w_845 : Cond.methodLink "SubtitleHarbour" 179 ⟨"SubtitleHarbour$Memory", "filledCells", "()I"⟩ ∈ xTG := xTG_mem 845 (by decide +kernel) (by decide +kernel)
theorem w_849 : Cond.methodLink "SubtitleHarbourLaw" 38 ⟨"SubtitleHarbour", "setRegion", "(IIII)I"⟩ ∈ xTG := xTG_mem 849 (by decide +kernel) (by decide +kernel)
theorem w_853 : Cond.methodLink "SubtitleHarbourLaw" 42 ⟨"SubtitleHarbour", "cueAt", "(II)I"⟩ ∈ xTG := xTG_mem 853 (by decide +kernel) (by decide +kernel)
theorem w_857 : Cond.methodLink "SubtitleHarbourLaw" 46 ⟨"SubtitleHarbour", "cueAnew", "(II)I"⟩ ∈ xTG := xTG_mem 857 (by decide +kernel) (by decide +kernel)
theorem w_861 : Cond.methodLink "SubtitleHarbourLaw" 49 ⟨"SubtitleHarbour", "addCut", "(I)I"⟩ ∈ xTG := xTG_mem 861 (by decide +kernel) (by decide +kernel)
theorem w_865 : Cond.methodLink "SubtitleHarbour" 252 ⟨"SubtitleHarbour$Cuts", "nearest", "(I)I"⟩ ∈ xTG := xTG_mem 865 (by decide +kernel) (by decide +kernel)
theorem w_869 : Cond.methodLink "SubtitleHarbour$Cuts" 19 ⟨"java/lang/Math", "abs", "(I)I"⟩ ∈ xTG := xTG_mem 869 (by decide +kernel) (by decide +kernel)
theorem w_871 : Cond.methodLink "SubtitleHarbour" 257 ⟨"SubtitleHarbour$Cuts", "add", "(I)V"⟩ ∈ xTG := xTG_mem 871 (by decide +kernel) (by decide +kernel)
theorem w_875 : Cond.methodLink "SubtitleHarbourLaw" 52 ⟨"SubtitleHarbour", "snap", "(I)I"⟩ ∈ xTG := xTG_mem 875 (by decide +kernel) (by decide +kernel)
theorem w_879 : Cond.methodLink "SubtitleHarbour" 260 ⟨"SubtitleHarbour$Cuts", "snapped", "(II)I"⟩ ∈ xTG := xTG_mem 879 (by decide +kernel) (by decide +kernel)
theorem w_883 : Cond.methodLink "SubtitleHarbour$Cuts" 25 ⟨"SubtitleHarbour$Cuts", "nearest", "(I)I"⟩ ∈ xTG := xTG_mem 883 (by decide +kernel) (by decide +kernel)
theorem w_884 : Cond.methodLink "SubtitleHarbour" 263 ⟨"SubtitleHarbour$Cue", "moveTo", "(II)I"⟩ ∈ xTG := xTG_mem 884 (by decide +kernel) (by decide +kernel)
theorem w_888 : Cond.methodLink "SubtitleHarbourLaw" 55 ⟨"SubtitleHarbour", "stretch", "(II)I"⟩ ∈ xTG := xTG_mem 888 (by decide +kernel) (by decide +kernel)
theorem w_892 : Cond.methodLink "SubtitleHarbour" 276 ⟨"java/lang/Math", "min", "(II)I"⟩ ∈ xTG := xTG_mem 892 (by decide +kernel) (by decide +kernel)
theorem w_893 : Cond.methodLink "SubtitleHarbour" 279 ⟨"SubtitleHarbour$Stage", "nextOfRegion", "(I)I"⟩ ∈ xTG := xTG_mem 893 (by decide +kernel) (by decide +kernel)
theorem w_897 : Cond.methodLink "SubtitleHarbourLaw" 58 ⟨"SubtitleHarbour", "convert", "(II)I"⟩ ∈ xTG := xTG_mem 897 (by decide +kernel) (by decide +kernel)
theorem w_901 : Cond.methodLink "SubtitleHarbour" 314 ⟨"SubtitleHarbour", "greatestFrame", "()I"⟩ ∈ xTG := xTG_mem 901 (by decide +kernel) (by decide +kernel)
theorem w_905 : Cond.methodLink "SubtitleHarbour" 302 ⟨"SubtitleHarbour", "scaled", "(JJJ)J"⟩ ∈ xTG := xTG_mem 905 (by decide +kernel) (by decide +kernel)
theorem w_908 : Cond.constantLong "SubtitleHarbour" 96 99999 ∈ xTG := xTG_mem 908 (by decide +kernel) (by decide +kernel)
theorem w_909 : Cond.classLink "SubtitleHarbour" 294 "java/lang/UnsupportedOperationException" ∈ xTG := xTG_mem 909 (by decide +kernel) (by decide +kernel)
theorem w_910 : Cond.instantiable "java/lang/UnsupportedOperationException" 6 ∈ xTG := xTG_mem 910 (by decide +kernel) (by decide +kernel)
theorem w_911 : Cond.castable "java/lang/UnsupportedOperationException" "java/lang/UnsupportedOperationException" ∈ xTN := xTN_mem 911 (by decide +kernel) (by decide +kernel)
theorem w_919 : Cond.methodLink "SubtitleHarbour" 298 ⟨"java/lang/UnsupportedOperationException", "<init>", "(Ljava/lang/String;)V"⟩ ∈ xTG := xTG_mem 919 (by decide +kernel) (by decide +kernel)
theorem w_925 : Cond.methodLink "SubtitleHarbour" 322 ⟨"SubtitleHarbour", "scaleAll", "([IIII)V"⟩ ∈ xTG := xTG_mem 925 (by decide +kernel) (by decide +kernel)
theorem w_928 : Cond.methodLink "SubtitleHarbour" 328 ⟨"SubtitleHarbour", "cues", "()I"⟩ ∈ xTG := xTG_mem 928 (by decide +kernel) (by decide +kernel)
theorem w_929 : Cond.methodLink "SubtitleHarbourLaw" 61 ⟨"SubtitleHarbour", "addAnchor", "(II)I"⟩ ∈ xTG := xTG_mem 929 (by decide +kernel) (by decide +kernel)
theorem w_933 : Cond.methodLink "SubtitleHarbour" 330 ⟨"SubtitleHarbour$Anchors", "areBelow", "(II)Z"⟩ ∈ xTG := xTG_mem 933 (by decide +kernel) (by decide +kernel)
theorem w_938 : Cond.methodLink "SubtitleHarbour" 337 ⟨"SubtitleHarbour$Anchors", "add", "(II)V"⟩ ∈ xTG := xTG_mem 938 (by decide +kernel) (by decide +kernel)
theorem w_942 : Cond.methodLink "SubtitleHarbourLaw" 64 ⟨"SubtitleHarbour", "drift", "()I"⟩ ∈ xTG := xTG_mem 942 (by decide +kernel) (by decide +kernel)
theorem w_947 : Cond.methodLink "SubtitleHarbour" 342 ⟨"SubtitleHarbour$Anchors", "moved", "(I)J"⟩ ∈ xTG := xTG_mem 947 (by decide +kernel) (by decide +kernel)
theorem w_951 : Cond.methodLinkNest "SubtitleHarbour$Anchors" 22 ⟨"SubtitleHarbour", "scaled", "(JJJ)J"⟩ "SubtitleHarbour" ∈ xTN := xTN_mem 951 (by decide +kernel) (by decide +kernel)
theorem w_952 : Cond.constant "SubtitleHarbour" 346 99998 ∈ xTG := xTG_mem 952 (by decide +kernel) (by decide +kernel)
theorem w_953 : Cond.methodLink "SubtitleHarbour" 347 ⟨"SubtitleHarbour", "clamped", "(JI)I"⟩ ∈ xTG := xTG_mem 953 (by decide +kernel) (by decide +kernel)
theorem w_956 : Cond.methodLink "SubtitleHarbour" 306 ⟨"java/lang/Math", "min", "(JJ)J"⟩ ∈ xTG := xTG_mem 956 (by decide +kernel) (by decide +kernel)
theorem w_959 : Cond.methodLink "SubtitleHarbour" 309 ⟨"java/lang/Math", "max", "(JJ)J"⟩ ∈ xTG := xTG_mem 959 (by decide +kernel) (by decide +kernel)
theorem w_962 : Cond.methodLink "SubtitleHarbourLaw" 68 ⟨"SubtitleHarbour", "addHeard", "(II)I"⟩ ∈ xTG := xTG_mem 962 (by decide +kernel) (by decide +kernel)
theorem w_967 : Cond.methodLink "SubtitleHarbour" 353 ⟨"SubtitleHarbour$Hearing", "add", "(II)V"⟩ ∈ xTG := xTG_mem 967 (by decide +kernel) (by decide +kernel)
theorem w_971 : Cond.methodLink "SubtitleHarbourLaw" 158 ⟨"SubtitleHarbourLaw", "cue", "(LSubtitleHarbour;C[I)I"⟩ ∈ xTG := xTG_mem 971 (by decide +kernel) (by decide +kernel)
theorem w_974 : Cond.classLink "SubtitleHarbourLaw" 119 "java/lang/IndexOutOfBoundsException" ∈ xTG := xTG_mem 974 (by decide +kernel) (by decide +kernel)
theorem w_975 : Cond.instantiable "java/lang/ArrayIndexOutOfBoundsException" 6 ∈ xTG := xTG_mem 975 (by decide +kernel) (by decide +kernel)
theorem w_989 : Cond.castable "java/lang/ArrayIndexOutOfBoundsException" "java/lang/ArrayIndexOutOfBoundsException" ∈ xTN := xTN_mem 989 (by decide +kernel) (by decide +kernel)
theorem w_998 : Cond.classLink "SubtitleHarbourLaw" 121 "java/util/NoSuchElementException" ∈ xTG := xTG_mem 998 (by decide +kernel) (by decide +kernel)
theorem w_999 : Cond.methodLink "SubtitleHarbourLaw" 77 ⟨"SubtitleHarbour", "addCue", "(III)I"⟩ ∈ xTG := xTG_mem 999 (by decide +kernel) (by decide +kernel)
theorem w_1003 : Cond.methodLink "SubtitleHarbour" 197 ⟨"SubtitleHarbour", "needRoomForCue", "()V"⟩ ∈ xTG := xTG_mem 1003 (by decide +kernel) (by decide +kernel)
theorem w_1008 : Cond.methodLink "SubtitleHarbour" 200 ⟨"SubtitleHarbour", "makeCue", "(III)I"⟩ ∈ xTG := xTG_mem 1008 (by decide +kernel) (by decide +kernel)
theorem w_1012 : Cond.methodLink "SubtitleHarbourLaw" 80 ⟨"SubtitleHarbour", "addWord", "(II)I"⟩ ∈ xTG := xTG_mem 1012 (by decide +kernel) (by decide +kernel)
theorem w_1017 : Cond.methodLink "SubtitleHarbour" 215 ⟨"SubtitleHarbour$Cue", "append", "(I)V"⟩ ∈ xTG := xTG_mem 1017 (by decide +kernel) (by decide +kernel)
theorem w_1021 : Cond.methodLink "SubtitleHarbour$Cue" 38 ⟨"java/util/Arrays", "fill", "([II)V"⟩ ∈ xTG := xTG_mem 1021 (by decide +kernel) (by decide +kernel)
theorem w_1022 : Cond.methodLink "SubtitleHarbourLaw" 83 ⟨"SubtitleHarbour", "dropCue", "(I)I"⟩ ∈ xTG := xTG_mem 1022 (by decide +kernel) (by decide +kernel)
theorem w_1026 : Cond.methodLink "SubtitleHarbourLaw" 86 ⟨"SubtitleHarbour", "startOf", "(I)I"⟩ ∈ xTG := xTG_mem 1026 (by decide +kernel) (by decide +kernel)
theorem w_1030 : Cond.methodLink "SubtitleHarbourLaw" 89 ⟨"SubtitleHarbour", "endOf", "(I)I"⟩ ∈ xTG := xTG_mem 1030 (by decide +kernel) (by decide +kernel)
theorem w_1034 : Cond.methodLink "SubtitleHarbourLaw" 92 ⟨"SubtitleHarbour", "lines", "(I)I"⟩ ∈ xTG := xTG_mem 1034 (by decide +kernel) (by decide +kernel)
theorem w_1038 : Cond.methodLink "SubtitleHarbourLaw" 95 ⟨"SubtitleHarbour", "wordsIn", "(II)I"⟩ ∈ xTG := xTG_mem 1038 (by decide +kernel) (by decide +kernel)
theorem w_1042 : Cond.classLink "SubtitleHarbour" 233 "java/lang/IndexOutOfBoundsException" ∈ xTG := xTG_mem 1042 (by decide +kernel) (by decide +kernel)
theorem w_1043 : Cond.instantiable "java/lang/IndexOutOfBoundsException" 6 ∈ xTG := xTG_mem 1043 (by decide +kernel) (by decide +kernel)
theorem w_1044 : Cond.castable "java/lang/IndexOutOfBoundsException" "java/lang/IndexOutOfBoundsException" ∈ xTN := xTN_mem 1044 (by decide +kernel) (by decide +kernel)
theorem w_1052 : Cond.methodLink "SubtitleHarbour" 237 ⟨"java/lang/IndexOutOfBoundsException", "<init>", "(Ljava/lang/String;)V"⟩ ∈ xTG := xTG_mem 1052 (by decide +kernel) (by decide +kernel)
theorem w_1055 : Cond.methodLink "SubtitleHarbourLaw" 98 ⟨"SubtitleHarbour", "rowOf", "(I)I"⟩ ∈ xTG := xTG_mem 1055 (by decide +kernel) (by decide +kernel)
theorem w_1059 : Cond.methodLink "SubtitleHarbourLaw" 101 ⟨"SubtitleHarbour", "merge", "(II)I"⟩ ∈ xTG := xTG_mem 1059 (by decide +kernel) (by decide +kernel)
theorem w_1064 : Cond.methodLink "SubtitleHarbour" 287 ⟨"SubtitleHarbour$Cue", "appendFrom", "(LSubtitleHarbour$Cue;I)V"⟩ ∈ xTG := xTG_mem 1064 (by decide +kernel) (by decide +kernel)
theorem w_1068 : Cond.methodLink "SubtitleHarbour$Cue" 44 ⟨"java/lang/Math", "max", "(II)I"⟩ ∈ xTG := xTG_mem 1068 (by decide +kernel) (by decide +kernel)
theorem w_1069 : Cond.methodLink "SubtitleHarbour$Cue" 50 ⟨"SubtitleHarbour$Cue", "append", "(I)V"⟩ ∈ xTG := xTG_mem 1069 (by decide +kernel) (by decide +kernel)
theorem w_1070 : Cond.methodLink "SubtitleHarbourLaw" 104 ⟨"SubtitleHarbour", "split", "(II)I"⟩ ∈ xTG := xTG_mem 1070 (by decide +kernel) (by decide +kernel)
theorem w_1075 : Cond.methodLink "SubtitleHarbour" 311 ⟨"SubtitleHarbour$Cue", "cutWords", "(I)V"⟩ ∈ xTG := xTG_mem 1075 (by decide +kernel) (by decide +kernel)
theorem w_1079 : Cond.methodLink "SubtitleHarbourLaw" 107 ⟨"SubtitleHarbour", "hear", "(I)I"⟩ ∈ xTG := xTG_mem 1079 (by decide +kernel) (by decide +kernel)
theorem w_1083 : Cond.methodLink "SubtitleHarbour" 354 ⟨"SubtitleHarbour$Hearing", "setTimes", "(LSubtitleHarbour$Cue;LSubtitleHarbour$Alignment;)I"⟩ ∈ xTG := xTG_mem 1083 (by decide +kernel) (by decide +kernel)
theorem w_1087 : Cond.methodLink "SubtitleHarbour$Hearing" 33 ⟨"SubtitleHarbour$Hearing", "gatherNear", "(II)V"⟩ ∈ xTG := xTG_mem 1087 (by decide +kernel) (by decide +kernel)
theorem w_1091 : Cond.methodLink "SubtitleHarbour$Hearing" 65 ⟨"SubtitleHarbour$Hearing", "insert", "(I)V"⟩ ∈ xTG := xTG_mem 1091 (by decide +kernel) (by decide +kernel)
theorem w_1095 : Cond.methodLink "SubtitleHarbour$Hearing" 44 ⟨"SubtitleHarbour$Alignment", "setPrice", "(III)V"⟩ ∈ xTG := xTG_mem 1095 (by decide +kernel) (by decide +kernel)
theorem w_1096 : Cond.methodLink "SubtitleHarbour$Hearing" 50 ⟨"SubtitleHarbour$Alignment", "align", "(IIII)I"⟩ ∈ xTG := xTG_mem 1096 (by decide +kernel) (by decide +kernel)
theorem w_1097 : Cond.methodLink "SubtitleHarbour$Hearing" 54 ⟨"SubtitleHarbour$Alignment", "partnerOf", "(I)I"⟩ ∈ xTG := xTG_mem 1097 (by decide +kernel) (by decide +kernel)
theorem w_1101 : Cond.methodLinkNest "SubtitleHarbour$Hearing" 61 ⟨"SubtitleHarbour", "isIn", "(III)Z"⟩ "SubtitleHarbour" ∈ xTN := xTN_mem 1101 (by decide +kernel) (by decide +kernel)
theorem w_1102 : Cond.methodLink "SubtitleHarbourLaw" 110 ⟨"SubtitleHarbour", "timeOf", "(II)I"⟩ ∈ xTG := xTG_mem 1102 (by decide +kernel) (by decide +kernel)
theorem w_1107 : Cond.methodLink "SubtitleHarbourLaw" 113 ⟨"SubtitleHarbour", "sung", "(II)I"⟩ ∈ xTG := xTG_mem 1107 (by decide +kernel) (by decide +kernel)
theorem w_1111 : Cond.methodLink "SubtitleHarbourLaw" 116 ⟨"SubtitleHarbour", "pairOf", "(I)I"⟩ ∈ xTG := xTG_mem 1111 (by decide +kernel) (by decide +kernel)
theorem w_1116 : Cond.methodLink "SubtitleHarbour" 369 ⟨"SubtitleHarbour$Pairing", "secondOf", "(ILSubtitleHarbour$Alignment;)I"⟩ ∈ xTG := xTG_mem 1116 (by decide +kernel) (by decide +kernel)
theorem w_1120 : Cond.methodLink "SubtitleHarbour$Pairing" 76 ⟨"SubtitleHarbour$Alignment", "partnerOf", "(I)I"⟩ ∈ xTG := xTG_mem 1120 (by decide +kernel) (by decide +kernel)
theorem w_1121 : Cond.methodLinkNest "SubtitleHarbour$Pairing" 79 ⟨"SubtitleHarbour", "isIn", "(III)Z"⟩ "SubtitleHarbour" ∈ xTN := xTN_mem 1121 (by decide +kernel) (by decide +kernel)
theorem w_1122 : Cond.methodLink "SubtitleHarbour" 373 ⟨"SubtitleHarbour$Pairing", "firstOf", "(ILSubtitleHarbour$Alignment;)I"⟩ ∈ xTG := xTG_mem 1122 (by decide +kernel) (by decide +kernel)
theorem w_1126 : Cond.methodLink "SubtitleHarbourLaw" 138 ⟨"SubtitleHarbourLaw", "stamp", "(LSubtitleHarbour;ZZ[I)I"⟩ ∈ xTG := xTG_mem 1126 (by decide +kernel) (by decide +kernel)
theorem w_1129 : Cond.methodLink "SubtitleHarbourLaw" 123 ⟨"SubtitleHarbour", "frameOf", "(IIIIZ)I"⟩ ∈ xTG := xTG_mem 1129 (by decide +kernel) (by decide +kernel)
theorem w_1135 : Cond.constantLong "SubtitleHarbour" 88 60 ∈ xTG := xTG_mem 1135 (by decide +kernel) (by decide +kernel)
theorem w_1136 : Cond.constantLong "SubtitleHarbour" 90 1800 ∈ xTG := xTG_mem 1136 (by decide +kernel) (by decide +kernel)
theorem w_1137 : Cond.constantLong "SubtitleHarbour" 92 2 ∈ xTG := xTG_mem 1137 (by decide +kernel) (by decide +kernel)
theorem w_1138 : Cond.constantLong "SubtitleHarbour" 94 10 ∈ xTG := xTG_mem 1138 (by decide +kernel) (by decide +kernel)
theorem w_1140 : Cond.methodLink "SubtitleHarbourLaw" 127 ⟨"SubtitleHarbour", "stampOf", "(IIZ)I"⟩ ∈ xTG := xTG_mem 1140 (by decide +kernel) (by decide +kernel)
theorem w_1144 : Cond.methodLink "SubtitleHarbour" 108 ⟨"SubtitleHarbour", "countedWithDropped", "(I)I"⟩ ∈ xTG := xTG_mem 1144 (by decide +kernel) (by decide +kernel)
theorem w_1147 : Cond.constant "SubtitleHarbour" 112 108000 ∈ xTG := xTG_mem 1147 (by decide +kernel) (by decide +kernel)
theorem w_1148 : Cond.methodLink "SubtitleHarbourLaw" 152 ⟨"SubtitleHarbourLaw", "stampsAreGood", "(LSubtitleHarbour;I)Z"⟩ ∈ xTG := xTG_mem 1148 (by decide +kernel) (by decide +kernel)
theorem w_1151 : Cond.constant "SubtitleHarbourLaw" 131 108000 ∈ xTG := xTG_mem 1151 (by decide +kernel) (by decide +kernel)
theorem w_1152 : Cond.methodLink "SubtitleHarbourLaw" 132 ⟨"SubtitleHarbourLaw", "dropped", "(I)[I"⟩ ∈ xTG := xTG_mem 1152 (by decide +kernel) (by decide +kernel)
theorem w_1155 : Cond.methodLink "SubtitleHarbourLaw" 172 ⟨"SubtitleHarbourLaw", "snapped", "(I[III)I"⟩ ∈ xTG := xTG_mem 1155 (by decide +kernel) (by decide +kernel)
theorem w_1158 : Cond.methodLink "SubtitleHarbourLaw" 181 ⟨"java/lang/Math", "max", "(II)I"⟩ ∈ xTG := xTG_mem 1158 (by decide +kernel) (by decide +kernel)
theorem w_1159 : Cond.methodLink "SubtitleHarbourLaw" 191 ⟨"java/lang/Math", "max", "(JJ)J"⟩ ∈ xTG := xTG_mem 1159 (by decide +kernel) (by decide +kernel)
theorem w_1160 : Cond.methodLink "SubtitleHarbourLaw" 176 ⟨"java/lang/Math", "min", "(II)I"⟩ ∈ xTG := xTG_mem 1160 (by decide +kernel) (by decide +kernel)
theorem w_1161 : Cond.methodLink "SubtitleHarbourLaw" 188 ⟨"java/lang/Math", "min", "(JJ)J"⟩ ∈ xTG := xTG_mem 1161 (by decide +kernel) (by decide +kernel)
theorem w_1162 : Cond.methodLink "SubtitleHarbourLaw" 166 ⟨"[I", "clone", "()Ljava/lang/Object;"⟩ ∈ xTG := xTG_mem 1162 (by decide +kernel) (by decide +kernel)
theorem w_1163 : Cond.sameMethod "[I" "java/lang/Object" "clone" "()Ljava/lang/Object;" ∈ xTG := xTG_mem 1163 (by decide +kernel) (by decide +kernel)
theorem w_1164 : Cond.native ⟨"java/lang/Object", "clone", "()Ljava/lang/Object;"⟩ ∈ xTG := xTG_mem 1164 (by decide +kernel) (by decide +kernel)
theorem w_1165 : Cond.instanceMethod ⟨"java/lang/Object", "clone", "()Ljava/lang/Object;"⟩ ∈ xTG := xTG_mem 1165 (by decide +kernel) (by decide +kernel)
theorem w_1166 : Cond.selects "[I" ⟨"[I", "clone", "()Ljava/lang/Object;"⟩ ⟨"java/lang/Object", "clone", "()Ljava/lang/Object;"⟩ ∈ xTG := xTG_mem 1166 (by decide +kernel) (by decide +kernel)
theorem w_1167 : Cond.castable "[I" "java/lang/Cloneable" ∈ xTN := xTN_mem 1167 (by decide +kernel) (by decide +kernel)
theorem w_1168 : Cond.constant "SubtitleHarbourLaw" 143 99999 ∈ xTG := xTG_mem 1168 (by decide +kernel) (by decide +kernel)
theorem w_1169 : Cond.constant "SubtitleHarbourLaw" 148 100000 ∈ xTG := xTG_mem 1169 (by decide +kernel) (by decide +kernel)
theorem w_1170 : Cond.constant "SubtitleHarbourLaw" 156 2000000000 ∈ xTG := xTG_mem 1170 (by decide +kernel) (by decide +kernel)
theorem w_1171 : Cond.constant "SubtitleHarbourLaw" 157 100000000 ∈ xTG := xTG_mem 1171 (by decide +kernel) (by decide +kernel)
theorem w_1172 : Cond.constant "SubtitleHarbourLaw" 165 1000000 ∈ xTG := xTG_mem 1172 (by decide +kernel) (by decide +kernel)
theorem w_1173 : Cond.classLink "SubtitleHarbourLaw" 167 "[I" ∈ xTG := xTG_mem 1173 (by decide +kernel) (by decide +kernel)
theorem w_1174 : Cond.constantLong "SubtitleHarbourLaw" 184 99999 ∈ xTG := xTG_mem 1174 (by decide +kernel) (by decide +kernel)
theorem w_1175 : Cond.constantLong "SubtitleHarbourLaw" 186 99998 ∈ xTG := xTG_mem 1175 (by decide +kernel) (by decide +kernel)
theorem w_1176 : Cond.constantLong "SubtitleHarbourLaw" 204 2000 ∈ xTG := xTG_mem 1176 (by decide +kernel) (by decide +kernel)
theorem w_1177 : Cond.constantLong "SubtitleHarbourLaw" 206 300 ∈ xTG := xTG_mem 1177 (by decide +kernel) (by decide +kernel)
theorem w_1178 : Cond.constantFloat "SubtitleHarbourLaw" 212 1106247680 ∈ xTG := xTG_mem 1178 (by decide +kernel) (by decide +kernel)
theorem w_1180 : Cond.castable "java/lang/ArrayIndexOutOfBoundsException" "java/lang/IndexOutOfBoundsException" ∈ xTN := xTN_mem 1180 (by decide +kernel) (by decide +kernel)
theorem w_1181 : Cond.castable "SubtitleHarbour" "java/lang/Object" ∈ xTN := xTN_mem 1181 (by decide +kernel) (by decide +kernel)
theorem w_1182 : Cond.castable "SubtitleHarbour$Codes" "java/lang/Object" ∈ xTN := xTN_mem 1182 (by decide +kernel) (by decide +kernel)
theorem w_1183 : Cond.castable "SubtitleHarbour$Screen" "java/lang/Object" ∈ xTN := xTN_mem 1183 (by decide +kernel) (by decide +kernel)
theorem w_1184 : Cond.castable "SubtitleHarbour$Memory" "java/lang/Object" ∈ xTN := xTN_mem 1184 (by decide +kernel) (by decide +kernel)
theorem w_1185 : Cond.castable "SubtitleHarbour$Stage" "java/lang/Object" ∈ xTN := xTN_mem 1185 (by decide +kernel) (by decide +kernel)
theorem w_1186 : Cond.castable "SubtitleHarbour$LineBreaker" "java/lang/Object" ∈ xTN := xTN_mem 1186 (by decide +kernel) (by decide +kernel)
theorem w_1187 : Cond.castable "SubtitleHarbour$Cue" "java/lang/Object" ∈ xTN := xTN_mem 1187 (by decide +kernel) (by decide +kernel)
theorem w_1188 : Cond.castable "SubtitleHarbour$Cuts" "java/lang/Object" ∈ xTN := xTN_mem 1188 (by decide +kernel) (by decide +kernel)
theorem w_1189 : Cond.castable "SubtitleHarbour$Anchors" "java/lang/Object" ∈ xTN := xTN_mem 1189 (by decide +kernel) (by decide +kernel)
theorem w_1190 : Cond.castable "SubtitleHarbour$Alignment" "java/lang/Object" ∈ xTN := xTN_mem 1190 (by decide +kernel) (by decide +kernel)
theorem w_1191 : Cond.castable "SubtitleHarbour$Hearing" "java/lang/Object" ∈ xTN := xTN_mem 1191 (by decide +kernel) (by decide +kernel)
theorem w_1192 : Cond.castable "SubtitleHarbour$Pairing" "java/lang/Object" ∈ xTN := xTN_mem 1192 (by decide +kernel) (by decide +kernel)
theorem w_1193 : Cond.castable "java/lang/IllegalArgumentException" "java/lang/Object" ∈ xTN := xTN_mem 1193 (by decide +kernel) (by decide +kernel)
theorem w_1194 : Cond.castable "java/lang/ArrayIndexOutOfBoundsException" "java/lang/Object" ∈ xTN := xTN_mem 1194 (by decide +kernel) (by decide +kernel)
theorem w_1195 : Cond.castable "java/lang/IllegalStateException" "java/lang/Object" ∈ xTN := xTN_mem 1195 (by decide +kernel) (by decide +kernel)
theorem w_1196 : Cond.castable "java/util/NoSuchElementException" "java/lang/Object" ∈ xTN := xTN_mem 1196 (by decide +kernel) (by decide +kernel)
theorem w_1197 : Cond.castable "java/lang/IndexOutOfBoundsException" "java/lang/Object" ∈ xTN := xTN_mem 1197 (by decide +kernel) (by decide +kernel)
theorem w_1198 : Cond.castable "java/lang/UnsupportedOperationException" "java/lang/Object" ∈ xTN := xTN_mem 1198 (by decide +kernel) (by decide +kernel)
theorem w_1199 : Cond.castable "java/lang/Throwable" "java/lang/Object" ∈ xTN := xTN_mem 1199 (by decide +kernel) (by decide +kernel)
theorem w_1200 : Cond.castable "java/lang/String" "java/lang/Object" ∈ xTN := xTN_mem 1200 (by decide +kernel) (by decide +kernel)

theorem dX0_init_0 : decode cX0_init 0 = .ok (.aload_n 0, 1) := by decide +kernel
theorem dX0_init_1 : decode cX0_init 1 = .ok (.invokespecial 3, 3) := by decide +kernel
theorem dX0_init_4 : decode cX0_init 4 = .ok (.aload_n 0, 1) := by decide +kernel
theorem dX0_init_5 : decode cX0_init 5 = .ok (.bipush 24, 2) := by decide +kernel
theorem dX0_init_7 : decode cX0_init 7 = .ok (.bipush 30, 2) := by decide +kernel
theorem dX0_init_9 : decode cX0_init 9 = .ok (.multianewarray 9 2, 4) := by decide +kernel
theorem dX0_init_13 : decode cX0_init 13 = .ok (.putfield 11, 3) := by decide +kernel
theorem dX0_init_16 : decode cX0_init 16 = .ok (.aload_n 0, 1) := by decide +kernel
theorem dX0_init_17 : decode cX0_init 17 = .ok (.bipush 25, 2) := by decide +kernel
theorem dX0_init_19 : decode cX0_init 19 = .ok (.bipush 31, 2) := by decide +kernel
theorem dX0_init_21 : decode cX0_init 21 = .ok (.multianewarray 9 2, 4) := by decide +kernel
theorem dX0_init_25 : decode cX0_init 25 = .ok (.putfield 16, 3) := by decide +kernel
theorem dX0_init_28 : decode cX0_init 28 = .ok (.aload_n 0, 1) := by decide +kernel
theorem dX0_init_29 : decode cX0_init 29 = .ok (.bipush 24, 2) := by decide +kernel
theorem dX0_init_31 : decode cX0_init 31 = .ok (.newarray .int, 2) := by decide +kernel
theorem dX0_init_33 : decode cX0_init 33 = .ok (.putfield 19, 3) := by decide +kernel
theorem dX0_init_36 : decode cX0_init 36 = .ok (.return_, 1) := by decide +kernel
theorem dX0_setPrice_0 : decode cX0_setPrice 0 = .ok (.iload_n 1, 1) := by decide +kernel
theorem dX0_setPrice_1 : decode cX0_setPrice 1 = .ok (.iconst 0, 1) := by decide +kernel
theorem dX0_setPrice_2 : decode cX0_setPrice 2 = .ok (.bipush 23, 2) := by decide +kernel
theorem dX0_setPrice_4 : decode cX0_setPrice 4 = .ok (.invokestatic 23, 3) := by decide +kernel
theorem dX0_setPrice_7 : decode cX0_setPrice 7 = .ok (.ifCond .eq 22, 3) := by decide +kernel
theorem dX0_setPrice_10 : decode cX0_setPrice 10 = .ok (.iload_n 2, 1) := by decide +kernel
theorem dX0_setPrice_11 : decode cX0_setPrice 11 = .ok (.iconst 0, 1) := by decide +kernel
theorem dX0_setPrice_12 : decode cX0_setPrice 12 = .ok (.bipush 29, 2) := by decide +kernel
theorem dX0_setPrice_14 : decode cX0_setPrice 14 = .ok (.invokestatic 23, 3) := by decide +kernel
theorem dX0_setPrice_17 : decode cX0_setPrice 17 = .ok (.ifCond .eq 12, 3) := by decide +kernel
theorem dX0_setPrice_20 : decode cX0_setPrice 20 = .ok (.aload_n 0, 1) := by decide +kernel
theorem dX0_setPrice_21 : decode cX0_setPrice 21 = .ok (.getfield 11, 3) := by decide +kernel
theorem dX0_setPrice_24 : decode cX0_setPrice 24 = .ok (.iload_n 1, 1) := by decide +kernel
theorem dX0_setPrice_25 : decode cX0_setPrice 25 = .ok (.aaload, 1) := by decide +kernel
theorem dX0_setPrice_26 : decode cX0_setPrice 26 = .ok (.iload_n 2, 1) := by decide +kernel
theorem dX0_setPrice_27 : decode cX0_setPrice 27 = .ok (.iload_n 3, 1) := by decide +kernel
theorem dX0_setPrice_28 : decode cX0_setPrice 28 = .ok (.iastore, 1) := by decide +kernel
theorem dX0_setPrice_29 : decode cX0_setPrice 29 = .ok (.return_, 1) := by decide +kernel
theorem dX0_partnerOf_0 : decode cX0_partnerOf 0 = .ok (.iload_n 1, 1) := by decide +kernel
theorem dX0_partnerOf_1 : decode cX0_partnerOf 1 = .ok (.iconst 0, 1) := by decide +kernel
theorem dX0_partnerOf_2 : decode cX0_partnerOf 2 = .ok (.bipush 23, 2) := by decide +kernel
theorem dX0_partnerOf_4 : decode cX0_partnerOf 4 = .ok (.invokestatic 23, 3) := by decide +kernel
theorem dX0_partnerOf_7 : decode cX0_partnerOf 7 = .ok (.ifCond .eq 12, 3) := by decide +kernel
theorem dX0_partnerOf_10 : decode cX0_partnerOf 10 = .ok (.aload_n 0, 1) := by decide +kernel
theorem dX0_partnerOf_11 : decode cX0_partnerOf 11 = .ok (.getfield 19, 3) := by decide +kernel
theorem dX0_partnerOf_14 : decode cX0_partnerOf 14 = .ok (.iload_n 1, 1) := by decide +kernel
theorem dX0_partnerOf_15 : decode cX0_partnerOf 15 = .ok (.iaload, 1) := by decide +kernel
theorem dX0_partnerOf_16 : decode cX0_partnerOf 16 = .ok (.goto 4, 3) := by decide +kernel
theorem dX0_partnerOf_19 : decode cX0_partnerOf 19 = .ok (.iconst (-1), 1) := by decide +kernel
theorem dX0_partnerOf_20 : decode cX0_partnerOf 20 = .ok (.ireturn, 1) := by decide +kernel
theorem dX0_align_0 : decode cX0_align 0 = .ok (.iload_n 1, 1) := by decide +kernel
theorem dX0_align_1 : decode cX0_align 1 = .ok (.iconst 0, 1) := by decide +kernel
theorem dX0_align_2 : decode cX0_align 2 = .ok (.bipush 24, 2) := by decide +kernel
theorem dX0_align_4 : decode cX0_align 4 = .ok (.invokestatic 23, 3) := by decide +kernel
theorem dX0_align_7 : decode cX0_align 7 = .ok (.ifCond .eq 13, 3) := by decide +kernel
theorem dX0_align_10 : decode cX0_align 10 = .ok (.iload_n 2, 1) := by decide +kernel
theorem dX0_align_11 : decode cX0_align 11 = .ok (.iconst 0, 1) := by decide +kernel
theorem dX0_align_12 : decode cX0_align 12 = .ok (.bipush 30, 2) := by decide +kernel
theorem dX0_align_14 : decode cX0_align 14 = .ok (.invokestatic 23, 3) := by decide +kernel
theorem dX0_align_17 : decode cX0_align 17 = .ok (.ifCond .ne 5, 3) := by decide +kernel
theorem dX0_align_20 : decode cX0_align 20 = .ok (.iconst 0, 1) := by decide +kernel
theorem dX0_align_21 : decode cX0_align 21 = .ok (.ireturn, 1) := by decide +kernel
theorem dX0_align_22 : decode cX0_align 22 = .ok (.aload_n 0, 1) := by decide +kernel
theorem dX0_align_23 : decode cX0_align 23 = .ok (.getfield 16, 3) := by decide +kernel
theorem dX0_align_26 : decode cX0_align 26 = .ok (.iload_n 1, 1) := by decide +kernel
theorem dX0_align_27 : decode cX0_align 27 = .ok (.aaload, 1) := by decide +kernel
theorem dX0_align_28 : decode cX0_align 28 = .ok (.iload_n 2, 1) := by decide +kernel
theorem dX0_align_29 : decode cX0_align 29 = .ok (.iconst 0, 1) := by decide +kernel
theorem dX0_align_30 : decode cX0_align 30 = .ok (.iastore, 1) := by decide +kernel
theorem dX0_align_31 : decode cX0_align 31 = .ok (.iload_n 2, 1) := by decide +kernel
theorem dX0_align_32 : decode cX0_align 32 = .ok (.iconst 1, 1) := by decide +kernel
theorem dX0_align_33 : decode cX0_align 33 = .ok (.isub, 1) := by decide +kernel
theorem dX0_align_34 : decode cX0_align 34 = .ok (.istore 5, 2) := by decide +kernel
theorem dX0_align_36 : decode cX0_align 36 = .ok (.iload 5, 2) := by decide +kernel
theorem dX0_align_38 : decode cX0_align 38 = .ok (.ifCond .lt 32, 3) := by decide +kernel
theorem dX0_align_41 : decode cX0_align 41 = .ok (.aload_n 0, 1) := by decide +kernel
theorem dX0_align_42 : decode cX0_align 42 = .ok (.getfield 16, 3) := by decide +kernel
theorem dX0_align_45 : decode cX0_align 45 = .ok (.iload_n 1, 1) := by decide +kernel
theorem dX0_align_46 : decode cX0_align 46 = .ok (.aaload, 1) := by decide +kernel
theorem dX0_align_47 : decode cX0_align 47 = .ok (.iload 5, 2) := by decide +kernel
theorem dX0_align_49 : decode cX0_align 49 = .ok (.aload_n 0, 1) := by decide +kernel
theorem dX0_align_50 : decode cX0_align 50 = .ok (.getfield 16, 3) := by decide +kernel
theorem dX0_align_53 : decode cX0_align 53 = .ok (.iload_n 1, 1) := by decide +kernel
theorem dX0_align_54 : decode cX0_align 54 = .ok (.aaload, 1) := by decide +kernel
theorem dX0_align_55 : decode cX0_align 55 = .ok (.iload 5, 2) := by decide +kernel
theorem dX0_align_57 : decode cX0_align 57 = .ok (.iconst 1, 1) := by decide +kernel
theorem dX0_align_58 : decode cX0_align 58 = .ok (.iadd, 1) := by decide +kernel
theorem dX0_align_59 : decode cX0_align 59 = .ok (.iaload, 1) := by decide +kernel
theorem dX0_align_60 : decode cX0_align 60 = .ok (.iload 4, 2) := by decide +kernel
theorem dX0_align_62 : decode cX0_align 62 = .ok (.iadd, 1) := by decide +kernel
theorem dX0_align_63 : decode cX0_align 63 = .ok (.iastore, 1) := by decide +kernel
theorem dX0_align_64 : decode cX0_align 64 = .ok (.iinc 5 (-1), 3) := by decide +kernel
theorem dX0_align_67 : decode cX0_align 67 = .ok (.goto (-31), 3) := by decide +kernel
theorem dX0_align_70 : decode cX0_align 70 = .ok (.iload_n 1, 1) := by decide +kernel
theorem dX0_align_71 : decode cX0_align 71 = .ok (.iconst 1, 1) := by decide +kernel
theorem dX0_align_72 : decode cX0_align 72 = .ok (.isub, 1) := by decide +kernel
theorem dX0_align_73 : decode cX0_align 73 = .ok (.istore 5, 2) := by decide +kernel
theorem dX0_align_75 : decode cX0_align 75 = .ok (.iload 5, 2) := by decide +kernel
theorem dX0_align_77 : decode cX0_align 77 = .ok (.ifCond .lt 104, 3) := by decide +kernel
theorem dX0_align_80 : decode cX0_align 80 = .ok (.aload_n 0, 1) := by decide +kernel
theorem dX0_align_81 : decode cX0_align 81 = .ok (.getfield 16, 3) := by decide +kernel
theorem dX0_align_84 : decode cX0_align 84 = .ok (.iload 5, 2) := by decide +kernel
theorem dX0_align_86 : decode cX0_align 86 = .ok (.aaload, 1) := by decide +kernel
theorem dX0_align_87 : decode cX0_align 87 = .ok (.iload_n 2, 1) := by decide +kernel
theorem dX0_align_88 : decode cX0_align 88 = .ok (.aload_n 0, 1) := by decide +kernel
theorem dX0_align_89 : decode cX0_align 89 = .ok (.getfield 16, 3) := by decide +kernel
theorem dX0_align_92 : decode cX0_align 92 = .ok (.iload 5, 2) := by decide +kernel
theorem dX0_align_94 : decode cX0_align 94 = .ok (.iconst 1, 1) := by decide +kernel
theorem dX0_align_95 : decode cX0_align 95 = .ok (.iadd, 1) := by decide +kernel
theorem dX0_align_96 : decode cX0_align 96 = .ok (.aaload, 1) := by decide +kernel
theorem dX0_align_97 : decode cX0_align 97 = .ok (.iload_n 2, 1) := by decide +kernel
theorem dX0_align_98 : decode cX0_align 98 = .ok (.iaload, 1) := by decide +kernel
theorem dX0_align_99 : decode cX0_align 99 = .ok (.iload_n 3, 1) := by decide +kernel
theorem dX0_align_100 : decode cX0_align 100 = .ok (.iadd, 1) := by decide +kernel
theorem dX0_align_101 : decode cX0_align 101 = .ok (.iastore, 1) := by decide +kernel
theorem dX0_align_102 : decode cX0_align 102 = .ok (.iload_n 2, 1) := by decide +kernel
theorem dX0_align_103 : decode cX0_align 103 = .ok (.iconst 1, 1) := by decide +kernel
theorem dX0_align_104 : decode cX0_align 104 = .ok (.isub, 1) := by decide +kernel
theorem dX0_align_105 : decode cX0_align 105 = .ok (.istore 6, 2) := by decide +kernel
theorem dX0_align_107 : decode cX0_align 107 = .ok (.iload 6, 2) := by decide +kernel
theorem dX0_align_109 : decode cX0_align 109 = .ok (.ifCond .lt 66, 3) := by decide +kernel
theorem dX0_align_112 : decode cX0_align 112 = .ok (.aload_n 0, 1) := by decide +kernel
theorem dX0_align_113 : decode cX0_align 113 = .ok (.getfield 16, 3) := by decide +kernel
theorem dX0_align_116 : decode cX0_align 116 = .ok (.iload 5, 2) := by decide +kernel
theorem dX0_align_118 : decode cX0_align 118 = .ok (.iconst 1, 1) := by decide +kernel
theorem dX0_align_119 : decode cX0_align 119 = .ok (.iadd, 1) := by decide +kernel
theorem dX0_align_120 : decode cX0_align 120 = .ok (.aaload, 1) := by decide +kernel
theorem dX0_align_121 : decode cX0_align 121 = .ok (.iload 6, 2) := by decide +kernel
theorem dX0_align_123 : decode cX0_align 123 = .ok (.iaload, 1) := by decide +kernel
theorem dX0_align_124 : decode cX0_align 124 = .ok (.iload_n 3, 1) := by decide +kernel
theorem dX0_align_125 : decode cX0_align 125 = .ok (.iadd, 1) := by decide +kernel
theorem dX0_align_126 : decode cX0_align 126 = .ok (.aload_n 0, 1) := by decide +kernel
theorem dX0_align_127 : decode cX0_align 127 = .ok (.getfield 16, 3) := by decide +kernel
theorem dX0_align_130 : decode cX0_align 130 = .ok (.iload 5, 2) := by decide +kernel
theorem dX0_align_132 : decode cX0_align 132 = .ok (.aaload, 1) := by decide +kernel
theorem dX0_align_133 : decode cX0_align 133 = .ok (.iload 6, 2) := by decide +kernel
theorem dX0_align_135 : decode cX0_align 135 = .ok (.iconst 1, 1) := by decide +kernel
theorem dX0_align_136 : decode cX0_align 136 = .ok (.iadd, 1) := by decide +kernel
theorem dX0_align_137 : decode cX0_align 137 = .ok (.iaload, 1) := by decide +kernel
theorem dX0_align_138 : decode cX0_align 138 = .ok (.iload 4, 2) := by decide +kernel
theorem dX0_align_140 : decode cX0_align 140 = .ok (.iadd, 1) := by decide +kernel
theorem dX0_align_141 : decode cX0_align 141 = .ok (.invokestatic 27, 3) := by decide +kernel
theorem dX0_align_144 : decode cX0_align 144 = .ok (.istore 7, 2) := by decide +kernel
theorem dX0_align_146 : decode cX0_align 146 = .ok (.aload_n 0, 1) := by decide +kernel
theorem dX0_align_147 : decode cX0_align 147 = .ok (.getfield 16, 3) := by decide +kernel
theorem dX0_align_150 : decode cX0_align 150 = .ok (.iload 5, 2) := by decide +kernel
theorem dX0_align_152 : decode cX0_align 152 = .ok (.aaload, 1) := by decide +kernel
theorem dX0_align_153 : decode cX0_align 153 = .ok (.iload 6, 2) := by decide +kernel
theorem dX0_align_155 : decode cX0_align 155 = .ok (.iload 7, 2) := by decide +kernel
theorem dX0_align_157 : decode cX0_align 157 = .ok (.aload_n 0, 1) := by decide +kernel
theorem dX0_align_158 : decode cX0_align 158 = .ok (.iload 5, 2) := by decide +kernel
theorem dX0_align_160 : decode cX0_align 160 = .ok (.iload 6, 2) := by decide +kernel
theorem dX0_align_162 : decode cX0_align 162 = .ok (.invokevirtual 33, 3) := by decide +kernel
theorem dX0_align_165 : decode cX0_align 165 = .ok (.invokestatic 27, 3) := by decide +kernel
theorem dX0_align_168 : decode cX0_align 168 = .ok (.iastore, 1) := by decide +kernel
theorem dX0_align_169 : decode cX0_align 169 = .ok (.iinc 6 (-1), 3) := by decide +kernel
theorem dX0_align_172 : decode cX0_align 172 = .ok (.goto (-65), 3) := by decide +kernel
theorem dX0_align_175 : decode cX0_align 175 = .ok (.iinc 5 (-1), 3) := by decide +kernel
theorem dX0_align_178 : decode cX0_align 178 = .ok (.goto (-103), 3) := by decide +kernel
theorem dX0_align_181 : decode cX0_align 181 = .ok (.aload_n 0, 1) := by decide +kernel
theorem dX0_align_182 : decode cX0_align 182 = .ok (.iload_n 1, 1) := by decide +kernel
theorem dX0_align_183 : decode cX0_align 183 = .ok (.iload_n 2, 1) := by decide +kernel
theorem dX0_align_184 : decode cX0_align 184 = .ok (.iload_n 3, 1) := by decide +kernel
theorem dX0_align_185 : decode cX0_align 185 = .ok (.invokevirtual 36, 3) := by decide +kernel
theorem dX0_align_188 : decode cX0_align 188 = .ok (.aload_n 0, 1) := by decide +kernel
theorem dX0_align_189 : decode cX0_align 189 = .ok (.getfield 16, 3) := by decide +kernel
theorem dX0_align_192 : decode cX0_align 192 = .ok (.iconst 0, 1) := by decide +kernel
theorem dX0_align_193 : decode cX0_align 193 = .ok (.aaload, 1) := by decide +kernel
theorem dX0_align_194 : decode cX0_align 194 = .ok (.iconst 0, 1) := by decide +kernel
theorem dX0_align_195 : decode cX0_align 195 = .ok (.iaload, 1) := by decide +kernel
theorem dX0_align_196 : decode cX0_align 196 = .ok (.ireturn, 1) := by decide +kernel
theorem dX0_pairedCost_0 : decode cX0_pairedCost 0 = .ok (.aload_n 0, 1) := by decide +kernel
theorem dX0_pairedCost_1 : decode cX0_pairedCost 1 = .ok (.getfield 11, 3) := by decide +kernel
theorem dX0_pairedCost_4 : decode cX0_pairedCost 4 = .ok (.iload_n 1, 1) := by decide +kernel
theorem dX0_pairedCost_5 : decode cX0_pairedCost 5 = .ok (.aaload, 1) := by decide +kernel
theorem dX0_pairedCost_6 : decode cX0_pairedCost 6 = .ok (.iload_n 2, 1) := by decide +kernel
theorem dX0_pairedCost_7 : decode cX0_pairedCost 7 = .ok (.iaload, 1) := by decide +kernel
theorem dX0_pairedCost_8 : decode cX0_pairedCost 8 = .ok (.aload_n 0, 1) := by decide +kernel
theorem dX0_pairedCost_9 : decode cX0_pairedCost 9 = .ok (.getfield 16, 3) := by decide +kernel
theorem dX0_pairedCost_12 : decode cX0_pairedCost 12 = .ok (.iload_n 1, 1) := by decide +kernel
theorem dX0_pairedCost_13 : decode cX0_pairedCost 13 = .ok (.iconst 1, 1) := by decide +kernel
theorem dX0_pairedCost_14 : decode cX0_pairedCost 14 = .ok (.iadd, 1) := by decide +kernel
theorem dX0_pairedCost_15 : decode cX0_pairedCost 15 = .ok (.aaload, 1) := by decide +kernel
theorem dX0_pairedCost_16 : decode cX0_pairedCost 16 = .ok (.iload_n 2, 1) := by decide +kernel
theorem dX0_pairedCost_17 : decode cX0_pairedCost 17 = .ok (.iconst 1, 1) := by decide +kernel
theorem dX0_pairedCost_18 : decode cX0_pairedCost 18 = .ok (.iadd, 1) := by decide +kernel
theorem dX0_pairedCost_19 : decode cX0_pairedCost 19 = .ok (.iaload, 1) := by decide +kernel
theorem dX0_pairedCost_20 : decode cX0_pairedCost 20 = .ok (.iadd, 1) := by decide +kernel
theorem dX0_pairedCost_21 : decode cX0_pairedCost 21 = .ok (.ireturn, 1) := by decide +kernel
theorem dX0_choose_0 : decode cX0_choose 0 = .ok (.iconst 0, 1) := by decide +kernel
theorem dX0_choose_1 : decode cX0_choose 1 = .ok (.istore 4, 2) := by decide +kernel
theorem dX0_choose_3 : decode cX0_choose 3 = .ok (.iconst 0, 1) := by decide +kernel
theorem dX0_choose_4 : decode cX0_choose 4 = .ok (.istore 5, 2) := by decide +kernel
theorem dX0_choose_6 : decode cX0_choose 6 = .ok (.iload 5, 2) := by decide +kernel
theorem dX0_choose_8 : decode cX0_choose 8 = .ok (.iload_n 1, 1) := by decide +kernel
theorem dX0_choose_9 : decode cX0_choose 9 = .ok (.if_icmp .ge 136, 3) := by decide +kernel
theorem dX0_choose_12 : decode cX0_choose 12 = .ok (.iload 4, 2) := by decide +kernel
theorem dX0_choose_14 : decode cX0_choose 14 = .ok (.iload_n 2, 1) := by decide +kernel
theorem dX0_choose_15 : decode cX0_choose 15 = .ok (.if_icmp .ge 57, 3) := by decide +kernel
theorem dX0_choose_18 : decode cX0_choose 18 = .ok (.aload_n 0, 1) := by decide +kernel
theorem dX0_choose_19 : decode cX0_choose 19 = .ok (.getfield 16, 3) := by decide +kernel
theorem dX0_choose_22 : decode cX0_choose 22 = .ok (.iload 5, 2) := by decide +kernel
theorem dX0_choose_24 : decode cX0_choose 24 = .ok (.aaload, 1) := by decide +kernel
theorem dX0_choose_25 : decode cX0_choose 25 = .ok (.iload 4, 2) := by decide +kernel
theorem dX0_choose_27 : decode cX0_choose 27 = .ok (.iaload, 1) := by decide +kernel
theorem dX0_choose_28 : decode cX0_choose 28 = .ok (.aload_n 0, 1) := by decide +kernel
theorem dX0_choose_29 : decode cX0_choose 29 = .ok (.iload 5, 2) := by decide +kernel
theorem dX0_choose_31 : decode cX0_choose 31 = .ok (.iload 4, 2) := by decide +kernel
theorem dX0_choose_33 : decode cX0_choose 33 = .ok (.invokevirtual 33, 3) := by decide +kernel
theorem dX0_choose_36 : decode cX0_choose 36 = .ok (.if_icmp .eq 36, 3) := by decide +kernel
theorem dX0_choose_39 : decode cX0_choose 39 = .ok (.aload_n 0, 1) := by decide +kernel
theorem dX0_choose_40 : decode cX0_choose 40 = .ok (.getfield 16, 3) := by decide +kernel
theorem dX0_choose_43 : decode cX0_choose 43 = .ok (.iload 5, 2) := by decide +kernel
theorem dX0_choose_45 : decode cX0_choose 45 = .ok (.aaload, 1) := by decide +kernel
theorem dX0_choose_46 : decode cX0_choose 46 = .ok (.iload 4, 2) := by decide +kernel
theorem dX0_choose_48 : decode cX0_choose 48 = .ok (.iaload, 1) := by decide +kernel
theorem dX0_choose_49 : decode cX0_choose 49 = .ok (.aload_n 0, 1) := by decide +kernel
theorem dX0_choose_50 : decode cX0_choose 50 = .ok (.getfield 16, 3) := by decide +kernel
theorem dX0_choose_53 : decode cX0_choose 53 = .ok (.iload 5, 2) := by decide +kernel
theorem dX0_choose_55 : decode cX0_choose 55 = .ok (.iconst 1, 1) := by decide +kernel
theorem dX0_choose_56 : decode cX0_choose 56 = .ok (.iadd, 1) := by decide +kernel
theorem dX0_choose_57 : decode cX0_choose 57 = .ok (.aaload, 1) := by decide +kernel
theorem dX0_choose_58 : decode cX0_choose 58 = .ok (.iload 4, 2) := by decide +kernel
theorem dX0_choose_60 : decode cX0_choose 60 = .ok (.iaload, 1) := by decide +kernel
theorem dX0_choose_61 : decode cX0_choose 61 = .ok (.iload_n 3, 1) := by decide +kernel
theorem dX0_choose_62 : decode cX0_choose 62 = .ok (.iadd, 1) := by decide +kernel
theorem dX0_choose_63 : decode cX0_choose 63 = .ok (.if_icmp .eq 9, 3) := by decide +kernel
theorem dX0_choose_66 : decode cX0_choose 66 = .ok (.iinc 4 1, 3) := by decide +kernel
theorem dX0_choose_69 : decode cX0_choose 69 = .ok (.goto (-57), 3) := by decide +kernel
theorem dX0_choose_72 : decode cX0_choose 72 = .ok (.iload 4, 2) := by decide +kernel
theorem dX0_choose_74 : decode cX0_choose 74 = .ok (.iload_n 2, 1) := by decide +kernel
theorem dX0_choose_75 : decode cX0_choose 75 = .ok (.if_icmp .ge 28, 3) := by decide +kernel
theorem dX0_choose_78 : decode cX0_choose 78 = .ok (.aload_n 0, 1) := by decide +kernel
theorem dX0_choose_79 : decode cX0_choose 79 = .ok (.getfield 16, 3) := by decide +kernel
theorem dX0_choose_82 : decode cX0_choose 82 = .ok (.iload 5, 2) := by decide +kernel
theorem dX0_choose_84 : decode cX0_choose 84 = .ok (.aaload, 1) := by decide +kernel
theorem dX0_choose_85 : decode cX0_choose 85 = .ok (.iload 4, 2) := by decide +kernel
theorem dX0_choose_87 : decode cX0_choose 87 = .ok (.iaload, 1) := by decide +kernel
theorem dX0_choose_88 : decode cX0_choose 88 = .ok (.aload_n 0, 1) := by decide +kernel
theorem dX0_choose_89 : decode cX0_choose 89 = .ok (.iload 5, 2) := by decide +kernel
theorem dX0_choose_91 : decode cX0_choose 91 = .ok (.iload 4, 2) := by decide +kernel
theorem dX0_choose_93 : decode cX0_choose 93 = .ok (.invokevirtual 33, 3) := by decide +kernel
theorem dX0_choose_96 : decode cX0_choose 96 = .ok (.if_icmp .ne 7, 3) := by decide +kernel
theorem dX0_choose_99 : decode cX0_choose 99 = .ok (.iconst 1, 1) := by decide +kernel
theorem dX0_choose_100 : decode cX0_choose 100 = .ok (.goto 4, 3) := by decide +kernel
theorem dX0_choose_103 : decode cX0_choose 103 = .ok (.iconst 0, 1) := by decide +kernel
theorem dX0_choose_104 : decode cX0_choose 104 = .ok (.istore 6, 2) := by decide +kernel
theorem dX0_choose_106 : decode cX0_choose 106 = .ok (.aload_n 0, 1) := by decide +kernel
theorem dX0_choose_107 : decode cX0_choose 107 = .ok (.getfield 19, 3) := by decide +kernel
theorem dX0_choose_110 : decode cX0_choose 110 = .ok (.iload 5, 2) := by decide +kernel
theorem dX0_choose_112 : decode cX0_choose 112 = .ok (.iload 6, 2) := by decide +kernel
theorem dX0_choose_114 : decode cX0_choose 114 = .ok (.ifCond .eq 8, 3) := by decide +kernel
theorem dX0_choose_117 : decode cX0_choose 117 = .ok (.iload 4, 2) := by decide +kernel
theorem dX0_choose_119 : decode cX0_choose 119 = .ok (.goto 4, 3) := by decide +kernel
theorem dX0_choose_122 : decode cX0_choose 122 = .ok (.iconst (-1), 1) := by decide +kernel
theorem dX0_choose_123 : decode cX0_choose 123 = .ok (.iastore, 1) := by decide +kernel
theorem dX0_choose_124 : decode cX0_choose 124 = .ok (.iload 4, 2) := by decide +kernel
theorem dX0_choose_126 : decode cX0_choose 126 = .ok (.iload 6, 2) := by decide +kernel
theorem dX0_choose_128 : decode cX0_choose 128 = .ok (.ifCond .eq 7, 3) := by decide +kernel
theorem dX0_choose_131 : decode cX0_choose 131 = .ok (.iconst 1, 1) := by decide +kernel
theorem dX0_choose_132 : decode cX0_choose 132 = .ok (.goto 4, 3) := by decide +kernel
theorem dX0_choose_135 : decode cX0_choose 135 = .ok (.iconst 0, 1) := by decide +kernel
theorem dX0_choose_136 : decode cX0_choose 136 = .ok (.iadd, 1) := by decide +kernel
theorem dX0_choose_137 : decode cX0_choose 137 = .ok (.istore 4, 2) := by decide +kernel
theorem dX0_choose_139 : decode cX0_choose 139 = .ok (.iinc 5 1, 3) := by decide +kernel
theorem dX0_choose_142 : decode cX0_choose 142 = .ok (.goto (-136), 3) := by decide +kernel
theorem dX0_choose_145 : decode cX0_choose 145 = .ok (.return_, 1) := by decide +kernel
theorem dX1_init_0 : decode cX1_init 0 = .ok (.aload_n 0, 1) := by decide +kernel
theorem dX1_init_1 : decode cX1_init 1 = .ok (.invokespecial 3, 3) := by decide +kernel
theorem dX1_init_4 : decode cX1_init 4 = .ok (.aload_n 0, 1) := by decide +kernel
theorem dX1_init_5 : decode cX1_init 5 = .ok (.bipush 8, 2) := by decide +kernel
theorem dX1_init_7 : decode cX1_init 7 = .ok (.newarray .int, 2) := by decide +kernel
theorem dX1_init_9 : decode cX1_init 9 = .ok (.putfield 9, 3) := by decide +kernel
theorem dX1_init_12 : decode cX1_init 12 = .ok (.aload_n 0, 1) := by decide +kernel
theorem dX1_init_13 : decode cX1_init 13 = .ok (.bipush 8, 2) := by decide +kernel
theorem dX1_init_15 : decode cX1_init 15 = .ok (.newarray .int, 2) := by decide +kernel
theorem dX1_init_17 : decode cX1_init 17 = .ok (.putfield 15, 3) := by decide +kernel
theorem dX1_init_20 : decode cX1_init 20 = .ok (.return_, 1) := by decide +kernel
theorem dX1_areBelow_0 : decode cX1_areBelow 0 = .ok (.aload_n 0, 1) := by decide +kernel
theorem dX1_areBelow_1 : decode cX1_areBelow 1 = .ok (.getfield 18, 3) := by decide +kernel
theorem dX1_areBelow_4 : decode cX1_areBelow 4 = .ok (.ifCond .le 42, 3) := by decide +kernel
theorem dX1_areBelow_7 : decode cX1_areBelow 7 = .ok (.aload_n 0, 1) := by decide +kernel
theorem dX1_areBelow_8 : decode cX1_areBelow 8 = .ok (.getfield 18, 3) := by decide +kernel
theorem dX1_areBelow_11 : decode cX1_areBelow 11 = .ok (.bipush 8, 2) := by decide +kernel
theorem dX1_areBelow_13 : decode cX1_areBelow 13 = .ok (.if_icmp .gt 33, 3) := by decide +kernel
theorem dX1_areBelow_16 : decode cX1_areBelow 16 = .ok (.iload_n 1, 1) := by decide +kernel
theorem dX1_areBelow_17 : decode cX1_areBelow 17 = .ok (.aload_n 0, 1) := by decide +kernel
theorem dX1_areBelow_18 : decode cX1_areBelow 18 = .ok (.getfield 9, 3) := by decide +kernel
theorem dX1_areBelow_21 : decode cX1_areBelow 21 = .ok (.aload_n 0, 1) := by decide +kernel
theorem dX1_areBelow_22 : decode cX1_areBelow 22 = .ok (.getfield 18, 3) := by decide +kernel
theorem dX1_areBelow_25 : decode cX1_areBelow 25 = .ok (.iconst 1, 1) := by decide +kernel
theorem dX1_areBelow_26 : decode cX1_areBelow 26 = .ok (.isub, 1) := by decide +kernel
theorem dX1_areBelow_27 : decode cX1_areBelow 27 = .ok (.iaload, 1) := by decide +kernel
theorem dX1_areBelow_28 : decode cX1_areBelow 28 = .ok (.if_icmp .le 22, 3) := by decide +kernel
theorem dX1_areBelow_31 : decode cX1_areBelow 31 = .ok (.iload_n 2, 1) := by decide +kernel
theorem dX1_areBelow_32 : decode cX1_areBelow 32 = .ok (.aload_n 0, 1) := by decide +kernel
theorem dX1_areBelow_33 : decode cX1_areBelow 33 = .ok (.getfield 15, 3) := by decide +kernel
theorem dX1_areBelow_36 : decode cX1_areBelow 36 = .ok (.aload_n 0, 1) := by decide +kernel
theorem dX1_areBelow_37 : decode cX1_areBelow 37 = .ok (.getfield 18, 3) := by decide +kernel
theorem dX1_areBelow_40 : decode cX1_areBelow 40 = .ok (.iconst 1, 1) := by decide +kernel
theorem dX1_areBelow_41 : decode cX1_areBelow 41 = .ok (.isub, 1) := by decide +kernel
theorem dX1_areBelow_42 : decode cX1_areBelow 42 = .ok (.iaload, 1) := by decide +kernel
theorem dX1_areBelow_43 : decode cX1_areBelow 43 = .ok (.if_icmp .le 7, 3) := by decide +kernel
theorem dX1_areBelow_46 : decode cX1_areBelow 46 = .ok (.iconst 1, 1) := by decide +kernel
theorem dX1_areBelow_47 : decode cX1_areBelow 47 = .ok (.goto 4, 3) := by decide +kernel
theorem dX1_areBelow_50 : decode cX1_areBelow 50 = .ok (.iconst 0, 1) := by decide +kernel
theorem dX1_areBelow_51 : decode cX1_areBelow 51 = .ok (.ireturn, 1) := by decide +kernel
theorem dX1_add_0 : decode cX1_add 0 = .ok (.aload_n 0, 1) := by decide +kernel
theorem dX1_add_1 : decode cX1_add 1 = .ok (.getfield 18, 3) := by decide +kernel
theorem dX1_add_4 : decode cX1_add 4 = .ok (.bipush 8, 2) := by decide +kernel
theorem dX1_add_6 : decode cX1_add 6 = .ok (.if_icmp .ge 33, 3) := by decide +kernel
theorem dX1_add_9 : decode cX1_add 9 = .ok (.aload_n 0, 1) := by decide +kernel
theorem dX1_add_10 : decode cX1_add 10 = .ok (.getfield 9, 3) := by decide +kernel
theorem dX1_add_13 : decode cX1_add 13 = .ok (.aload_n 0, 1) := by decide +kernel
theorem dX1_add_14 : decode cX1_add 14 = .ok (.getfield 18, 3) := by decide +kernel
theorem dX1_add_17 : decode cX1_add 17 = .ok (.iload_n 1, 1) := by decide +kernel
theorem dX1_add_18 : decode cX1_add 18 = .ok (.iastore, 1) := by decide +kernel
theorem dX1_add_19 : decode cX1_add 19 = .ok (.aload_n 0, 1) := by decide +kernel
theorem dX1_add_20 : decode cX1_add 20 = .ok (.getfield 15, 3) := by decide +kernel
theorem dX1_add_23 : decode cX1_add 23 = .ok (.aload_n 0, 1) := by decide +kernel
theorem dX1_add_24 : decode cX1_add 24 = .ok (.getfield 18, 3) := by decide +kernel
theorem dX1_add_27 : decode cX1_add 27 = .ok (.iload_n 2, 1) := by decide +kernel
theorem dX1_add_28 : decode cX1_add 28 = .ok (.iastore, 1) := by decide +kernel
theorem dX1_add_29 : decode cX1_add 29 = .ok (.aload_n 0, 1) := by decide +kernel
theorem dX1_add_30 : decode cX1_add 30 = .ok (.dup, 1) := by decide +kernel
theorem dX1_add_31 : decode cX1_add 31 = .ok (.getfield 18, 3) := by decide +kernel
theorem dX1_add_34 : decode cX1_add 34 = .ok (.iconst 1, 1) := by decide +kernel
theorem dX1_add_35 : decode cX1_add 35 = .ok (.iadd, 1) := by decide +kernel
theorem dX1_add_36 : decode cX1_add 36 = .ok (.putfield 18, 3) := by decide +kernel
theorem dX1_add_39 : decode cX1_add 39 = .ok (.return_, 1) := by decide +kernel
theorem dX1_moved_0 : decode cX1_moved 0 = .ok (.iconst 0, 1) := by decide +kernel
theorem dX1_moved_1 : decode cX1_moved 1 = .ok (.istore_n 2, 1) := by decide +kernel
theorem dX1_moved_2 : decode cX1_moved 2 = .ok (.iload_n 2, 1) := by decide +kernel
theorem dX1_moved_3 : decode cX1_moved 3 = .ok (.iconst 1, 1) := by decide +kernel
theorem dX1_moved_4 : decode cX1_moved 4 = .ok (.iadd, 1) := by decide +kernel
theorem dX1_moved_5 : decode cX1_moved 5 = .ok (.aload_n 0, 1) := by decide +kernel
theorem dX1_moved_6 : decode cX1_moved 6 = .ok (.getfield 18, 3) := by decide +kernel
theorem dX1_moved_9 : decode cX1_moved 9 = .ok (.if_icmp .ge 29, 3) := by decide +kernel
theorem dX1_moved_12 : decode cX1_moved 12 = .ok (.iload_n 2, 1) := by decide +kernel
theorem dX1_moved_13 : decode cX1_moved 13 = .ok (.iconst 1, 1) := by decide +kernel
theorem dX1_moved_14 : decode cX1_moved 14 = .ok (.iadd, 1) := by decide +kernel
theorem dX1_moved_15 : decode cX1_moved 15 = .ok (.bipush 8, 2) := by decide +kernel
theorem dX1_moved_17 : decode cX1_moved 17 = .ok (.if_icmp .ge 21, 3) := by decide +kernel
theorem dX1_moved_20 : decode cX1_moved 20 = .ok (.aload_n 0, 1) := by decide +kernel
theorem dX1_moved_21 : decode cX1_moved 21 = .ok (.getfield 9, 3) := by decide +kernel
theorem dX1_moved_24 : decode cX1_moved 24 = .ok (.iload_n 2, 1) := by decide +kernel
theorem dX1_moved_25 : decode cX1_moved 25 = .ok (.iconst 1, 1) := by decide +kernel
theorem dX1_moved_26 : decode cX1_moved 26 = .ok (.iadd, 1) := by decide +kernel
theorem dX1_moved_27 : decode cX1_moved 27 = .ok (.iaload, 1) := by decide +kernel
theorem dX1_moved_28 : decode cX1_moved 28 = .ok (.iload_n 1, 1) := by decide +kernel
theorem dX1_moved_29 : decode cX1_moved 29 = .ok (.if_icmp .gt 9, 3) := by decide +kernel
theorem dX1_moved_32 : decode cX1_moved 32 = .ok (.iinc 2 1, 3) := by decide +kernel
theorem dX1_moved_35 : decode cX1_moved 35 = .ok (.goto (-33), 3) := by decide +kernel
theorem dX1_moved_38 : decode cX1_moved 38 = .ok (.iload_n 1, 1) := by decide +kernel
theorem dX1_moved_39 : decode cX1_moved 39 = .ok (.aload_n 0, 1) := by decide +kernel
theorem dX1_moved_40 : decode cX1_moved 40 = .ok (.getfield 9, 3) := by decide +kernel
theorem dX1_moved_43 : decode cX1_moved 43 = .ok (.iload_n 2, 1) := by decide +kernel
theorem dX1_moved_44 : decode cX1_moved 44 = .ok (.iaload, 1) := by decide +kernel
theorem dX1_moved_45 : decode cX1_moved 45 = .ok (.isub, 1) := by decide +kernel
theorem dX1_moved_46 : decode cX1_moved 46 = .ok (.istore_n 3, 1) := by decide +kernel
theorem dX1_moved_47 : decode cX1_moved 47 = .ok (.iload_n 3, 1) := by decide +kernel
theorem dX1_moved_48 : decode cX1_moved 48 = .ok (.ifCond .lt 21, 3) := by decide +kernel
theorem dX1_moved_51 : decode cX1_moved 51 = .ok (.iload_n 2, 1) := by decide +kernel
theorem dX1_moved_52 : decode cX1_moved 52 = .ok (.iconst 1, 1) := by decide +kernel
theorem dX1_moved_53 : decode cX1_moved 53 = .ok (.iadd, 1) := by decide +kernel
theorem dX1_moved_54 : decode cX1_moved 54 = .ok (.aload_n 0, 1) := by decide +kernel
theorem dX1_moved_55 : decode cX1_moved 55 = .ok (.getfield 18, 3) := by decide +kernel
theorem dX1_moved_58 : decode cX1_moved 58 = .ok (.if_icmp .ge 11, 3) := by decide +kernel
theorem dX1_moved_61 : decode cX1_moved 61 = .ok (.iload_n 2, 1) := by decide +kernel
theorem dX1_moved_62 : decode cX1_moved 62 = .ok (.iconst 1, 1) := by decide +kernel
theorem dX1_moved_63 : decode cX1_moved 63 = .ok (.iadd, 1) := by decide +kernel
theorem dX1_moved_64 : decode cX1_moved 64 = .ok (.bipush 8, 2) := by decide +kernel
theorem dX1_moved_66 : decode cX1_moved 66 = .ok (.if_icmp .lt 13, 3) := by decide +kernel
theorem dX1_moved_69 : decode cX1_moved 69 = .ok (.aload_n 0, 1) := by decide +kernel
theorem dX1_moved_70 : decode cX1_moved 70 = .ok (.getfield 15, 3) := by decide +kernel
theorem dX1_moved_73 : decode cX1_moved 73 = .ok (.iload_n 2, 1) := by decide +kernel
theorem dX1_moved_74 : decode cX1_moved 74 = .ok (.iaload, 1) := by decide +kernel
theorem dX1_moved_75 : decode cX1_moved 75 = .ok (.iload_n 3, 1) := by decide +kernel
theorem dX1_moved_76 : decode cX1_moved 76 = .ok (.iadd, 1) := by decide +kernel
theorem dX1_moved_77 : decode cX1_moved 77 = .ok (.i2l, 1) := by decide +kernel
theorem dX1_moved_78 : decode cX1_moved 78 = .ok (.lreturn, 1) := by decide +kernel
theorem dX1_moved_79 : decode cX1_moved 79 = .ok (.aload_n 0, 1) := by decide +kernel
theorem dX1_moved_80 : decode cX1_moved 80 = .ok (.getfield 15, 3) := by decide +kernel
theorem dX1_moved_83 : decode cX1_moved 83 = .ok (.iload_n 2, 1) := by decide +kernel
theorem dX1_moved_84 : decode cX1_moved 84 = .ok (.iaload, 1) := by decide +kernel
theorem dX1_moved_85 : decode cX1_moved 85 = .ok (.i2l, 1) := by decide +kernel
theorem dX1_moved_86 : decode cX1_moved 86 = .ok (.iload_n 3, 1) := by decide +kernel
theorem dX1_moved_87 : decode cX1_moved 87 = .ok (.i2l, 1) := by decide +kernel
theorem dX1_moved_88 : decode cX1_moved 88 = .ok (.aload_n 0, 1) := by decide +kernel
theorem dX1_moved_89 : decode cX1_moved 89 = .ok (.getfield 15, 3) := by decide +kernel
theorem dX1_moved_92 : decode cX1_moved 92 = .ok (.iload_n 2, 1) := by decide +kernel
theorem dX1_moved_93 : decode cX1_moved 93 = .ok (.iconst 1, 1) := by decide +kernel
theorem dX1_moved_94 : decode cX1_moved 94 = .ok (.iadd, 1) := by decide +kernel
theorem dX1_moved_95 : decode cX1_moved 95 = .ok (.iaload, 1) := by decide +kernel
theorem dX1_moved_96 : decode cX1_moved 96 = .ok (.aload_n 0, 1) := by decide +kernel
theorem dX1_moved_97 : decode cX1_moved 97 = .ok (.getfield 15, 3) := by decide +kernel
theorem dX1_moved_100 : decode cX1_moved 100 = .ok (.iload_n 2, 1) := by decide +kernel
theorem dX1_moved_101 : decode cX1_moved 101 = .ok (.iaload, 1) := by decide +kernel
theorem dX1_moved_102 : decode cX1_moved 102 = .ok (.isub, 1) := by decide +kernel
theorem dX1_moved_103 : decode cX1_moved 103 = .ok (.i2l, 1) := by decide +kernel
theorem dX1_moved_104 : decode cX1_moved 104 = .ok (.aload_n 0, 1) := by decide +kernel
theorem dX1_moved_105 : decode cX1_moved 105 = .ok (.getfield 9, 3) := by decide +kernel
theorem dX1_moved_108 : decode cX1_moved 108 = .ok (.iload_n 2, 1) := by decide +kernel
theorem dX1_moved_109 : decode cX1_moved 109 = .ok (.iconst 1, 1) := by decide +kernel
theorem dX1_moved_110 : decode cX1_moved 110 = .ok (.iadd, 1) := by decide +kernel
theorem dX1_moved_111 : decode cX1_moved 111 = .ok (.iaload, 1) := by decide +kernel
theorem dX1_moved_112 : decode cX1_moved 112 = .ok (.aload_n 0, 1) := by decide +kernel
theorem dX1_moved_113 : decode cX1_moved 113 = .ok (.getfield 9, 3) := by decide +kernel
theorem dX1_moved_116 : decode cX1_moved 116 = .ok (.iload_n 2, 1) := by decide +kernel
theorem dX1_moved_117 : decode cX1_moved 117 = .ok (.iaload, 1) := by decide +kernel
theorem dX1_moved_118 : decode cX1_moved 118 = .ok (.isub, 1) := by decide +kernel
theorem dX1_moved_119 : decode cX1_moved 119 = .ok (.i2l, 1) := by decide +kernel
theorem dX1_moved_120 : decode cX1_moved 120 = .ok (.invokestatic 22, 3) := by decide +kernel
theorem dX1_moved_123 : decode cX1_moved 123 = .ok (.ladd, 1) := by decide +kernel
theorem dX1_moved_124 : decode cX1_moved 124 = .ok (.lreturn, 1) := by decide +kernel
theorem dX2_init_0 : decode cX2_init 0 = .ok (.aload_n 0, 1) := by decide +kernel
theorem dX2_init_1 : decode cX2_init 1 = .ok (.invokespecial 3, 3) := by decide +kernel
theorem dX2_init_4 : decode cX2_init 4 = .ok (.aload_n 0, 1) := by decide +kernel
theorem dX2_init_5 : decode cX2_init 5 = .ok (.sipush 200, 3) := by decide +kernel
theorem dX2_init_8 : decode cX2_init 8 = .ok (.newarray .int, 2) := by decide +kernel
theorem dX2_init_10 : decode cX2_init 10 = .ok (.putfield 9, 3) := by decide +kernel
theorem dX2_init_13 : decode cX2_init 13 = .ok (.aload_n 0, 1) := by decide +kernel
theorem dX2_init_14 : decode cX2_init 14 = .ok (.sipush 200, 3) := by decide +kernel
theorem dX2_init_17 : decode cX2_init 17 = .ok (.newarray .char, 2) := by decide +kernel
theorem dX2_init_19 : decode cX2_init 19 = .ok (.putfield 15, 3) := by decide +kernel
theorem dX2_init_22 : decode cX2_init 22 = .ok (.aload_n 0, 1) := by decide +kernel
theorem dX2_init_23 : decode cX2_init 23 = .ok (.sipush 200, 3) := by decide +kernel
theorem dX2_init_26 : decode cX2_init 26 = .ok (.newarray .int, 2) := by decide +kernel
theorem dX2_init_28 : decode cX2_init 28 = .ok (.putfield 19, 3) := by decide +kernel
theorem dX2_init_31 : decode cX2_init 31 = .ok (.aload_n 0, 1) := by decide +kernel
theorem dX2_init_32 : decode cX2_init 32 = .ok (.sipush 200, 3) := by decide +kernel
theorem dX2_init_35 : decode cX2_init 35 = .ok (.newarray .boolean, 2) := by decide +kernel
theorem dX2_init_37 : decode cX2_init 37 = .ok (.putfield 22, 3) := by decide +kernel
theorem dX2_init_40 : decode cX2_init 40 = .ok (.return_, 1) := by decide +kernel
theorem dX2_countUpTo_0 : decode cX2_countUpTo 0 = .ok (.iconst 0, 1) := by decide +kernel
theorem dX2_countUpTo_1 : decode cX2_countUpTo 1 = .ok (.istore_n 2, 1) := by decide +kernel
theorem dX2_countUpTo_2 : decode cX2_countUpTo 2 = .ok (.iload_n 2, 1) := by decide +kernel
theorem dX2_countUpTo_3 : decode cX2_countUpTo 3 = .ok (.aload_n 0, 1) := by decide +kernel
theorem dX2_countUpTo_4 : decode cX2_countUpTo 4 = .ok (.getfield 26, 3) := by decide +kernel
theorem dX2_countUpTo_7 : decode cX2_countUpTo 7 = .ok (.if_icmp .ge 26, 3) := by decide +kernel
theorem dX2_countUpTo_10 : decode cX2_countUpTo 10 = .ok (.iload_n 2, 1) := by decide +kernel
theorem dX2_countUpTo_11 : decode cX2_countUpTo 11 = .ok (.sipush 200, 3) := by decide +kernel
theorem dX2_countUpTo_14 : decode cX2_countUpTo 14 = .ok (.if_icmp .ge 19, 3) := by decide +kernel
theorem dX2_countUpTo_17 : decode cX2_countUpTo 17 = .ok (.aload_n 0, 1) := by decide +kernel
theorem dX2_countUpTo_18 : decode cX2_countUpTo 18 = .ok (.getfield 9, 3) := by decide +kernel
theorem dX2_countUpTo_21 : decode cX2_countUpTo 21 = .ok (.iload_n 2, 1) := by decide +kernel
theorem dX2_countUpTo_22 : decode cX2_countUpTo 22 = .ok (.iaload, 1) := by decide +kernel
theorem dX2_countUpTo_23 : decode cX2_countUpTo 23 = .ok (.iload_n 1, 1) := by decide +kernel
theorem dX2_countUpTo_24 : decode cX2_countUpTo 24 = .ok (.if_icmp .gt 9, 3) := by decide +kernel
theorem dX2_countUpTo_27 : decode cX2_countUpTo 27 = .ok (.iinc 2 1, 3) := by decide +kernel
theorem dX2_countUpTo_30 : decode cX2_countUpTo 30 = .ok (.goto (-28), 3) := by decide +kernel
theorem dX2_countUpTo_33 : decode cX2_countUpTo 33 = .ok (.iload_n 2, 1) := by decide +kernel
theorem dX2_countUpTo_34 : decode cX2_countUpTo 34 = .ok (.ireturn, 1) := by decide +kernel
theorem dX2_hasAt_0 : decode cX2_hasAt 0 = .ok (.aload_n 0, 1) := by decide +kernel
theorem dX2_hasAt_1 : decode cX2_hasAt 1 = .ok (.iload_n 1, 1) := by decide +kernel
theorem dX2_hasAt_2 : decode cX2_hasAt 2 = .ok (.invokevirtual 30, 3) := by decide +kernel
theorem dX2_hasAt_5 : decode cX2_hasAt 5 = .ok (.istore_n 2, 1) := by decide +kernel
theorem dX2_hasAt_6 : decode cX2_hasAt 6 = .ok (.iload_n 2, 1) := by decide +kernel
theorem dX2_hasAt_7 : decode cX2_hasAt 7 = .ok (.ifCond .le 19, 3) := by decide +kernel
theorem dX2_hasAt_10 : decode cX2_hasAt 10 = .ok (.aload_n 0, 1) := by decide +kernel
theorem dX2_hasAt_11 : decode cX2_hasAt 11 = .ok (.getfield 9, 3) := by decide +kernel
theorem dX2_hasAt_14 : decode cX2_hasAt 14 = .ok (.iload_n 2, 1) := by decide +kernel
theorem dX2_hasAt_15 : decode cX2_hasAt 15 = .ok (.iconst 1, 1) := by decide +kernel
theorem dX2_hasAt_16 : decode cX2_hasAt 16 = .ok (.isub, 1) := by decide +kernel
theorem dX2_hasAt_17 : decode cX2_hasAt 17 = .ok (.iaload, 1) := by decide +kernel
theorem dX2_hasAt_18 : decode cX2_hasAt 18 = .ok (.iload_n 1, 1) := by decide +kernel
theorem dX2_hasAt_19 : decode cX2_hasAt 19 = .ok (.if_icmp .ne 7, 3) := by decide +kernel
theorem dX2_hasAt_22 : decode cX2_hasAt 22 = .ok (.iconst 1, 1) := by decide +kernel
theorem dX2_hasAt_23 : decode cX2_hasAt 23 = .ok (.goto 4, 3) := by decide +kernel
theorem dX2_hasAt_26 : decode cX2_hasAt 26 = .ok (.iconst 0, 1) := by decide +kernel
theorem dX2_hasAt_27 : decode cX2_hasAt 27 = .ok (.ireturn, 1) := by decide +kernel
theorem dX2_put_0 : decode cX2_put 0 = .ok (.aload_n 0, 1) := by decide +kernel
theorem dX2_put_1 : decode cX2_put 1 = .ok (.iload_n 1, 1) := by decide +kernel
theorem dX2_put_2 : decode cX2_put 2 = .ok (.invokevirtual 34, 3) := by decide +kernel
theorem dX2_put_5 : decode cX2_put 5 = .ok (.istore 4, 2) := by decide +kernel
theorem dX2_put_7 : decode cX2_put 7 = .ok (.aload_n 0, 1) := by decide +kernel
theorem dX2_put_8 : decode cX2_put 8 = .ok (.iload_n 1, 1) := by decide +kernel
theorem dX2_put_9 : decode cX2_put 9 = .ok (.invokevirtual 30, 3) := by decide +kernel
theorem dX2_put_12 : decode cX2_put 12 = .ok (.istore 5, 2) := by decide +kernel
theorem dX2_put_14 : decode cX2_put 14 = .ok (.iload 4, 2) := by decide +kernel
theorem dX2_put_16 : decode cX2_put 16 = .ok (.ifCond .eq 9, 3) := by decide +kernel
theorem dX2_put_19 : decode cX2_put 19 = .ok (.iinc 5 (-1), 3) := by decide +kernel
theorem dX2_put_22 : decode cX2_put 22 = .ok (.goto 33, 3) := by decide +kernel
theorem dX2_put_25 : decode cX2_put 25 = .ok (.aload_n 0, 1) := by decide +kernel
theorem dX2_put_26 : decode cX2_put 26 = .ok (.getfield 26, 3) := by decide +kernel
theorem dX2_put_29 : decode cX2_put 29 = .ok (.sipush 200, 3) := by decide +kernel
theorem dX2_put_32 : decode cX2_put 32 = .ok (.if_icmp .ge 23, 3) := by decide +kernel
theorem dX2_put_35 : decode cX2_put 35 = .ok (.aload_n 0, 1) := by decide +kernel
theorem dX2_put_36 : decode cX2_put 36 = .ok (.iload 5, 2) := by decide +kernel
theorem dX2_put_38 : decode cX2_put 38 = .ok (.iload 5, 2) := by decide +kernel
theorem dX2_put_40 : decode cX2_put 40 = .ok (.iconst 1, 1) := by decide +kernel
theorem dX2_put_41 : decode cX2_put 41 = .ok (.iadd, 1) := by decide +kernel
theorem dX2_put_42 : decode cX2_put 42 = .ok (.invokevirtual 38, 3) := by decide +kernel
theorem dX2_put_45 : decode cX2_put 45 = .ok (.aload_n 0, 1) := by decide +kernel
theorem dX2_put_46 : decode cX2_put 46 = .ok (.dup, 1) := by decide +kernel
theorem dX2_put_47 : decode cX2_put 47 = .ok (.getfield 26, 3) := by decide +kernel
theorem dX2_put_50 : decode cX2_put 50 = .ok (.iconst 1, 1) := by decide +kernel
theorem dX2_put_51 : decode cX2_put 51 = .ok (.iadd, 1) := by decide +kernel
theorem dX2_put_52 : decode cX2_put 52 = .ok (.putfield 26, 3) := by decide +kernel
theorem dX2_put_55 : decode cX2_put 55 = .ok (.iload 5, 2) := by decide +kernel
theorem dX2_put_57 : decode cX2_put 57 = .ok (.ifCond .lt 35, 3) := by decide +kernel
theorem dX2_put_60 : decode cX2_put 60 = .ok (.iload 5, 2) := by decide +kernel
theorem dX2_put_62 : decode cX2_put 62 = .ok (.sipush 200, 3) := by decide +kernel
theorem dX2_put_65 : decode cX2_put 65 = .ok (.if_icmp .ge 27, 3) := by decide +kernel
theorem dX2_put_68 : decode cX2_put 68 = .ok (.aload_n 0, 1) := by decide +kernel
theorem dX2_put_69 : decode cX2_put 69 = .ok (.getfield 9, 3) := by decide +kernel
theorem dX2_put_72 : decode cX2_put 72 = .ok (.iload 5, 2) := by decide +kernel
theorem dX2_put_74 : decode cX2_put 74 = .ok (.iload_n 1, 1) := by decide +kernel
theorem dX2_put_75 : decode cX2_put 75 = .ok (.iastore, 1) := by decide +kernel
theorem dX2_put_76 : decode cX2_put 76 = .ok (.aload_n 0, 1) := by decide +kernel
theorem dX2_put_77 : decode cX2_put 77 = .ok (.getfield 15, 3) := by decide +kernel
theorem dX2_put_80 : decode cX2_put 80 = .ok (.iload 5, 2) := by decide +kernel
theorem dX2_put_82 : decode cX2_put 82 = .ok (.iload_n 2, 1) := by decide +kernel
theorem dX2_put_83 : decode cX2_put 83 = .ok (.castore, 1) := by decide +kernel
theorem dX2_put_84 : decode cX2_put 84 = .ok (.aload_n 0, 1) := by decide +kernel
theorem dX2_put_85 : decode cX2_put 85 = .ok (.getfield 19, 3) := by decide +kernel
theorem dX2_put_88 : decode cX2_put 88 = .ok (.iload 5, 2) := by decide +kernel
theorem dX2_put_90 : decode cX2_put 90 = .ok (.iload_n 3, 1) := by decide +kernel
theorem dX2_put_91 : decode cX2_put 91 = .ok (.iastore, 1) := by decide +kernel
theorem dX2_put_92 : decode cX2_put 92 = .ok (.aload_n 0, 1) := by decide +kernel
theorem dX2_put_93 : decode cX2_put 93 = .ok (.invokevirtual 42, 3) := by decide +kernel
theorem dX2_put_96 : decode cX2_put 96 = .ok (.iload 4, 2) := by decide +kernel
theorem dX2_put_98 : decode cX2_put 98 = .ok (.ireturn, 1) := by decide +kernel
theorem dX2_takeAway_0 : decode cX2_takeAway 0 = .ok (.aload_n 0, 1) := by decide +kernel
theorem dX2_takeAway_1 : decode cX2_takeAway 1 = .ok (.iload_n 1, 1) := by decide +kernel
theorem dX2_takeAway_2 : decode cX2_takeAway 2 = .ok (.invokevirtual 34, 3) := by decide +kernel
theorem dX2_takeAway_5 : decode cX2_takeAway 5 = .ok (.istore_n 2, 1) := by decide +kernel
theorem dX2_takeAway_6 : decode cX2_takeAway 6 = .ok (.iload_n 2, 1) := by decide +kernel
theorem dX2_takeAway_7 : decode cX2_takeAway 7 = .ok (.ifCond .eq 31, 3) := by decide +kernel
theorem dX2_takeAway_10 : decode cX2_takeAway 10 = .ok (.aload_n 0, 1) := by decide +kernel
theorem dX2_takeAway_11 : decode cX2_takeAway 11 = .ok (.iload_n 1, 1) := by decide +kernel
theorem dX2_takeAway_12 : decode cX2_takeAway 12 = .ok (.invokevirtual 30, 3) := by decide +kernel
theorem dX2_takeAway_15 : decode cX2_takeAway 15 = .ok (.istore_n 3, 1) := by decide +kernel
theorem dX2_takeAway_16 : decode cX2_takeAway 16 = .ok (.aload_n 0, 1) := by decide +kernel
theorem dX2_takeAway_17 : decode cX2_takeAway 17 = .ok (.iload_n 3, 1) := by decide +kernel
theorem dX2_takeAway_18 : decode cX2_takeAway 18 = .ok (.iload_n 3, 1) := by decide +kernel
theorem dX2_takeAway_19 : decode cX2_takeAway 19 = .ok (.iconst 1, 1) := by decide +kernel
theorem dX2_takeAway_20 : decode cX2_takeAway 20 = .ok (.isub, 1) := by decide +kernel
theorem dX2_takeAway_21 : decode cX2_takeAway 21 = .ok (.invokevirtual 38, 3) := by decide +kernel
theorem dX2_takeAway_24 : decode cX2_takeAway 24 = .ok (.aload_n 0, 1) := by decide +kernel
theorem dX2_takeAway_25 : decode cX2_takeAway 25 = .ok (.dup, 1) := by decide +kernel
theorem dX2_takeAway_26 : decode cX2_takeAway 26 = .ok (.getfield 26, 3) := by decide +kernel
theorem dX2_takeAway_29 : decode cX2_takeAway 29 = .ok (.iconst 1, 1) := by decide +kernel
theorem dX2_takeAway_30 : decode cX2_takeAway 30 = .ok (.isub, 1) := by decide +kernel
theorem dX2_takeAway_31 : decode cX2_takeAway 31 = .ok (.putfield 26, 3) := by decide +kernel
theorem dX2_takeAway_34 : decode cX2_takeAway 34 = .ok (.aload_n 0, 1) := by decide +kernel
theorem dX2_takeAway_35 : decode cX2_takeAway 35 = .ok (.invokevirtual 42, 3) := by decide +kernel
theorem dX2_takeAway_38 : decode cX2_takeAway 38 = .ok (.iload_n 2, 1) := by decide +kernel
theorem dX2_takeAway_39 : decode cX2_takeAway 39 = .ok (.ireturn, 1) := by decide +kernel
theorem dX2_shift_0 : decode cX2_shift 0 = .ok (.aload_n 0, 1) := by decide +kernel
theorem dX2_shift_1 : decode cX2_shift 1 = .ok (.getfield 26, 3) := by decide +kernel
theorem dX2_shift_4 : decode cX2_shift 4 = .ok (.iload_n 1, 1) := by decide +kernel
theorem dX2_shift_5 : decode cX2_shift 5 = .ok (.isub, 1) := by decide +kernel
theorem dX2_shift_6 : decode cX2_shift 6 = .ok (.istore_n 3, 1) := by decide +kernel
theorem dX2_shift_7 : decode cX2_shift 7 = .ok (.iload_n 1, 1) := by decide +kernel
theorem dX2_shift_8 : decode cX2_shift 8 = .ok (.ifCond .lt 29, 3) := by decide +kernel
theorem dX2_shift_11 : decode cX2_shift 11 = .ok (.iload_n 2, 1) := by decide +kernel
theorem dX2_shift_12 : decode cX2_shift 12 = .ok (.ifCond .lt 25, 3) := by decide +kernel
theorem dX2_shift_15 : decode cX2_shift 15 = .ok (.iload_n 3, 1) := by decide +kernel
theorem dX2_shift_16 : decode cX2_shift 16 = .ok (.ifCond .lt 21, 3) := by decide +kernel
theorem dX2_shift_19 : decode cX2_shift 19 = .ok (.iload_n 1, 1) := by decide +kernel
theorem dX2_shift_20 : decode cX2_shift 20 = .ok (.iload_n 3, 1) := by decide +kernel
theorem dX2_shift_21 : decode cX2_shift 21 = .ok (.iadd, 1) := by decide +kernel
theorem dX2_shift_22 : decode cX2_shift 22 = .ok (.sipush 200, 3) := by decide +kernel
theorem dX2_shift_25 : decode cX2_shift 25 = .ok (.if_icmp .gt 12, 3) := by decide +kernel
theorem dX2_shift_28 : decode cX2_shift 28 = .ok (.iload_n 2, 1) := by decide +kernel
theorem dX2_shift_29 : decode cX2_shift 29 = .ok (.iload_n 3, 1) := by decide +kernel
theorem dX2_shift_30 : decode cX2_shift 30 = .ok (.iadd, 1) := by decide +kernel
theorem dX2_shift_31 : decode cX2_shift 31 = .ok (.sipush 200, 3) := by decide +kernel
theorem dX2_shift_34 : decode cX2_shift 34 = .ok (.if_icmp .le 4, 3) := by decide +kernel
theorem dX2_shift_37 : decode cX2_shift 37 = .ok (.return_, 1) := by decide +kernel
theorem dX2_shift_38 : decode cX2_shift 38 = .ok (.aload_n 0, 1) := by decide +kernel
theorem dX2_shift_39 : decode cX2_shift 39 = .ok (.getfield 9, 3) := by decide +kernel
theorem dX2_shift_42 : decode cX2_shift 42 = .ok (.iload_n 1, 1) := by decide +kernel
theorem dX2_shift_43 : decode cX2_shift 43 = .ok (.aload_n 0, 1) := by decide +kernel
theorem dX2_shift_44 : decode cX2_shift 44 = .ok (.getfield 9, 3) := by decide +kernel
theorem dX2_shift_47 : decode cX2_shift 47 = .ok (.iload_n 2, 1) := by decide +kernel
theorem dX2_shift_48 : decode cX2_shift 48 = .ok (.iload_n 3, 1) := by decide +kernel
theorem dX2_shift_49 : decode cX2_shift 49 = .ok (.invokestatic 45, 3) := by decide +kernel
theorem dX2_shift_52 : decode cX2_shift 52 = .ok (.aload_n 0, 1) := by decide +kernel
theorem dX2_shift_53 : decode cX2_shift 53 = .ok (.getfield 15, 3) := by decide +kernel
theorem dX2_shift_56 : decode cX2_shift 56 = .ok (.iload_n 1, 1) := by decide +kernel
theorem dX2_shift_57 : decode cX2_shift 57 = .ok (.aload_n 0, 1) := by decide +kernel
theorem dX2_shift_58 : decode cX2_shift 58 = .ok (.getfield 15, 3) := by decide +kernel
theorem dX2_shift_61 : decode cX2_shift 61 = .ok (.iload_n 2, 1) := by decide +kernel
theorem dX2_shift_62 : decode cX2_shift 62 = .ok (.iload_n 3, 1) := by decide +kernel
theorem dX2_shift_63 : decode cX2_shift 63 = .ok (.invokestatic 45, 3) := by decide +kernel
theorem dX2_shift_66 : decode cX2_shift 66 = .ok (.aload_n 0, 1) := by decide +kernel
theorem dX2_shift_67 : decode cX2_shift 67 = .ok (.getfield 19, 3) := by decide +kernel
theorem dX2_shift_70 : decode cX2_shift 70 = .ok (.iload_n 1, 1) := by decide +kernel
theorem dX2_shift_71 : decode cX2_shift 71 = .ok (.aload_n 0, 1) := by decide +kernel
theorem dX2_shift_72 : decode cX2_shift 72 = .ok (.getfield 19, 3) := by decide +kernel
theorem dX2_shift_75 : decode cX2_shift 75 = .ok (.iload_n 2, 1) := by decide +kernel
theorem dX2_shift_76 : decode cX2_shift 76 = .ok (.iload_n 3, 1) := by decide +kernel
theorem dX2_shift_77 : decode cX2_shift 77 = .ok (.invokestatic 45, 3) := by decide +kernel
theorem dX2_shift_80 : decode cX2_shift 80 = .ok (.return_, 1) := by decide +kernel
theorem dX2_markRepeats_0 : decode cX2_markRepeats 0 = .ok (.iconst 1, 1) := by decide +kernel
theorem dX2_markRepeats_1 : decode cX2_markRepeats 1 = .ok (.istore_n 1, 1) := by decide +kernel
theorem dX2_markRepeats_2 : decode cX2_markRepeats 2 = .ok (.iconst 0, 1) := by decide +kernel
theorem dX2_markRepeats_3 : decode cX2_markRepeats 3 = .ok (.istore_n 2, 1) := by decide +kernel
theorem dX2_markRepeats_4 : decode cX2_markRepeats 4 = .ok (.iload_n 2, 1) := by decide +kernel
theorem dX2_markRepeats_5 : decode cX2_markRepeats 5 = .ok (.aload_n 0, 1) := by decide +kernel
theorem dX2_markRepeats_6 : decode cX2_markRepeats 6 = .ok (.getfield 26, 3) := by decide +kernel
theorem dX2_markRepeats_9 : decode cX2_markRepeats 9 = .ok (.if_icmp .ge 46, 3) := by decide +kernel
theorem dX2_markRepeats_12 : decode cX2_markRepeats 12 = .ok (.iload_n 2, 1) := by decide +kernel
theorem dX2_markRepeats_13 : decode cX2_markRepeats 13 = .ok (.sipush 200, 3) := by decide +kernel
theorem dX2_markRepeats_16 : decode cX2_markRepeats 16 = .ok (.if_icmp .ge 39, 3) := by decide +kernel
theorem dX2_markRepeats_19 : decode cX2_markRepeats 19 = .ok (.aload_n 0, 1) := by decide +kernel
theorem dX2_markRepeats_20 : decode cX2_markRepeats 20 = .ok (.getfield 22, 3) := by decide +kernel
theorem dX2_markRepeats_23 : decode cX2_markRepeats 23 = .ok (.iload_n 2, 1) := by decide +kernel
theorem dX2_markRepeats_24 : decode cX2_markRepeats 24 = .ok (.iload_n 1, 1) := by decide +kernel
theorem dX2_markRepeats_25 : decode cX2_markRepeats 25 = .ok (.ifCond .ne 15, 3) := by decide +kernel
theorem dX2_markRepeats_28 : decode cX2_markRepeats 28 = .ok (.aload_n 0, 1) := by decide +kernel
theorem dX2_markRepeats_29 : decode cX2_markRepeats 29 = .ok (.iload_n 2, 1) := by decide +kernel
theorem dX2_markRepeats_30 : decode cX2_markRepeats 30 = .ok (.invokevirtual 51, 3) := by decide +kernel
theorem dX2_markRepeats_33 : decode cX2_markRepeats 33 = .ok (.ifCond .eq 7, 3) := by decide +kernel
theorem dX2_markRepeats_36 : decode cX2_markRepeats 36 = .ok (.iconst 1, 1) := by decide +kernel
theorem dX2_markRepeats_37 : decode cX2_markRepeats 37 = .ok (.goto 4, 3) := by decide +kernel
theorem dX2_markRepeats_40 : decode cX2_markRepeats 40 = .ok (.iconst 0, 1) := by decide +kernel
theorem dX2_markRepeats_41 : decode cX2_markRepeats 41 = .ok (.bastore, 1) := by decide +kernel
theorem dX2_markRepeats_42 : decode cX2_markRepeats 42 = .ok (.aload_n 0, 1) := by decide +kernel
theorem dX2_markRepeats_43 : decode cX2_markRepeats 43 = .ok (.getfield 22, 3) := by decide +kernel
theorem dX2_markRepeats_46 : decode cX2_markRepeats 46 = .ok (.iload_n 2, 1) := by decide +kernel
theorem dX2_markRepeats_47 : decode cX2_markRepeats 47 = .ok (.baload, 1) := by decide +kernel
theorem dX2_markRepeats_48 : decode cX2_markRepeats 48 = .ok (.istore_n 1, 1) := by decide +kernel
theorem dX2_markRepeats_49 : decode cX2_markRepeats 49 = .ok (.iinc 2 1, 3) := by decide +kernel
theorem dX2_markRepeats_52 : decode cX2_markRepeats 52 = .ok (.goto (-48), 3) := by decide +kernel
theorem dX2_markRepeats_55 : decode cX2_markRepeats 55 = .ok (.return_, 1) := by decide +kernel
theorem dX2_isTwinOfFormer_0 : decode cX2_isTwinOfFormer 0 = .ok (.iload_n 1, 1) := by decide +kernel
theorem dX2_isTwinOfFormer_1 : decode cX2_isTwinOfFormer 1 = .ok (.iconst 1, 1) := by decide +kernel
theorem dX2_isTwinOfFormer_2 : decode cX2_isTwinOfFormer 2 = .ok (.if_icmp .lt 21, 3) := by decide +kernel
theorem dX2_isTwinOfFormer_5 : decode cX2_isTwinOfFormer 5 = .ok (.iload_n 1, 1) := by decide +kernel
theorem dX2_isTwinOfFormer_6 : decode cX2_isTwinOfFormer 6 = .ok (.sipush 200, 3) := by decide +kernel
theorem dX2_isTwinOfFormer_9 : decode cX2_isTwinOfFormer 9 = .ok (.if_icmp .ge 14, 3) := by decide +kernel
theorem dX2_isTwinOfFormer_12 : decode cX2_isTwinOfFormer 12 = .ok (.aload_n 0, 1) := by decide +kernel
theorem dX2_isTwinOfFormer_13 : decode cX2_isTwinOfFormer 13 = .ok (.getfield 15, 3) := by decide +kernel
theorem dX2_isTwinOfFormer_16 : decode cX2_isTwinOfFormer 16 = .ok (.iload_n 1, 1) := by decide +kernel
theorem dX2_isTwinOfFormer_17 : decode cX2_isTwinOfFormer 17 = .ok (.caload, 1) := by decide +kernel
theorem dX2_isTwinOfFormer_18 : decode cX2_isTwinOfFormer 18 = .ok (.bipush 116, 2) := by decide +kernel
theorem dX2_isTwinOfFormer_20 : decode cX2_isTwinOfFormer 20 = .ok (.if_icmp .ne 5, 3) := by decide +kernel
theorem dX2_isTwinOfFormer_23 : decode cX2_isTwinOfFormer 23 = .ok (.iconst 0, 1) := by decide +kernel
theorem dX2_isTwinOfFormer_24 : decode cX2_isTwinOfFormer 24 = .ok (.ireturn, 1) := by decide +kernel
theorem dX2_isTwinOfFormer_25 : decode cX2_isTwinOfFormer 25 = .ok (.aload_n 0, 1) := by decide +kernel
theorem dX2_isTwinOfFormer_26 : decode cX2_isTwinOfFormer 26 = .ok (.getfield 9, 3) := by decide +kernel
theorem dX2_isTwinOfFormer_29 : decode cX2_isTwinOfFormer 29 = .ok (.iload_n 1, 1) := by decide +kernel
theorem dX2_isTwinOfFormer_30 : decode cX2_isTwinOfFormer 30 = .ok (.iconst 1, 1) := by decide +kernel
theorem dX2_isTwinOfFormer_31 : decode cX2_isTwinOfFormer 31 = .ok (.isub, 1) := by decide +kernel
theorem dX2_isTwinOfFormer_32 : decode cX2_isTwinOfFormer 32 = .ok (.iaload, 1) := by decide +kernel
theorem dX2_isTwinOfFormer_33 : decode cX2_isTwinOfFormer 33 = .ok (.aload_n 0, 1) := by decide +kernel
theorem dX2_isTwinOfFormer_34 : decode cX2_isTwinOfFormer 34 = .ok (.getfield 9, 3) := by decide +kernel
theorem dX2_isTwinOfFormer_37 : decode cX2_isTwinOfFormer 37 = .ok (.iload_n 1, 1) := by decide +kernel
theorem dX2_isTwinOfFormer_38 : decode cX2_isTwinOfFormer 38 = .ok (.iaload, 1) := by decide +kernel
theorem dX2_isTwinOfFormer_39 : decode cX2_isTwinOfFormer 39 = .ok (.iconst 1, 1) := by decide +kernel
theorem dX2_isTwinOfFormer_40 : decode cX2_isTwinOfFormer 40 = .ok (.isub, 1) := by decide +kernel
theorem dX2_isTwinOfFormer_41 : decode cX2_isTwinOfFormer 41 = .ok (.if_icmp .ne 41, 3) := by decide +kernel
theorem dX2_isTwinOfFormer_44 : decode cX2_isTwinOfFormer 44 = .ok (.aload_n 0, 1) := by decide +kernel
theorem dX2_isTwinOfFormer_45 : decode cX2_isTwinOfFormer 45 = .ok (.getfield 15, 3) := by decide +kernel
theorem dX2_isTwinOfFormer_48 : decode cX2_isTwinOfFormer 48 = .ok (.iload_n 1, 1) := by decide +kernel
theorem dX2_isTwinOfFormer_49 : decode cX2_isTwinOfFormer 49 = .ok (.iconst 1, 1) := by decide +kernel
theorem dX2_isTwinOfFormer_50 : decode cX2_isTwinOfFormer 50 = .ok (.isub, 1) := by decide +kernel
theorem dX2_isTwinOfFormer_51 : decode cX2_isTwinOfFormer 51 = .ok (.caload, 1) := by decide +kernel
theorem dX2_isTwinOfFormer_52 : decode cX2_isTwinOfFormer 52 = .ok (.aload_n 0, 1) := by decide +kernel
theorem dX2_isTwinOfFormer_53 : decode cX2_isTwinOfFormer 53 = .ok (.getfield 15, 3) := by decide +kernel
theorem dX2_isTwinOfFormer_56 : decode cX2_isTwinOfFormer 56 = .ok (.iload_n 1, 1) := by decide +kernel
theorem dX2_isTwinOfFormer_57 : decode cX2_isTwinOfFormer 57 = .ok (.caload, 1) := by decide +kernel
theorem dX2_isTwinOfFormer_58 : decode cX2_isTwinOfFormer 58 = .ok (.if_icmp .ne 24, 3) := by decide +kernel
theorem dX2_isTwinOfFormer_61 : decode cX2_isTwinOfFormer 61 = .ok (.aload_n 0, 1) := by decide +kernel
theorem dX2_isTwinOfFormer_62 : decode cX2_isTwinOfFormer 62 = .ok (.getfield 19, 3) := by decide +kernel
theorem dX2_isTwinOfFormer_65 : decode cX2_isTwinOfFormer 65 = .ok (.iload_n 1, 1) := by decide +kernel
theorem dX2_isTwinOfFormer_66 : decode cX2_isTwinOfFormer 66 = .ok (.iconst 1, 1) := by decide +kernel
theorem dX2_isTwinOfFormer_67 : decode cX2_isTwinOfFormer 67 = .ok (.isub, 1) := by decide +kernel
theorem dX2_isTwinOfFormer_68 : decode cX2_isTwinOfFormer 68 = .ok (.iaload, 1) := by decide +kernel
theorem dX2_isTwinOfFormer_69 : decode cX2_isTwinOfFormer 69 = .ok (.aload_n 0, 1) := by decide +kernel
theorem dX2_isTwinOfFormer_70 : decode cX2_isTwinOfFormer 70 = .ok (.getfield 19, 3) := by decide +kernel
theorem dX2_isTwinOfFormer_73 : decode cX2_isTwinOfFormer 73 = .ok (.iload_n 1, 1) := by decide +kernel
theorem dX2_isTwinOfFormer_74 : decode cX2_isTwinOfFormer 74 = .ok (.iaload, 1) := by decide +kernel
theorem dX2_isTwinOfFormer_75 : decode cX2_isTwinOfFormer 75 = .ok (.if_icmp .ne 7, 3) := by decide +kernel
theorem dX2_isTwinOfFormer_78 : decode cX2_isTwinOfFormer 78 = .ok (.iconst 1, 1) := by decide +kernel
theorem dX2_isTwinOfFormer_79 : decode cX2_isTwinOfFormer 79 = .ok (.goto 4, 3) := by decide +kernel
theorem dX2_isTwinOfFormer_82 : decode cX2_isTwinOfFormer 82 = .ok (.iconst 0, 1) := by decide +kernel
theorem dX2_isTwinOfFormer_83 : decode cX2_isTwinOfFormer 83 = .ok (.ireturn, 1) := by decide +kernel
theorem dX3_init_0 : decode cX3_init 0 = .ok (.aload_n 0, 1) := by decide +kernel
theorem dX3_init_1 : decode cX3_init 1 = .ok (.invokespecial 3, 3) := by decide +kernel
theorem dX3_init_4 : decode cX3_init 4 = .ok (.aload_n 0, 1) := by decide +kernel
theorem dX3_init_5 : decode cX3_init 5 = .ok (.bipush 12, 2) := by decide +kernel
theorem dX3_init_7 : decode cX3_init 7 = .ok (.newarray .int, 2) := by decide +kernel
theorem dX3_init_9 : decode cX3_init 9 = .ok (.putfield 9, 3) := by decide +kernel
theorem dX3_init_12 : decode cX3_init 12 = .ok (.aload_n 0, 1) := by decide +kernel
theorem dX3_init_13 : decode cX3_init 13 = .ok (.bipush 12, 2) := by decide +kernel
theorem dX3_init_15 : decode cX3_init 15 = .ok (.newarray .int, 2) := by decide +kernel
theorem dX3_init_17 : decode cX3_init 17 = .ok (.putfield 15, 3) := by decide +kernel
theorem dX3_init_20 : decode cX3_init 20 = .ok (.aload_n 0, 1) := by decide +kernel
theorem dX3_init_21 : decode cX3_init 21 = .ok (.bipush 12, 2) := by decide +kernel
theorem dX3_init_23 : decode cX3_init 23 = .ok (.newarray .int, 2) := by decide +kernel
theorem dX3_init_25 : decode cX3_init 25 = .ok (.putfield 18, 3) := by decide +kernel
theorem dX3_init_28 : decode cX3_init 28 = .ok (.aload_n 0, 1) := by decide +kernel
theorem dX3_init_29 : decode cX3_init 29 = .ok (.iconst (-1), 1) := by decide +kernel
theorem dX3_init_30 : decode cX3_init 30 = .ok (.putfield 21, 3) := by decide +kernel
theorem dX3_init_33 : decode cX3_init 33 = .ok (.return_, 1) := by decide +kernel
theorem dX3_length_0 : decode cX3_length 0 = .ok (.aload_n 0, 1) := by decide +kernel
theorem dX3_length_1 : decode cX3_length 1 = .ok (.getfield 25, 3) := by decide +kernel
theorem dX3_length_4 : decode cX3_length 4 = .ok (.aload_n 0, 1) := by decide +kernel
theorem dX3_length_5 : decode cX3_length 5 = .ok (.getfield 28, 3) := by decide +kernel
theorem dX3_length_8 : decode cX3_length 8 = .ok (.isub, 1) := by decide +kernel
theorem dX3_length_9 : decode cX3_length 9 = .ok (.ireturn, 1) := by decide +kernel
theorem dX3_lettersOf_0 : decode cX3_lettersOf 0 = .ok (.iload_n 1, 1) := by decide +kernel
theorem dX3_lettersOf_1 : decode cX3_lettersOf 1 = .ok (.ifCond .lt 23, 3) := by decide +kernel
theorem dX3_lettersOf_4 : decode cX3_lettersOf 4 = .ok (.iload_n 1, 1) := by decide +kernel
theorem dX3_lettersOf_5 : decode cX3_lettersOf 5 = .ok (.bipush 12, 2) := by decide +kernel
theorem dX3_lettersOf_7 : decode cX3_lettersOf 7 = .ok (.if_icmp .ge 17, 3) := by decide +kernel
theorem dX3_lettersOf_10 : decode cX3_lettersOf 10 = .ok (.iconst 1, 1) := by decide +kernel
theorem dX3_lettersOf_11 : decode cX3_lettersOf 11 = .ok (.aload_n 0, 1) := by decide +kernel
theorem dX3_lettersOf_12 : decode cX3_lettersOf 12 = .ok (.getfield 9, 3) := by decide +kernel
theorem dX3_lettersOf_15 : decode cX3_lettersOf 15 = .ok (.iload_n 1, 1) := by decide +kernel
theorem dX3_lettersOf_16 : decode cX3_lettersOf 16 = .ok (.iaload, 1) := by decide +kernel
theorem dX3_lettersOf_17 : decode cX3_lettersOf 17 = .ok (.bipush 9, 2) := by decide +kernel
theorem dX3_lettersOf_19 : decode cX3_lettersOf 19 = .ok (.irem, 1) := by decide +kernel
theorem dX3_lettersOf_20 : decode cX3_lettersOf 20 = .ok (.iadd, 1) := by decide +kernel
theorem dX3_lettersOf_21 : decode cX3_lettersOf 21 = .ok (.goto 4, 3) := by decide +kernel
theorem dX3_lettersOf_24 : decode cX3_lettersOf 24 = .ok (.iconst 0, 1) := by decide +kernel
theorem dX3_lettersOf_25 : decode cX3_lettersOf 25 = .ok (.ireturn, 1) := by decide +kernel
theorem dX3_letters_0 : decode cX3_letters 0 = .ok (.iconst 0, 1) := by decide +kernel
theorem dX3_letters_1 : decode cX3_letters 1 = .ok (.istore_n 2, 1) := by decide +kernel
theorem dX3_letters_2 : decode cX3_letters 2 = .ok (.iconst 0, 1) := by decide +kernel
theorem dX3_letters_3 : decode cX3_letters 3 = .ok (.istore_n 3, 1) := by decide +kernel
theorem dX3_letters_4 : decode cX3_letters 4 = .ok (.iload_n 3, 1) := by decide +kernel
theorem dX3_letters_5 : decode cX3_letters 5 = .ok (.iload_n 1, 1) := by decide +kernel
theorem dX3_letters_6 : decode cX3_letters 6 = .ok (.if_icmp .ge 17, 3) := by decide +kernel
theorem dX3_letters_9 : decode cX3_letters 9 = .ok (.iload_n 2, 1) := by decide +kernel
theorem dX3_letters_10 : decode cX3_letters 10 = .ok (.aload_n 0, 1) := by decide +kernel
theorem dX3_letters_11 : decode cX3_letters 11 = .ok (.iload_n 3, 1) := by decide +kernel
theorem dX3_letters_12 : decode cX3_letters 12 = .ok (.invokevirtual 31, 3) := by decide +kernel
theorem dX3_letters_15 : decode cX3_letters 15 = .ok (.iadd, 1) := by decide +kernel
theorem dX3_letters_16 : decode cX3_letters 16 = .ok (.istore_n 2, 1) := by decide +kernel
theorem dX3_letters_17 : decode cX3_letters 17 = .ok (.iinc 3 1, 3) := by decide +kernel
theorem dX3_letters_20 : decode cX3_letters 20 = .ok (.goto (-16), 3) := by decide +kernel
theorem dX3_letters_23 : decode cX3_letters 23 = .ok (.iload_n 2, 1) := by decide +kernel
theorem dX3_letters_24 : decode cX3_letters 24 = .ok (.ireturn, 1) := by decide +kernel
theorem dX3_append_0 : decode cX3_append 0 = .ok (.aload_n 0, 1) := by decide +kernel
theorem dX3_append_1 : decode cX3_append 1 = .ok (.getfield 35, 3) := by decide +kernel
theorem dX3_append_4 : decode cX3_append 4 = .ok (.bipush 12, 2) := by decide +kernel
theorem dX3_append_6 : decode cX3_append 6 = .ok (.if_icmp .ge 31, 3) := by decide +kernel
theorem dX3_append_9 : decode cX3_append 9 = .ok (.aload_n 0, 1) := by decide +kernel
theorem dX3_append_10 : decode cX3_append 10 = .ok (.getfield 9, 3) := by decide +kernel
theorem dX3_append_13 : decode cX3_append 13 = .ok (.aload_n 0, 1) := by decide +kernel
theorem dX3_append_14 : decode cX3_append 14 = .ok (.getfield 35, 3) := by decide +kernel
theorem dX3_append_17 : decode cX3_append 17 = .ok (.iload_n 1, 1) := by decide +kernel
theorem dX3_append_18 : decode cX3_append 18 = .ok (.iastore, 1) := by decide +kernel
theorem dX3_append_19 : decode cX3_append 19 = .ok (.aload_n 0, 1) := by decide +kernel
theorem dX3_append_20 : decode cX3_append 20 = .ok (.dup, 1) := by decide +kernel
theorem dX3_append_21 : decode cX3_append 21 = .ok (.getfield 35, 3) := by decide +kernel
theorem dX3_append_24 : decode cX3_append 24 = .ok (.iconst 1, 1) := by decide +kernel
theorem dX3_append_25 : decode cX3_append 25 = .ok (.iadd, 1) := by decide +kernel
theorem dX3_append_26 : decode cX3_append 26 = .ok (.putfield 35, 3) := by decide +kernel
theorem dX3_append_29 : decode cX3_append 29 = .ok (.aload_n 0, 1) := by decide +kernel
theorem dX3_append_30 : decode cX3_append 30 = .ok (.getfield 15, 3) := by decide +kernel
theorem dX3_append_33 : decode cX3_append 33 = .ok (.iconst (-1), 1) := by decide +kernel
theorem dX3_append_34 : decode cX3_append 34 = .ok (.invokestatic 38, 3) := by decide +kernel
theorem dX3_append_37 : decode cX3_append 37 = .ok (.return_, 1) := by decide +kernel
theorem dX3_appendFrom_0 : decode cX3_appendFrom 0 = .ok (.iconst 0, 1) := by decide +kernel
theorem dX3_appendFrom_1 : decode cX3_appendFrom 1 = .ok (.iload_n 2, 1) := by decide +kernel
theorem dX3_appendFrom_2 : decode cX3_appendFrom 2 = .ok (.invokestatic 44, 3) := by decide +kernel
theorem dX3_appendFrom_5 : decode cX3_appendFrom 5 = .ok (.istore_n 3, 1) := by decide +kernel
theorem dX3_appendFrom_6 : decode cX3_appendFrom 6 = .ok (.iload_n 3, 1) := by decide +kernel
theorem dX3_appendFrom_7 : decode cX3_appendFrom 7 = .ok (.aload_n 1, 1) := by decide +kernel
theorem dX3_appendFrom_8 : decode cX3_appendFrom 8 = .ok (.getfield 35, 3) := by decide +kernel
theorem dX3_appendFrom_11 : decode cX3_appendFrom 11 = .ok (.if_icmp .ge 25, 3) := by decide +kernel
theorem dX3_appendFrom_14 : decode cX3_appendFrom 14 = .ok (.iload_n 3, 1) := by decide +kernel
theorem dX3_appendFrom_15 : decode cX3_appendFrom 15 = .ok (.bipush 12, 2) := by decide +kernel
theorem dX3_appendFrom_17 : decode cX3_appendFrom 17 = .ok (.if_icmp .ge 19, 3) := by decide +kernel
theorem dX3_appendFrom_20 : decode cX3_appendFrom 20 = .ok (.aload_n 0, 1) := by decide +kernel
theorem dX3_appendFrom_21 : decode cX3_appendFrom 21 = .ok (.aload_n 1, 1) := by decide +kernel
theorem dX3_appendFrom_22 : decode cX3_appendFrom 22 = .ok (.getfield 9, 3) := by decide +kernel
theorem dX3_appendFrom_25 : decode cX3_appendFrom 25 = .ok (.iload_n 3, 1) := by decide +kernel
theorem dX3_appendFrom_26 : decode cX3_appendFrom 26 = .ok (.iaload, 1) := by decide +kernel
theorem dX3_appendFrom_27 : decode cX3_appendFrom 27 = .ok (.invokevirtual 50, 3) := by decide +kernel
theorem dX3_appendFrom_30 : decode cX3_appendFrom 30 = .ok (.iinc 3 1, 3) := by decide +kernel
theorem dX3_appendFrom_33 : decode cX3_appendFrom 33 = .ok (.goto (-27), 3) := by decide +kernel
theorem dX3_appendFrom_36 : decode cX3_appendFrom 36 = .ok (.return_, 1) := by decide +kernel
theorem dX3_cutWords_0 : decode cX3_cutWords 0 = .ok (.aload_n 0, 1) := by decide +kernel
theorem dX3_cutWords_1 : decode cX3_cutWords 1 = .ok (.iload_n 1, 1) := by decide +kernel
theorem dX3_cutWords_2 : decode cX3_cutWords 2 = .ok (.putfield 35, 3) := by decide +kernel
theorem dX3_cutWords_5 : decode cX3_cutWords 5 = .ok (.aload_n 0, 1) := by decide +kernel
theorem dX3_cutWords_6 : decode cX3_cutWords 6 = .ok (.getfield 15, 3) := by decide +kernel
theorem dX3_cutWords_9 : decode cX3_cutWords 9 = .ok (.iconst (-1), 1) := by decide +kernel
theorem dX3_cutWords_10 : decode cX3_cutWords 10 = .ok (.invokestatic 38, 3) := by decide +kernel
theorem dX3_cutWords_13 : decode cX3_cutWords 13 = .ok (.return_, 1) := by decide +kernel
theorem dX3_moveTo_0 : decode cX3_moveTo 0 = .ok (.iload_n 1, 1) := by decide +kernel
theorem dX3_moveTo_1 : decode cX3_moveTo 1 = .ok (.aload_n 0, 1) := by decide +kernel
theorem dX3_moveTo_2 : decode cX3_moveTo 2 = .ok (.getfield 28, 3) := by decide +kernel
theorem dX3_moveTo_5 : decode cX3_moveTo 5 = .ok (.if_icmp .ne 7, 3) := by decide +kernel
theorem dX3_moveTo_8 : decode cX3_moveTo 8 = .ok (.iconst 0, 1) := by decide +kernel
theorem dX3_moveTo_9 : decode cX3_moveTo 9 = .ok (.goto 4, 3) := by decide +kernel
theorem dX3_moveTo_12 : decode cX3_moveTo 12 = .ok (.iconst 1, 1) := by decide +kernel
theorem dX3_moveTo_13 : decode cX3_moveTo 13 = .ok (.iload_n 2, 1) := by decide +kernel
theorem dX3_moveTo_14 : decode cX3_moveTo 14 = .ok (.aload_n 0, 1) := by decide +kernel
theorem dX3_moveTo_15 : decode cX3_moveTo 15 = .ok (.getfield 25, 3) := by decide +kernel
theorem dX3_moveTo_18 : decode cX3_moveTo 18 = .ok (.if_icmp .ne 7, 3) := by decide +kernel
theorem dX3_moveTo_21 : decode cX3_moveTo 21 = .ok (.iconst 0, 1) := by decide +kernel
theorem dX3_moveTo_22 : decode cX3_moveTo 22 = .ok (.goto 4, 3) := by decide +kernel
theorem dX3_moveTo_25 : decode cX3_moveTo 25 = .ok (.iconst 1, 1) := by decide +kernel
theorem dX3_moveTo_26 : decode cX3_moveTo 26 = .ok (.iadd, 1) := by decide +kernel
theorem dX3_moveTo_27 : decode cX3_moveTo 27 = .ok (.istore_n 3, 1) := by decide +kernel
theorem dX3_moveTo_28 : decode cX3_moveTo 28 = .ok (.aload_n 0, 1) := by decide +kernel
theorem dX3_moveTo_29 : decode cX3_moveTo 29 = .ok (.iload_n 1, 1) := by decide +kernel
theorem dX3_moveTo_30 : decode cX3_moveTo 30 = .ok (.putfield 28, 3) := by decide +kernel
theorem dX3_moveTo_33 : decode cX3_moveTo 33 = .ok (.aload_n 0, 1) := by decide +kernel
theorem dX3_moveTo_34 : decode cX3_moveTo 34 = .ok (.iload_n 2, 1) := by decide +kernel
theorem dX3_moveTo_35 : decode cX3_moveTo 35 = .ok (.putfield 25, 3) := by decide +kernel
theorem dX3_moveTo_38 : decode cX3_moveTo 38 = .ok (.iload_n 3, 1) := by decide +kernel
theorem dX3_moveTo_39 : decode cX3_moveTo 39 = .ok (.ireturn, 1) := by decide +kernel
theorem dX3_isThereAt_0 : decode cX3_isThereAt 0 = .ok (.aload_n 0, 1) := by decide +kernel
theorem dX3_isThereAt_1 : decode cX3_isThereAt 1 = .ok (.getfield 28, 3) := by decide +kernel
theorem dX3_isThereAt_4 : decode cX3_isThereAt 4 = .ok (.iload_n 1, 1) := by decide +kernel
theorem dX3_isThereAt_5 : decode cX3_isThereAt 5 = .ok (.if_icmp .gt 15, 3) := by decide +kernel
theorem dX3_isThereAt_8 : decode cX3_isThereAt 8 = .ok (.aload_n 0, 1) := by decide +kernel
theorem dX3_isThereAt_9 : decode cX3_isThereAt 9 = .ok (.getfield 25, 3) := by decide +kernel
theorem dX3_isThereAt_12 : decode cX3_isThereAt 12 = .ok (.iload_n 1, 1) := by decide +kernel
theorem dX3_isThereAt_13 : decode cX3_isThereAt 13 = .ok (.if_icmp .le 7, 3) := by decide +kernel
theorem dX3_isThereAt_16 : decode cX3_isThereAt 16 = .ok (.iconst 1, 1) := by decide +kernel
theorem dX3_isThereAt_17 : decode cX3_isThereAt 17 = .ok (.goto 4, 3) := by decide +kernel
theorem dX3_isThereAt_20 : decode cX3_isThereAt 20 = .ok (.iconst 0, 1) := by decide +kernel
theorem dX3_isThereAt_21 : decode cX3_isThereAt 21 = .ok (.ireturn, 1) := by decide +kernel
theorem dX3_isOnRow_0 : decode cX3_isOnRow 0 = .ok (.aload_n 0, 1) := by decide +kernel
theorem dX3_isOnRow_1 : decode cX3_isOnRow 1 = .ok (.getfield 21, 3) := by decide +kernel
theorem dX3_isOnRow_4 : decode cX3_isOnRow 4 = .ok (.iconst (-1), 1) := by decide +kernel
theorem dX3_isOnRow_5 : decode cX3_isOnRow 5 = .ok (.if_icmp .eq 28, 3) := by decide +kernel
theorem dX3_isOnRow_8 : decode cX3_isOnRow 8 = .ok (.aload_n 0, 1) := by decide +kernel
theorem dX3_isOnRow_9 : decode cX3_isOnRow 9 = .ok (.getfield 21, 3) := by decide +kernel
theorem dX3_isOnRow_12 : decode cX3_isOnRow 12 = .ok (.iload_n 1, 1) := by decide +kernel
theorem dX3_isOnRow_13 : decode cX3_isOnRow 13 = .ok (.if_icmp .gt 20, 3) := by decide +kernel
theorem dX3_isOnRow_16 : decode cX3_isOnRow 16 = .ok (.iload_n 1, 1) := by decide +kernel
theorem dX3_isOnRow_17 : decode cX3_isOnRow 17 = .ok (.aload_n 0, 1) := by decide +kernel
theorem dX3_isOnRow_18 : decode cX3_isOnRow 18 = .ok (.getfield 21, 3) := by decide +kernel
theorem dX3_isOnRow_21 : decode cX3_isOnRow 21 = .ok (.aload_n 0, 1) := by decide +kernel
theorem dX3_isOnRow_22 : decode cX3_isOnRow 22 = .ok (.getfield 54, 3) := by decide +kernel
theorem dX3_isOnRow_25 : decode cX3_isOnRow 25 = .ok (.iadd, 1) := by decide +kernel
theorem dX3_isOnRow_26 : decode cX3_isOnRow 26 = .ok (.if_icmp .ge 7, 3) := by decide +kernel
theorem dX3_isOnRow_29 : decode cX3_isOnRow 29 = .ok (.iconst 1, 1) := by decide +kernel
theorem dX3_isOnRow_30 : decode cX3_isOnRow 30 = .ok (.goto 4, 3) := by decide +kernel
theorem dX3_isOnRow_33 : decode cX3_isOnRow 33 = .ok (.iconst 0, 1) := by decide +kernel
theorem dX3_isOnRow_34 : decode cX3_isOnRow 34 = .ok (.ireturn, 1) := by decide +kernel
theorem dX4_init_0 : decode cX4_init 0 = .ok (.aload_n 0, 1) := by decide +kernel
theorem dX4_init_1 : decode cX4_init 1 = .ok (.invokespecial 3, 3) := by decide +kernel
theorem dX4_init_4 : decode cX4_init 4 = .ok (.aload_n 0, 1) := by decide +kernel
theorem dX4_init_5 : decode cX4_init 5 = .ok (.bipush 20, 2) := by decide +kernel
theorem dX4_init_7 : decode cX4_init 7 = .ok (.newarray .int, 2) := by decide +kernel
theorem dX4_init_9 : decode cX4_init 9 = .ok (.putfield 9, 3) := by decide +kernel
theorem dX4_init_12 : decode cX4_init 12 = .ok (.return_, 1) := by decide +kernel
theorem dX4_add_0 : decode cX4_add 0 = .ok (.aload_n 0, 1) := by decide +kernel
theorem dX4_add_1 : decode cX4_add 1 = .ok (.getfield 15, 3) := by decide +kernel
theorem dX4_add_4 : decode cX4_add 4 = .ok (.bipush 20, 2) := by decide +kernel
theorem dX4_add_6 : decode cX4_add 6 = .ok (.if_icmp .ge 23, 3) := by decide +kernel
theorem dX4_add_9 : decode cX4_add 9 = .ok (.aload_n 0, 1) := by decide +kernel
theorem dX4_add_10 : decode cX4_add 10 = .ok (.getfield 9, 3) := by decide +kernel
theorem dX4_add_13 : decode cX4_add 13 = .ok (.aload_n 0, 1) := by decide +kernel
theorem dX4_add_14 : decode cX4_add 14 = .ok (.getfield 15, 3) := by decide +kernel
theorem dX4_add_17 : decode cX4_add 17 = .ok (.iload_n 1, 1) := by decide +kernel
theorem dX4_add_18 : decode cX4_add 18 = .ok (.iastore, 1) := by decide +kernel
theorem dX4_add_19 : decode cX4_add 19 = .ok (.aload_n 0, 1) := by decide +kernel
theorem dX4_add_20 : decode cX4_add 20 = .ok (.dup, 1) := by decide +kernel
theorem dX4_add_21 : decode cX4_add 21 = .ok (.getfield 15, 3) := by decide +kernel
theorem dX4_add_24 : decode cX4_add 24 = .ok (.iconst 1, 1) := by decide +kernel
theorem dX4_add_25 : decode cX4_add 25 = .ok (.iadd, 1) := by decide +kernel
theorem dX4_add_26 : decode cX4_add 26 = .ok (.putfield 15, 3) := by decide +kernel
theorem dX4_add_29 : decode cX4_add 29 = .ok (.return_, 1) := by decide +kernel
theorem dX4_nearest_0 : decode cX4_nearest 0 = .ok (.iconst (-1), 1) := by decide +kernel
theorem dX4_nearest_1 : decode cX4_nearest 1 = .ok (.istore_n 2, 1) := by decide +kernel
theorem dX4_nearest_2 : decode cX4_nearest 2 = .ok (.iconst 0, 1) := by decide +kernel
theorem dX4_nearest_3 : decode cX4_nearest 3 = .ok (.istore_n 3, 1) := by decide +kernel
theorem dX4_nearest_4 : decode cX4_nearest 4 = .ok (.iload_n 3, 1) := by decide +kernel
theorem dX4_nearest_5 : decode cX4_nearest 5 = .ok (.aload_n 0, 1) := by decide +kernel
theorem dX4_nearest_6 : decode cX4_nearest 6 = .ok (.getfield 15, 3) := by decide +kernel
theorem dX4_nearest_9 : decode cX4_nearest 9 = .ok (.if_icmp .ge 72, 3) := by decide +kernel
theorem dX4_nearest_12 : decode cX4_nearest 12 = .ok (.iload_n 3, 1) := by decide +kernel
theorem dX4_nearest_13 : decode cX4_nearest 13 = .ok (.bipush 20, 2) := by decide +kernel
theorem dX4_nearest_15 : decode cX4_nearest 15 = .ok (.if_icmp .ge 66, 3) := by decide +kernel
theorem dX4_nearest_18 : decode cX4_nearest 18 = .ok (.aload_n 0, 1) := by decide +kernel
theorem dX4_nearest_19 : decode cX4_nearest 19 = .ok (.getfield 9, 3) := by decide +kernel
theorem dX4_nearest_22 : decode cX4_nearest 22 = .ok (.iload_n 3, 1) := by decide +kernel
theorem dX4_nearest_23 : decode cX4_nearest 23 = .ok (.iaload, 1) := by decide +kernel
theorem dX4_nearest_24 : decode cX4_nearest 24 = .ok (.iload_n 1, 1) := by decide +kernel
theorem dX4_nearest_25 : decode cX4_nearest 25 = .ok (.isub, 1) := by decide +kernel
theorem dX4_nearest_26 : decode cX4_nearest 26 = .ok (.invokestatic 19, 3) := by decide +kernel
theorem dX4_nearest_29 : decode cX4_nearest 29 = .ok (.istore 4, 2) := by decide +kernel
theorem dX4_nearest_31 : decode cX4_nearest 31 = .ok (.iload_n 2, 1) := by decide +kernel
theorem dX4_nearest_32 : decode cX4_nearest 32 = .ok (.iload_n 1, 1) := by decide +kernel
theorem dX4_nearest_33 : decode cX4_nearest 33 = .ok (.isub, 1) := by decide +kernel
theorem dX4_nearest_34 : decode cX4_nearest 34 = .ok (.invokestatic 19, 3) := by decide +kernel
theorem dX4_nearest_37 : decode cX4_nearest 37 = .ok (.istore 5, 2) := by decide +kernel
theorem dX4_nearest_39 : decode cX4_nearest 39 = .ok (.iload_n 2, 1) := by decide +kernel
theorem dX4_nearest_40 : decode cX4_nearest 40 = .ok (.iconst (-1), 1) := by decide +kernel
theorem dX4_nearest_41 : decode cX4_nearest 41 = .ok (.if_icmp .eq 27, 3) := by decide +kernel
theorem dX4_nearest_44 : decode cX4_nearest 44 = .ok (.iload 4, 2) := by decide +kernel
theorem dX4_nearest_46 : decode cX4_nearest 46 = .ok (.iload 5, 2) := by decide +kernel
theorem dX4_nearest_48 : decode cX4_nearest 48 = .ok (.if_icmp .lt 20, 3) := by decide +kernel
theorem dX4_nearest_51 : decode cX4_nearest 51 = .ok (.iload 4, 2) := by decide +kernel
theorem dX4_nearest_53 : decode cX4_nearest 53 = .ok (.iload 5, 2) := by decide +kernel
theorem dX4_nearest_55 : decode cX4_nearest 55 = .ok (.if_icmp .ne 20, 3) := by decide +kernel
theorem dX4_nearest_58 : decode cX4_nearest 58 = .ok (.aload_n 0, 1) := by decide +kernel
theorem dX4_nearest_59 : decode cX4_nearest 59 = .ok (.getfield 9, 3) := by decide +kernel
theorem dX4_nearest_62 : decode cX4_nearest 62 = .ok (.iload_n 3, 1) := by decide +kernel
theorem dX4_nearest_63 : decode cX4_nearest 63 = .ok (.iaload, 1) := by decide +kernel
theorem dX4_nearest_64 : decode cX4_nearest 64 = .ok (.iload_n 2, 1) := by decide +kernel
theorem dX4_nearest_65 : decode cX4_nearest 65 = .ok (.if_icmp .ge 10, 3) := by decide +kernel
theorem dX4_nearest_68 : decode cX4_nearest 68 = .ok (.aload_n 0, 1) := by decide +kernel
theorem dX4_nearest_69 : decode cX4_nearest 69 = .ok (.getfield 9, 3) := by decide +kernel
theorem dX4_nearest_72 : decode cX4_nearest 72 = .ok (.iload_n 3, 1) := by decide +kernel
theorem dX4_nearest_73 : decode cX4_nearest 73 = .ok (.iaload, 1) := by decide +kernel
theorem dX4_nearest_74 : decode cX4_nearest 74 = .ok (.istore_n 2, 1) := by decide +kernel
theorem dX4_nearest_75 : decode cX4_nearest 75 = .ok (.iinc 3 1, 3) := by decide +kernel
theorem dX4_nearest_78 : decode cX4_nearest 78 = .ok (.goto (-74), 3) := by decide +kernel
theorem dX4_nearest_81 : decode cX4_nearest 81 = .ok (.iload_n 2, 1) := by decide +kernel
theorem dX4_nearest_82 : decode cX4_nearest 82 = .ok (.ireturn, 1) := by decide +kernel
theorem dX4_snapped_0 : decode cX4_snapped 0 = .ok (.aload_n 0, 1) := by decide +kernel
theorem dX4_snapped_1 : decode cX4_snapped 1 = .ok (.iload_n 1, 1) := by decide +kernel
theorem dX4_snapped_2 : decode cX4_snapped 2 = .ok (.invokevirtual 25, 3) := by decide +kernel
theorem dX4_snapped_5 : decode cX4_snapped 5 = .ok (.istore_n 3, 1) := by decide +kernel
theorem dX4_snapped_6 : decode cX4_snapped 6 = .ok (.iload_n 3, 1) := by decide +kernel
theorem dX4_snapped_7 : decode cX4_snapped 7 = .ok (.iconst (-1), 1) := by decide +kernel
theorem dX4_snapped_8 : decode cX4_snapped 8 = .ok (.if_icmp .eq 17, 3) := by decide +kernel
theorem dX4_snapped_11 : decode cX4_snapped 11 = .ok (.iload_n 3, 1) := by decide +kernel
theorem dX4_snapped_12 : decode cX4_snapped 12 = .ok (.iload_n 1, 1) := by decide +kernel
theorem dX4_snapped_13 : decode cX4_snapped 13 = .ok (.isub, 1) := by decide +kernel
theorem dX4_snapped_14 : decode cX4_snapped 14 = .ok (.invokestatic 19, 3) := by decide +kernel
theorem dX4_snapped_17 : decode cX4_snapped 17 = .ok (.iload_n 2, 1) := by decide +kernel
theorem dX4_snapped_18 : decode cX4_snapped 18 = .ok (.if_icmp .gt 7, 3) := by decide +kernel
theorem dX4_snapped_21 : decode cX4_snapped 21 = .ok (.iload_n 3, 1) := by decide +kernel
theorem dX4_snapped_22 : decode cX4_snapped 22 = .ok (.goto 4, 3) := by decide +kernel
theorem dX4_snapped_25 : decode cX4_snapped 25 = .ok (.iload_n 1, 1) := by decide +kernel
theorem dX4_snapped_26 : decode cX4_snapped 26 = .ok (.ireturn, 1) := by decide +kernel
theorem dX5_init_0 : decode cX5_init 0 = .ok (.aload_n 0, 1) := by decide +kernel
theorem dX5_init_1 : decode cX5_init 1 = .ok (.invokespecial 3, 3) := by decide +kernel
theorem dX5_init_4 : decode cX5_init 4 = .ok (.aload_n 0, 1) := by decide +kernel
theorem dX5_init_5 : decode cX5_init 5 = .ok (.bipush 30, 2) := by decide +kernel
theorem dX5_init_7 : decode cX5_init 7 = .ok (.newarray .int, 2) := by decide +kernel
theorem dX5_init_9 : decode cX5_init 9 = .ok (.putfield 9, 3) := by decide +kernel
theorem dX5_init_12 : decode cX5_init 12 = .ok (.aload_n 0, 1) := by decide +kernel
theorem dX5_init_13 : decode cX5_init 13 = .ok (.bipush 30, 2) := by decide +kernel
theorem dX5_init_15 : decode cX5_init 15 = .ok (.newarray .int, 2) := by decide +kernel
theorem dX5_init_17 : decode cX5_init 17 = .ok (.putfield 15, 3) := by decide +kernel
theorem dX5_init_20 : decode cX5_init 20 = .ok (.aload_n 0, 1) := by decide +kernel
theorem dX5_init_21 : decode cX5_init 21 = .ok (.bipush 30, 2) := by decide +kernel
theorem dX5_init_23 : decode cX5_init 23 = .ok (.newarray .int, 2) := by decide +kernel
theorem dX5_init_25 : decode cX5_init 25 = .ok (.putfield 18, 3) := by decide +kernel
theorem dX5_init_28 : decode cX5_init 28 = .ok (.return_, 1) := by decide +kernel
theorem dX5_add_0 : decode cX5_add 0 = .ok (.aload_n 0, 1) := by decide +kernel
theorem dX5_add_1 : decode cX5_add 1 = .ok (.getfield 21, 3) := by decide +kernel
theorem dX5_add_4 : decode cX5_add 4 = .ok (.bipush 30, 2) := by decide +kernel
theorem dX5_add_6 : decode cX5_add 6 = .ok (.if_icmp .ge 33, 3) := by decide +kernel
theorem dX5_add_9 : decode cX5_add 9 = .ok (.aload_n 0, 1) := by decide +kernel
theorem dX5_add_10 : decode cX5_add 10 = .ok (.getfield 9, 3) := by decide +kernel
theorem dX5_add_13 : decode cX5_add 13 = .ok (.aload_n 0, 1) := by decide +kernel
theorem dX5_add_14 : decode cX5_add 14 = .ok (.getfield 21, 3) := by decide +kernel
theorem dX5_add_17 : decode cX5_add 17 = .ok (.iload_n 1, 1) := by decide +kernel
theorem dX5_add_18 : decode cX5_add 18 = .ok (.iastore, 1) := by decide +kernel
theorem dX5_add_19 : decode cX5_add 19 = .ok (.aload_n 0, 1) := by decide +kernel
theorem dX5_add_20 : decode cX5_add 20 = .ok (.getfield 15, 3) := by decide +kernel
theorem dX5_add_23 : decode cX5_add 23 = .ok (.aload_n 0, 1) := by decide +kernel
theorem dX5_add_24 : decode cX5_add 24 = .ok (.getfield 21, 3) := by decide +kernel
theorem dX5_add_27 : decode cX5_add 27 = .ok (.iload_n 2, 1) := by decide +kernel
theorem dX5_add_28 : decode cX5_add 28 = .ok (.iastore, 1) := by decide +kernel
theorem dX5_add_29 : decode cX5_add 29 = .ok (.aload_n 0, 1) := by decide +kernel
theorem dX5_add_30 : decode cX5_add 30 = .ok (.dup, 1) := by decide +kernel
theorem dX5_add_31 : decode cX5_add 31 = .ok (.getfield 21, 3) := by decide +kernel
theorem dX5_add_34 : decode cX5_add 34 = .ok (.iconst 1, 1) := by decide +kernel
theorem dX5_add_35 : decode cX5_add 35 = .ok (.iadd, 1) := by decide +kernel
theorem dX5_add_36 : decode cX5_add 36 = .ok (.putfield 21, 3) := by decide +kernel
theorem dX5_add_39 : decode cX5_add 39 = .ok (.return_, 1) := by decide +kernel
theorem dX5_setTimes_0 : decode cX5_setTimes 0 = .ok (.aload_n 0, 1) := by decide +kernel
theorem dX5_setTimes_1 : decode cX5_setTimes 1 = .ok (.aload_n 1, 1) := by decide +kernel
theorem dX5_setTimes_2 : decode cX5_setTimes 2 = .ok (.getfield 25, 3) := by decide +kernel
theorem dX5_setTimes_5 : decode cX5_setTimes 5 = .ok (.bipush 30, 2) := by decide +kernel
theorem dX5_setTimes_7 : decode cX5_setTimes 7 = .ok (.isub, 1) := by decide +kernel
theorem dX5_setTimes_8 : decode cX5_setTimes 8 = .ok (.aload_n 1, 1) := by decide +kernel
theorem dX5_setTimes_9 : decode cX5_setTimes 9 = .ok (.getfield 30, 3) := by decide +kernel
theorem dX5_setTimes_12 : decode cX5_setTimes 12 = .ok (.bipush 30, 2) := by decide +kernel
theorem dX5_setTimes_14 : decode cX5_setTimes 14 = .ok (.iadd, 1) := by decide +kernel
theorem dX5_setTimes_15 : decode cX5_setTimes 15 = .ok (.invokevirtual 33, 3) := by decide +kernel
theorem dX5_setTimes_18 : decode cX5_setTimes 18 = .ok (.iconst 0, 1) := by decide +kernel
theorem dX5_setTimes_19 : decode cX5_setTimes 19 = .ok (.istore_n 3, 1) := by decide +kernel
theorem dX5_setTimes_20 : decode cX5_setTimes 20 = .ok (.iload_n 3, 1) := by decide +kernel
theorem dX5_setTimes_21 : decode cX5_setTimes 21 = .ok (.aload_n 1, 1) := by decide +kernel
theorem dX5_setTimes_22 : decode cX5_setTimes 22 = .ok (.getfield 37, 3) := by decide +kernel
theorem dX5_setTimes_25 : decode cX5_setTimes 25 = .ok (.if_icmp .ge 78, 3) := by decide +kernel
theorem dX5_setTimes_28 : decode cX5_setTimes 28 = .ok (.iload_n 3, 1) := by decide +kernel
theorem dX5_setTimes_29 : decode cX5_setTimes 29 = .ok (.bipush 12, 2) := by decide +kernel
theorem dX5_setTimes_31 : decode cX5_setTimes 31 = .ok (.if_icmp .ge 72, 3) := by decide +kernel
theorem dX5_setTimes_34 : decode cX5_setTimes 34 = .ok (.iconst 0, 1) := by decide +kernel
theorem dX5_setTimes_35 : decode cX5_setTimes 35 = .ok (.istore 4, 2) := by decide +kernel
theorem dX5_setTimes_37 : decode cX5_setTimes 37 = .ok (.iload 4, 2) := by decide +kernel
theorem dX5_setTimes_39 : decode cX5_setTimes 39 = .ok (.aload_n 0, 1) := by decide +kernel
theorem dX5_setTimes_40 : decode cX5_setTimes 40 = .ok (.getfield 40, 3) := by decide +kernel
theorem dX5_setTimes_43 : decode cX5_setTimes 43 = .ok (.if_icmp .ge 54, 3) := by decide +kernel
theorem dX5_setTimes_46 : decode cX5_setTimes 46 = .ok (.aload_n 1, 1) := by decide +kernel
theorem dX5_setTimes_47 : decode cX5_setTimes 47 = .ok (.getfield 43, 3) := by decide +kernel
theorem dX5_setTimes_50 : decode cX5_setTimes 50 = .ok (.iload_n 3, 1) := by decide +kernel
theorem dX5_setTimes_51 : decode cX5_setTimes 51 = .ok (.iaload, 1) := by decide +kernel
theorem dX5_setTimes_52 : decode cX5_setTimes 52 = .ok (.aload_n 0, 1) := by decide +kernel
theorem dX5_setTimes_53 : decode cX5_setTimes 53 = .ok (.getfield 15, 3) := by decide +kernel
theorem dX5_setTimes_56 : decode cX5_setTimes 56 = .ok (.aload_n 0, 1) := by decide +kernel
theorem dX5_setTimes_57 : decode cX5_setTimes 57 = .ok (.getfield 18, 3) := by decide +kernel
theorem dX5_setTimes_60 : decode cX5_setTimes 60 = .ok (.iload 4, 2) := by decide +kernel
theorem dX5_setTimes_62 : decode cX5_setTimes 62 = .ok (.iaload, 1) := by decide +kernel
theorem dX5_setTimes_63 : decode cX5_setTimes 63 = .ok (.iaload, 1) := by decide +kernel
theorem dX5_setTimes_64 : decode cX5_setTimes 64 = .ok (.if_icmp .ne 7, 3) := by decide +kernel
theorem dX5_setTimes_67 : decode cX5_setTimes 67 = .ok (.iconst 1, 1) := by decide +kernel
theorem dX5_setTimes_68 : decode cX5_setTimes 68 = .ok (.goto 4, 3) := by decide +kernel
theorem dX5_setTimes_71 : decode cX5_setTimes 71 = .ok (.iconst 0, 1) := by decide +kernel
theorem dX5_setTimes_72 : decode cX5_setTimes 72 = .ok (.istore 5, 2) := by decide +kernel
theorem dX5_setTimes_74 : decode cX5_setTimes 74 = .ok (.aload_n 2, 1) := by decide +kernel
theorem dX5_setTimes_75 : decode cX5_setTimes 75 = .ok (.iload_n 3, 1) := by decide +kernel
theorem dX5_setTimes_76 : decode cX5_setTimes 76 = .ok (.iload 4, 2) := by decide +kernel
theorem dX5_setTimes_78 : decode cX5_setTimes 78 = .ok (.iload 5, 2) := by decide +kernel
theorem dX5_setTimes_80 : decode cX5_setTimes 80 = .ok (.ifCond .eq 7, 3) := by decide +kernel
theorem dX5_setTimes_83 : decode cX5_setTimes 83 = .ok (.iconst 0, 1) := by decide +kernel
theorem dX5_setTimes_84 : decode cX5_setTimes 84 = .ok (.goto 4, 3) := by decide +kernel
theorem dX5_setTimes_87 : decode cX5_setTimes 87 = .ok (.iconst 3, 1) := by decide +kernel
theorem dX5_setTimes_88 : decode cX5_setTimes 88 = .ok (.invokevirtual 44, 3) := by decide +kernel
theorem dX5_setTimes_91 : decode cX5_setTimes 91 = .ok (.iinc 4 1, 3) := by decide +kernel
theorem dX5_setTimes_94 : decode cX5_setTimes 94 = .ok (.goto (-57), 3) := by decide +kernel
theorem dX5_setTimes_97 : decode cX5_setTimes 97 = .ok (.iinc 3 1, 3) := by decide +kernel
theorem dX5_setTimes_100 : decode cX5_setTimes 100 = .ok (.goto (-80), 3) := by decide +kernel
theorem dX5_setTimes_103 : decode cX5_setTimes 103 = .ok (.aload_n 2, 1) := by decide +kernel
theorem dX5_setTimes_104 : decode cX5_setTimes 104 = .ok (.aload_n 1, 1) := by decide +kernel
theorem dX5_setTimes_105 : decode cX5_setTimes 105 = .ok (.getfield 37, 3) := by decide +kernel
theorem dX5_setTimes_108 : decode cX5_setTimes 108 = .ok (.aload_n 0, 1) := by decide +kernel
theorem dX5_setTimes_109 : decode cX5_setTimes 109 = .ok (.getfield 40, 3) := by decide +kernel
theorem dX5_setTimes_112 : decode cX5_setTimes 112 = .ok (.iconst 2, 1) := by decide +kernel
theorem dX5_setTimes_113 : decode cX5_setTimes 113 = .ok (.iconst 1, 1) := by decide +kernel
theorem dX5_setTimes_114 : decode cX5_setTimes 114 = .ok (.invokevirtual 50, 3) := by decide +kernel
theorem dX5_setTimes_117 : decode cX5_setTimes 117 = .ok (.istore_n 3, 1) := by decide +kernel
theorem dX5_setTimes_118 : decode cX5_setTimes 118 = .ok (.iconst 0, 1) := by decide +kernel
theorem dX5_setTimes_119 : decode cX5_setTimes 119 = .ok (.istore 4, 2) := by decide +kernel
theorem dX5_setTimes_121 : decode cX5_setTimes 121 = .ok (.iload 4, 2) := by decide +kernel
theorem dX5_setTimes_123 : decode cX5_setTimes 123 = .ok (.aload_n 1, 1) := by decide +kernel
theorem dX5_setTimes_124 : decode cX5_setTimes 124 = .ok (.getfield 37, 3) := by decide +kernel
theorem dX5_setTimes_127 : decode cX5_setTimes 127 = .ok (.if_icmp .ge 62, 3) := by decide +kernel
theorem dX5_setTimes_130 : decode cX5_setTimes 130 = .ok (.iload 4, 2) := by decide +kernel
theorem dX5_setTimes_132 : decode cX5_setTimes 132 = .ok (.bipush 12, 2) := by decide +kernel
theorem dX5_setTimes_134 : decode cX5_setTimes 134 = .ok (.if_icmp .ge 55, 3) := by decide +kernel
theorem dX5_setTimes_137 : decode cX5_setTimes 137 = .ok (.aload_n 2, 1) := by decide +kernel
theorem dX5_setTimes_138 : decode cX5_setTimes 138 = .ok (.iload 4, 2) := by decide +kernel
theorem dX5_setTimes_140 : decode cX5_setTimes 140 = .ok (.invokevirtual 54, 3) := by decide +kernel
theorem dX5_setTimes_143 : decode cX5_setTimes 143 = .ok (.istore 5, 2) := by decide +kernel
theorem dX5_setTimes_145 : decode cX5_setTimes 145 = .ok (.aload_n 1, 1) := by decide +kernel
theorem dX5_setTimes_146 : decode cX5_setTimes 146 = .ok (.getfield 58, 3) := by decide +kernel
theorem dX5_setTimes_149 : decode cX5_setTimes 149 = .ok (.iload 4, 2) := by decide +kernel
theorem dX5_setTimes_151 : decode cX5_setTimes 151 = .ok (.iload 5, 2) := by decide +kernel
theorem dX5_setTimes_153 : decode cX5_setTimes 153 = .ok (.iconst 0, 1) := by decide +kernel
theorem dX5_setTimes_154 : decode cX5_setTimes 154 = .ok (.aload_n 0, 1) := by decide +kernel
theorem dX5_setTimes_155 : decode cX5_setTimes 155 = .ok (.getfield 40, 3) := by decide +kernel
theorem dX5_setTimes_158 : decode cX5_setTimes 158 = .ok (.iconst 1, 1) := by decide +kernel
theorem dX5_setTimes_159 : decode cX5_setTimes 159 = .ok (.isub, 1) := by decide +kernel
theorem dX5_setTimes_160 : decode cX5_setTimes 160 = .ok (.invokestatic 61, 3) := by decide +kernel
theorem dX5_setTimes_163 : decode cX5_setTimes 163 = .ok (.ifCond .eq 18, 3) := by decide +kernel
theorem dX5_setTimes_166 : decode cX5_setTimes 166 = .ok (.aload_n 0, 1) := by decide +kernel
theorem dX5_setTimes_167 : decode cX5_setTimes 167 = .ok (.getfield 9, 3) := by decide +kernel
theorem dX5_setTimes_170 : decode cX5_setTimes 170 = .ok (.aload_n 0, 1) := by decide +kernel
theorem dX5_setTimes_171 : decode cX5_setTimes 171 = .ok (.getfield 18, 3) := by decide +kernel
theorem dX5_setTimes_174 : decode cX5_setTimes 174 = .ok (.iload 5, 2) := by decide +kernel
theorem dX5_setTimes_176 : decode cX5_setTimes 176 = .ok (.iaload, 1) := by decide +kernel
theorem dX5_setTimes_177 : decode cX5_setTimes 177 = .ok (.iaload, 1) := by decide +kernel
theorem dX5_setTimes_178 : decode cX5_setTimes 178 = .ok (.goto 4, 3) := by decide +kernel
theorem dX5_setTimes_181 : decode cX5_setTimes 181 = .ok (.iconst (-1), 1) := by decide +kernel
theorem dX5_setTimes_182 : decode cX5_setTimes 182 = .ok (.iastore, 1) := by decide +kernel
theorem dX5_setTimes_183 : decode cX5_setTimes 183 = .ok (.iinc 4 1, 3) := by decide +kernel
theorem dX5_setTimes_186 : decode cX5_setTimes 186 = .ok (.goto (-65), 3) := by decide +kernel
theorem dX5_setTimes_189 : decode cX5_setTimes 189 = .ok (.iload_n 3, 1) := by decide +kernel
theorem dX5_setTimes_190 : decode cX5_setTimes 190 = .ok (.ireturn, 1) := by decide +kernel
theorem dX5_gatherNear_0 : decode cX5_gatherNear 0 = .ok (.aload_n 0, 1) := by decide +kernel
theorem dX5_gatherNear_1 : decode cX5_gatherNear 1 = .ok (.iconst 0, 1) := by decide +kernel
theorem dX5_gatherNear_2 : decode cX5_gatherNear 2 = .ok (.putfield 40, 3) := by decide +kernel
theorem dX5_gatherNear_5 : decode cX5_gatherNear 5 = .ok (.iconst 0, 1) := by decide +kernel
theorem dX5_gatherNear_6 : decode cX5_gatherNear 6 = .ok (.istore_n 3, 1) := by decide +kernel
theorem dX5_gatherNear_7 : decode cX5_gatherNear 7 = .ok (.iload_n 3, 1) := by decide +kernel
theorem dX5_gatherNear_8 : decode cX5_gatherNear 8 = .ok (.aload_n 0, 1) := by decide +kernel
theorem dX5_gatherNear_9 : decode cX5_gatherNear 9 = .ok (.getfield 21, 3) := by decide +kernel
theorem dX5_gatherNear_12 : decode cX5_gatherNear 12 = .ok (.if_icmp .ge 40, 3) := by decide +kernel
theorem dX5_gatherNear_15 : decode cX5_gatherNear 15 = .ok (.iload_n 3, 1) := by decide +kernel
theorem dX5_gatherNear_16 : decode cX5_gatherNear 16 = .ok (.bipush 30, 2) := by decide +kernel
theorem dX5_gatherNear_18 : decode cX5_gatherNear 18 = .ok (.if_icmp .ge 34, 3) := by decide +kernel
theorem dX5_gatherNear_21 : decode cX5_gatherNear 21 = .ok (.aload_n 0, 1) := by decide +kernel
theorem dX5_gatherNear_22 : decode cX5_gatherNear 22 = .ok (.getfield 9, 3) := by decide +kernel
theorem dX5_gatherNear_25 : decode cX5_gatherNear 25 = .ok (.iload_n 3, 1) := by decide +kernel
theorem dX5_gatherNear_26 : decode cX5_gatherNear 26 = .ok (.iaload, 1) := by decide +kernel
theorem dX5_gatherNear_27 : decode cX5_gatherNear 27 = .ok (.iload_n 1, 1) := by decide +kernel
theorem dX5_gatherNear_28 : decode cX5_gatherNear 28 = .ok (.if_icmp .lt 18, 3) := by decide +kernel
theorem dX5_gatherNear_31 : decode cX5_gatherNear 31 = .ok (.aload_n 0, 1) := by decide +kernel
theorem dX5_gatherNear_32 : decode cX5_gatherNear 32 = .ok (.getfield 9, 3) := by decide +kernel
theorem dX5_gatherNear_35 : decode cX5_gatherNear 35 = .ok (.iload_n 3, 1) := by decide +kernel
theorem dX5_gatherNear_36 : decode cX5_gatherNear 36 = .ok (.iaload, 1) := by decide +kernel
theorem dX5_gatherNear_37 : decode cX5_gatherNear 37 = .ok (.iload_n 2, 1) := by decide +kernel
theorem dX5_gatherNear_38 : decode cX5_gatherNear 38 = .ok (.if_icmp .gt 8, 3) := by decide +kernel
theorem dX5_gatherNear_41 : decode cX5_gatherNear 41 = .ok (.aload_n 0, 1) := by decide +kernel
theorem dX5_gatherNear_42 : decode cX5_gatherNear 42 = .ok (.iload_n 3, 1) := by decide +kernel
theorem dX5_gatherNear_43 : decode cX5_gatherNear 43 = .ok (.invokevirtual 65, 3) := by decide +kernel
theorem dX5_gatherNear_46 : decode cX5_gatherNear 46 = .ok (.iinc 3 1, 3) := by decide +kernel
theorem dX5_gatherNear_49 : decode cX5_gatherNear 49 = .ok (.goto (-42), 3) := by decide +kernel
theorem dX5_gatherNear_52 : decode cX5_gatherNear 52 = .ok (.return_, 1) := by decide +kernel
theorem dX5_insert_0 : decode cX5_insert 0 = .ok (.aload_n 0, 1) := by decide +kernel
theorem dX5_insert_1 : decode cX5_insert 1 = .ok (.getfield 40, 3) := by decide +kernel
theorem dX5_insert_4 : decode cX5_insert 4 = .ok (.istore_n 2, 1) := by decide +kernel
theorem dX5_insert_5 : decode cX5_insert 5 = .ok (.iload_n 2, 1) := by decide +kernel
theorem dX5_insert_6 : decode cX5_insert 6 = .ok (.ifCond .le 45, 3) := by decide +kernel
theorem dX5_insert_9 : decode cX5_insert 9 = .ok (.aload_n 0, 1) := by decide +kernel
theorem dX5_insert_10 : decode cX5_insert 10 = .ok (.getfield 9, 3) := by decide +kernel
theorem dX5_insert_13 : decode cX5_insert 13 = .ok (.aload_n 0, 1) := by decide +kernel
theorem dX5_insert_14 : decode cX5_insert 14 = .ok (.getfield 18, 3) := by decide +kernel
theorem dX5_insert_17 : decode cX5_insert 17 = .ok (.iload_n 2, 1) := by decide +kernel
theorem dX5_insert_18 : decode cX5_insert 18 = .ok (.iconst 1, 1) := by decide +kernel
theorem dX5_insert_19 : decode cX5_insert 19 = .ok (.isub, 1) := by decide +kernel
theorem dX5_insert_20 : decode cX5_insert 20 = .ok (.iaload, 1) := by decide +kernel
theorem dX5_insert_21 : decode cX5_insert 21 = .ok (.iaload, 1) := by decide +kernel
theorem dX5_insert_22 : decode cX5_insert 22 = .ok (.aload_n 0, 1) := by decide +kernel
theorem dX5_insert_23 : decode cX5_insert 23 = .ok (.getfield 9, 3) := by decide +kernel
theorem dX5_insert_26 : decode cX5_insert 26 = .ok (.iload_n 1, 1) := by decide +kernel
theorem dX5_insert_27 : decode cX5_insert 27 = .ok (.iaload, 1) := by decide +kernel
theorem dX5_insert_28 : decode cX5_insert 28 = .ok (.if_icmp .le 23, 3) := by decide +kernel
theorem dX5_insert_31 : decode cX5_insert 31 = .ok (.aload_n 0, 1) := by decide +kernel
theorem dX5_insert_32 : decode cX5_insert 32 = .ok (.getfield 18, 3) := by decide +kernel
theorem dX5_insert_35 : decode cX5_insert 35 = .ok (.iload_n 2, 1) := by decide +kernel
theorem dX5_insert_36 : decode cX5_insert 36 = .ok (.aload_n 0, 1) := by decide +kernel
theorem dX5_insert_37 : decode cX5_insert 37 = .ok (.getfield 18, 3) := by decide +kernel
theorem dX5_insert_40 : decode cX5_insert 40 = .ok (.iload_n 2, 1) := by decide +kernel
theorem dX5_insert_41 : decode cX5_insert 41 = .ok (.iconst 1, 1) := by decide +kernel
theorem dX5_insert_42 : decode cX5_insert 42 = .ok (.isub, 1) := by decide +kernel
theorem dX5_insert_43 : decode cX5_insert 43 = .ok (.iaload, 1) := by decide +kernel
theorem dX5_insert_44 : decode cX5_insert 44 = .ok (.iastore, 1) := by decide +kernel
theorem dX5_insert_45 : decode cX5_insert 45 = .ok (.iinc 2 (-1), 3) := by decide +kernel
theorem dX5_insert_48 : decode cX5_insert 48 = .ok (.goto (-43), 3) := by decide +kernel
theorem dX5_insert_51 : decode cX5_insert 51 = .ok (.aload_n 0, 1) := by decide +kernel
theorem dX5_insert_52 : decode cX5_insert 52 = .ok (.getfield 18, 3) := by decide +kernel
theorem dX5_insert_55 : decode cX5_insert 55 = .ok (.iload_n 2, 1) := by decide +kernel
theorem dX5_insert_56 : decode cX5_insert 56 = .ok (.iload_n 1, 1) := by decide +kernel
theorem dX5_insert_57 : decode cX5_insert 57 = .ok (.iastore, 1) := by decide +kernel
theorem dX5_insert_58 : decode cX5_insert 58 = .ok (.aload_n 0, 1) := by decide +kernel
theorem dX5_insert_59 : decode cX5_insert 59 = .ok (.dup, 1) := by decide +kernel
theorem dX5_insert_60 : decode cX5_insert 60 = .ok (.getfield 40, 3) := by decide +kernel
theorem dX5_insert_63 : decode cX5_insert 63 = .ok (.iconst 1, 1) := by decide +kernel
theorem dX5_insert_64 : decode cX5_insert 64 = .ok (.iadd, 1) := by decide +kernel
theorem dX5_insert_65 : decode cX5_insert 65 = .ok (.putfield 40, 3) := by decide +kernel
theorem dX5_insert_68 : decode cX5_insert 68 = .ok (.return_, 1) := by decide +kernel
theorem dX6_init_0 : decode cX6_init 0 = .ok (.aload_n 0, 1) := by decide +kernel
theorem dX6_init_1 : decode cX6_init 1 = .ok (.invokespecial 3, 3) := by decide +kernel
theorem dX6_init_4 : decode cX6_init 4 = .ok (.aload_n 0, 1) := by decide +kernel
theorem dX6_init_5 : decode cX6_init 5 = .ok (.bipush 13, 2) := by decide +kernel
theorem dX6_init_7 : decode cX6_init 7 = .ok (.newarray .int, 2) := by decide +kernel
theorem dX6_init_9 : decode cX6_init 9 = .ok (.putfield 9, 3) := by decide +kernel
theorem dX6_init_12 : decode cX6_init 12 = .ok (.aload_n 0, 1) := by decide +kernel
theorem dX6_init_13 : decode cX6_init 13 = .ok (.bipush 13, 2) := by decide +kernel
theorem dX6_init_15 : decode cX6_init 15 = .ok (.newarray .int, 2) := by decide +kernel
theorem dX6_init_17 : decode cX6_init 17 = .ok (.putfield 15, 3) := by decide +kernel
theorem dX6_init_20 : decode cX6_init 20 = .ok (.aload_n 0, 1) := by decide +kernel
theorem dX6_init_21 : decode cX6_init 21 = .ok (.bipush 13, 2) := by decide +kernel
theorem dX6_init_23 : decode cX6_init 23 = .ok (.newarray .int, 2) := by decide +kernel
theorem dX6_init_25 : decode cX6_init 25 = .ok (.putfield 18, 3) := by decide +kernel
theorem dX6_init_28 : decode cX6_init 28 = .ok (.return_, 1) := by decide +kernel
theorem dX6_breakUp_0 : decode cX6_breakUp 0 = .ok (.aload_n 1, 1) := by decide +kernel
theorem dX6_breakUp_1 : decode cX6_breakUp 1 = .ok (.getfield 21, 3) := by decide +kernel
theorem dX6_breakUp_4 : decode cX6_breakUp 4 = .ok (.bipush 12, 2) := by decide +kernel
theorem dX6_breakUp_6 : decode cX6_breakUp 6 = .ok (.invokestatic 27, 3) := by decide +kernel
theorem dX6_breakUp_9 : decode cX6_breakUp 9 = .ok (.istore_n 3, 1) := by decide +kernel
theorem dX6_breakUp_10 : decode cX6_breakUp 10 = .ok (.aload_n 0, 1) := by decide +kernel
theorem dX6_breakUp_11 : decode cX6_breakUp 11 = .ok (.getfield 9, 3) := by decide +kernel
theorem dX6_breakUp_14 : decode cX6_breakUp 14 = .ok (.iload_n 3, 1) := by decide +kernel
theorem dX6_breakUp_15 : decode cX6_breakUp 15 = .ok (.iconst 0, 1) := by decide +kernel
theorem dX6_breakUp_16 : decode cX6_breakUp 16 = .ok (.iastore, 1) := by decide +kernel
theorem dX6_breakUp_17 : decode cX6_breakUp 17 = .ok (.aload_n 0, 1) := by decide +kernel
theorem dX6_breakUp_18 : decode cX6_breakUp 18 = .ok (.getfield 15, 3) := by decide +kernel
theorem dX6_breakUp_21 : decode cX6_breakUp 21 = .ok (.iload_n 3, 1) := by decide +kernel
theorem dX6_breakUp_22 : decode cX6_breakUp 22 = .ok (.iconst 0, 1) := by decide +kernel
theorem dX6_breakUp_23 : decode cX6_breakUp 23 = .ok (.iastore, 1) := by decide +kernel
theorem dX6_breakUp_24 : decode cX6_breakUp 24 = .ok (.iload_n 3, 1) := by decide +kernel
theorem dX6_breakUp_25 : decode cX6_breakUp 25 = .ok (.iconst 1, 1) := by decide +kernel
theorem dX6_breakUp_26 : decode cX6_breakUp 26 = .ok (.isub, 1) := by decide +kernel
theorem dX6_breakUp_27 : decode cX6_breakUp 27 = .ok (.istore 4, 2) := by decide +kernel
theorem dX6_breakUp_29 : decode cX6_breakUp 29 = .ok (.iload 4, 2) := by decide +kernel
theorem dX6_breakUp_31 : decode cX6_breakUp 31 = .ok (.ifCond .lt 18, 3) := by decide +kernel
theorem dX6_breakUp_34 : decode cX6_breakUp 34 = .ok (.aload_n 0, 1) := by decide +kernel
theorem dX6_breakUp_35 : decode cX6_breakUp 35 = .ok (.aload_n 1, 1) := by decide +kernel
theorem dX6_breakUp_36 : decode cX6_breakUp 36 = .ok (.iload_n 2, 1) := by decide +kernel
theorem dX6_breakUp_37 : decode cX6_breakUp 37 = .ok (.iload 4, 2) := by decide +kernel
theorem dX6_breakUp_39 : decode cX6_breakUp 39 = .ok (.iload_n 3, 1) := by decide +kernel
theorem dX6_breakUp_40 : decode cX6_breakUp 40 = .ok (.invokevirtual 33, 3) := by decide +kernel
theorem dX6_breakUp_43 : decode cX6_breakUp 43 = .ok (.iinc 4 (-1), 3) := by decide +kernel
theorem dX6_breakUp_46 : decode cX6_breakUp 46 = .ok (.goto (-17), 3) := by decide +kernel
theorem dX6_breakUp_49 : decode cX6_breakUp 49 = .ok (.aload_n 1, 1) := by decide +kernel
theorem dX6_breakUp_50 : decode cX6_breakUp 50 = .ok (.aload_n 0, 1) := by decide +kernel
theorem dX6_breakUp_51 : decode cX6_breakUp 51 = .ok (.getfield 9, 3) := by decide +kernel
theorem dX6_breakUp_54 : decode cX6_breakUp 54 = .ok (.iconst 0, 1) := by decide +kernel
theorem dX6_breakUp_55 : decode cX6_breakUp 55 = .ok (.iaload, 1) := by decide +kernel
theorem dX6_breakUp_56 : decode cX6_breakUp 56 = .ok (.putfield 37, 3) := by decide +kernel
theorem dX6_breakUp_59 : decode cX6_breakUp 59 = .ok (.iconst 0, 1) := by decide +kernel
theorem dX6_breakUp_60 : decode cX6_breakUp 60 = .ok (.istore 4, 2) := by decide +kernel
theorem dX6_breakUp_62 : decode cX6_breakUp 62 = .ok (.iconst 0, 1) := by decide +kernel
theorem dX6_breakUp_63 : decode cX6_breakUp 63 = .ok (.istore 5, 2) := by decide +kernel
theorem dX6_breakUp_65 : decode cX6_breakUp 65 = .ok (.iload 5, 2) := by decide +kernel
theorem dX6_breakUp_67 : decode cX6_breakUp 67 = .ok (.aload_n 0, 1) := by decide +kernel
theorem dX6_breakUp_68 : decode cX6_breakUp 68 = .ok (.getfield 9, 3) := by decide +kernel
theorem dX6_breakUp_71 : decode cX6_breakUp 71 = .ok (.iconst 0, 1) := by decide +kernel
theorem dX6_breakUp_72 : decode cX6_breakUp 72 = .ok (.iaload, 1) := by decide +kernel
theorem dX6_breakUp_73 : decode cX6_breakUp 73 = .ok (.if_icmp .ge 48, 3) := by decide +kernel
theorem dX6_breakUp_76 : decode cX6_breakUp 76 = .ok (.iload 5, 2) := by decide +kernel
theorem dX6_breakUp_78 : decode cX6_breakUp 78 = .ok (.bipush 12, 2) := by decide +kernel
theorem dX6_breakUp_80 : decode cX6_breakUp 80 = .ok (.if_icmp .ge 41, 3) := by decide +kernel
theorem dX6_breakUp_83 : decode cX6_breakUp 83 = .ok (.iload 4, 2) := by decide +kernel
theorem dX6_breakUp_85 : decode cX6_breakUp 85 = .ok (.iload_n 3, 1) := by decide +kernel
theorem dX6_breakUp_86 : decode cX6_breakUp 86 = .ok (.if_icmp .ge 35, 3) := by decide +kernel
theorem dX6_breakUp_89 : decode cX6_breakUp 89 = .ok (.aload_n 1, 1) := by decide +kernel
theorem dX6_breakUp_90 : decode cX6_breakUp 90 = .ok (.getfield 40, 3) := by decide +kernel
theorem dX6_breakUp_93 : decode cX6_breakUp 93 = .ok (.iload 5, 2) := by decide +kernel
theorem dX6_breakUp_95 : decode cX6_breakUp 95 = .ok (.aload_n 0, 1) := by decide +kernel
theorem dX6_breakUp_96 : decode cX6_breakUp 96 = .ok (.getfield 18, 3) := by decide +kernel
theorem dX6_breakUp_99 : decode cX6_breakUp 99 = .ok (.iload 4, 2) := by decide +kernel
theorem dX6_breakUp_101 : decode cX6_breakUp 101 = .ok (.iaload, 1) := by decide +kernel
theorem dX6_breakUp_102 : decode cX6_breakUp 102 = .ok (.iastore, 1) := by decide +kernel
theorem dX6_breakUp_103 : decode cX6_breakUp 103 = .ok (.iload 4, 2) := by decide +kernel
theorem dX6_breakUp_105 : decode cX6_breakUp 105 = .ok (.aload_n 0, 1) := by decide +kernel
theorem dX6_breakUp_106 : decode cX6_breakUp 106 = .ok (.getfield 18, 3) := by decide +kernel
theorem dX6_breakUp_109 : decode cX6_breakUp 109 = .ok (.iload 4, 2) := by decide +kernel
theorem dX6_breakUp_111 : decode cX6_breakUp 111 = .ok (.iaload, 1) := by decide +kernel
theorem dX6_breakUp_112 : decode cX6_breakUp 112 = .ok (.iadd, 1) := by decide +kernel
theorem dX6_breakUp_113 : decode cX6_breakUp 113 = .ok (.istore 4, 2) := by decide +kernel
theorem dX6_breakUp_115 : decode cX6_breakUp 115 = .ok (.iinc 5 1, 3) := by decide +kernel
theorem dX6_breakUp_118 : decode cX6_breakUp 118 = .ok (.goto (-53), 3) := by decide +kernel
theorem dX6_breakUp_121 : decode cX6_breakUp 121 = .ok (.return_, 1) := by decide +kernel
theorem dX6_chooseLine_0 : decode cX6_chooseLine 0 = .ok (.aload_n 1, 1) := by decide +kernel
theorem dX6_chooseLine_1 : decode cX6_chooseLine 1 = .ok (.iload_n 3, 1) := by decide +kernel
theorem dX6_chooseLine_2 : decode cX6_chooseLine 2 = .ok (.invokevirtual 43, 3) := by decide +kernel
theorem dX6_chooseLine_5 : decode cX6_chooseLine 5 = .ok (.istore 5, 2) := by decide +kernel
theorem dX6_chooseLine_7 : decode cX6_chooseLine 7 = .ok (.aload_n 0, 1) := by decide +kernel
theorem dX6_chooseLine_8 : decode cX6_chooseLine 8 = .ok (.iload_n 3, 1) := by decide +kernel
theorem dX6_chooseLine_9 : decode cX6_chooseLine 9 = .ok (.iload_n 3, 1) := by decide +kernel
theorem dX6_chooseLine_10 : decode cX6_chooseLine 10 = .ok (.iconst 1, 1) := by decide +kernel
theorem dX6_chooseLine_11 : decode cX6_chooseLine 11 = .ok (.iadd, 1) := by decide +kernel
theorem dX6_chooseLine_12 : decode cX6_chooseLine 12 = .ok (.iconst 0, 1) := by decide +kernel
theorem dX6_chooseLine_13 : decode cX6_chooseLine 13 = .ok (.iload_n 2, 1) := by decide +kernel
theorem dX6_chooseLine_14 : decode cX6_chooseLine 14 = .ok (.iload 5, 2) := by decide +kernel
theorem dX6_chooseLine_16 : decode cX6_chooseLine 16 = .ok (.isub, 1) := by decide +kernel
theorem dX6_chooseLine_17 : decode cX6_chooseLine 17 = .ok (.invokestatic 47, 3) := by decide +kernel
theorem dX6_chooseLine_20 : decode cX6_chooseLine 20 = .ok (.iconst 1, 1) := by decide +kernel
theorem dX6_chooseLine_21 : decode cX6_chooseLine 21 = .ok (.invokevirtual 50, 3) := by decide +kernel
theorem dX6_chooseLine_24 : decode cX6_chooseLine 24 = .ok (.iload_n 3, 1) := by decide +kernel
theorem dX6_chooseLine_25 : decode cX6_chooseLine 25 = .ok (.iconst 1, 1) := by decide +kernel
theorem dX6_chooseLine_26 : decode cX6_chooseLine 26 = .ok (.iadd, 1) := by decide +kernel
theorem dX6_chooseLine_27 : decode cX6_chooseLine 27 = .ok (.istore 6, 2) := by decide +kernel
theorem dX6_chooseLine_29 : decode cX6_chooseLine 29 = .ok (.iload 6, 2) := by decide +kernel
theorem dX6_chooseLine_31 : decode cX6_chooseLine 31 = .ok (.iload 4, 2) := by decide +kernel
theorem dX6_chooseLine_33 : decode cX6_chooseLine 33 = .ok (.if_icmp .ge 43, 3) := by decide +kernel
theorem dX6_chooseLine_36 : decode cX6_chooseLine 36 = .ok (.iload 5, 2) := by decide +kernel
theorem dX6_chooseLine_38 : decode cX6_chooseLine 38 = .ok (.iconst 1, 1) := by decide +kernel
theorem dX6_chooseLine_39 : decode cX6_chooseLine 39 = .ok (.aload_n 1, 1) := by decide +kernel
theorem dX6_chooseLine_40 : decode cX6_chooseLine 40 = .ok (.iload 6, 2) := by decide +kernel
theorem dX6_chooseLine_42 : decode cX6_chooseLine 42 = .ok (.invokevirtual 43, 3) := by decide +kernel
theorem dX6_chooseLine_45 : decode cX6_chooseLine 45 = .ok (.iadd, 1) := by decide +kernel
theorem dX6_chooseLine_46 : decode cX6_chooseLine 46 = .ok (.iadd, 1) := by decide +kernel
theorem dX6_chooseLine_47 : decode cX6_chooseLine 47 = .ok (.istore 5, 2) := by decide +kernel
theorem dX6_chooseLine_49 : decode cX6_chooseLine 49 = .ok (.iload 5, 2) := by decide +kernel
theorem dX6_chooseLine_51 : decode cX6_chooseLine 51 = .ok (.iload_n 2, 1) := by decide +kernel
theorem dX6_chooseLine_52 : decode cX6_chooseLine 52 = .ok (.if_icmp .le 4, 3) := by decide +kernel
theorem dX6_chooseLine_55 : decode cX6_chooseLine 55 = .ok (.return_, 1) := by decide +kernel
theorem dX6_chooseLine_56 : decode cX6_chooseLine 56 = .ok (.aload_n 0, 1) := by decide +kernel
theorem dX6_chooseLine_57 : decode cX6_chooseLine 57 = .ok (.iload_n 3, 1) := by decide +kernel
theorem dX6_chooseLine_58 : decode cX6_chooseLine 58 = .ok (.iload 6, 2) := by decide +kernel
theorem dX6_chooseLine_60 : decode cX6_chooseLine 60 = .ok (.iconst 1, 1) := by decide +kernel
theorem dX6_chooseLine_61 : decode cX6_chooseLine 61 = .ok (.iadd, 1) := by decide +kernel
theorem dX6_chooseLine_62 : decode cX6_chooseLine 62 = .ok (.iload_n 2, 1) := by decide +kernel
theorem dX6_chooseLine_63 : decode cX6_chooseLine 63 = .ok (.iload 5, 2) := by decide +kernel
theorem dX6_chooseLine_65 : decode cX6_chooseLine 65 = .ok (.isub, 1) := by decide +kernel
theorem dX6_chooseLine_66 : decode cX6_chooseLine 66 = .ok (.iconst 0, 1) := by decide +kernel
theorem dX6_chooseLine_67 : decode cX6_chooseLine 67 = .ok (.invokevirtual 50, 3) := by decide +kernel
theorem dX6_chooseLine_70 : decode cX6_chooseLine 70 = .ok (.iinc 6 1, 3) := by decide +kernel
theorem dX6_chooseLine_73 : decode cX6_chooseLine 73 = .ok (.goto (-44), 3) := by decide +kernel
theorem dX6_chooseLine_76 : decode cX6_chooseLine 76 = .ok (.return_, 1) := by decide +kernel
theorem dX6_consider_0 : decode cX6_consider 0 = .ok (.iconst 1, 1) := by decide +kernel
theorem dX6_consider_1 : decode cX6_consider 1 = .ok (.aload_n 0, 1) := by decide +kernel
theorem dX6_consider_2 : decode cX6_consider 2 = .ok (.getfield 9, 3) := by decide +kernel
theorem dX6_consider_5 : decode cX6_consider 5 = .ok (.iload_n 2, 1) := by decide +kernel
theorem dX6_consider_6 : decode cX6_consider 6 = .ok (.iaload, 1) := by decide +kernel
theorem dX6_consider_7 : decode cX6_consider 7 = .ok (.iadd, 1) := by decide +kernel
theorem dX6_consider_8 : decode cX6_consider 8 = .ok (.istore 5, 2) := by decide +kernel
theorem dX6_consider_10 : decode cX6_consider 10 = .ok (.iload_n 3, 1) := by decide +kernel
theorem dX6_consider_11 : decode cX6_consider 11 = .ok (.iload_n 3, 1) := by decide +kernel
theorem dX6_consider_12 : decode cX6_consider 12 = .ok (.imul, 1) := by decide +kernel
theorem dX6_consider_13 : decode cX6_consider 13 = .ok (.aload_n 0, 1) := by decide +kernel
theorem dX6_consider_14 : decode cX6_consider 14 = .ok (.getfield 15, 3) := by decide +kernel
theorem dX6_consider_17 : decode cX6_consider 17 = .ok (.iload_n 2, 1) := by decide +kernel
theorem dX6_consider_18 : decode cX6_consider 18 = .ok (.iaload, 1) := by decide +kernel
theorem dX6_consider_19 : decode cX6_consider 19 = .ok (.iadd, 1) := by decide +kernel
theorem dX6_consider_20 : decode cX6_consider 20 = .ok (.istore 6, 2) := by decide +kernel
theorem dX6_consider_22 : decode cX6_consider 22 = .ok (.iload 5, 2) := by decide +kernel
theorem dX6_consider_24 : decode cX6_consider 24 = .ok (.aload_n 0, 1) := by decide +kernel
theorem dX6_consider_25 : decode cX6_consider 25 = .ok (.getfield 9, 3) := by decide +kernel
theorem dX6_consider_28 : decode cX6_consider 28 = .ok (.iload_n 1, 1) := by decide +kernel
theorem dX6_consider_29 : decode cX6_consider 29 = .ok (.iaload, 1) := by decide +kernel
theorem dX6_consider_30 : decode cX6_consider 30 = .ok (.if_icmp .lt 25, 3) := by decide +kernel
theorem dX6_consider_33 : decode cX6_consider 33 = .ok (.iload 5, 2) := by decide +kernel
theorem dX6_consider_35 : decode cX6_consider 35 = .ok (.aload_n 0, 1) := by decide +kernel
theorem dX6_consider_36 : decode cX6_consider 36 = .ok (.getfield 9, 3) := by decide +kernel
theorem dX6_consider_39 : decode cX6_consider 39 = .ok (.iload_n 1, 1) := by decide +kernel
theorem dX6_consider_40 : decode cX6_consider 40 = .ok (.iaload, 1) := by decide +kernel
theorem dX6_consider_41 : decode cX6_consider 41 = .ok (.if_icmp .ne 18, 3) := by decide +kernel
theorem dX6_consider_44 : decode cX6_consider 44 = .ok (.iload 6, 2) := by decide +kernel
theorem dX6_consider_46 : decode cX6_consider 46 = .ok (.aload_n 0, 1) := by decide +kernel
theorem dX6_consider_47 : decode cX6_consider 47 = .ok (.getfield 15, 3) := by decide +kernel
theorem dX6_consider_50 : decode cX6_consider 50 = .ok (.iload_n 1, 1) := by decide +kernel
theorem dX6_consider_51 : decode cX6_consider 51 = .ok (.iaload, 1) := by decide +kernel
theorem dX6_consider_52 : decode cX6_consider 52 = .ok (.if_icmp .ge 7, 3) := by decide +kernel
theorem dX6_consider_55 : decode cX6_consider 55 = .ok (.iconst 1, 1) := by decide +kernel
theorem dX6_consider_56 : decode cX6_consider 56 = .ok (.goto 4, 3) := by decide +kernel
theorem dX6_consider_59 : decode cX6_consider 59 = .ok (.iconst 0, 1) := by decide +kernel
theorem dX6_consider_60 : decode cX6_consider 60 = .ok (.istore 7, 2) := by decide +kernel
theorem dX6_consider_62 : decode cX6_consider 62 = .ok (.iload 4, 2) := by decide +kernel
theorem dX6_consider_64 : decode cX6_consider 64 = .ok (.ifCond .ne 8, 3) := by decide +kernel
theorem dX6_consider_67 : decode cX6_consider 67 = .ok (.iload 7, 2) := by decide +kernel
theorem dX6_consider_69 : decode cX6_consider 69 = .ok (.ifCond .eq 28, 3) := by decide +kernel
theorem dX6_consider_72 : decode cX6_consider 72 = .ok (.aload_n 0, 1) := by decide +kernel
theorem dX6_consider_73 : decode cX6_consider 73 = .ok (.getfield 9, 3) := by decide +kernel
theorem dX6_consider_76 : decode cX6_consider 76 = .ok (.iload_n 1, 1) := by decide +kernel
theorem dX6_consider_77 : decode cX6_consider 77 = .ok (.iload 5, 2) := by decide +kernel
theorem dX6_consider_79 : decode cX6_consider 79 = .ok (.iastore, 1) := by decide +kernel
theorem dX6_consider_80 : decode cX6_consider 80 = .ok (.aload_n 0, 1) := by decide +kernel
theorem dX6_consider_81 : decode cX6_consider 81 = .ok (.getfield 15, 3) := by decide +kernel
theorem dX6_consider_84 : decode cX6_consider 84 = .ok (.iload_n 1, 1) := by decide +kernel
theorem dX6_consider_85 : decode cX6_consider 85 = .ok (.iload 6, 2) := by decide +kernel
theorem dX6_consider_87 : decode cX6_consider 87 = .ok (.iastore, 1) := by decide +kernel
theorem dX6_consider_88 : decode cX6_consider 88 = .ok (.aload_n 0, 1) := by decide +kernel
theorem dX6_consider_89 : decode cX6_consider 89 = .ok (.getfield 18, 3) := by decide +kernel
theorem dX6_consider_92 : decode cX6_consider 92 = .ok (.iload_n 1, 1) := by decide +kernel
theorem dX6_consider_93 : decode cX6_consider 93 = .ok (.iload_n 2, 1) := by decide +kernel
theorem dX6_consider_94 : decode cX6_consider 94 = .ok (.iload_n 1, 1) := by decide +kernel
theorem dX6_consider_95 : decode cX6_consider 95 = .ok (.isub, 1) := by decide +kernel
theorem dX6_consider_96 : decode cX6_consider 96 = .ok (.iastore, 1) := by decide +kernel
theorem dX6_consider_97 : decode cX6_consider 97 = .ok (.return_, 1) := by decide +kernel
theorem dX7_init_0 : decode cX7_init 0 = .ok (.aload_n 0, 1) := by decide +kernel
theorem dX7_init_1 : decode cX7_init 1 = .ok (.invokespecial 3, 3) := by decide +kernel
theorem dX7_init_4 : decode cX7_init 4 = .ok (.aload_n 0, 1) := by decide +kernel
theorem dX7_init_5 : decode cX7_init 5 = .ok (.sipush 160, 3) := by decide +kernel
theorem dX7_init_8 : decode cX7_init 8 = .ok (.newarray .int, 2) := by decide +kernel
theorem dX7_init_10 : decode cX7_init 10 = .ok (.putfield 9, 3) := by decide +kernel
theorem dX7_init_13 : decode cX7_init 13 = .ok (.aload_n 0, 1) := by decide +kernel
theorem dX7_init_14 : decode cX7_init 14 = .ok (.sipush 160, 3) := by decide +kernel
theorem dX7_init_17 : decode cX7_init 17 = .ok (.newarray .int, 2) := by decide +kernel
theorem dX7_init_19 : decode cX7_init 19 = .ok (.putfield 15, 3) := by decide +kernel
theorem dX7_init_22 : decode cX7_init 22 = .ok (.aload_n 0, 1) := by decide +kernel
theorem dX7_init_23 : decode cX7_init 23 = .ok (.getfield 9, 3) := by decide +kernel
theorem dX7_init_26 : decode cX7_init 26 = .ok (.iconst (-1), 1) := by decide +kernel
theorem dX7_init_27 : decode cX7_init 27 = .ok (.invokestatic 18, 3) := by decide +kernel
theorem dX7_init_30 : decode cX7_init 30 = .ok (.aload_n 0, 1) := by decide +kernel
theorem dX7_init_31 : decode cX7_init 31 = .ok (.getfield 15, 3) := by decide +kernel
theorem dX7_init_34 : decode cX7_init 34 = .ok (.iconst (-1), 1) := by decide +kernel
theorem dX7_init_35 : decode cX7_init 35 = .ok (.invokestatic 18, 3) := by decide +kernel
theorem dX7_init_38 : decode cX7_init 38 = .ok (.return_, 1) := by decide +kernel
theorem dX7_cellOf_0 : decode cX7_cellOf 0 = .ok (.iload_n 0, 1) := by decide +kernel
theorem dX7_cellOf_1 : decode cX7_cellOf 1 = .ok (.ifCond .lt 23, 3) := by decide +kernel
theorem dX7_cellOf_4 : decode cX7_cellOf 4 = .ok (.iload_n 0, 1) := by decide +kernel
theorem dX7_cellOf_5 : decode cX7_cellOf 5 = .ok (.bipush 8, 2) := by decide +kernel
theorem dX7_cellOf_7 : decode cX7_cellOf 7 = .ok (.if_icmp .ge 17, 3) := by decide +kernel
theorem dX7_cellOf_10 : decode cX7_cellOf 10 = .ok (.iload_n 1, 1) := by decide +kernel
theorem dX7_cellOf_11 : decode cX7_cellOf 11 = .ok (.ifCond .lt 13, 3) := by decide +kernel
theorem dX7_cellOf_14 : decode cX7_cellOf 14 = .ok (.iload_n 1, 1) := by decide +kernel
theorem dX7_cellOf_15 : decode cX7_cellOf 15 = .ok (.bipush 20, 2) := by decide +kernel
theorem dX7_cellOf_17 : decode cX7_cellOf 17 = .ok (.if_icmp .ge 7, 3) := by decide +kernel
theorem dX7_cellOf_20 : decode cX7_cellOf 20 = .ok (.iconst 1, 1) := by decide +kernel
theorem dX7_cellOf_21 : decode cX7_cellOf 21 = .ok (.goto 4, 3) := by decide +kernel
theorem dX7_cellOf_24 : decode cX7_cellOf 24 = .ok (.iconst 0, 1) := by decide +kernel
theorem dX7_cellOf_25 : decode cX7_cellOf 25 = .ok (.istore_n 2, 1) := by decide +kernel
theorem dX7_cellOf_26 : decode cX7_cellOf 26 = .ok (.iload_n 2, 1) := by decide +kernel
theorem dX7_cellOf_27 : decode cX7_cellOf 27 = .ok (.ifCond .eq 12, 3) := by decide +kernel
theorem dX7_cellOf_30 : decode cX7_cellOf 30 = .ok (.bipush 20, 2) := by decide +kernel
theorem dX7_cellOf_32 : decode cX7_cellOf 32 = .ok (.iload_n 0, 1) := by decide +kernel
theorem dX7_cellOf_33 : decode cX7_cellOf 33 = .ok (.imul, 1) := by decide +kernel
theorem dX7_cellOf_34 : decode cX7_cellOf 34 = .ok (.iload_n 1, 1) := by decide +kernel
theorem dX7_cellOf_35 : decode cX7_cellOf 35 = .ok (.iadd, 1) := by decide +kernel
theorem dX7_cellOf_36 : decode cX7_cellOf 36 = .ok (.goto 4, 3) := by decide +kernel
theorem dX7_cellOf_39 : decode cX7_cellOf 39 = .ok (.iconst (-1), 1) := by decide +kernel
theorem dX7_cellOf_40 : decode cX7_cellOf 40 = .ok (.ireturn, 1) := by decide +kernel
theorem dX7_letterIn_0 : decode cX7_letterIn 0 = .ok (.iload_n 1, 1) := by decide +kernel
theorem dX7_letterIn_1 : decode cX7_letterIn 1 = .ok (.iload_n 2, 1) := by decide +kernel
theorem dX7_letterIn_2 : decode cX7_letterIn 2 = .ok (.invokestatic 24, 3) := by decide +kernel
theorem dX7_letterIn_5 : decode cX7_letterIn 5 = .ok (.istore_n 3, 1) := by decide +kernel
theorem dX7_letterIn_6 : decode cX7_letterIn 6 = .ok (.iload_n 3, 1) := by decide +kernel
theorem dX7_letterIn_7 : decode cX7_letterIn 7 = .ok (.iconst (-1), 1) := by decide +kernel
theorem dX7_letterIn_8 : decode cX7_letterIn 8 = .ok (.if_icmp .ne 7, 3) := by decide +kernel
theorem dX7_letterIn_11 : decode cX7_letterIn 11 = .ok (.iconst (-1), 1) := by decide +kernel
theorem dX7_letterIn_12 : decode cX7_letterIn 12 = .ok (.goto 9, 3) := by decide +kernel
theorem dX7_letterIn_15 : decode cX7_letterIn 15 = .ok (.aload_n 0, 1) := by decide +kernel
theorem dX7_letterIn_16 : decode cX7_letterIn 16 = .ok (.getfield 9, 3) := by decide +kernel
theorem dX7_letterIn_19 : decode cX7_letterIn 19 = .ok (.iload_n 3, 1) := by decide +kernel
theorem dX7_letterIn_20 : decode cX7_letterIn 20 = .ok (.iaload, 1) := by decide +kernel
theorem dX7_letterIn_21 : decode cX7_letterIn 21 = .ok (.ireturn, 1) := by decide +kernel
theorem dX7_colourIn_0 : decode cX7_colourIn 0 = .ok (.iload_n 1, 1) := by decide +kernel
theorem dX7_colourIn_1 : decode cX7_colourIn 1 = .ok (.iload_n 2, 1) := by decide +kernel
theorem dX7_colourIn_2 : decode cX7_colourIn 2 = .ok (.invokestatic 24, 3) := by decide +kernel
theorem dX7_colourIn_5 : decode cX7_colourIn 5 = .ok (.istore_n 3, 1) := by decide +kernel
theorem dX7_colourIn_6 : decode cX7_colourIn 6 = .ok (.iload_n 3, 1) := by decide +kernel
theorem dX7_colourIn_7 : decode cX7_colourIn 7 = .ok (.iconst (-1), 1) := by decide +kernel
theorem dX7_colourIn_8 : decode cX7_colourIn 8 = .ok (.if_icmp .ne 7, 3) := by decide +kernel
theorem dX7_colourIn_11 : decode cX7_colourIn 11 = .ok (.iconst (-1), 1) := by decide +kernel
theorem dX7_colourIn_12 : decode cX7_colourIn 12 = .ok (.goto 9, 3) := by decide +kernel
theorem dX7_colourIn_15 : decode cX7_colourIn 15 = .ok (.aload_n 0, 1) := by decide +kernel
theorem dX7_colourIn_16 : decode cX7_colourIn 16 = .ok (.getfield 15, 3) := by decide +kernel
theorem dX7_colourIn_19 : decode cX7_colourIn 19 = .ok (.iload_n 3, 1) := by decide +kernel
theorem dX7_colourIn_20 : decode cX7_colourIn 20 = .ok (.iaload, 1) := by decide +kernel
theorem dX7_colourIn_21 : decode cX7_colourIn 21 = .ok (.ireturn, 1) := by decide +kernel
theorem dX7_put_0 : decode cX7_put 0 = .ok (.iload_n 1, 1) := by decide +kernel
theorem dX7_put_1 : decode cX7_put 1 = .ok (.iload_n 2, 1) := by decide +kernel
theorem dX7_put_2 : decode cX7_put 2 = .ok (.invokestatic 24, 3) := by decide +kernel
theorem dX7_put_5 : decode cX7_put 5 = .ok (.istore 5, 2) := by decide +kernel
theorem dX7_put_7 : decode cX7_put 7 = .ok (.iload 5, 2) := by decide +kernel
theorem dX7_put_9 : decode cX7_put 9 = .ok (.iconst (-1), 1) := by decide +kernel
theorem dX7_put_10 : decode cX7_put 10 = .ok (.if_icmp .eq 20, 3) := by decide +kernel
theorem dX7_put_13 : decode cX7_put 13 = .ok (.aload_n 0, 1) := by decide +kernel
theorem dX7_put_14 : decode cX7_put 14 = .ok (.getfield 9, 3) := by decide +kernel
theorem dX7_put_17 : decode cX7_put 17 = .ok (.iload 5, 2) := by decide +kernel
theorem dX7_put_19 : decode cX7_put 19 = .ok (.iload_n 3, 1) := by decide +kernel
theorem dX7_put_20 : decode cX7_put 20 = .ok (.iastore, 1) := by decide +kernel
theorem dX7_put_21 : decode cX7_put 21 = .ok (.aload_n 0, 1) := by decide +kernel
theorem dX7_put_22 : decode cX7_put 22 = .ok (.getfield 15, 3) := by decide +kernel
theorem dX7_put_25 : decode cX7_put 25 = .ok (.iload 5, 2) := by decide +kernel
theorem dX7_put_27 : decode cX7_put 27 = .ok (.iload 4, 2) := by decide +kernel
theorem dX7_put_29 : decode cX7_put 29 = .ok (.iastore, 1) := by decide +kernel
theorem dX7_put_30 : decode cX7_put 30 = .ok (.return_, 1) := by decide +kernel
theorem dX7_emptyAll_0 : decode cX7_emptyAll 0 = .ok (.aload_n 0, 1) := by decide +kernel
theorem dX7_emptyAll_1 : decode cX7_emptyAll 1 = .ok (.iconst 0, 1) := by decide +kernel
theorem dX7_emptyAll_2 : decode cX7_emptyAll 2 = .ok (.bipush 7, 2) := by decide +kernel
theorem dX7_emptyAll_4 : decode cX7_emptyAll 4 = .ok (.invokevirtual 28, 3) := by decide +kernel
theorem dX7_emptyAll_7 : decode cX7_emptyAll 7 = .ok (.return_, 1) := by decide +kernel
theorem dX7_emptyRows_0 : decode cX7_emptyRows 0 = .ok (.iload_n 1, 1) := by decide +kernel
theorem dX7_emptyRows_1 : decode cX7_emptyRows 1 = .ok (.ifCond .ge 7, 3) := by decide +kernel
theorem dX7_emptyRows_4 : decode cX7_emptyRows 4 = .ok (.iconst 0, 1) := by decide +kernel
theorem dX7_emptyRows_5 : decode cX7_emptyRows 5 = .ok (.goto 7, 3) := by decide +kernel
theorem dX7_emptyRows_8 : decode cX7_emptyRows 8 = .ok (.bipush 20, 2) := by decide +kernel
theorem dX7_emptyRows_10 : decode cX7_emptyRows 10 = .ok (.iload_n 1, 1) := by decide +kernel
theorem dX7_emptyRows_11 : decode cX7_emptyRows 11 = .ok (.imul, 1) := by decide +kernel
theorem dX7_emptyRows_12 : decode cX7_emptyRows 12 = .ok (.istore_n 3, 1) := by decide +kernel
theorem dX7_emptyRows_13 : decode cX7_emptyRows 13 = .ok (.iload_n 3, 1) := by decide +kernel
theorem dX7_emptyRows_14 : decode cX7_emptyRows 14 = .ok (.bipush 20, 2) := by decide +kernel
theorem dX7_emptyRows_16 : decode cX7_emptyRows 16 = .ok (.iload_n 2, 1) := by decide +kernel
theorem dX7_emptyRows_17 : decode cX7_emptyRows 17 = .ok (.iconst 1, 1) := by decide +kernel
theorem dX7_emptyRows_18 : decode cX7_emptyRows 18 = .ok (.iadd, 1) := by decide +kernel
theorem dX7_emptyRows_19 : decode cX7_emptyRows 19 = .ok (.imul, 1) := by decide +kernel
theorem dX7_emptyRows_20 : decode cX7_emptyRows 20 = .ok (.if_icmp .ge 30, 3) := by decide +kernel
theorem dX7_emptyRows_23 : decode cX7_emptyRows 23 = .ok (.iload_n 3, 1) := by decide +kernel
theorem dX7_emptyRows_24 : decode cX7_emptyRows 24 = .ok (.sipush 160, 3) := by decide +kernel
theorem dX7_emptyRows_27 : decode cX7_emptyRows 27 = .ok (.if_icmp .ge 23, 3) := by decide +kernel
theorem dX7_emptyRows_30 : decode cX7_emptyRows 30 = .ok (.aload_n 0, 1) := by decide +kernel
theorem dX7_emptyRows_31 : decode cX7_emptyRows 31 = .ok (.getfield 9, 3) := by decide +kernel
theorem dX7_emptyRows_34 : decode cX7_emptyRows 34 = .ok (.iload_n 3, 1) := by decide +kernel
theorem dX7_emptyRows_35 : decode cX7_emptyRows 35 = .ok (.iconst (-1), 1) := by decide +kernel
theorem dX7_emptyRows_36 : decode cX7_emptyRows 36 = .ok (.iastore, 1) := by decide +kernel
theorem dX7_emptyRows_37 : decode cX7_emptyRows 37 = .ok (.aload_n 0, 1) := by decide +kernel
theorem dX7_emptyRows_38 : decode cX7_emptyRows 38 = .ok (.getfield 15, 3) := by decide +kernel
theorem dX7_emptyRows_41 : decode cX7_emptyRows 41 = .ok (.iload_n 3, 1) := by decide +kernel
theorem dX7_emptyRows_42 : decode cX7_emptyRows 42 = .ok (.iconst (-1), 1) := by decide +kernel
theorem dX7_emptyRows_43 : decode cX7_emptyRows 43 = .ok (.iastore, 1) := by decide +kernel
theorem dX7_emptyRows_44 : decode cX7_emptyRows 44 = .ok (.iinc 3 1, 3) := by decide +kernel
theorem dX7_emptyRows_47 : decode cX7_emptyRows 47 = .ok (.goto (-34), 3) := by decide +kernel
theorem dX7_emptyRows_50 : decode cX7_emptyRows 50 = .ok (.return_, 1) := by decide +kernel
theorem dX7_rollUp_0 : decode cX7_rollUp 0 = .ok (.aload_n 0, 1) := by decide +kernel
theorem dX7_rollUp_1 : decode cX7_rollUp 1 = .ok (.iconst 0, 1) := by decide +kernel
theorem dX7_rollUp_2 : decode cX7_rollUp 2 = .ok (.iload_n 1, 1) := by decide +kernel
theorem dX7_rollUp_3 : decode cX7_rollUp 3 = .ok (.iconst 1, 1) := by decide +kernel
theorem dX7_rollUp_4 : decode cX7_rollUp 4 = .ok (.isub, 1) := by decide +kernel
theorem dX7_rollUp_5 : decode cX7_rollUp 5 = .ok (.invokevirtual 28, 3) := by decide +kernel
theorem dX7_rollUp_8 : decode cX7_rollUp 8 = .ok (.iload_n 1, 1) := by decide +kernel
theorem dX7_rollUp_9 : decode cX7_rollUp 9 = .ok (.ifCond .ge 7, 3) := by decide +kernel
theorem dX7_rollUp_12 : decode cX7_rollUp 12 = .ok (.iconst 0, 1) := by decide +kernel
theorem dX7_rollUp_13 : decode cX7_rollUp 13 = .ok (.goto 7, 3) := by decide +kernel
theorem dX7_rollUp_16 : decode cX7_rollUp 16 = .ok (.bipush 20, 2) := by decide +kernel
theorem dX7_rollUp_18 : decode cX7_rollUp 18 = .ok (.iload_n 1, 1) := by decide +kernel
theorem dX7_rollUp_19 : decode cX7_rollUp 19 = .ok (.imul, 1) := by decide +kernel
theorem dX7_rollUp_20 : decode cX7_rollUp 20 = .ok (.istore_n 3, 1) := by decide +kernel
theorem dX7_rollUp_21 : decode cX7_rollUp 21 = .ok (.iload_n 3, 1) := by decide +kernel
theorem dX7_rollUp_22 : decode cX7_rollUp 22 = .ok (.bipush 20, 2) := by decide +kernel
theorem dX7_rollUp_24 : decode cX7_rollUp 24 = .ok (.iload_n 2, 1) := by decide +kernel
theorem dX7_rollUp_25 : decode cX7_rollUp 25 = .ok (.imul, 1) := by decide +kernel
theorem dX7_rollUp_26 : decode cX7_rollUp 26 = .ok (.if_icmp .ge 49, 3) := by decide +kernel
theorem dX7_rollUp_29 : decode cX7_rollUp 29 = .ok (.iload_n 3, 1) := by decide +kernel
theorem dX7_rollUp_30 : decode cX7_rollUp 30 = .ok (.bipush 20, 2) := by decide +kernel
theorem dX7_rollUp_32 : decode cX7_rollUp 32 = .ok (.iadd, 1) := by decide +kernel
theorem dX7_rollUp_33 : decode cX7_rollUp 33 = .ok (.sipush 160, 3) := by decide +kernel
theorem dX7_rollUp_36 : decode cX7_rollUp 36 = .ok (.if_icmp .ge 39, 3) := by decide +kernel
theorem dX7_rollUp_39 : decode cX7_rollUp 39 = .ok (.aload_n 0, 1) := by decide +kernel
theorem dX7_rollUp_40 : decode cX7_rollUp 40 = .ok (.getfield 9, 3) := by decide +kernel
theorem dX7_rollUp_43 : decode cX7_rollUp 43 = .ok (.iload_n 3, 1) := by decide +kernel
theorem dX7_rollUp_44 : decode cX7_rollUp 44 = .ok (.aload_n 0, 1) := by decide +kernel
theorem dX7_rollUp_45 : decode cX7_rollUp 45 = .ok (.getfield 9, 3) := by decide +kernel
theorem dX7_rollUp_48 : decode cX7_rollUp 48 = .ok (.iload_n 3, 1) := by decide +kernel
theorem dX7_rollUp_49 : decode cX7_rollUp 49 = .ok (.bipush 20, 2) := by decide +kernel
theorem dX7_rollUp_51 : decode cX7_rollUp 51 = .ok (.iadd, 1) := by decide +kernel
theorem dX7_rollUp_52 : decode cX7_rollUp 52 = .ok (.iaload, 1) := by decide +kernel
theorem dX7_rollUp_53 : decode cX7_rollUp 53 = .ok (.iastore, 1) := by decide +kernel
theorem dX7_rollUp_54 : decode cX7_rollUp 54 = .ok (.aload_n 0, 1) := by decide +kernel
theorem dX7_rollUp_55 : decode cX7_rollUp 55 = .ok (.getfield 15, 3) := by decide +kernel
theorem dX7_rollUp_58 : decode cX7_rollUp 58 = .ok (.iload_n 3, 1) := by decide +kernel
theorem dX7_rollUp_59 : decode cX7_rollUp 59 = .ok (.aload_n 0, 1) := by decide +kernel
theorem dX7_rollUp_60 : decode cX7_rollUp 60 = .ok (.getfield 15, 3) := by decide +kernel
theorem dX7_rollUp_63 : decode cX7_rollUp 63 = .ok (.iload_n 3, 1) := by decide +kernel
theorem dX7_rollUp_64 : decode cX7_rollUp 64 = .ok (.bipush 20, 2) := by decide +kernel
theorem dX7_rollUp_66 : decode cX7_rollUp 66 = .ok (.iadd, 1) := by decide +kernel
theorem dX7_rollUp_67 : decode cX7_rollUp 67 = .ok (.iaload, 1) := by decide +kernel
theorem dX7_rollUp_68 : decode cX7_rollUp 68 = .ok (.iastore, 1) := by decide +kernel
theorem dX7_rollUp_69 : decode cX7_rollUp 69 = .ok (.iinc 3 1, 3) := by decide +kernel
theorem dX7_rollUp_72 : decode cX7_rollUp 72 = .ok (.goto (-51), 3) := by decide +kernel
theorem dX7_rollUp_75 : decode cX7_rollUp 75 = .ok (.aload_n 0, 1) := by decide +kernel
theorem dX7_rollUp_76 : decode cX7_rollUp 76 = .ok (.iload_n 2, 1) := by decide +kernel
theorem dX7_rollUp_77 : decode cX7_rollUp 77 = .ok (.iload_n 2, 1) := by decide +kernel
theorem dX7_rollUp_78 : decode cX7_rollUp 78 = .ok (.invokevirtual 28, 3) := by decide +kernel
theorem dX7_rollUp_81 : decode cX7_rollUp 81 = .ok (.return_, 1) := by decide +kernel
theorem dX7_filledCells_0 : decode cX7_filledCells 0 = .ok (.iconst 0, 1) := by decide +kernel
theorem dX7_filledCells_1 : decode cX7_filledCells 1 = .ok (.istore_n 1, 1) := by decide +kernel
theorem dX7_filledCells_2 : decode cX7_filledCells 2 = .ok (.iconst 0, 1) := by decide +kernel
theorem dX7_filledCells_3 : decode cX7_filledCells 3 = .ok (.istore_n 2, 1) := by decide +kernel
theorem dX7_filledCells_4 : decode cX7_filledCells 4 = .ok (.iload_n 2, 1) := by decide +kernel
theorem dX7_filledCells_5 : decode cX7_filledCells 5 = .ok (.sipush 160, 3) := by decide +kernel
theorem dX7_filledCells_8 : decode cX7_filledCells 8 = .ok (.if_icmp .ge 22, 3) := by decide +kernel
theorem dX7_filledCells_11 : decode cX7_filledCells 11 = .ok (.aload_n 0, 1) := by decide +kernel
theorem dX7_filledCells_12 : decode cX7_filledCells 12 = .ok (.getfield 9, 3) := by decide +kernel
theorem dX7_filledCells_15 : decode cX7_filledCells 15 = .ok (.iload_n 2, 1) := by decide +kernel
theorem dX7_filledCells_16 : decode cX7_filledCells 16 = .ok (.iaload, 1) := by decide +kernel
theorem dX7_filledCells_17 : decode cX7_filledCells 17 = .ok (.iconst (-1), 1) := by decide +kernel
theorem dX7_filledCells_18 : decode cX7_filledCells 18 = .ok (.if_icmp .eq 6, 3) := by decide +kernel
theorem dX7_filledCells_21 : decode cX7_filledCells 21 = .ok (.iinc 1 1, 3) := by decide +kernel
theorem dX7_filledCells_24 : decode cX7_filledCells 24 = .ok (.iinc 2 1, 3) := by decide +kernel
theorem dX7_filledCells_27 : decode cX7_filledCells 27 = .ok (.goto (-23), 3) := by decide +kernel
theorem dX7_filledCells_30 : decode cX7_filledCells 30 = .ok (.iload_n 1, 1) := by decide +kernel
theorem dX7_filledCells_31 : decode cX7_filledCells 31 = .ok (.ireturn, 1) := by decide +kernel
theorem dX7_looksLike_0 : decode cX7_looksLike 0 = .ok (.iconst 0, 1) := by decide +kernel
theorem dX7_looksLike_1 : decode cX7_looksLike 1 = .ok (.istore_n 2, 1) := by decide +kernel
theorem dX7_looksLike_2 : decode cX7_looksLike 2 = .ok (.iload_n 2, 1) := by decide +kernel
theorem dX7_looksLike_3 : decode cX7_looksLike 3 = .ok (.sipush 160, 3) := by decide +kernel
theorem dX7_looksLike_6 : decode cX7_looksLike 6 = .ok (.if_icmp .ge 41, 3) := by decide +kernel
theorem dX7_looksLike_9 : decode cX7_looksLike 9 = .ok (.aload_n 0, 1) := by decide +kernel
theorem dX7_looksLike_10 : decode cX7_looksLike 10 = .ok (.getfield 9, 3) := by decide +kernel
theorem dX7_looksLike_13 : decode cX7_looksLike 13 = .ok (.iload_n 2, 1) := by decide +kernel
theorem dX7_looksLike_14 : decode cX7_looksLike 14 = .ok (.iaload, 1) := by decide +kernel
theorem dX7_looksLike_15 : decode cX7_looksLike 15 = .ok (.aload_n 1, 1) := by decide +kernel
theorem dX7_looksLike_16 : decode cX7_looksLike 16 = .ok (.getfield 9, 3) := by decide +kernel
theorem dX7_looksLike_19 : decode cX7_looksLike 19 = .ok (.iload_n 2, 1) := by decide +kernel
theorem dX7_looksLike_20 : decode cX7_looksLike 20 = .ok (.iaload, 1) := by decide +kernel
theorem dX7_looksLike_21 : decode cX7_looksLike 21 = .ok (.if_icmp .ne 18, 3) := by decide +kernel
theorem dX7_looksLike_24 : decode cX7_looksLike 24 = .ok (.aload_n 0, 1) := by decide +kernel
theorem dX7_looksLike_25 : decode cX7_looksLike 25 = .ok (.getfield 15, 3) := by decide +kernel
theorem dX7_looksLike_28 : decode cX7_looksLike 28 = .ok (.iload_n 2, 1) := by decide +kernel
theorem dX7_looksLike_29 : decode cX7_looksLike 29 = .ok (.iaload, 1) := by decide +kernel
theorem dX7_looksLike_30 : decode cX7_looksLike 30 = .ok (.aload_n 1, 1) := by decide +kernel
theorem dX7_looksLike_31 : decode cX7_looksLike 31 = .ok (.getfield 15, 3) := by decide +kernel
theorem dX7_looksLike_34 : decode cX7_looksLike 34 = .ok (.iload_n 2, 1) := by decide +kernel
theorem dX7_looksLike_35 : decode cX7_looksLike 35 = .ok (.iaload, 1) := by decide +kernel
theorem dX7_looksLike_36 : decode cX7_looksLike 36 = .ok (.if_icmp .eq 5, 3) := by decide +kernel
theorem dX7_looksLike_39 : decode cX7_looksLike 39 = .ok (.iconst 0, 1) := by decide +kernel
theorem dX7_looksLike_40 : decode cX7_looksLike 40 = .ok (.ireturn, 1) := by decide +kernel
theorem dX7_looksLike_41 : decode cX7_looksLike 41 = .ok (.iinc 2 1, 3) := by decide +kernel
theorem dX7_looksLike_44 : decode cX7_looksLike 44 = .ok (.goto (-42), 3) := by decide +kernel
theorem dX7_looksLike_47 : decode cX7_looksLike 47 = .ok (.iconst 1, 1) := by decide +kernel
theorem dX7_looksLike_48 : decode cX7_looksLike 48 = .ok (.ireturn, 1) := by decide +kernel
theorem dX8_init_0 : decode cX8_init 0 = .ok (.aload_n 0, 1) := by decide +kernel
theorem dX8_init_1 : decode cX8_init 1 = .ok (.invokespecial 3, 3) := by decide +kernel
theorem dX8_init_4 : decode cX8_init 4 = .ok (.aload_n 0, 1) := by decide +kernel
theorem dX8_init_5 : decode cX8_init 5 = .ok (.bipush 24, 2) := by decide +kernel
theorem dX8_init_7 : decode cX8_init 7 = .ok (.newarray .int, 2) := by decide +kernel
theorem dX8_init_9 : decode cX8_init 9 = .ok (.putfield 9, 3) := by decide +kernel
theorem dX8_init_12 : decode cX8_init 12 = .ok (.aload_n 0, 1) := by decide +kernel
theorem dX8_init_13 : decode cX8_init 13 = .ok (.bipush 24, 2) := by decide +kernel
theorem dX8_init_15 : decode cX8_init 15 = .ok (.newarray .int, 2) := by decide +kernel
theorem dX8_init_17 : decode cX8_init 17 = .ok (.putfield 15, 3) := by decide +kernel
theorem dX8_init_20 : decode cX8_init 20 = .ok (.return_, 1) := by decide +kernel
theorem dX8_pairAll_0 : decode cX8_pairAll 0 = .ok (.aload_n 0, 1) := by decide +kernel
theorem dX8_pairAll_1 : decode cX8_pairAll 1 = .ok (.aload_n 1, 1) := by decide +kernel
theorem dX8_pairAll_2 : decode cX8_pairAll 2 = .ok (.iconst 1, 1) := by decide +kernel
theorem dX8_pairAll_3 : decode cX8_pairAll 3 = .ok (.aload_n 0, 1) := by decide +kernel
theorem dX8_pairAll_4 : decode cX8_pairAll 4 = .ok (.getfield 9, 3) := by decide +kernel
theorem dX8_pairAll_7 : decode cX8_pairAll 7 = .ok (.invokestatic 18, 3) := by decide +kernel
theorem dX8_pairAll_10 : decode cX8_pairAll 10 = .ok (.putfield 22, 3) := by decide +kernel
theorem dX8_pairAll_13 : decode cX8_pairAll 13 = .ok (.aload_n 0, 1) := by decide +kernel
theorem dX8_pairAll_14 : decode cX8_pairAll 14 = .ok (.aload_n 1, 1) := by decide +kernel
theorem dX8_pairAll_15 : decode cX8_pairAll 15 = .ok (.iconst 2, 1) := by decide +kernel
theorem dX8_pairAll_16 : decode cX8_pairAll 16 = .ok (.aload_n 0, 1) := by decide +kernel
theorem dX8_pairAll_17 : decode cX8_pairAll 17 = .ok (.getfield 15, 3) := by decide +kernel
theorem dX8_pairAll_20 : decode cX8_pairAll 20 = .ok (.invokestatic 18, 3) := by decide +kernel
theorem dX8_pairAll_23 : decode cX8_pairAll 23 = .ok (.putfield 26, 3) := by decide +kernel
theorem dX8_pairAll_26 : decode cX8_pairAll 26 = .ok (.iconst 0, 1) := by decide +kernel
theorem dX8_pairAll_27 : decode cX8_pairAll 27 = .ok (.istore_n 3, 1) := by decide +kernel
theorem dX8_pairAll_28 : decode cX8_pairAll 28 = .ok (.iload_n 3, 1) := by decide +kernel
theorem dX8_pairAll_29 : decode cX8_pairAll 29 = .ok (.aload_n 0, 1) := by decide +kernel
theorem dX8_pairAll_30 : decode cX8_pairAll 30 = .ok (.getfield 22, 3) := by decide +kernel
theorem dX8_pairAll_33 : decode cX8_pairAll 33 = .ok (.if_icmp .ge 60, 3) := by decide +kernel
theorem dX8_pairAll_36 : decode cX8_pairAll 36 = .ok (.iconst 0, 1) := by decide +kernel
theorem dX8_pairAll_37 : decode cX8_pairAll 37 = .ok (.istore 4, 2) := by decide +kernel
theorem dX8_pairAll_39 : decode cX8_pairAll 39 = .ok (.iload 4, 2) := by decide +kernel
theorem dX8_pairAll_41 : decode cX8_pairAll 41 = .ok (.aload_n 0, 1) := by decide +kernel
theorem dX8_pairAll_42 : decode cX8_pairAll 42 = .ok (.getfield 26, 3) := by decide +kernel
theorem dX8_pairAll_45 : decode cX8_pairAll 45 = .ok (.if_icmp .ge 42, 3) := by decide +kernel
theorem dX8_pairAll_48 : decode cX8_pairAll 48 = .ok (.aload_n 2, 1) := by decide +kernel
theorem dX8_pairAll_49 : decode cX8_pairAll 49 = .ok (.iload_n 3, 1) := by decide +kernel
theorem dX8_pairAll_50 : decode cX8_pairAll 50 = .ok (.iload 4, 2) := by decide +kernel
theorem dX8_pairAll_52 : decode cX8_pairAll 52 = .ok (.aload_n 1, 1) := by decide +kernel
theorem dX8_pairAll_53 : decode cX8_pairAll 53 = .ok (.getfield 29, 3) := by decide +kernel
theorem dX8_pairAll_56 : decode cX8_pairAll 56 = .ok (.aload_n 0, 1) := by decide +kernel
theorem dX8_pairAll_57 : decode cX8_pairAll 57 = .ok (.getfield 9, 3) := by decide +kernel
theorem dX8_pairAll_60 : decode cX8_pairAll 60 = .ok (.iload_n 3, 1) := by decide +kernel
theorem dX8_pairAll_61 : decode cX8_pairAll 61 = .ok (.iaload, 1) := by decide +kernel
theorem dX8_pairAll_62 : decode cX8_pairAll 62 = .ok (.aaload, 1) := by decide +kernel
theorem dX8_pairAll_63 : decode cX8_pairAll 63 = .ok (.aload_n 1, 1) := by decide +kernel
theorem dX8_pairAll_64 : decode cX8_pairAll 64 = .ok (.getfield 29, 3) := by decide +kernel
theorem dX8_pairAll_67 : decode cX8_pairAll 67 = .ok (.aload_n 0, 1) := by decide +kernel
theorem dX8_pairAll_68 : decode cX8_pairAll 68 = .ok (.getfield 15, 3) := by decide +kernel
theorem dX8_pairAll_71 : decode cX8_pairAll 71 = .ok (.iload 4, 2) := by decide +kernel
theorem dX8_pairAll_73 : decode cX8_pairAll 73 = .ok (.iaload, 1) := by decide +kernel
theorem dX8_pairAll_74 : decode cX8_pairAll 74 = .ok (.aaload, 1) := by decide +kernel
theorem dX8_pairAll_75 : decode cX8_pairAll 75 = .ok (.invokestatic 35, 3) := by decide +kernel
theorem dX8_pairAll_78 : decode cX8_pairAll 78 = .ok (.invokevirtual 39, 3) := by decide +kernel
theorem dX8_pairAll_81 : decode cX8_pairAll 81 = .ok (.iinc 4 1, 3) := by decide +kernel
theorem dX8_pairAll_84 : decode cX8_pairAll 84 = .ok (.goto (-45), 3) := by decide +kernel
theorem dX8_pairAll_87 : decode cX8_pairAll 87 = .ok (.iinc 3 1, 3) := by decide +kernel
theorem dX8_pairAll_90 : decode cX8_pairAll 90 = .ok (.goto (-62), 3) := by decide +kernel
theorem dX8_pairAll_93 : decode cX8_pairAll 93 = .ok (.aload_n 2, 1) := by decide +kernel
theorem dX8_pairAll_94 : decode cX8_pairAll 94 = .ok (.aload_n 0, 1) := by decide +kernel
theorem dX8_pairAll_95 : decode cX8_pairAll 95 = .ok (.getfield 22, 3) := by decide +kernel
theorem dX8_pairAll_98 : decode cX8_pairAll 98 = .ok (.aload_n 0, 1) := by decide +kernel
theorem dX8_pairAll_99 : decode cX8_pairAll 99 = .ok (.getfield 26, 3) := by decide +kernel
theorem dX8_pairAll_102 : decode cX8_pairAll 102 = .ok (.bipush 40, 2) := by decide +kernel
theorem dX8_pairAll_104 : decode cX8_pairAll 104 = .ok (.bipush 40, 2) := by decide +kernel
theorem dX8_pairAll_106 : decode cX8_pairAll 106 = .ok (.invokevirtual 45, 3) := by decide +kernel
theorem dX8_pairAll_109 : decode cX8_pairAll 109 = .ok (.ireturn, 1) := by decide +kernel
theorem dX8_gather_0 : decode cX8_gather 0 = .ok (.iconst 0, 1) := by decide +kernel
theorem dX8_gather_1 : decode cX8_gather 1 = .ok (.istore_n 3, 1) := by decide +kernel
theorem dX8_gather_2 : decode cX8_gather 2 = .ok (.iconst 0, 1) := by decide +kernel
theorem dX8_gather_3 : decode cX8_gather 3 = .ok (.istore 4, 2) := by decide +kernel
theorem dX8_gather_5 : decode cX8_gather 5 = .ok (.iload 4, 2) := by decide +kernel
theorem dX8_gather_7 : decode cX8_gather 7 = .ok (.aload_n 0, 1) := by decide +kernel
theorem dX8_gather_8 : decode cX8_gather 8 = .ok (.getfield 49, 3) := by decide +kernel
theorem dX8_gather_11 : decode cX8_gather 11 = .ok (.if_icmp .ge 40, 3) := by decide +kernel
theorem dX8_gather_14 : decode cX8_gather 14 = .ok (.iload_n 3, 1) := by decide +kernel
theorem dX8_gather_15 : decode cX8_gather 15 = .ok (.aload_n 2, 1) := by decide +kernel
theorem dX8_gather_16 : decode cX8_gather 16 = .ok (.arraylength, 1) := by decide +kernel
theorem dX8_gather_17 : decode cX8_gather 17 = .ok (.if_icmp .ge 34, 3) := by decide +kernel
theorem dX8_gather_20 : decode cX8_gather 20 = .ok (.aload_n 0, 1) := by decide +kernel
theorem dX8_gather_21 : decode cX8_gather 21 = .ok (.iload 4, 2) := by decide +kernel
theorem dX8_gather_23 : decode cX8_gather 23 = .ok (.invokevirtual 52, 3) := by decide +kernel
theorem dX8_gather_26 : decode cX8_gather 26 = .ok (.getfield 56, 3) := by decide +kernel
theorem dX8_gather_29 : decode cX8_gather 29 = .ok (.iload_n 1, 1) := by decide +kernel
theorem dX8_gather_30 : decode cX8_gather 30 = .ok (.if_icmp .ne 15, 3) := by decide +kernel
theorem dX8_gather_33 : decode cX8_gather 33 = .ok (.aload_n 2, 1) := by decide +kernel
theorem dX8_gather_34 : decode cX8_gather 34 = .ok (.iload_n 3, 1) := by decide +kernel
theorem dX8_gather_35 : decode cX8_gather 35 = .ok (.aload_n 0, 1) := by decide +kernel
theorem dX8_gather_36 : decode cX8_gather 36 = .ok (.iload 4, 2) := by decide +kernel
theorem dX8_gather_38 : decode cX8_gather 38 = .ok (.invokevirtual 61, 3) := by decide +kernel
theorem dX8_gather_41 : decode cX8_gather 41 = .ok (.iastore, 1) := by decide +kernel
theorem dX8_gather_42 : decode cX8_gather 42 = .ok (.iinc 3 1, 3) := by decide +kernel
theorem dX8_gather_45 : decode cX8_gather 45 = .ok (.iinc 4 1, 3) := by decide +kernel
theorem dX8_gather_48 : decode cX8_gather 48 = .ok (.goto (-43), 3) := by decide +kernel
theorem dX8_gather_51 : decode cX8_gather 51 = .ok (.iload_n 3, 1) := by decide +kernel
theorem dX8_gather_52 : decode cX8_gather 52 = .ok (.ireturn, 1) := by decide +kernel
theorem dX8_priceOf_0 : decode cX8_priceOf 0 = .ok (.aload_n 0, 1) := by decide +kernel
theorem dX8_priceOf_1 : decode cX8_priceOf 1 = .ok (.getfield 65, 3) := by decide +kernel
theorem dX8_priceOf_4 : decode cX8_priceOf 4 = .ok (.aload_n 1, 1) := by decide +kernel
theorem dX8_priceOf_5 : decode cX8_priceOf 5 = .ok (.getfield 65, 3) := by decide +kernel
theorem dX8_priceOf_8 : decode cX8_priceOf 8 = .ok (.isub, 1) := by decide +kernel
theorem dX8_priceOf_9 : decode cX8_priceOf 9 = .ok (.invokestatic 68, 3) := by decide +kernel
theorem dX8_priceOf_12 : decode cX8_priceOf 12 = .ok (.iconst 5, 1) := by decide +kernel
theorem dX8_priceOf_13 : decode cX8_priceOf 13 = .ok (.aload_n 0, 1) := by decide +kernel
theorem dX8_priceOf_14 : decode cX8_priceOf 14 = .ok (.getfield 73, 3) := by decide +kernel
theorem dX8_priceOf_17 : decode cX8_priceOf 17 = .ok (.aload_n 1, 1) := by decide +kernel
theorem dX8_priceOf_18 : decode cX8_priceOf 18 = .ok (.getfield 73, 3) := by decide +kernel
theorem dX8_priceOf_21 : decode cX8_priceOf 21 = .ok (.isub, 1) := by decide +kernel
theorem dX8_priceOf_22 : decode cX8_priceOf 22 = .ok (.invokestatic 68, 3) := by decide +kernel
theorem dX8_priceOf_25 : decode cX8_priceOf 25 = .ok (.imul, 1) := by decide +kernel
theorem dX8_priceOf_26 : decode cX8_priceOf 26 = .ok (.iadd, 1) := by decide +kernel
theorem dX8_priceOf_27 : decode cX8_priceOf 27 = .ok (.ireturn, 1) := by decide +kernel
theorem dX8_secondOf_0 : decode cX8_secondOf 0 = .ok (.iconst 0, 1) := by decide +kernel
theorem dX8_secondOf_1 : decode cX8_secondOf 1 = .ok (.istore_n 3, 1) := by decide +kernel
theorem dX8_secondOf_2 : decode cX8_secondOf 2 = .ok (.iload_n 3, 1) := by decide +kernel
theorem dX8_secondOf_3 : decode cX8_secondOf 3 = .ok (.aload_n 0, 1) := by decide +kernel
theorem dX8_secondOf_4 : decode cX8_secondOf 4 = .ok (.getfield 22, 3) := by decide +kernel
theorem dX8_secondOf_7 : decode cX8_secondOf 7 = .ok (.if_icmp .ge 49, 3) := by decide +kernel
theorem dX8_secondOf_10 : decode cX8_secondOf 10 = .ok (.aload_n 2, 1) := by decide +kernel
theorem dX8_secondOf_11 : decode cX8_secondOf 11 = .ok (.iload_n 3, 1) := by decide +kernel
theorem dX8_secondOf_12 : decode cX8_secondOf 12 = .ok (.invokevirtual 76, 3) := by decide +kernel
theorem dX8_secondOf_15 : decode cX8_secondOf 15 = .ok (.istore 4, 2) := by decide +kernel
theorem dX8_secondOf_17 : decode cX8_secondOf 17 = .ok (.aload_n 0, 1) := by decide +kernel
theorem dX8_secondOf_18 : decode cX8_secondOf 18 = .ok (.getfield 9, 3) := by decide +kernel
theorem dX8_secondOf_21 : decode cX8_secondOf 21 = .ok (.iload_n 3, 1) := by decide +kernel
theorem dX8_secondOf_22 : decode cX8_secondOf 22 = .ok (.iaload, 1) := by decide +kernel
theorem dX8_secondOf_23 : decode cX8_secondOf 23 = .ok (.iload_n 1, 1) := by decide +kernel
theorem dX8_secondOf_24 : decode cX8_secondOf 24 = .ok (.if_icmp .ne 26, 3) := by decide +kernel
theorem dX8_secondOf_27 : decode cX8_secondOf 27 = .ok (.iload 4, 2) := by decide +kernel
theorem dX8_secondOf_29 : decode cX8_secondOf 29 = .ok (.iconst 0, 1) := by decide +kernel
theorem dX8_secondOf_30 : decode cX8_secondOf 30 = .ok (.aload_n 0, 1) := by decide +kernel
theorem dX8_secondOf_31 : decode cX8_secondOf 31 = .ok (.getfield 26, 3) := by decide +kernel
theorem dX8_secondOf_34 : decode cX8_secondOf 34 = .ok (.iconst 1, 1) := by decide +kernel
theorem dX8_secondOf_35 : decode cX8_secondOf 35 = .ok (.isub, 1) := by decide +kernel
theorem dX8_secondOf_36 : decode cX8_secondOf 36 = .ok (.invokestatic 79, 3) := by decide +kernel
theorem dX8_secondOf_39 : decode cX8_secondOf 39 = .ok (.ifCond .eq 11, 3) := by decide +kernel
theorem dX8_secondOf_42 : decode cX8_secondOf 42 = .ok (.aload_n 0, 1) := by decide +kernel
theorem dX8_secondOf_43 : decode cX8_secondOf 43 = .ok (.getfield 15, 3) := by decide +kernel
theorem dX8_secondOf_46 : decode cX8_secondOf 46 = .ok (.iload 4, 2) := by decide +kernel
theorem dX8_secondOf_48 : decode cX8_secondOf 48 = .ok (.iaload, 1) := by decide +kernel
theorem dX8_secondOf_49 : decode cX8_secondOf 49 = .ok (.ireturn, 1) := by decide +kernel
theorem dX8_secondOf_50 : decode cX8_secondOf 50 = .ok (.iinc 3 1, 3) := by decide +kernel
theorem dX8_secondOf_53 : decode cX8_secondOf 53 = .ok (.goto (-51), 3) := by decide +kernel
theorem dX8_secondOf_56 : decode cX8_secondOf 56 = .ok (.iconst (-1), 1) := by decide +kernel
theorem dX8_secondOf_57 : decode cX8_secondOf 57 = .ok (.ireturn, 1) := by decide +kernel
theorem dX8_firstOf_0 : decode cX8_firstOf 0 = .ok (.iconst 0, 1) := by decide +kernel
theorem dX8_firstOf_1 : decode cX8_firstOf 1 = .ok (.istore_n 3, 1) := by decide +kernel
theorem dX8_firstOf_2 : decode cX8_firstOf 2 = .ok (.iload_n 3, 1) := by decide +kernel
theorem dX8_firstOf_3 : decode cX8_firstOf 3 = .ok (.aload_n 0, 1) := by decide +kernel
theorem dX8_firstOf_4 : decode cX8_firstOf 4 = .ok (.getfield 22, 3) := by decide +kernel
theorem dX8_firstOf_7 : decode cX8_firstOf 7 = .ok (.if_icmp .ge 49, 3) := by decide +kernel
theorem dX8_firstOf_10 : decode cX8_firstOf 10 = .ok (.aload_n 2, 1) := by decide +kernel
theorem dX8_firstOf_11 : decode cX8_firstOf 11 = .ok (.iload_n 3, 1) := by decide +kernel
theorem dX8_firstOf_12 : decode cX8_firstOf 12 = .ok (.invokevirtual 76, 3) := by decide +kernel
theorem dX8_firstOf_15 : decode cX8_firstOf 15 = .ok (.istore 4, 2) := by decide +kernel
theorem dX8_firstOf_17 : decode cX8_firstOf 17 = .ok (.iload 4, 2) := by decide +kernel
theorem dX8_firstOf_19 : decode cX8_firstOf 19 = .ok (.iconst 0, 1) := by decide +kernel
theorem dX8_firstOf_20 : decode cX8_firstOf 20 = .ok (.aload_n 0, 1) := by decide +kernel
theorem dX8_firstOf_21 : decode cX8_firstOf 21 = .ok (.getfield 26, 3) := by decide +kernel
theorem dX8_firstOf_24 : decode cX8_firstOf 24 = .ok (.iconst 1, 1) := by decide +kernel
theorem dX8_firstOf_25 : decode cX8_firstOf 25 = .ok (.isub, 1) := by decide +kernel
theorem dX8_firstOf_26 : decode cX8_firstOf 26 = .ok (.invokestatic 79, 3) := by decide +kernel
theorem dX8_firstOf_29 : decode cX8_firstOf 29 = .ok (.ifCond .eq 21, 3) := by decide +kernel
theorem dX8_firstOf_32 : decode cX8_firstOf 32 = .ok (.aload_n 0, 1) := by decide +kernel
theorem dX8_firstOf_33 : decode cX8_firstOf 33 = .ok (.getfield 15, 3) := by decide +kernel
theorem dX8_firstOf_36 : decode cX8_firstOf 36 = .ok (.iload 4, 2) := by decide +kernel
theorem dX8_firstOf_38 : decode cX8_firstOf 38 = .ok (.iaload, 1) := by decide +kernel
theorem dX8_firstOf_39 : decode cX8_firstOf 39 = .ok (.iload_n 1, 1) := by decide +kernel
theorem dX8_firstOf_40 : decode cX8_firstOf 40 = .ok (.if_icmp .ne 10, 3) := by decide +kernel
theorem dX8_firstOf_43 : decode cX8_firstOf 43 = .ok (.aload_n 0, 1) := by decide +kernel
theorem dX8_firstOf_44 : decode cX8_firstOf 44 = .ok (.getfield 9, 3) := by decide +kernel
theorem dX8_firstOf_47 : decode cX8_firstOf 47 = .ok (.iload_n 3, 1) := by decide +kernel
theorem dX8_firstOf_48 : decode cX8_firstOf 48 = .ok (.iaload, 1) := by decide +kernel
theorem dX8_firstOf_49 : decode cX8_firstOf 49 = .ok (.ireturn, 1) := by decide +kernel
theorem dX8_firstOf_50 : decode cX8_firstOf 50 = .ok (.iinc 3 1, 3) := by decide +kernel
theorem dX8_firstOf_53 : decode cX8_firstOf 53 = .ok (.goto (-51), 3) := by decide +kernel
theorem dX8_firstOf_56 : decode cX8_firstOf 56 = .ok (.iconst (-1), 1) := by decide +kernel
theorem dX8_firstOf_57 : decode cX8_firstOf 57 = .ok (.ireturn, 1) := by decide +kernel
theorem dX9_init_0 : decode cX9_init 0 = .ok (.aload_n 0, 1) := by decide +kernel
theorem dX9_init_1 : decode cX9_init 1 = .ok (.invokespecial 3, 3) := by decide +kernel
theorem dX9_init_4 : decode cX9_init 4 = .ok (.aload_n 0, 1) := by decide +kernel
theorem dX9_init_5 : decode cX9_init 5 = .ok (.new 9, 3) := by decide +kernel
theorem dX9_init_8 : decode cX9_init 8 = .ok (.dup, 1) := by decide +kernel
theorem dX9_init_9 : decode cX9_init 9 = .ok (.invokespecial 11, 3) := by decide +kernel
theorem dX9_init_12 : decode cX9_init 12 = .ok (.putfield 12, 3) := by decide +kernel
theorem dX9_init_15 : decode cX9_init 15 = .ok (.aload_n 0, 1) := by decide +kernel
theorem dX9_init_16 : decode cX9_init 16 = .ok (.new 9, 3) := by decide +kernel
theorem dX9_init_19 : decode cX9_init 19 = .ok (.dup, 1) := by decide +kernel
theorem dX9_init_20 : decode cX9_init 20 = .ok (.invokespecial 11, 3) := by decide +kernel
theorem dX9_init_23 : decode cX9_init 23 = .ok (.putfield 18, 3) := by decide +kernel
theorem dX9_init_26 : decode cX9_init 26 = .ok (.aload_n 0, 1) := by decide +kernel
theorem dX9_init_27 : decode cX9_init 27 = .ok (.bipush 111, 2) := by decide +kernel
theorem dX9_init_29 : decode cX9_init 29 = .ok (.putfield 21, 3) := by decide +kernel
theorem dX9_init_32 : decode cX9_init 32 = .ok (.aload_n 0, 1) := by decide +kernel
theorem dX9_init_33 : decode cX9_init 33 = .ok (.bipush 7, 2) := by decide +kernel
theorem dX9_init_35 : decode cX9_init 35 = .ok (.putfield 25, 3) := by decide +kernel
theorem dX9_init_38 : decode cX9_init 38 = .ok (.aload_n 0, 1) := by decide +kernel
theorem dX9_init_39 : decode cX9_init 39 = .ok (.iconst 2, 1) := by decide +kernel
theorem dX9_init_40 : decode cX9_init 40 = .ok (.putfield 29, 3) := by decide +kernel
theorem dX9_init_43 : decode cX9_init 43 = .ok (.return_, 1) := by decide +kernel
theorem dX9_restart_0 : decode cX9_restart 0 = .ok (.aload_n 0, 1) := by decide +kernel
theorem dX9_restart_1 : decode cX9_restart 1 = .ok (.getfield 32, 3) := by decide +kernel
theorem dX9_restart_4 : decode cX9_restart 4 = .ok (.ifCond .ne 4, 3) := by decide +kernel
theorem dX9_restart_7 : decode cX9_restart 7 = .ok (.return_, 1) := by decide +kernel
theorem dX9_restart_8 : decode cX9_restart 8 = .ok (.aload_n 0, 1) := by decide +kernel
theorem dX9_restart_9 : decode cX9_restart 9 = .ok (.getfield 12, 3) := by decide +kernel
theorem dX9_restart_12 : decode cX9_restart 12 = .ok (.invokevirtual 35, 3) := by decide +kernel
theorem dX9_restart_15 : decode cX9_restart 15 = .ok (.aload_n 0, 1) := by decide +kernel
theorem dX9_restart_16 : decode cX9_restart 16 = .ok (.getfield 18, 3) := by decide +kernel
theorem dX9_restart_19 : decode cX9_restart 19 = .ok (.invokevirtual 35, 3) := by decide +kernel
theorem dX9_restart_22 : decode cX9_restart 22 = .ok (.aload_n 0, 1) := by decide +kernel
theorem dX9_restart_23 : decode cX9_restart 23 = .ok (.bipush 111, 2) := by decide +kernel
theorem dX9_restart_25 : decode cX9_restart 25 = .ok (.putfield 21, 3) := by decide +kernel
theorem dX9_restart_28 : decode cX9_restart 28 = .ok (.aload_n 0, 1) := by decide +kernel
theorem dX9_restart_29 : decode cX9_restart 29 = .ok (.bipush 7, 2) := by decide +kernel
theorem dX9_restart_31 : decode cX9_restart 31 = .ok (.putfield 25, 3) := by decide +kernel
theorem dX9_restart_34 : decode cX9_restart 34 = .ok (.aload_n 0, 1) := by decide +kernel
theorem dX9_restart_35 : decode cX9_restart 35 = .ok (.iconst 0, 1) := by decide +kernel
theorem dX9_restart_36 : decode cX9_restart 36 = .ok (.putfield 38, 3) := by decide +kernel
theorem dX9_restart_39 : decode cX9_restart 39 = .ok (.aload_n 0, 1) := by decide +kernel
theorem dX9_restart_40 : decode cX9_restart 40 = .ok (.iconst 0, 1) := by decide +kernel
theorem dX9_restart_41 : decode cX9_restart 41 = .ok (.putfield 41, 3) := by decide +kernel
theorem dX9_restart_44 : decode cX9_restart 44 = .ok (.aload_n 0, 1) := by decide +kernel
theorem dX9_restart_45 : decode cX9_restart 45 = .ok (.iconst 0, 1) := by decide +kernel
theorem dX9_restart_46 : decode cX9_restart 46 = .ok (.putfield 32, 3) := by decide +kernel
theorem dX9_restart_49 : decode cX9_restart 49 = .ok (.return_, 1) := by decide +kernel
theorem dX9_goTo_0 : decode cX9_goTo 0 = .ok (.aload_n 1, 1) := by decide +kernel
theorem dX9_goTo_1 : decode cX9_goTo 1 = .ok (.iload_n 2, 1) := by decide +kernel
theorem dX9_goTo_2 : decode cX9_goTo 2 = .ok (.invokevirtual 44, 3) := by decide +kernel
theorem dX9_goTo_5 : decode cX9_goTo 5 = .ok (.istore_n 3, 1) := by decide +kernel
theorem dX9_goTo_6 : decode cX9_goTo 6 = .ok (.iload_n 3, 1) := by decide +kernel
theorem dX9_goTo_7 : decode cX9_goTo 7 = .ok (.aload_n 0, 1) := by decide +kernel
theorem dX9_goTo_8 : decode cX9_goTo 8 = .ok (.getfield 32, 3) := by decide +kernel
theorem dX9_goTo_11 : decode cX9_goTo 11 = .ok (.if_icmp .ge 7, 3) := by decide +kernel
theorem dX9_goTo_14 : decode cX9_goTo 14 = .ok (.aload_n 0, 1) := by decide +kernel
theorem dX9_goTo_15 : decode cX9_goTo 15 = .ok (.invokevirtual 50, 3) := by decide +kernel
theorem dX9_goTo_18 : decode cX9_goTo 18 = .ok (.aload_n 0, 1) := by decide +kernel
theorem dX9_goTo_19 : decode cX9_goTo 19 = .ok (.getfield 32, 3) := by decide +kernel
theorem dX9_goTo_22 : decode cX9_goTo 22 = .ok (.istore 4, 2) := by decide +kernel
theorem dX9_goTo_24 : decode cX9_goTo 24 = .ok (.iload 4, 2) := by decide +kernel
theorem dX9_goTo_26 : decode cX9_goTo 26 = .ok (.iload_n 3, 1) := by decide +kernel
theorem dX9_goTo_27 : decode cX9_goTo 27 = .ok (.if_icmp .ge 45, 3) := by decide +kernel
theorem dX9_goTo_30 : decode cX9_goTo 30 = .ok (.iload 4, 2) := by decide +kernel
theorem dX9_goTo_32 : decode cX9_goTo 32 = .ok (.sipush 200, 3) := by decide +kernel
theorem dX9_goTo_35 : decode cX9_goTo 35 = .ok (.if_icmp .ge 37, 3) := by decide +kernel
theorem dX9_goTo_38 : decode cX9_goTo 38 = .ok (.aload_n 1, 1) := by decide +kernel
theorem dX9_goTo_39 : decode cX9_goTo 39 = .ok (.getfield 53, 3) := by decide +kernel
theorem dX9_goTo_42 : decode cX9_goTo 42 = .ok (.iload 4, 2) := by decide +kernel
theorem dX9_goTo_44 : decode cX9_goTo 44 = .ok (.baload, 1) := by decide +kernel
theorem dX9_goTo_45 : decode cX9_goTo 45 = .ok (.ifCond .ne 21, 3) := by decide +kernel
theorem dX9_goTo_48 : decode cX9_goTo 48 = .ok (.aload_n 0, 1) := by decide +kernel
theorem dX9_goTo_49 : decode cX9_goTo 49 = .ok (.aload_n 1, 1) := by decide +kernel
theorem dX9_goTo_50 : decode cX9_goTo 50 = .ok (.getfield 57, 3) := by decide +kernel
theorem dX9_goTo_53 : decode cX9_goTo 53 = .ok (.iload 4, 2) := by decide +kernel
theorem dX9_goTo_55 : decode cX9_goTo 55 = .ok (.caload, 1) := by decide +kernel
theorem dX9_goTo_56 : decode cX9_goTo 56 = .ok (.aload_n 1, 1) := by decide +kernel
theorem dX9_goTo_57 : decode cX9_goTo 57 = .ok (.getfield 61, 3) := by decide +kernel
theorem dX9_goTo_60 : decode cX9_goTo 60 = .ok (.iload 4, 2) := by decide +kernel
theorem dX9_goTo_62 : decode cX9_goTo 62 = .ok (.iaload, 1) := by decide +kernel
theorem dX9_goTo_63 : decode cX9_goTo 63 = .ok (.invokevirtual 65, 3) := by decide +kernel
theorem dX9_goTo_66 : decode cX9_goTo 66 = .ok (.iinc 4 1, 3) := by decide +kernel
theorem dX9_goTo_69 : decode cX9_goTo 69 = .ok (.goto (-45), 3) := by decide +kernel
theorem dX9_goTo_72 : decode cX9_goTo 72 = .ok (.aload_n 0, 1) := by decide +kernel
theorem dX9_goTo_73 : decode cX9_goTo 73 = .ok (.iload_n 3, 1) := by decide +kernel
theorem dX9_goTo_74 : decode cX9_goTo 74 = .ok (.putfield 32, 3) := by decide +kernel
theorem dX9_goTo_77 : decode cX9_goTo 77 = .ok (.return_, 1) := by decide +kernel
theorem dX9_obey_0 : decode cX9_obey 0 = .ok (.iload_n 1, 1) := by decide +kernel
theorem dX9_obey_1 : decode cX9_obey 1 = .ok (.tableswitch 195 98 120 #[165, 138, 123, 131, 195, 195, 195, 195, 195, 187, 195, 172, 155, 195, 123, 195, 115, 195, 107, 195, 195, 195, 145], 107) := by decide +kernel
theorem dX9_obey_108 : decode cX9_obey 108 = .ok (.aload_n 0, 1) := by decide +kernel
theorem dX9_obey_109 : decode cX9_obey 109 = .ok (.iload_n 2, 1) := by decide +kernel
theorem dX9_obey_110 : decode cX9_obey 110 = .ok (.invokevirtual 69, 3) := by decide +kernel
theorem dX9_obey_113 : decode cX9_obey 113 = .ok (.goto 83, 3) := by decide +kernel
theorem dX9_obey_116 : decode cX9_obey 116 = .ok (.aload_n 0, 1) := by decide +kernel
theorem dX9_obey_117 : decode cX9_obey 117 = .ok (.iload_n 2, 1) := by decide +kernel
theorem dX9_obey_118 : decode cX9_obey 118 = .ok (.invokevirtual 73, 3) := by decide +kernel
theorem dX9_obey_121 : decode cX9_obey 121 = .ok (.goto 75, 3) := by decide +kernel
theorem dX9_obey_124 : decode cX9_obey 124 = .ok (.aload_n 0, 1) := by decide +kernel
theorem dX9_obey_125 : decode cX9_obey 125 = .ok (.iload_n 1, 1) := by decide +kernel
theorem dX9_obey_126 : decode cX9_obey 126 = .ok (.putfield 21, 3) := by decide +kernel
theorem dX9_obey_129 : decode cX9_obey 129 = .ok (.goto 67, 3) := by decide +kernel
theorem dX9_obey_132 : decode cX9_obey 132 = .ok (.aload_n 0, 1) := by decide +kernel
theorem dX9_obey_133 : decode cX9_obey 133 = .ok (.invokevirtual 76, 3) := by decide +kernel
theorem dX9_obey_136 : decode cX9_obey 136 = .ok (.goto 60, 3) := by decide +kernel
theorem dX9_obey_139 : decode cX9_obey 139 = .ok (.aload_n 0, 1) := by decide +kernel
theorem dX9_obey_140 : decode cX9_obey 140 = .ok (.invokevirtual 79, 3) := by decide +kernel
theorem dX9_obey_143 : decode cX9_obey 143 = .ok (.goto 53, 3) := by decide +kernel
theorem dX9_obey_146 : decode cX9_obey 146 = .ok (.aload_n 0, 1) := by decide +kernel
theorem dX9_obey_147 : decode cX9_obey 147 = .ok (.getfield 12, 3) := by decide +kernel
theorem dX9_obey_150 : decode cX9_obey 150 = .ok (.invokevirtual 35, 3) := by decide +kernel
theorem dX9_obey_153 : decode cX9_obey 153 = .ok (.goto 43, 3) := by decide +kernel
theorem dX9_obey_156 : decode cX9_obey 156 = .ok (.aload_n 0, 1) := by decide +kernel
theorem dX9_obey_157 : decode cX9_obey 157 = .ok (.getfield 18, 3) := by decide +kernel
theorem dX9_obey_160 : decode cX9_obey 160 = .ok (.invokevirtual 35, 3) := by decide +kernel
theorem dX9_obey_163 : decode cX9_obey 163 = .ok (.goto 33, 3) := by decide +kernel
theorem dX9_obey_166 : decode cX9_obey 166 = .ok (.aload_n 0, 1) := by decide +kernel
theorem dX9_obey_167 : decode cX9_obey 167 = .ok (.invokevirtual 82, 3) := by decide +kernel
theorem dX9_obey_170 : decode cX9_obey 170 = .ok (.goto 26, 3) := by decide +kernel
theorem dX9_obey_173 : decode cX9_obey 173 = .ok (.aload_n 0, 1) := by decide +kernel
theorem dX9_obey_174 : decode cX9_obey 174 = .ok (.iload_n 2, 1) := by decide +kernel
theorem dX9_obey_175 : decode cX9_obey 175 = .ok (.bipush 20, 2) := by decide +kernel
theorem dX9_obey_177 : decode cX9_obey 177 = .ok (.idiv, 1) := by decide +kernel
theorem dX9_obey_178 : decode cX9_obey 178 = .ok (.iload_n 2, 1) := by decide +kernel
theorem dX9_obey_179 : decode cX9_obey 179 = .ok (.bipush 20, 2) := by decide +kernel
theorem dX9_obey_181 : decode cX9_obey 181 = .ok (.irem, 1) := by decide +kernel
theorem dX9_obey_182 : decode cX9_obey 182 = .ok (.invokevirtual 85, 3) := by decide +kernel
theorem dX9_obey_185 : decode cX9_obey 185 = .ok (.goto 11, 3) := by decide +kernel
theorem dX9_obey_188 : decode cX9_obey 188 = .ok (.aload_n 0, 1) := by decide +kernel
theorem dX9_obey_189 : decode cX9_obey 189 = .ok (.iload_n 2, 1) := by decide +kernel
theorem dX9_obey_190 : decode cX9_obey 190 = .ok (.putfield 41, 3) := by decide +kernel
theorem dX9_obey_193 : decode cX9_obey 193 = .ok (.goto 3, 3) := by decide +kernel
theorem dX9_obey_196 : decode cX9_obey 196 = .ok (.return_, 1) := by decide +kernel
theorem dX9_written_0 : decode cX9_written 0 = .ok (.aload_n 0, 1) := by decide +kernel
theorem dX9_written_1 : decode cX9_written 1 = .ok (.getfield 21, 3) := by decide +kernel
theorem dX9_written_4 : decode cX9_written 4 = .ok (.bipush 112, 2) := by decide +kernel
theorem dX9_written_6 : decode cX9_written 6 = .ok (.if_icmp .ne 10, 3) := by decide +kernel
theorem dX9_written_9 : decode cX9_written 9 = .ok (.aload_n 0, 1) := by decide +kernel
theorem dX9_written_10 : decode cX9_written 10 = .ok (.getfield 18, 3) := by decide +kernel
theorem dX9_written_13 : decode cX9_written 13 = .ok (.goto 7, 3) := by decide +kernel
theorem dX9_written_16 : decode cX9_written 16 = .ok (.aload_n 0, 1) := by decide +kernel
theorem dX9_written_17 : decode cX9_written 17 = .ok (.getfield 12, 3) := by decide +kernel
theorem dX9_written_20 : decode cX9_written 20 = .ok (.areturn, 1) := by decide +kernel
theorem dX9_write_0 : decode cX9_write 0 = .ok (.aload_n 0, 1) := by decide +kernel
theorem dX9_write_1 : decode cX9_write 1 = .ok (.getfield 21, 3) := by decide +kernel
theorem dX9_write_4 : decode cX9_write 4 = .ok (.bipush 111, 2) := by decide +kernel
theorem dX9_write_6 : decode cX9_write 6 = .ok (.if_icmp .eq 38, 3) := by decide +kernel
theorem dX9_write_9 : decode cX9_write 9 = .ok (.aload_n 0, 1) := by decide +kernel
theorem dX9_write_10 : decode cX9_write 10 = .ok (.invokevirtual 89, 3) := by decide +kernel
theorem dX9_write_13 : decode cX9_write 13 = .ok (.aload_n 0, 1) := by decide +kernel
theorem dX9_write_14 : decode cX9_write 14 = .ok (.getfield 25, 3) := by decide +kernel
theorem dX9_write_17 : decode cX9_write 17 = .ok (.aload_n 0, 1) := by decide +kernel
theorem dX9_write_18 : decode cX9_write 18 = .ok (.getfield 38, 3) := by decide +kernel
theorem dX9_write_21 : decode cX9_write 21 = .ok (.iload_n 1, 1) := by decide +kernel
theorem dX9_write_22 : decode cX9_write 22 = .ok (.aload_n 0, 1) := by decide +kernel
theorem dX9_write_23 : decode cX9_write 23 = .ok (.getfield 41, 3) := by decide +kernel
theorem dX9_write_26 : decode cX9_write 26 = .ok (.invokevirtual 93, 3) := by decide +kernel
theorem dX9_write_29 : decode cX9_write 29 = .ok (.aload_n 0, 1) := by decide +kernel
theorem dX9_write_30 : decode cX9_write 30 = .ok (.aload_n 0, 1) := by decide +kernel
theorem dX9_write_31 : decode cX9_write 31 = .ok (.getfield 38, 3) := by decide +kernel
theorem dX9_write_34 : decode cX9_write 34 = .ok (.iconst 1, 1) := by decide +kernel
theorem dX9_write_35 : decode cX9_write 35 = .ok (.iadd, 1) := by decide +kernel
theorem dX9_write_36 : decode cX9_write 36 = .ok (.bipush 19, 2) := by decide +kernel
theorem dX9_write_38 : decode cX9_write 38 = .ok (.invokestatic 97, 3) := by decide +kernel
theorem dX9_write_41 : decode cX9_write 41 = .ok (.putfield 38, 3) := by decide +kernel
theorem dX9_write_44 : decode cX9_write 44 = .ok (.return_, 1) := by decide +kernel
theorem dX9_startRolling_0 : decode cX9_startRolling 0 = .ok (.aload_n 0, 1) := by decide +kernel
theorem dX9_startRolling_1 : decode cX9_startRolling 1 = .ok (.getfield 21, 3) := by decide +kernel
theorem dX9_startRolling_4 : decode cX9_startRolling 4 = .ok (.bipush 114, 2) := by decide +kernel
theorem dX9_startRolling_6 : decode cX9_startRolling 6 = .ok (.if_icmp .eq 34, 3) := by decide +kernel
theorem dX9_startRolling_9 : decode cX9_startRolling 9 = .ok (.aload_n 0, 1) := by decide +kernel
theorem dX9_startRolling_10 : decode cX9_startRolling 10 = .ok (.bipush 114, 2) := by decide +kernel
theorem dX9_startRolling_12 : decode cX9_startRolling 12 = .ok (.putfield 21, 3) := by decide +kernel
theorem dX9_startRolling_15 : decode cX9_startRolling 15 = .ok (.aload_n 0, 1) := by decide +kernel
theorem dX9_startRolling_16 : decode cX9_startRolling 16 = .ok (.getfield 12, 3) := by decide +kernel
theorem dX9_startRolling_19 : decode cX9_startRolling 19 = .ok (.invokevirtual 35, 3) := by decide +kernel
theorem dX9_startRolling_22 : decode cX9_startRolling 22 = .ok (.aload_n 0, 1) := by decide +kernel
theorem dX9_startRolling_23 : decode cX9_startRolling 23 = .ok (.getfield 18, 3) := by decide +kernel
theorem dX9_startRolling_26 : decode cX9_startRolling 26 = .ok (.invokevirtual 35, 3) := by decide +kernel
theorem dX9_startRolling_29 : decode cX9_startRolling 29 = .ok (.aload_n 0, 1) := by decide +kernel
theorem dX9_startRolling_30 : decode cX9_startRolling 30 = .ok (.bipush 7, 2) := by decide +kernel
theorem dX9_startRolling_32 : decode cX9_startRolling 32 = .ok (.putfield 25, 3) := by decide +kernel
theorem dX9_startRolling_35 : decode cX9_startRolling 35 = .ok (.aload_n 0, 1) := by decide +kernel
theorem dX9_startRolling_36 : decode cX9_startRolling 36 = .ok (.iconst 0, 1) := by decide +kernel
theorem dX9_startRolling_37 : decode cX9_startRolling 37 = .ok (.putfield 38, 3) := by decide +kernel
theorem dX9_startRolling_40 : decode cX9_startRolling 40 = .ok (.aload_n 0, 1) := by decide +kernel
theorem dX9_startRolling_41 : decode cX9_startRolling 41 = .ok (.iload_n 1, 1) := by decide +kernel
theorem dX9_startRolling_42 : decode cX9_startRolling 42 = .ok (.putfield 29, 3) := by decide +kernel
theorem dX9_startRolling_45 : decode cX9_startRolling 45 = .ok (.return_, 1) := by decide +kernel
theorem dX9_exchange_0 : decode cX9_exchange 0 = .ok (.aload_n 0, 1) := by decide +kernel
theorem dX9_exchange_1 : decode cX9_exchange 1 = .ok (.getfield 12, 3) := by decide +kernel
theorem dX9_exchange_4 : decode cX9_exchange 4 = .ok (.astore_n 1, 1) := by decide +kernel
theorem dX9_exchange_5 : decode cX9_exchange 5 = .ok (.aload_n 0, 1) := by decide +kernel
theorem dX9_exchange_6 : decode cX9_exchange 6 = .ok (.aload_n 0, 1) := by decide +kernel
theorem dX9_exchange_7 : decode cX9_exchange 7 = .ok (.getfield 18, 3) := by decide +kernel
theorem dX9_exchange_10 : decode cX9_exchange 10 = .ok (.putfield 12, 3) := by decide +kernel
theorem dX9_exchange_13 : decode cX9_exchange 13 = .ok (.aload_n 0, 1) := by decide +kernel
theorem dX9_exchange_14 : decode cX9_exchange 14 = .ok (.aload_n 1, 1) := by decide +kernel
theorem dX9_exchange_15 : decode cX9_exchange 15 = .ok (.putfield 18, 3) := by decide +kernel
theorem dX9_exchange_18 : decode cX9_exchange 18 = .ok (.aload_n 0, 1) := by decide +kernel
theorem dX9_exchange_19 : decode cX9_exchange 19 = .ok (.bipush 112, 2) := by decide +kernel
theorem dX9_exchange_21 : decode cX9_exchange 21 = .ok (.putfield 21, 3) := by decide +kernel
theorem dX9_exchange_24 : decode cX9_exchange 24 = .ok (.return_, 1) := by decide +kernel
theorem dX9_newLine_0 : decode cX9_newLine 0 = .ok (.aload_n 0, 1) := by decide +kernel
theorem dX9_newLine_1 : decode cX9_newLine 1 = .ok (.getfield 21, 3) := by decide +kernel
theorem dX9_newLine_4 : decode cX9_newLine 4 = .ok (.bipush 114, 2) := by decide +kernel
theorem dX9_newLine_6 : decode cX9_newLine 6 = .ok (.if_icmp .ne 34, 3) := by decide +kernel
theorem dX9_newLine_9 : decode cX9_newLine 9 = .ok (.aload_n 0, 1) := by decide +kernel
theorem dX9_newLine_10 : decode cX9_newLine 10 = .ok (.getfield 12, 3) := by decide +kernel
theorem dX9_newLine_13 : decode cX9_newLine 13 = .ok (.iconst 0, 1) := by decide +kernel
theorem dX9_newLine_14 : decode cX9_newLine 14 = .ok (.aload_n 0, 1) := by decide +kernel
theorem dX9_newLine_15 : decode cX9_newLine 15 = .ok (.getfield 25, 3) := by decide +kernel
theorem dX9_newLine_18 : decode cX9_newLine 18 = .ok (.aload_n 0, 1) := by decide +kernel
theorem dX9_newLine_19 : decode cX9_newLine 19 = .ok (.getfield 29, 3) := by decide +kernel
theorem dX9_newLine_22 : decode cX9_newLine 22 = .ok (.isub, 1) := by decide +kernel
theorem dX9_newLine_23 : decode cX9_newLine 23 = .ok (.iconst 1, 1) := by decide +kernel
theorem dX9_newLine_24 : decode cX9_newLine 24 = .ok (.iadd, 1) := by decide +kernel
theorem dX9_newLine_25 : decode cX9_newLine 25 = .ok (.invokestatic 103, 3) := by decide +kernel
theorem dX9_newLine_28 : decode cX9_newLine 28 = .ok (.aload_n 0, 1) := by decide +kernel
theorem dX9_newLine_29 : decode cX9_newLine 29 = .ok (.getfield 25, 3) := by decide +kernel
theorem dX9_newLine_32 : decode cX9_newLine 32 = .ok (.invokevirtual 106, 3) := by decide +kernel
theorem dX9_newLine_35 : decode cX9_newLine 35 = .ok (.aload_n 0, 1) := by decide +kernel
theorem dX9_newLine_36 : decode cX9_newLine 36 = .ok (.iconst 0, 1) := by decide +kernel
theorem dX9_newLine_37 : decode cX9_newLine 37 = .ok (.putfield 38, 3) := by decide +kernel
theorem dX9_newLine_40 : decode cX9_newLine 40 = .ok (.return_, 1) := by decide +kernel
theorem dX9_stepBack_0 : decode cX9_stepBack 0 = .ok (.aload_n 0, 1) := by decide +kernel
theorem dX9_stepBack_1 : decode cX9_stepBack 1 = .ok (.getfield 21, 3) := by decide +kernel
theorem dX9_stepBack_4 : decode cX9_stepBack 4 = .ok (.bipush 111, 2) := by decide +kernel
theorem dX9_stepBack_6 : decode cX9_stepBack 6 = .ok (.if_icmp .eq 37, 3) := by decide +kernel
theorem dX9_stepBack_9 : decode cX9_stepBack 9 = .ok (.aload_n 0, 1) := by decide +kernel
theorem dX9_stepBack_10 : decode cX9_stepBack 10 = .ok (.getfield 38, 3) := by decide +kernel
theorem dX9_stepBack_13 : decode cX9_stepBack 13 = .ok (.ifCond .le 30, 3) := by decide +kernel
theorem dX9_stepBack_16 : decode cX9_stepBack 16 = .ok (.aload_n 0, 1) := by decide +kernel
theorem dX9_stepBack_17 : decode cX9_stepBack 17 = .ok (.dup, 1) := by decide +kernel
theorem dX9_stepBack_18 : decode cX9_stepBack 18 = .ok (.getfield 38, 3) := by decide +kernel
theorem dX9_stepBack_21 : decode cX9_stepBack 21 = .ok (.iconst 1, 1) := by decide +kernel
theorem dX9_stepBack_22 : decode cX9_stepBack 22 = .ok (.isub, 1) := by decide +kernel
theorem dX9_stepBack_23 : decode cX9_stepBack 23 = .ok (.putfield 38, 3) := by decide +kernel
theorem dX9_stepBack_26 : decode cX9_stepBack 26 = .ok (.aload_n 0, 1) := by decide +kernel
theorem dX9_stepBack_27 : decode cX9_stepBack 27 = .ok (.invokevirtual 89, 3) := by decide +kernel
theorem dX9_stepBack_30 : decode cX9_stepBack 30 = .ok (.aload_n 0, 1) := by decide +kernel
theorem dX9_stepBack_31 : decode cX9_stepBack 31 = .ok (.getfield 25, 3) := by decide +kernel
theorem dX9_stepBack_34 : decode cX9_stepBack 34 = .ok (.aload_n 0, 1) := by decide +kernel
theorem dX9_stepBack_35 : decode cX9_stepBack 35 = .ok (.getfield 38, 3) := by decide +kernel
theorem dX9_stepBack_38 : decode cX9_stepBack 38 = .ok (.iconst (-1), 1) := by decide +kernel
theorem dX9_stepBack_39 : decode cX9_stepBack 39 = .ok (.iconst (-1), 1) := by decide +kernel
theorem dX9_stepBack_40 : decode cX9_stepBack 40 = .ok (.invokevirtual 93, 3) := by decide +kernel
theorem dX9_stepBack_43 : decode cX9_stepBack 43 = .ok (.return_, 1) := by decide +kernel
theorem dX9_moveCursor_0 : decode cX9_moveCursor 0 = .ok (.aload_n 0, 1) := by decide +kernel
theorem dX9_moveCursor_1 : decode cX9_moveCursor 1 = .ok (.getfield 21, 3) := by decide +kernel
theorem dX9_moveCursor_4 : decode cX9_moveCursor 4 = .ok (.bipush 114, 2) := by decide +kernel
theorem dX9_moveCursor_6 : decode cX9_moveCursor 6 = .ok (.if_icmp .ne 18, 3) := by decide +kernel
theorem dX9_moveCursor_9 : decode cX9_moveCursor 9 = .ok (.iload_n 1, 1) := by decide +kernel
theorem dX9_moveCursor_10 : decode cX9_moveCursor 10 = .ok (.aload_n 0, 1) := by decide +kernel
theorem dX9_moveCursor_11 : decode cX9_moveCursor 11 = .ok (.getfield 25, 3) := by decide +kernel
theorem dX9_moveCursor_14 : decode cX9_moveCursor 14 = .ok (.if_icmp .eq 10, 3) := by decide +kernel
theorem dX9_moveCursor_17 : decode cX9_moveCursor 17 = .ok (.aload_n 0, 1) := by decide +kernel
theorem dX9_moveCursor_18 : decode cX9_moveCursor 18 = .ok (.getfield 12, 3) := by decide +kernel
theorem dX9_moveCursor_21 : decode cX9_moveCursor 21 = .ok (.invokevirtual 35, 3) := by decide +kernel
theorem dX9_moveCursor_24 : decode cX9_moveCursor 24 = .ok (.aload_n 0, 1) := by decide +kernel
theorem dX9_moveCursor_25 : decode cX9_moveCursor 25 = .ok (.iload_n 1, 1) := by decide +kernel
theorem dX9_moveCursor_26 : decode cX9_moveCursor 26 = .ok (.putfield 25, 3) := by decide +kernel
theorem dX9_moveCursor_29 : decode cX9_moveCursor 29 = .ok (.aload_n 0, 1) := by decide +kernel
theorem dX9_moveCursor_30 : decode cX9_moveCursor 30 = .ok (.iload_n 2, 1) := by decide +kernel
theorem dX9_moveCursor_31 : decode cX9_moveCursor 31 = .ok (.putfield 38, 3) := by decide +kernel
theorem dX9_moveCursor_34 : decode cX9_moveCursor 34 = .ok (.return_, 1) := by decide +kernel
theorem dX10_init_0 : decode cX10_init 0 = .ok (.aload_n 0, 1) := by decide +kernel
theorem dX10_init_1 : decode cX10_init 1 = .ok (.invokespecial 3, 3) := by decide +kernel
theorem dX10_init_4 : decode cX10_init 4 = .ok (.aload_n 0, 1) := by decide +kernel
theorem dX10_init_5 : decode cX10_init 5 = .ok (.bipush 24, 2) := by decide +kernel
theorem dX10_init_7 : decode cX10_init 7 = .ok (.anewarray 9, 3) := by decide +kernel
theorem dX10_init_10 : decode cX10_init 10 = .ok (.putfield 11, 3) := by decide +kernel
theorem dX10_init_13 : decode cX10_init 13 = .ok (.aload_n 0, 1) := by decide +kernel
theorem dX10_init_14 : decode cX10_init 14 = .ok (.iconst 3, 1) := by decide +kernel
theorem dX10_init_15 : decode cX10_init 15 = .ok (.newarray .int, 2) := by decide +kernel
theorem dX10_init_17 : decode cX10_init 17 = .ok (.putfield 17, 3) := by decide +kernel
theorem dX10_init_20 : decode cX10_init 20 = .ok (.aload_n 0, 1) := by decide +kernel
theorem dX10_init_21 : decode cX10_init 21 = .ok (.iconst 3, 1) := by decide +kernel
theorem dX10_init_22 : decode cX10_init 22 = .ok (.newarray .int, 2) := by decide +kernel
theorem dX10_init_24 : decode cX10_init 24 = .ok (.putfield 21, 3) := by decide +kernel
theorem dX10_init_27 : decode cX10_init 27 = .ok (.aload_n 0, 1) := by decide +kernel
theorem dX10_init_28 : decode cX10_init 28 = .ok (.iconst 3, 1) := by decide +kernel
theorem dX10_init_29 : decode cX10_init 29 = .ok (.newarray .int, 2) := by decide +kernel
theorem dX10_init_31 : decode cX10_init 31 = .ok (.putfield 24, 3) := by decide +kernel
theorem dX10_init_34 : decode cX10_init 34 = .ok (.aload_n 0, 1) := by decide +kernel
theorem dX10_init_35 : decode cX10_init 35 = .ok (.new 27, 3) := by decide +kernel
theorem dX10_init_38 : decode cX10_init 38 = .ok (.dup, 1) := by decide +kernel
theorem dX10_init_39 : decode cX10_init 39 = .ok (.invokespecial 29, 3) := by decide +kernel
theorem dX10_init_42 : decode cX10_init 42 = .ok (.putfield 30, 3) := by decide +kernel
theorem dX10_init_45 : decode cX10_init 45 = .ok (.aload_n 0, 1) := by decide +kernel
theorem dX10_init_46 : decode cX10_init 46 = .ok (.bipush 24, 2) := by decide +kernel
theorem dX10_init_48 : decode cX10_init 48 = .ok (.newarray .int, 2) := by decide +kernel
theorem dX10_init_50 : decode cX10_init 50 = .ok (.putfield 34, 3) := by decide +kernel
theorem dX10_init_53 : decode cX10_init 53 = .ok (.aload_n 0, 1) := by decide +kernel
theorem dX10_init_54 : decode cX10_init 54 = .ok (.bipush 8, 2) := by decide +kernel
theorem dX10_init_56 : decode cX10_init 56 = .ok (.newarray .boolean, 2) := by decide +kernel
theorem dX10_init_58 : decode cX10_init 58 = .ok (.putfield 37, 3) := by decide +kernel
theorem dX10_init_61 : decode cX10_init 61 = .ok (.aload_n 0, 1) := by decide +kernel
theorem dX10_init_62 : decode cX10_init 62 = .ok (.bipush 8, 2) := by decide +kernel
theorem dX10_init_64 : decode cX10_init 64 = .ok (.newarray .int, 2) := by decide +kernel
theorem dX10_init_66 : decode cX10_init 66 = .ok (.putfield 41, 3) := by decide +kernel
theorem dX10_init_69 : decode cX10_init 69 = .ok (.iconst 0, 1) := by decide +kernel
theorem dX10_init_70 : decode cX10_init 70 = .ok (.istore_n 1, 1) := by decide +kernel
theorem dX10_init_71 : decode cX10_init 71 = .ok (.iload_n 1, 1) := by decide +kernel
theorem dX10_init_72 : decode cX10_init 72 = .ok (.bipush 24, 2) := by decide +kernel
theorem dX10_init_74 : decode cX10_init 74 = .ok (.if_icmp .ge 22, 3) := by decide +kernel
theorem dX10_init_77 : decode cX10_init 77 = .ok (.aload_n 0, 1) := by decide +kernel
theorem dX10_init_78 : decode cX10_init 78 = .ok (.getfield 11, 3) := by decide +kernel
theorem dX10_init_81 : decode cX10_init 81 = .ok (.iload_n 1, 1) := by decide +kernel
theorem dX10_init_82 : decode cX10_init 82 = .ok (.new 9, 3) := by decide +kernel
theorem dX10_init_85 : decode cX10_init 85 = .ok (.dup, 1) := by decide +kernel
theorem dX10_init_86 : decode cX10_init 86 = .ok (.invokespecial 44, 3) := by decide +kernel
theorem dX10_init_89 : decode cX10_init 89 = .ok (.aastore, 1) := by decide +kernel
theorem dX10_init_90 : decode cX10_init 90 = .ok (.iinc 1 1, 3) := by decide +kernel
theorem dX10_init_93 : decode cX10_init 93 = .ok (.goto (-22), 3) := by decide +kernel
theorem dX10_init_96 : decode cX10_init 96 = .ok (.aload_n 0, 1) := by decide +kernel
theorem dX10_init_97 : decode cX10_init 97 = .ok (.getfield 21, 3) := by decide +kernel
theorem dX10_init_100 : decode cX10_init 100 = .ok (.bipush 8, 2) := by decide +kernel
theorem dX10_init_102 : decode cX10_init 102 = .ok (.invokestatic 45, 3) := by decide +kernel
theorem dX10_init_105 : decode cX10_init 105 = .ok (.aload_n 0, 1) := by decide +kernel
theorem dX10_init_106 : decode cX10_init 106 = .ok (.getfield 24, 3) := by decide +kernel
theorem dX10_init_109 : decode cX10_init 109 = .ok (.bipush 20, 2) := by decide +kernel
theorem dX10_init_111 : decode cX10_init 111 = .ok (.invokestatic 45, 3) := by decide +kernel
theorem dX10_init_114 : decode cX10_init 114 = .ok (.return_, 1) := by decide +kernel
theorem dX10_cueIn_0 : decode cX10_cueIn 0 = .ok (.aload_n 0, 1) := by decide +kernel
theorem dX10_cueIn_1 : decode cX10_cueIn 1 = .ok (.getfield 11, 3) := by decide +kernel
theorem dX10_cueIn_4 : decode cX10_cueIn 4 = .ok (.aload_n 0, 1) := by decide +kernel
theorem dX10_cueIn_5 : decode cX10_cueIn 5 = .ok (.iload_n 1, 1) := by decide +kernel
theorem dX10_cueIn_6 : decode cX10_cueIn 6 = .ok (.invokevirtual 51, 3) := by decide +kernel
theorem dX10_cueIn_9 : decode cX10_cueIn 9 = .ok (.aaload, 1) := by decide +kernel
theorem dX10_cueIn_10 : decode cX10_cueIn 10 = .ok (.areturn, 1) := by decide +kernel
theorem dX10_numberIn_0 : decode cX10_numberIn 0 = .ok (.iload_n 1, 1) := by decide +kernel
theorem dX10_numberIn_1 : decode cX10_numberIn 1 = .ok (.ifCond .lt 18, 3) := by decide +kernel
theorem dX10_numberIn_4 : decode cX10_numberIn 4 = .ok (.iload_n 1, 1) := by decide +kernel
theorem dX10_numberIn_5 : decode cX10_numberIn 5 = .ok (.bipush 24, 2) := by decide +kernel
theorem dX10_numberIn_7 : decode cX10_numberIn 7 = .ok (.if_icmp .ge 12, 3) := by decide +kernel
theorem dX10_numberIn_10 : decode cX10_numberIn 10 = .ok (.aload_n 0, 1) := by decide +kernel
theorem dX10_numberIn_11 : decode cX10_numberIn 11 = .ok (.getfield 34, 3) := by decide +kernel
theorem dX10_numberIn_14 : decode cX10_numberIn 14 = .ok (.iload_n 1, 1) := by decide +kernel
theorem dX10_numberIn_15 : decode cX10_numberIn 15 = .ok (.iaload, 1) := by decide +kernel
theorem dX10_numberIn_16 : decode cX10_numberIn 16 = .ok (.goto 4, 3) := by decide +kernel
theorem dX10_numberIn_19 : decode cX10_numberIn 19 = .ok (.iconst 0, 1) := by decide +kernel
theorem dX10_numberIn_20 : decode cX10_numberIn 20 = .ok (.ireturn, 1) := by decide +kernel
theorem dX10_arrangeAll_0 : decode cX10_arrangeAll 0 = .ok (.aload_n 0, 1) := by decide +kernel
theorem dX10_arrangeAll_1 : decode cX10_arrangeAll 1 = .ok (.invokevirtual 55, 3) := by decide +kernel
theorem dX10_arrangeAll_4 : decode cX10_arrangeAll 4 = .ok (.iconst 0, 1) := by decide +kernel
theorem dX10_arrangeAll_5 : decode cX10_arrangeAll 5 = .ok (.istore_n 1, 1) := by decide +kernel
theorem dX10_arrangeAll_6 : decode cX10_arrangeAll 6 = .ok (.iload_n 1, 1) := by decide +kernel
theorem dX10_arrangeAll_7 : decode cX10_arrangeAll 7 = .ok (.aload_n 0, 1) := by decide +kernel
theorem dX10_arrangeAll_8 : decode cX10_arrangeAll 8 = .ok (.getfield 58, 3) := by decide +kernel
theorem dX10_arrangeAll_11 : decode cX10_arrangeAll 11 = .ok (.if_icmp .ge 38, 3) := by decide +kernel
theorem dX10_arrangeAll_14 : decode cX10_arrangeAll 14 = .ok (.aload_n 0, 1) := by decide +kernel
theorem dX10_arrangeAll_15 : decode cX10_arrangeAll 15 = .ok (.iload_n 1, 1) := by decide +kernel
theorem dX10_arrangeAll_16 : decode cX10_arrangeAll 16 = .ok (.invokevirtual 62, 3) := by decide +kernel
theorem dX10_arrangeAll_19 : decode cX10_arrangeAll 19 = .ok (.astore_n 2, 1) := by decide +kernel
theorem dX10_arrangeAll_20 : decode cX10_arrangeAll 20 = .ok (.aload_n 0, 1) := by decide +kernel
theorem dX10_arrangeAll_21 : decode cX10_arrangeAll 21 = .ok (.getfield 30, 3) := by decide +kernel
theorem dX10_arrangeAll_24 : decode cX10_arrangeAll 24 = .ok (.aload_n 2, 1) := by decide +kernel
theorem dX10_arrangeAll_25 : decode cX10_arrangeAll 25 = .ok (.aload_n 0, 1) := by decide +kernel
theorem dX10_arrangeAll_26 : decode cX10_arrangeAll 26 = .ok (.getfield 24, 3) := by decide +kernel
theorem dX10_arrangeAll_29 : decode cX10_arrangeAll 29 = .ok (.aload_n 2, 1) := by decide +kernel
theorem dX10_arrangeAll_30 : decode cX10_arrangeAll 30 = .ok (.getfield 66, 3) := by decide +kernel
theorem dX10_arrangeAll_33 : decode cX10_arrangeAll 33 = .ok (.iaload, 1) := by decide +kernel
theorem dX10_arrangeAll_34 : decode cX10_arrangeAll 34 = .ok (.invokevirtual 69, 3) := by decide +kernel
theorem dX10_arrangeAll_37 : decode cX10_arrangeAll 37 = .ok (.aload_n 0, 1) := by decide +kernel
theorem dX10_arrangeAll_38 : decode cX10_arrangeAll 38 = .ok (.aload_n 2, 1) := by decide +kernel
theorem dX10_arrangeAll_39 : decode cX10_arrangeAll 39 = .ok (.iload_n 1, 1) := by decide +kernel
theorem dX10_arrangeAll_40 : decode cX10_arrangeAll 40 = .ok (.invokevirtual 73, 3) := by decide +kernel
theorem dX10_arrangeAll_43 : decode cX10_arrangeAll 43 = .ok (.iinc 1 1, 3) := by decide +kernel
theorem dX10_arrangeAll_46 : decode cX10_arrangeAll 46 = .ok (.goto (-40), 3) := by decide +kernel
theorem dX10_arrangeAll_49 : decode cX10_arrangeAll 49 = .ok (.return_, 1) := by decide +kernel
theorem dX10_sortCues_0 : decode cX10_sortCues 0 = .ok (.aload_n 0, 1) := by decide +kernel
theorem dX10_sortCues_1 : decode cX10_sortCues 1 = .ok (.iconst 0, 1) := by decide +kernel
theorem dX10_sortCues_2 : decode cX10_sortCues 2 = .ok (.putfield 58, 3) := by decide +kernel
theorem dX10_sortCues_5 : decode cX10_sortCues 5 = .ok (.iconst 0, 1) := by decide +kernel
theorem dX10_sortCues_6 : decode cX10_sortCues 6 = .ok (.istore_n 1, 1) := by decide +kernel
theorem dX10_sortCues_7 : decode cX10_sortCues 7 = .ok (.iload_n 1, 1) := by decide +kernel
theorem dX10_sortCues_8 : decode cX10_sortCues 8 = .ok (.bipush 24, 2) := by decide +kernel
theorem dX10_sortCues_10 : decode cX10_sortCues 10 = .ok (.if_icmp .ge 26, 3) := by decide +kernel
theorem dX10_sortCues_13 : decode cX10_sortCues 13 = .ok (.aload_n 0, 1) := by decide +kernel
theorem dX10_sortCues_14 : decode cX10_sortCues 14 = .ok (.getfield 11, 3) := by decide +kernel
theorem dX10_sortCues_17 : decode cX10_sortCues 17 = .ok (.iload_n 1, 1) := by decide +kernel
theorem dX10_sortCues_18 : decode cX10_sortCues 18 = .ok (.aaload, 1) := by decide +kernel
theorem dX10_sortCues_19 : decode cX10_sortCues 19 = .ok (.getfield 76, 3) := by decide +kernel
theorem dX10_sortCues_22 : decode cX10_sortCues 22 = .ok (.ifCond .eq 8, 3) := by decide +kernel
theorem dX10_sortCues_25 : decode cX10_sortCues 25 = .ok (.aload_n 0, 1) := by decide +kernel
theorem dX10_sortCues_26 : decode cX10_sortCues 26 = .ok (.iload_n 1, 1) := by decide +kernel
theorem dX10_sortCues_27 : decode cX10_sortCues 27 = .ok (.invokevirtual 80, 3) := by decide +kernel
theorem dX10_sortCues_30 : decode cX10_sortCues 30 = .ok (.iinc 1 1, 3) := by decide +kernel
theorem dX10_sortCues_33 : decode cX10_sortCues 33 = .ok (.goto (-26), 3) := by decide +kernel
theorem dX10_sortCues_36 : decode cX10_sortCues 36 = .ok (.return_, 1) := by decide +kernel
theorem dX10_insert_0 : decode cX10_insert 0 = .ok (.aload_n 0, 1) := by decide +kernel
theorem dX10_insert_1 : decode cX10_insert 1 = .ok (.getfield 58, 3) := by decide +kernel
theorem dX10_insert_4 : decode cX10_insert 4 = .ok (.istore_n 2, 1) := by decide +kernel
theorem dX10_insert_5 : decode cX10_insert 5 = .ok (.iload_n 2, 1) := by decide +kernel
theorem dX10_insert_6 : decode cX10_insert 6 = .ok (.ifCond .le 45, 3) := by decide +kernel
theorem dX10_insert_9 : decode cX10_insert 9 = .ok (.aload_n 0, 1) := by decide +kernel
theorem dX10_insert_10 : decode cX10_insert 10 = .ok (.iload_n 2, 1) := by decide +kernel
theorem dX10_insert_11 : decode cX10_insert 11 = .ok (.iconst 1, 1) := by decide +kernel
theorem dX10_insert_12 : decode cX10_insert 12 = .ok (.isub, 1) := by decide +kernel
theorem dX10_insert_13 : decode cX10_insert 13 = .ok (.invokevirtual 62, 3) := by decide +kernel
theorem dX10_insert_16 : decode cX10_insert 16 = .ok (.getfield 84, 3) := by decide +kernel
theorem dX10_insert_19 : decode cX10_insert 19 = .ok (.aload_n 0, 1) := by decide +kernel
theorem dX10_insert_20 : decode cX10_insert 20 = .ok (.getfield 11, 3) := by decide +kernel
theorem dX10_insert_23 : decode cX10_insert 23 = .ok (.iload_n 1, 1) := by decide +kernel
theorem dX10_insert_24 : decode cX10_insert 24 = .ok (.aaload, 1) := by decide +kernel
theorem dX10_insert_25 : decode cX10_insert 25 = .ok (.getfield 84, 3) := by decide +kernel
theorem dX10_insert_28 : decode cX10_insert 28 = .ok (.if_icmp .le 23, 3) := by decide +kernel
theorem dX10_insert_31 : decode cX10_insert 31 = .ok (.aload_n 0, 1) := by decide +kernel
theorem dX10_insert_32 : decode cX10_insert 32 = .ok (.getfield 34, 3) := by decide +kernel
theorem dX10_insert_35 : decode cX10_insert 35 = .ok (.iload_n 2, 1) := by decide +kernel
theorem dX10_insert_36 : decode cX10_insert 36 = .ok (.aload_n 0, 1) := by decide +kernel
theorem dX10_insert_37 : decode cX10_insert 37 = .ok (.getfield 34, 3) := by decide +kernel
theorem dX10_insert_40 : decode cX10_insert 40 = .ok (.iload_n 2, 1) := by decide +kernel
theorem dX10_insert_41 : decode cX10_insert 41 = .ok (.iconst 1, 1) := by decide +kernel
theorem dX10_insert_42 : decode cX10_insert 42 = .ok (.isub, 1) := by decide +kernel
theorem dX10_insert_43 : decode cX10_insert 43 = .ok (.iaload, 1) := by decide +kernel
theorem dX10_insert_44 : decode cX10_insert 44 = .ok (.iastore, 1) := by decide +kernel
theorem dX10_insert_45 : decode cX10_insert 45 = .ok (.iinc 2 (-1), 3) := by decide +kernel
theorem dX10_insert_48 : decode cX10_insert 48 = .ok (.goto (-43), 3) := by decide +kernel
theorem dX10_insert_51 : decode cX10_insert 51 = .ok (.aload_n 0, 1) := by decide +kernel
theorem dX10_insert_52 : decode cX10_insert 52 = .ok (.getfield 34, 3) := by decide +kernel
theorem dX10_insert_55 : decode cX10_insert 55 = .ok (.iload_n 2, 1) := by decide +kernel
theorem dX10_insert_56 : decode cX10_insert 56 = .ok (.iload_n 1, 1) := by decide +kernel
theorem dX10_insert_57 : decode cX10_insert 57 = .ok (.iastore, 1) := by decide +kernel
theorem dX10_insert_58 : decode cX10_insert 58 = .ok (.aload_n 0, 1) := by decide +kernel
theorem dX10_insert_59 : decode cX10_insert 59 = .ok (.dup, 1) := by decide +kernel
theorem dX10_insert_60 : decode cX10_insert 60 = .ok (.getfield 58, 3) := by decide +kernel
theorem dX10_insert_63 : decode cX10_insert 63 = .ok (.iconst 1, 1) := by decide +kernel
theorem dX10_insert_64 : decode cX10_insert 64 = .ok (.iadd, 1) := by decide +kernel
theorem dX10_insert_65 : decode cX10_insert 65 = .ok (.putfield 58, 3) := by decide +kernel
theorem dX10_insert_68 : decode cX10_insert 68 = .ok (.return_, 1) := by decide +kernel
theorem dX10_takeRows_0 : decode cX10_takeRows 0 = .ok (.iconst 0, 1) := by decide +kernel
theorem dX10_takeRows_1 : decode cX10_takeRows 1 = .ok (.istore_n 3, 1) := by decide +kernel
theorem dX10_takeRows_2 : decode cX10_takeRows 2 = .ok (.iload_n 3, 1) := by decide +kernel
theorem dX10_takeRows_3 : decode cX10_takeRows 3 = .ok (.bipush 8, 2) := by decide +kernel
theorem dX10_takeRows_5 : decode cX10_takeRows 5 = .ok (.if_icmp .ge 16, 3) := by decide +kernel
theorem dX10_takeRows_8 : decode cX10_takeRows 8 = .ok (.aload_n 0, 1) := by decide +kernel
theorem dX10_takeRows_9 : decode cX10_takeRows 9 = .ok (.getfield 37, 3) := by decide +kernel
theorem dX10_takeRows_12 : decode cX10_takeRows 12 = .ok (.iload_n 3, 1) := by decide +kernel
theorem dX10_takeRows_13 : decode cX10_takeRows 13 = .ok (.iconst 0, 1) := by decide +kernel
theorem dX10_takeRows_14 : decode cX10_takeRows 14 = .ok (.bastore, 1) := by decide +kernel
theorem dX10_takeRows_15 : decode cX10_takeRows 15 = .ok (.iinc 3 1, 3) := by decide +kernel
theorem dX10_takeRows_18 : decode cX10_takeRows 18 = .ok (.goto (-16), 3) := by decide +kernel
theorem dX10_takeRows_21 : decode cX10_takeRows 21 = .ok (.iconst 0, 1) := by decide +kernel
theorem dX10_takeRows_22 : decode cX10_takeRows 22 = .ok (.istore_n 3, 1) := by decide +kernel
theorem dX10_takeRows_23 : decode cX10_takeRows 23 = .ok (.iload_n 3, 1) := by decide +kernel
theorem dX10_takeRows_24 : decode cX10_takeRows 24 = .ok (.iload_n 2, 1) := by decide +kernel
theorem dX10_takeRows_25 : decode cX10_takeRows 25 = .ok (.if_icmp .ge 76, 3) := by decide +kernel
theorem dX10_takeRows_28 : decode cX10_takeRows 28 = .ok (.aload_n 0, 1) := by decide +kernel
theorem dX10_takeRows_29 : decode cX10_takeRows 29 = .ok (.iload_n 3, 1) := by decide +kernel
theorem dX10_takeRows_30 : decode cX10_takeRows 30 = .ok (.invokevirtual 62, 3) := by decide +kernel
theorem dX10_takeRows_33 : decode cX10_takeRows 33 = .ok (.astore 4, 2) := by decide +kernel
theorem dX10_takeRows_35 : decode cX10_takeRows 35 = .ok (.iconst 0, 1) := by decide +kernel
theorem dX10_takeRows_36 : decode cX10_takeRows 36 = .ok (.istore 5, 2) := by decide +kernel
theorem dX10_takeRows_38 : decode cX10_takeRows 38 = .ok (.iload 5, 2) := by decide +kernel
theorem dX10_takeRows_40 : decode cX10_takeRows 40 = .ok (.bipush 8, 2) := by decide +kernel
theorem dX10_takeRows_42 : decode cX10_takeRows 42 = .ok (.if_icmp .ge 53, 3) := by decide +kernel
theorem dX10_takeRows_45 : decode cX10_takeRows 45 = .ok (.aload 4, 2) := by decide +kernel
theorem dX10_takeRows_47 : decode cX10_takeRows 47 = .ok (.getfield 87, 3) := by decide +kernel
theorem dX10_takeRows_50 : decode cX10_takeRows 50 = .ok (.aload_n 1, 1) := by decide +kernel
theorem dX10_takeRows_51 : decode cX10_takeRows 51 = .ok (.getfield 84, 3) := by decide +kernel
theorem dX10_takeRows_54 : decode cX10_takeRows 54 = .ok (.if_icmp .le 41, 3) := by decide +kernel
theorem dX10_takeRows_57 : decode cX10_takeRows 57 = .ok (.aload_n 0, 1) := by decide +kernel
theorem dX10_takeRows_58 : decode cX10_takeRows 58 = .ok (.getfield 37, 3) := by decide +kernel
theorem dX10_takeRows_61 : decode cX10_takeRows 61 = .ok (.iload 5, 2) := by decide +kernel
theorem dX10_takeRows_63 : decode cX10_takeRows 63 = .ok (.aload_n 0, 1) := by decide +kernel
theorem dX10_takeRows_64 : decode cX10_takeRows 64 = .ok (.getfield 37, 3) := by decide +kernel
theorem dX10_takeRows_67 : decode cX10_takeRows 67 = .ok (.iload 5, 2) := by decide +kernel
theorem dX10_takeRows_69 : decode cX10_takeRows 69 = .ok (.baload, 1) := by decide +kernel
theorem dX10_takeRows_70 : decode cX10_takeRows 70 = .ok (.ifCond .ne 13, 3) := by decide +kernel
theorem dX10_takeRows_73 : decode cX10_takeRows 73 = .ok (.aload 4, 2) := by decide +kernel
theorem dX10_takeRows_75 : decode cX10_takeRows 75 = .ok (.iload 5, 2) := by decide +kernel
theorem dX10_takeRows_77 : decode cX10_takeRows 77 = .ok (.invokevirtual 90, 3) := by decide +kernel
theorem dX10_takeRows_80 : decode cX10_takeRows 80 = .ok (.ifCond .eq 7, 3) := by decide +kernel
theorem dX10_takeRows_83 : decode cX10_takeRows 83 = .ok (.iconst 1, 1) := by decide +kernel
theorem dX10_takeRows_84 : decode cX10_takeRows 84 = .ok (.goto 4, 3) := by decide +kernel
theorem dX10_takeRows_87 : decode cX10_takeRows 87 = .ok (.iconst 0, 1) := by decide +kernel
theorem dX10_takeRows_88 : decode cX10_takeRows 88 = .ok (.bastore, 1) := by decide +kernel
theorem dX10_takeRows_89 : decode cX10_takeRows 89 = .ok (.iinc 5 1, 3) := by decide +kernel
theorem dX10_takeRows_92 : decode cX10_takeRows 92 = .ok (.goto (-54), 3) := by decide +kernel
theorem dX10_takeRows_95 : decode cX10_takeRows 95 = .ok (.iinc 3 1, 3) := by decide +kernel
theorem dX10_takeRows_98 : decode cX10_takeRows 98 = .ok (.goto (-75), 3) := by decide +kernel
theorem dX10_takeRows_101 : decode cX10_takeRows 101 = .ok (.aload_n 1, 1) := by decide +kernel
theorem dX10_takeRows_102 : decode cX10_takeRows 102 = .ok (.aload_n 0, 1) := by decide +kernel
theorem dX10_takeRows_103 : decode cX10_takeRows 103 = .ok (.aload_n 1, 1) := by decide +kernel
theorem dX10_takeRows_104 : decode cX10_takeRows 104 = .ok (.invokevirtual 94, 3) := by decide +kernel
theorem dX10_takeRows_107 : decode cX10_takeRows 107 = .ok (.putfield 98, 3) := by decide +kernel
theorem dX10_takeRows_110 : decode cX10_takeRows 110 = .ok (.return_, 1) := by decide +kernel
theorem dX10_lowestRows_0 : decode cX10_lowestRows 0 = .ok (.aload_n 0, 1) := by decide +kernel
theorem dX10_lowestRows_1 : decode cX10_lowestRows 1 = .ok (.getfield 17, 3) := by decide +kernel
theorem dX10_lowestRows_4 : decode cX10_lowestRows 4 = .ok (.aload_n 1, 1) := by decide +kernel
theorem dX10_lowestRows_5 : decode cX10_lowestRows 5 = .ok (.getfield 66, 3) := by decide +kernel
theorem dX10_lowestRows_8 : decode cX10_lowestRows 8 = .ok (.iaload, 1) := by decide +kernel
theorem dX10_lowestRows_9 : decode cX10_lowestRows 9 = .ok (.istore_n 2, 1) := by decide +kernel
theorem dX10_lowestRows_10 : decode cX10_lowestRows 10 = .ok (.iconst 0, 1) := by decide +kernel
theorem dX10_lowestRows_11 : decode cX10_lowestRows 11 = .ok (.istore_n 3, 1) := by decide +kernel
theorem dX10_lowestRows_12 : decode cX10_lowestRows 12 = .ok (.iload_n 2, 1) := by decide +kernel
theorem dX10_lowestRows_13 : decode cX10_lowestRows 13 = .ok (.aload_n 0, 1) := by decide +kernel
theorem dX10_lowestRows_14 : decode cX10_lowestRows 14 = .ok (.getfield 21, 3) := by decide +kernel
theorem dX10_lowestRows_17 : decode cX10_lowestRows 17 = .ok (.aload_n 1, 1) := by decide +kernel
theorem dX10_lowestRows_18 : decode cX10_lowestRows 18 = .ok (.getfield 66, 3) := by decide +kernel
theorem dX10_lowestRows_21 : decode cX10_lowestRows 21 = .ok (.iaload, 1) := by decide +kernel
theorem dX10_lowestRows_22 : decode cX10_lowestRows 22 = .ok (.iadd, 1) := by decide +kernel
theorem dX10_lowestRows_23 : decode cX10_lowestRows 23 = .ok (.iconst 1, 1) := by decide +kernel
theorem dX10_lowestRows_24 : decode cX10_lowestRows 24 = .ok (.isub, 1) := by decide +kernel
theorem dX10_lowestRows_25 : decode cX10_lowestRows 25 = .ok (.istore 4, 2) := by decide +kernel
theorem dX10_lowestRows_27 : decode cX10_lowestRows 27 = .ok (.iload 4, 2) := by decide +kernel
theorem dX10_lowestRows_29 : decode cX10_lowestRows 29 = .ok (.iload_n 2, 1) := by decide +kernel
theorem dX10_lowestRows_30 : decode cX10_lowestRows 30 = .ok (.if_icmp .lt 45, 3) := by decide +kernel
theorem dX10_lowestRows_33 : decode cX10_lowestRows 33 = .ok (.aload_n 1, 1) := by decide +kernel
theorem dX10_lowestRows_34 : decode cX10_lowestRows 34 = .ok (.getfield 101, 3) := by decide +kernel
theorem dX10_lowestRows_37 : decode cX10_lowestRows 37 = .ok (.ifCond .le 38, 3) := by decide +kernel
theorem dX10_lowestRows_40 : decode cX10_lowestRows 40 = .ok (.aload_n 0, 1) := by decide +kernel
theorem dX10_lowestRows_41 : decode cX10_lowestRows 41 = .ok (.getfield 37, 3) := by decide +kernel
theorem dX10_lowestRows_44 : decode cX10_lowestRows 44 = .ok (.iload 4, 2) := by decide +kernel
theorem dX10_lowestRows_46 : decode cX10_lowestRows 46 = .ok (.baload, 1) := by decide +kernel
theorem dX10_lowestRows_47 : decode cX10_lowestRows 47 = .ok (.ifCond .eq 7, 3) := by decide +kernel
theorem dX10_lowestRows_50 : decode cX10_lowestRows 50 = .ok (.iconst 0, 1) := by decide +kernel
theorem dX10_lowestRows_51 : decode cX10_lowestRows 51 = .ok (.goto 6, 3) := by decide +kernel
theorem dX10_lowestRows_54 : decode cX10_lowestRows 54 = .ok (.iload_n 3, 1) := by decide +kernel
theorem dX10_lowestRows_55 : decode cX10_lowestRows 55 = .ok (.iconst 1, 1) := by decide +kernel
theorem dX10_lowestRows_56 : decode cX10_lowestRows 56 = .ok (.iadd, 1) := by decide +kernel
theorem dX10_lowestRows_57 : decode cX10_lowestRows 57 = .ok (.istore_n 3, 1) := by decide +kernel
theorem dX10_lowestRows_58 : decode cX10_lowestRows 58 = .ok (.iload_n 3, 1) := by decide +kernel
theorem dX10_lowestRows_59 : decode cX10_lowestRows 59 = .ok (.aload_n 1, 1) := by decide +kernel
theorem dX10_lowestRows_60 : decode cX10_lowestRows 60 = .ok (.getfield 101, 3) := by decide +kernel
theorem dX10_lowestRows_63 : decode cX10_lowestRows 63 = .ok (.if_icmp .ne 6, 3) := by decide +kernel
theorem dX10_lowestRows_66 : decode cX10_lowestRows 66 = .ok (.iload 4, 2) := by decide +kernel
theorem dX10_lowestRows_68 : decode cX10_lowestRows 68 = .ok (.ireturn, 1) := by decide +kernel
theorem dX10_lowestRows_69 : decode cX10_lowestRows 69 = .ok (.iinc 4 (-1), 3) := by decide +kernel
theorem dX10_lowestRows_72 : decode cX10_lowestRows 72 = .ok (.goto (-45), 3) := by decide +kernel
theorem dX10_lowestRows_75 : decode cX10_lowestRows 75 = .ok (.iconst (-1), 1) := by decide +kernel
theorem dX10_lowestRows_76 : decode cX10_lowestRows 76 = .ok (.ireturn, 1) := by decide +kernel
theorem dX10_nextOfRegion_0 : decode cX10_nextOfRegion 0 = .ok (.iload_n 1, 1) := by decide +kernel
theorem dX10_nextOfRegion_1 : decode cX10_nextOfRegion 1 = .ok (.iconst 1, 1) := by decide +kernel
theorem dX10_nextOfRegion_2 : decode cX10_nextOfRegion 2 = .ok (.iadd, 1) := by decide +kernel
theorem dX10_nextOfRegion_3 : decode cX10_nextOfRegion 3 = .ok (.istore_n 2, 1) := by decide +kernel
theorem dX10_nextOfRegion_4 : decode cX10_nextOfRegion 4 = .ok (.iload_n 2, 1) := by decide +kernel
theorem dX10_nextOfRegion_5 : decode cX10_nextOfRegion 5 = .ok (.aload_n 0, 1) := by decide +kernel
theorem dX10_nextOfRegion_6 : decode cX10_nextOfRegion 6 = .ok (.getfield 58, 3) := by decide +kernel
theorem dX10_nextOfRegion_9 : decode cX10_nextOfRegion 9 = .ok (.if_icmp .ge 30, 3) := by decide +kernel
theorem dX10_nextOfRegion_12 : decode cX10_nextOfRegion 12 = .ok (.aload_n 0, 1) := by decide +kernel
theorem dX10_nextOfRegion_13 : decode cX10_nextOfRegion 13 = .ok (.iload_n 2, 1) := by decide +kernel
theorem dX10_nextOfRegion_14 : decode cX10_nextOfRegion 14 = .ok (.invokevirtual 62, 3) := by decide +kernel
theorem dX10_nextOfRegion_17 : decode cX10_nextOfRegion 17 = .ok (.getfield 66, 3) := by decide +kernel
theorem dX10_nextOfRegion_20 : decode cX10_nextOfRegion 20 = .ok (.aload_n 0, 1) := by decide +kernel
theorem dX10_nextOfRegion_21 : decode cX10_nextOfRegion 21 = .ok (.iload_n 1, 1) := by decide +kernel
theorem dX10_nextOfRegion_22 : decode cX10_nextOfRegion 22 = .ok (.invokevirtual 62, 3) := by decide +kernel
theorem dX10_nextOfRegion_25 : decode cX10_nextOfRegion 25 = .ok (.getfield 66, 3) := by decide +kernel
theorem dX10_nextOfRegion_28 : decode cX10_nextOfRegion 28 = .ok (.if_icmp .ne 5, 3) := by decide +kernel
theorem dX10_nextOfRegion_31 : decode cX10_nextOfRegion 31 = .ok (.iload_n 2, 1) := by decide +kernel
theorem dX10_nextOfRegion_32 : decode cX10_nextOfRegion 32 = .ok (.ireturn, 1) := by decide +kernel
theorem dX10_nextOfRegion_33 : decode cX10_nextOfRegion 33 = .ok (.iinc 2 1, 3) := by decide +kernel
theorem dX10_nextOfRegion_36 : decode cX10_nextOfRegion 36 = .ok (.goto (-32), 3) := by decide +kernel
theorem dX10_nextOfRegion_39 : decode cX10_nextOfRegion 39 = .ok (.iconst (-1), 1) := by decide +kernel
theorem dX10_nextOfRegion_40 : decode cX10_nextOfRegion 40 = .ok (.ireturn, 1) := by decide +kernel
theorem dX10_cueOn_0 : decode cX10_cueOn 0 = .ok (.iconst 0, 1) := by decide +kernel
theorem dX10_cueOn_1 : decode cX10_cueOn 1 = .ok (.istore_n 3, 1) := by decide +kernel
theorem dX10_cueOn_2 : decode cX10_cueOn 2 = .ok (.iload_n 3, 1) := by decide +kernel
theorem dX10_cueOn_3 : decode cX10_cueOn 3 = .ok (.aload_n 0, 1) := by decide +kernel
theorem dX10_cueOn_4 : decode cX10_cueOn 4 = .ok (.getfield 58, 3) := by decide +kernel
theorem dX10_cueOn_7 : decode cX10_cueOn 7 = .ok (.if_icmp .ge 40, 3) := by decide +kernel
theorem dX10_cueOn_10 : decode cX10_cueOn 10 = .ok (.aload_n 0, 1) := by decide +kernel
theorem dX10_cueOn_11 : decode cX10_cueOn 11 = .ok (.iload_n 3, 1) := by decide +kernel
theorem dX10_cueOn_12 : decode cX10_cueOn 12 = .ok (.invokevirtual 62, 3) := by decide +kernel
theorem dX10_cueOn_15 : decode cX10_cueOn 15 = .ok (.astore 4, 2) := by decide +kernel
theorem dX10_cueOn_17 : decode cX10_cueOn 17 = .ok (.aload 4, 2) := by decide +kernel
theorem dX10_cueOn_19 : decode cX10_cueOn 19 = .ok (.iload_n 1, 1) := by decide +kernel
theorem dX10_cueOn_20 : decode cX10_cueOn 20 = .ok (.invokevirtual 104, 3) := by decide +kernel
theorem dX10_cueOn_23 : decode cX10_cueOn 23 = .ok (.ifCond .eq 18, 3) := by decide +kernel
theorem dX10_cueOn_26 : decode cX10_cueOn 26 = .ok (.aload 4, 2) := by decide +kernel
theorem dX10_cueOn_28 : decode cX10_cueOn 28 = .ok (.iload_n 2, 1) := by decide +kernel
theorem dX10_cueOn_29 : decode cX10_cueOn 29 = .ok (.invokevirtual 90, 3) := by decide +kernel
theorem dX10_cueOn_32 : decode cX10_cueOn 32 = .ok (.ifCond .eq 9, 3) := by decide +kernel
theorem dX10_cueOn_35 : decode cX10_cueOn 35 = .ok (.aload_n 0, 1) := by decide +kernel
theorem dX10_cueOn_36 : decode cX10_cueOn 36 = .ok (.iload_n 3, 1) := by decide +kernel
theorem dX10_cueOn_37 : decode cX10_cueOn 37 = .ok (.invokevirtual 51, 3) := by decide +kernel
theorem dX10_cueOn_40 : decode cX10_cueOn 40 = .ok (.ireturn, 1) := by decide +kernel
theorem dX10_cueOn_41 : decode cX10_cueOn 41 = .ok (.iinc 3 1, 3) := by decide +kernel
theorem dX10_cueOn_44 : decode cX10_cueOn 44 = .ok (.goto (-42), 3) := by decide +kernel
theorem dX10_cueOn_47 : decode cX10_cueOn 47 = .ok (.iconst (-1), 1) := by decide +kernel
theorem dX10_cueOn_48 : decode cX10_cueOn 48 = .ok (.ireturn, 1) := by decide +kernel
theorem dX10_playTo_0 : decode cX10_playTo 0 = .ok (.aload_n 0, 1) := by decide +kernel
theorem dX10_playTo_1 : decode cX10_playTo 1 = .ok (.getfield 41, 3) := by decide +kernel
theorem dX10_playTo_4 : decode cX10_playTo 4 = .ok (.iconst (-1), 1) := by decide +kernel
theorem dX10_playTo_5 : decode cX10_playTo 5 = .ok (.invokestatic 45, 3) := by decide +kernel
theorem dX10_playTo_8 : decode cX10_playTo 8 = .ok (.iconst 0, 1) := by decide +kernel
theorem dX10_playTo_9 : decode cX10_playTo 9 = .ok (.istore_n 2, 1) := by decide +kernel
theorem dX10_playTo_10 : decode cX10_playTo 10 = .ok (.iload_n 2, 1) := by decide +kernel
theorem dX10_playTo_11 : decode cX10_playTo 11 = .ok (.aload_n 0, 1) := by decide +kernel
theorem dX10_playTo_12 : decode cX10_playTo 12 = .ok (.getfield 58, 3) := by decide +kernel
theorem dX10_playTo_15 : decode cX10_playTo 15 = .ok (.if_icmp .ge 130, 3) := by decide +kernel
theorem dX10_playTo_18 : decode cX10_playTo 18 = .ok (.aload_n 0, 1) := by decide +kernel
theorem dX10_playTo_19 : decode cX10_playTo 19 = .ok (.iload_n 2, 1) := by decide +kernel
theorem dX10_playTo_20 : decode cX10_playTo 20 = .ok (.invokevirtual 62, 3) := by decide +kernel
theorem dX10_playTo_23 : decode cX10_playTo 23 = .ok (.getfield 84, 3) := by decide +kernel
theorem dX10_playTo_26 : decode cX10_playTo 26 = .ok (.iload_n 1, 1) := by decide +kernel
theorem dX10_playTo_27 : decode cX10_playTo 27 = .ok (.if_icmp .gt 118, 3) := by decide +kernel
theorem dX10_playTo_30 : decode cX10_playTo 30 = .ok (.aload_n 0, 1) := by decide +kernel
theorem dX10_playTo_31 : decode cX10_playTo 31 = .ok (.iload_n 2, 1) := by decide +kernel
theorem dX10_playTo_32 : decode cX10_playTo 32 = .ok (.invokevirtual 62, 3) := by decide +kernel
theorem dX10_playTo_35 : decode cX10_playTo 35 = .ok (.astore_n 3, 1) := by decide +kernel
theorem dX10_playTo_36 : decode cX10_playTo 36 = .ok (.aload_n 0, 1) := by decide +kernel
theorem dX10_playTo_37 : decode cX10_playTo 37 = .ok (.aload_n 3, 1) := by decide +kernel
theorem dX10_playTo_38 : decode cX10_playTo 38 = .ok (.getfield 84, 3) := by decide +kernel
theorem dX10_playTo_41 : decode cX10_playTo 41 = .ok (.invokevirtual 107, 3) := by decide +kernel
theorem dX10_playTo_44 : decode cX10_playTo 44 = .ok (.iconst 0, 1) := by decide +kernel
theorem dX10_playTo_45 : decode cX10_playTo 45 = .ok (.istore 4, 2) := by decide +kernel
theorem dX10_playTo_47 : decode cX10_playTo 47 = .ok (.iload 4, 2) := by decide +kernel
theorem dX10_playTo_49 : decode cX10_playTo 49 = .ok (.bipush 8, 2) := by decide +kernel
theorem dX10_playTo_51 : decode cX10_playTo 51 = .ok (.if_icmp .ge 32, 3) := by decide +kernel
theorem dX10_playTo_54 : decode cX10_playTo 54 = .ok (.aload_n 0, 1) := by decide +kernel
theorem dX10_playTo_55 : decode cX10_playTo 55 = .ok (.getfield 37, 3) := by decide +kernel
theorem dX10_playTo_58 : decode cX10_playTo 58 = .ok (.iload 4, 2) := by decide +kernel
theorem dX10_playTo_60 : decode cX10_playTo 60 = .ok (.aload_n 0, 1) := by decide +kernel
theorem dX10_playTo_61 : decode cX10_playTo 61 = .ok (.getfield 41, 3) := by decide +kernel
theorem dX10_playTo_64 : decode cX10_playTo 64 = .ok (.iload 4, 2) := by decide +kernel
theorem dX10_playTo_66 : decode cX10_playTo 66 = .ok (.iaload, 1) := by decide +kernel
theorem dX10_playTo_67 : decode cX10_playTo 67 = .ok (.iconst (-1), 1) := by decide +kernel
theorem dX10_playTo_68 : decode cX10_playTo 68 = .ok (.if_icmp .eq 7, 3) := by decide +kernel
theorem dX10_playTo_71 : decode cX10_playTo 71 = .ok (.iconst 1, 1) := by decide +kernel
theorem dX10_playTo_72 : decode cX10_playTo 72 = .ok (.goto 4, 3) := by decide +kernel
theorem dX10_playTo_75 : decode cX10_playTo 75 = .ok (.iconst 0, 1) := by decide +kernel
theorem dX10_playTo_76 : decode cX10_playTo 76 = .ok (.bastore, 1) := by decide +kernel
theorem dX10_playTo_77 : decode cX10_playTo 77 = .ok (.iinc 4 1, 3) := by decide +kernel
theorem dX10_playTo_80 : decode cX10_playTo 80 = .ok (.goto (-33), 3) := by decide +kernel
theorem dX10_playTo_83 : decode cX10_playTo 83 = .ok (.aload_n 0, 1) := by decide +kernel
theorem dX10_playTo_84 : decode cX10_playTo 84 = .ok (.aload_n 3, 1) := by decide +kernel
theorem dX10_playTo_85 : decode cX10_playTo 85 = .ok (.invokevirtual 94, 3) := by decide +kernel
theorem dX10_playTo_88 : decode cX10_playTo 88 = .ok (.istore 4, 2) := by decide +kernel
theorem dX10_playTo_90 : decode cX10_playTo 90 = .ok (.iconst 0, 1) := by decide +kernel
theorem dX10_playTo_91 : decode cX10_playTo 91 = .ok (.istore 5, 2) := by decide +kernel
theorem dX10_playTo_93 : decode cX10_playTo 93 = .ok (.iload 5, 2) := by decide +kernel
theorem dX10_playTo_95 : decode cX10_playTo 95 = .ok (.aload_n 3, 1) := by decide +kernel
theorem dX10_playTo_96 : decode cX10_playTo 96 = .ok (.getfield 101, 3) := by decide +kernel
theorem dX10_playTo_99 : decode cX10_playTo 99 = .ok (.if_icmp .ge 40, 3) := by decide +kernel
theorem dX10_playTo_102 : decode cX10_playTo 102 = .ok (.iload 4, 2) := by decide +kernel
theorem dX10_playTo_104 : decode cX10_playTo 104 = .ok (.iconst (-1), 1) := by decide +kernel
theorem dX10_playTo_105 : decode cX10_playTo 105 = .ok (.if_icmp .eq 34, 3) := by decide +kernel
theorem dX10_playTo_108 : decode cX10_playTo 108 = .ok (.iload 4, 2) := by decide +kernel
theorem dX10_playTo_110 : decode cX10_playTo 110 = .ok (.iload 5, 2) := by decide +kernel
theorem dX10_playTo_112 : decode cX10_playTo 112 = .ok (.iadd, 1) := by decide +kernel
theorem dX10_playTo_113 : decode cX10_playTo 113 = .ok (.bipush 8, 2) := by decide +kernel
theorem dX10_playTo_115 : decode cX10_playTo 115 = .ok (.if_icmp .ge 24, 3) := by decide +kernel
theorem dX10_playTo_118 : decode cX10_playTo 118 = .ok (.aload_n 0, 1) := by decide +kernel
theorem dX10_playTo_119 : decode cX10_playTo 119 = .ok (.getfield 41, 3) := by decide +kernel
theorem dX10_playTo_122 : decode cX10_playTo 122 = .ok (.iload 4, 2) := by decide +kernel
theorem dX10_playTo_124 : decode cX10_playTo 124 = .ok (.iload 5, 2) := by decide +kernel
theorem dX10_playTo_126 : decode cX10_playTo 126 = .ok (.iadd, 1) := by decide +kernel
theorem dX10_playTo_127 : decode cX10_playTo 127 = .ok (.aload_n 0, 1) := by decide +kernel
theorem dX10_playTo_128 : decode cX10_playTo 128 = .ok (.iload_n 2, 1) := by decide +kernel
theorem dX10_playTo_129 : decode cX10_playTo 129 = .ok (.invokevirtual 51, 3) := by decide +kernel
theorem dX10_playTo_132 : decode cX10_playTo 132 = .ok (.iastore, 1) := by decide +kernel
theorem dX10_playTo_133 : decode cX10_playTo 133 = .ok (.iinc 5 1, 3) := by decide +kernel
theorem dX10_playTo_136 : decode cX10_playTo 136 = .ok (.goto (-43), 3) := by decide +kernel
theorem dX10_playTo_139 : decode cX10_playTo 139 = .ok (.iinc 2 1, 3) := by decide +kernel
theorem dX10_playTo_142 : decode cX10_playTo 142 = .ok (.goto (-132), 3) := by decide +kernel
theorem dX10_playTo_145 : decode cX10_playTo 145 = .ok (.aload_n 0, 1) := by decide +kernel
theorem dX10_playTo_146 : decode cX10_playTo 146 = .ok (.iload_n 1, 1) := by decide +kernel
theorem dX10_playTo_147 : decode cX10_playTo 147 = .ok (.invokevirtual 107, 3) := by decide +kernel
theorem dX10_playTo_150 : decode cX10_playTo 150 = .ok (.return_, 1) := by decide +kernel
theorem dX10_letGo_0 : decode cX10_letGo 0 = .ok (.iconst 0, 1) := by decide +kernel
theorem dX10_letGo_1 : decode cX10_letGo 1 = .ok (.istore_n 2, 1) := by decide +kernel
theorem dX10_letGo_2 : decode cX10_letGo 2 = .ok (.iload_n 2, 1) := by decide +kernel
theorem dX10_letGo_3 : decode cX10_letGo 3 = .ok (.bipush 8, 2) := by decide +kernel
theorem dX10_letGo_5 : decode cX10_letGo 5 = .ok (.if_icmp .ge 44, 3) := by decide +kernel
theorem dX10_letGo_8 : decode cX10_letGo 8 = .ok (.aload_n 0, 1) := by decide +kernel
theorem dX10_letGo_9 : decode cX10_letGo 9 = .ok (.getfield 41, 3) := by decide +kernel
theorem dX10_letGo_12 : decode cX10_letGo 12 = .ok (.iload_n 2, 1) := by decide +kernel
theorem dX10_letGo_13 : decode cX10_letGo 13 = .ok (.iaload, 1) := by decide +kernel
theorem dX10_letGo_14 : decode cX10_letGo 14 = .ok (.iconst (-1), 1) := by decide +kernel
theorem dX10_letGo_15 : decode cX10_letGo 15 = .ok (.if_icmp .eq 28, 3) := by decide +kernel
theorem dX10_letGo_18 : decode cX10_letGo 18 = .ok (.aload_n 0, 1) := by decide +kernel
theorem dX10_letGo_19 : decode cX10_letGo 19 = .ok (.getfield 11, 3) := by decide +kernel
theorem dX10_letGo_22 : decode cX10_letGo 22 = .ok (.aload_n 0, 1) := by decide +kernel
theorem dX10_letGo_23 : decode cX10_letGo 23 = .ok (.getfield 41, 3) := by decide +kernel
theorem dX10_letGo_26 : decode cX10_letGo 26 = .ok (.iload_n 2, 1) := by decide +kernel
theorem dX10_letGo_27 : decode cX10_letGo 27 = .ok (.iaload, 1) := by decide +kernel
theorem dX10_letGo_28 : decode cX10_letGo 28 = .ok (.aaload, 1) := by decide +kernel
theorem dX10_letGo_29 : decode cX10_letGo 29 = .ok (.getfield 87, 3) := by decide +kernel
theorem dX10_letGo_32 : decode cX10_letGo 32 = .ok (.iload_n 1, 1) := by decide +kernel
theorem dX10_letGo_33 : decode cX10_letGo 33 = .ok (.if_icmp .gt 10, 3) := by decide +kernel
theorem dX10_letGo_36 : decode cX10_letGo 36 = .ok (.aload_n 0, 1) := by decide +kernel
theorem dX10_letGo_37 : decode cX10_letGo 37 = .ok (.getfield 41, 3) := by decide +kernel
theorem dX10_letGo_40 : decode cX10_letGo 40 = .ok (.iload_n 2, 1) := by decide +kernel
theorem dX10_letGo_41 : decode cX10_letGo 41 = .ok (.iconst (-1), 1) := by decide +kernel
theorem dX10_letGo_42 : decode cX10_letGo 42 = .ok (.iastore, 1) := by decide +kernel
theorem dX10_letGo_43 : decode cX10_letGo 43 = .ok (.iinc 2 1, 3) := by decide +kernel
theorem dX10_letGo_46 : decode cX10_letGo 46 = .ok (.goto (-44), 3) := by decide +kernel
theorem dX10_letGo_49 : decode cX10_letGo 49 = .ok (.return_, 1) := by decide +kernel
theorem dX10_playedCueOn_0 : decode cX10_playedCueOn 0 = .ok (.iload_n 1, 1) := by decide +kernel
theorem dX10_playedCueOn_1 : decode cX10_playedCueOn 1 = .ok (.ifCond .lt 18, 3) := by decide +kernel
theorem dX10_playedCueOn_4 : decode cX10_playedCueOn 4 = .ok (.iload_n 1, 1) := by decide +kernel
theorem dX10_playedCueOn_5 : decode cX10_playedCueOn 5 = .ok (.bipush 8, 2) := by decide +kernel
theorem dX10_playedCueOn_7 : decode cX10_playedCueOn 7 = .ok (.if_icmp .ge 12, 3) := by decide +kernel
theorem dX10_playedCueOn_10 : decode cX10_playedCueOn 10 = .ok (.aload_n 0, 1) := by decide +kernel
theorem dX10_playedCueOn_11 : decode cX10_playedCueOn 11 = .ok (.getfield 41, 3) := by decide +kernel
theorem dX10_playedCueOn_14 : decode cX10_playedCueOn 14 = .ok (.iload_n 1, 1) := by decide +kernel
theorem dX10_playedCueOn_15 : decode cX10_playedCueOn 15 = .ok (.iaload, 1) := by decide +kernel
theorem dX10_playedCueOn_16 : decode cX10_playedCueOn 16 = .ok (.goto 4, 3) := by decide +kernel
theorem dX10_playedCueOn_19 : decode cX10_playedCueOn 19 = .ok (.iconst (-1), 1) := by decide +kernel
theorem dX10_playedCueOn_20 : decode cX10_playedCueOn 20 = .ok (.ireturn, 1) := by decide +kernel
theorem dX10_hasClash_0 : decode cX10_hasClash 0 = .ok (.iconst 0, 1) := by decide +kernel
theorem dX10_hasClash_1 : decode cX10_hasClash 1 = .ok (.istore_n 1, 1) := by decide +kernel
theorem dX10_hasClash_2 : decode cX10_hasClash 2 = .ok (.iload_n 1, 1) := by decide +kernel
theorem dX10_hasClash_3 : decode cX10_hasClash 3 = .ok (.aload_n 0, 1) := by decide +kernel
theorem dX10_hasClash_4 : decode cX10_hasClash 4 = .ok (.getfield 58, 3) := by decide +kernel
theorem dX10_hasClash_7 : decode cX10_hasClash 7 = .ok (.if_icmp .ge 45, 3) := by decide +kernel
theorem dX10_hasClash_10 : decode cX10_hasClash 10 = .ok (.iload_n 1, 1) := by decide +kernel
theorem dX10_hasClash_11 : decode cX10_hasClash 11 = .ok (.iconst 1, 1) := by decide +kernel
theorem dX10_hasClash_12 : decode cX10_hasClash 12 = .ok (.iadd, 1) := by decide +kernel
theorem dX10_hasClash_13 : decode cX10_hasClash 13 = .ok (.istore_n 2, 1) := by decide +kernel
theorem dX10_hasClash_14 : decode cX10_hasClash 14 = .ok (.iload_n 2, 1) := by decide +kernel
theorem dX10_hasClash_15 : decode cX10_hasClash 15 = .ok (.aload_n 0, 1) := by decide +kernel
theorem dX10_hasClash_16 : decode cX10_hasClash 16 = .ok (.getfield 58, 3) := by decide +kernel
theorem dX10_hasClash_19 : decode cX10_hasClash 19 = .ok (.if_icmp .ge 27, 3) := by decide +kernel
theorem dX10_hasClash_22 : decode cX10_hasClash 22 = .ok (.aload_n 0, 1) := by decide +kernel
theorem dX10_hasClash_23 : decode cX10_hasClash 23 = .ok (.iload_n 1, 1) := by decide +kernel
theorem dX10_hasClash_24 : decode cX10_hasClash 24 = .ok (.invokevirtual 62, 3) := by decide +kernel
theorem dX10_hasClash_27 : decode cX10_hasClash 27 = .ok (.aload_n 0, 1) := by decide +kernel
theorem dX10_hasClash_28 : decode cX10_hasClash 28 = .ok (.iload_n 2, 1) := by decide +kernel
theorem dX10_hasClash_29 : decode cX10_hasClash 29 = .ok (.invokevirtual 62, 3) := by decide +kernel
theorem dX10_hasClash_32 : decode cX10_hasClash 32 = .ok (.invokestatic 110, 3) := by decide +kernel
theorem dX10_hasClash_35 : decode cX10_hasClash 35 = .ok (.ifCond .eq 5, 3) := by decide +kernel
theorem dX10_hasClash_38 : decode cX10_hasClash 38 = .ok (.iconst 1, 1) := by decide +kernel
theorem dX10_hasClash_39 : decode cX10_hasClash 39 = .ok (.ireturn, 1) := by decide +kernel
theorem dX10_hasClash_40 : decode cX10_hasClash 40 = .ok (.iinc 2 1, 3) := by decide +kernel
theorem dX10_hasClash_43 : decode cX10_hasClash 43 = .ok (.goto (-29), 3) := by decide +kernel
theorem dX10_hasClash_46 : decode cX10_hasClash 46 = .ok (.iinc 1 1, 3) := by decide +kernel
theorem dX10_hasClash_49 : decode cX10_hasClash 49 = .ok (.goto (-47), 3) := by decide +kernel
theorem dX10_hasClash_52 : decode cX10_hasClash 52 = .ok (.iconst 0, 1) := by decide +kernel
theorem dX10_hasClash_53 : decode cX10_hasClash 53 = .ok (.ireturn, 1) := by decide +kernel
theorem dX10_isClash_0 : decode cX10_isClash 0 = .ok (.iconst 0, 1) := by decide +kernel
theorem dX10_isClash_1 : decode cX10_isClash 1 = .ok (.istore_n 2, 1) := by decide +kernel
theorem dX10_isClash_2 : decode cX10_isClash 2 = .ok (.iload_n 2, 1) := by decide +kernel
theorem dX10_isClash_3 : decode cX10_isClash 3 = .ok (.bipush 8, 2) := by decide +kernel
theorem dX10_isClash_5 : decode cX10_isClash 5 = .ok (.if_icmp .ge 38, 3) := by decide +kernel
theorem dX10_isClash_8 : decode cX10_isClash 8 = .ok (.aload_n 0, 1) := by decide +kernel
theorem dX10_isClash_9 : decode cX10_isClash 9 = .ok (.getfield 87, 3) := by decide +kernel
theorem dX10_isClash_12 : decode cX10_isClash 12 = .ok (.aload_n 1, 1) := by decide +kernel
theorem dX10_isClash_13 : decode cX10_isClash 13 = .ok (.getfield 84, 3) := by decide +kernel
theorem dX10_isClash_16 : decode cX10_isClash 16 = .ok (.if_icmp .le 27, 3) := by decide +kernel
theorem dX10_isClash_19 : decode cX10_isClash 19 = .ok (.aload_n 0, 1) := by decide +kernel
theorem dX10_isClash_20 : decode cX10_isClash 20 = .ok (.iload_n 2, 1) := by decide +kernel
theorem dX10_isClash_21 : decode cX10_isClash 21 = .ok (.invokevirtual 90, 3) := by decide +kernel
theorem dX10_isClash_24 : decode cX10_isClash 24 = .ok (.ifCond .eq 13, 3) := by decide +kernel
theorem dX10_isClash_27 : decode cX10_isClash 27 = .ok (.aload_n 1, 1) := by decide +kernel
theorem dX10_isClash_28 : decode cX10_isClash 28 = .ok (.iload_n 2, 1) := by decide +kernel
theorem dX10_isClash_29 : decode cX10_isClash 29 = .ok (.invokevirtual 90, 3) := by decide +kernel
theorem dX10_isClash_32 : decode cX10_isClash 32 = .ok (.ifCond .eq 5, 3) := by decide +kernel
theorem dX10_isClash_35 : decode cX10_isClash 35 = .ok (.iconst 1, 1) := by decide +kernel
theorem dX10_isClash_36 : decode cX10_isClash 36 = .ok (.ireturn, 1) := by decide +kernel
theorem dX10_isClash_37 : decode cX10_isClash 37 = .ok (.iinc 2 1, 3) := by decide +kernel
theorem dX10_isClash_40 : decode cX10_isClash 40 = .ok (.goto (-38), 3) := by decide +kernel
theorem dX10_isClash_43 : decode cX10_isClash 43 = .ok (.iconst 0, 1) := by decide +kernel
theorem dX10_isClash_44 : decode cX10_isClash 44 = .ok (.ireturn, 1) := by decide +kernel
theorem dX11_init_0 : decode cX11_init 0 = .ok (.aload_n 0, 1) := by decide +kernel
theorem dX11_init_1 : decode cX11_init 1 = .ok (.invokespecial 1, 3) := by decide +kernel
theorem dX11_init_4 : decode cX11_init 4 = .ok (.aload_n 0, 1) := by decide +kernel
theorem dX11_init_5 : decode cX11_init 5 = .ok (.new 7, 3) := by decide +kernel
theorem dX11_init_8 : decode cX11_init 8 = .ok (.dup, 1) := by decide +kernel
theorem dX11_init_9 : decode cX11_init 9 = .ok (.invokespecial 9, 3) := by decide +kernel
theorem dX11_init_12 : decode cX11_init 12 = .ok (.putfield 10, 3) := by decide +kernel
theorem dX11_init_15 : decode cX11_init 15 = .ok (.aload_n 0, 1) := by decide +kernel
theorem dX11_init_16 : decode cX11_init 16 = .ok (.new 16, 3) := by decide +kernel
theorem dX11_init_19 : decode cX11_init 19 = .ok (.dup, 1) := by decide +kernel
theorem dX11_init_20 : decode cX11_init 20 = .ok (.invokespecial 18, 3) := by decide +kernel
theorem dX11_init_23 : decode cX11_init 23 = .ok (.putfield 19, 3) := by decide +kernel
theorem dX11_init_26 : decode cX11_init 26 = .ok (.aload_n 0, 1) := by decide +kernel
theorem dX11_init_27 : decode cX11_init 27 = .ok (.new 16, 3) := by decide +kernel
theorem dX11_init_30 : decode cX11_init 30 = .ok (.dup, 1) := by decide +kernel
theorem dX11_init_31 : decode cX11_init 31 = .ok (.invokespecial 18, 3) := by decide +kernel
theorem dX11_init_34 : decode cX11_init 34 = .ok (.putfield 23, 3) := by decide +kernel
theorem dX11_init_37 : decode cX11_init 37 = .ok (.aload_n 0, 1) := by decide +kernel
theorem dX11_init_38 : decode cX11_init 38 = .ok (.new 26, 3) := by decide +kernel
theorem dX11_init_41 : decode cX11_init 41 = .ok (.dup, 1) := by decide +kernel
theorem dX11_init_42 : decode cX11_init 42 = .ok (.invokespecial 28, 3) := by decide +kernel
theorem dX11_init_45 : decode cX11_init 45 = .ok (.putfield 29, 3) := by decide +kernel
theorem dX11_init_48 : decode cX11_init 48 = .ok (.aload_n 0, 1) := by decide +kernel
theorem dX11_init_49 : decode cX11_init 49 = .ok (.aload_n 0, 1) := by decide +kernel
theorem dX11_init_50 : decode cX11_init 50 = .ok (.getfield 29, 3) := by decide +kernel
theorem dX11_init_53 : decode cX11_init 53 = .ok (.getfield 33, 3) := by decide +kernel
theorem dX11_init_56 : decode cX11_init 56 = .ok (.putfield 37, 3) := by decide +kernel
theorem dX11_init_59 : decode cX11_init 59 = .ok (.aload_n 0, 1) := by decide +kernel
theorem dX11_init_60 : decode cX11_init 60 = .ok (.new 40, 3) := by decide +kernel
theorem dX11_init_63 : decode cX11_init 63 = .ok (.dup, 1) := by decide +kernel
theorem dX11_init_64 : decode cX11_init 64 = .ok (.invokespecial 42, 3) := by decide +kernel
theorem dX11_init_67 : decode cX11_init 67 = .ok (.putfield 43, 3) := by decide +kernel
theorem dX11_init_70 : decode cX11_init 70 = .ok (.aload_n 0, 1) := by decide +kernel
theorem dX11_init_71 : decode cX11_init 71 = .ok (.new 47, 3) := by decide +kernel
theorem dX11_init_74 : decode cX11_init 74 = .ok (.dup, 1) := by decide +kernel
theorem dX11_init_75 : decode cX11_init 75 = .ok (.invokespecial 49, 3) := by decide +kernel
theorem dX11_init_78 : decode cX11_init 78 = .ok (.putfield 50, 3) := by decide +kernel
theorem dX11_init_81 : decode cX11_init 81 = .ok (.aload_n 0, 1) := by decide +kernel
theorem dX11_init_82 : decode cX11_init 82 = .ok (.new 54, 3) := by decide +kernel
theorem dX11_init_85 : decode cX11_init 85 = .ok (.dup, 1) := by decide +kernel
theorem dX11_init_86 : decode cX11_init 86 = .ok (.invokespecial 56, 3) := by decide +kernel
theorem dX11_init_89 : decode cX11_init 89 = .ok (.putfield 57, 3) := by decide +kernel
theorem dX11_init_92 : decode cX11_init 92 = .ok (.aload_n 0, 1) := by decide +kernel
theorem dX11_init_93 : decode cX11_init 93 = .ok (.new 61, 3) := by decide +kernel
theorem dX11_init_96 : decode cX11_init 96 = .ok (.dup, 1) := by decide +kernel
theorem dX11_init_97 : decode cX11_init 97 = .ok (.invokespecial 63, 3) := by decide +kernel
theorem dX11_init_100 : decode cX11_init 100 = .ok (.putfield 64, 3) := by decide +kernel
theorem dX11_init_103 : decode cX11_init 103 = .ok (.aload_n 0, 1) := by decide +kernel
theorem dX11_init_104 : decode cX11_init 104 = .ok (.new 68, 3) := by decide +kernel
theorem dX11_init_107 : decode cX11_init 107 = .ok (.dup, 1) := by decide +kernel
theorem dX11_init_108 : decode cX11_init 108 = .ok (.invokespecial 70, 3) := by decide +kernel
theorem dX11_init_111 : decode cX11_init 111 = .ok (.putfield 71, 3) := by decide +kernel
theorem dX11_init_114 : decode cX11_init 114 = .ok (.return_, 1) := by decide +kernel
theorem dX11_frameOf_0 : decode cX11_frameOf 0 = .ok (.iload_n 1, 1) := by decide +kernel
theorem dX11_frameOf_1 : decode cX11_frameOf 1 = .ok (.ifCond .lt 34, 3) := by decide +kernel
theorem dX11_frameOf_4 : decode cX11_frameOf 4 = .ok (.iload_n 2, 1) := by decide +kernel
theorem dX11_frameOf_5 : decode cX11_frameOf 5 = .ok (.iconst 0, 1) := by decide +kernel
theorem dX11_frameOf_6 : decode cX11_frameOf 6 = .ok (.bipush 59, 2) := by decide +kernel
theorem dX11_frameOf_8 : decode cX11_frameOf 8 = .ok (.invokestatic 75, 3) := by decide +kernel
theorem dX11_frameOf_11 : decode cX11_frameOf 11 = .ok (.ifCond .eq 24, 3) := by decide +kernel
theorem dX11_frameOf_14 : decode cX11_frameOf 14 = .ok (.iload_n 3, 1) := by decide +kernel
theorem dX11_frameOf_15 : decode cX11_frameOf 15 = .ok (.iconst 0, 1) := by decide +kernel
theorem dX11_frameOf_16 : decode cX11_frameOf 16 = .ok (.bipush 59, 2) := by decide +kernel
theorem dX11_frameOf_18 : decode cX11_frameOf 18 = .ok (.invokestatic 75, 3) := by decide +kernel
theorem dX11_frameOf_21 : decode cX11_frameOf 21 = .ok (.ifCond .eq 14, 3) := by decide +kernel
theorem dX11_frameOf_24 : decode cX11_frameOf 24 = .ok (.iload 4, 2) := by decide +kernel
theorem dX11_frameOf_26 : decode cX11_frameOf 26 = .ok (.iconst 0, 1) := by decide +kernel
theorem dX11_frameOf_27 : decode cX11_frameOf 27 = .ok (.bipush 29, 2) := by decide +kernel
theorem dX11_frameOf_29 : decode cX11_frameOf 29 = .ok (.invokestatic 75, 3) := by decide +kernel
theorem dX11_frameOf_32 : decode cX11_frameOf 32 = .ok (.ifCond .ne 13, 3) := by decide +kernel
theorem dX11_frameOf_35 : decode cX11_frameOf 35 = .ok (.new 79, 3) := by decide +kernel
theorem dX11_frameOf_38 : decode cX11_frameOf 38 = .ok (.dup, 1) := by decide +kernel
theorem dX11_frameOf_39 : decode cX11_frameOf 39 = .ok (.ldc 81, 2) := by decide +kernel
theorem dX11_frameOf_41 : decode cX11_frameOf 41 = .ok (.invokespecial 83, 3) := by decide +kernel
theorem dX11_frameOf_44 : decode cX11_frameOf 44 = .ok (.athrow, 1) := by decide +kernel
theorem dX11_frameOf_45 : decode cX11_frameOf 45 = .ok (.iload 5, 2) := by decide +kernel
theorem dX11_frameOf_47 : decode cX11_frameOf 47 = .ok (.ifCond .eq 30, 3) := by decide +kernel
theorem dX11_frameOf_50 : decode cX11_frameOf 50 = .ok (.iload_n 2, 1) := by decide +kernel
theorem dX11_frameOf_51 : decode cX11_frameOf 51 = .ok (.bipush 10, 2) := by decide +kernel
theorem dX11_frameOf_53 : decode cX11_frameOf 53 = .ok (.irem, 1) := by decide +kernel
theorem dX11_frameOf_54 : decode cX11_frameOf 54 = .ok (.ifCond .eq 23, 3) := by decide +kernel
theorem dX11_frameOf_57 : decode cX11_frameOf 57 = .ok (.iload_n 3, 1) := by decide +kernel
theorem dX11_frameOf_58 : decode cX11_frameOf 58 = .ok (.ifCond .ne 19, 3) := by decide +kernel
theorem dX11_frameOf_61 : decode cX11_frameOf 61 = .ok (.iload 4, 2) := by decide +kernel
theorem dX11_frameOf_63 : decode cX11_frameOf 63 = .ok (.iconst 2, 1) := by decide +kernel
theorem dX11_frameOf_64 : decode cX11_frameOf 64 = .ok (.if_icmp .ge 13, 3) := by decide +kernel
theorem dX11_frameOf_67 : decode cX11_frameOf 67 = .ok (.new 79, 3) := by decide +kernel
theorem dX11_frameOf_70 : decode cX11_frameOf 70 = .ok (.dup, 1) := by decide +kernel
theorem dX11_frameOf_71 : decode cX11_frameOf 71 = .ok (.ldc 86, 2) := by decide +kernel
theorem dX11_frameOf_73 : decode cX11_frameOf 73 = .ok (.invokespecial 83, 3) := by decide +kernel
theorem dX11_frameOf_76 : decode cX11_frameOf 76 = .ok (.athrow, 1) := by decide +kernel
theorem dX11_frameOf_77 : decode cX11_frameOf 77 = .ok (.ldc2_w 88, 3) := by decide +kernel
theorem dX11_frameOf_80 : decode cX11_frameOf 80 = .ok (.iload_n 1, 1) := by decide +kernel
theorem dX11_frameOf_81 : decode cX11_frameOf 81 = .ok (.i2l, 1) := by decide +kernel
theorem dX11_frameOf_82 : decode cX11_frameOf 82 = .ok (.lmul, 1) := by decide +kernel
theorem dX11_frameOf_83 : decode cX11_frameOf 83 = .ok (.iload_n 2, 1) := by decide +kernel
theorem dX11_frameOf_84 : decode cX11_frameOf 84 = .ok (.i2l, 1) := by decide +kernel
theorem dX11_frameOf_85 : decode cX11_frameOf 85 = .ok (.ladd, 1) := by decide +kernel
theorem dX11_frameOf_86 : decode cX11_frameOf 86 = .ok (.lstore 6, 2) := by decide +kernel
theorem dX11_frameOf_88 : decode cX11_frameOf 88 = .ok (.lload 6, 2) := by decide +kernel
theorem dX11_frameOf_90 : decode cX11_frameOf 90 = .ok (.ldc2_w 90, 3) := by decide +kernel
theorem dX11_frameOf_93 : decode cX11_frameOf 93 = .ok (.lmul, 1) := by decide +kernel
theorem dX11_frameOf_94 : decode cX11_frameOf 94 = .ok (.iload_n 3, 1) := by decide +kernel
theorem dX11_frameOf_95 : decode cX11_frameOf 95 = .ok (.bipush 30, 2) := by decide +kernel
theorem dX11_frameOf_97 : decode cX11_frameOf 97 = .ok (.imul, 1) := by decide +kernel
theorem dX11_frameOf_98 : decode cX11_frameOf 98 = .ok (.i2l, 1) := by decide +kernel
theorem dX11_frameOf_99 : decode cX11_frameOf 99 = .ok (.ladd, 1) := by decide +kernel
theorem dX11_frameOf_100 : decode cX11_frameOf 100 = .ok (.iload 4, 2) := by decide +kernel
theorem dX11_frameOf_102 : decode cX11_frameOf 102 = .ok (.i2l, 1) := by decide +kernel
theorem dX11_frameOf_103 : decode cX11_frameOf 103 = .ok (.ladd, 1) := by decide +kernel
theorem dX11_frameOf_104 : decode cX11_frameOf 104 = .ok (.lstore 8, 2) := by decide +kernel
theorem dX11_frameOf_106 : decode cX11_frameOf 106 = .ok (.iload 5, 2) := by decide +kernel
theorem dX11_frameOf_108 : decode cX11_frameOf 108 = .ok (.ifCond .eq 21, 3) := by decide +kernel
theorem dX11_frameOf_111 : decode cX11_frameOf 111 = .ok (.lload 8, 2) := by decide +kernel
theorem dX11_frameOf_113 : decode cX11_frameOf 113 = .ok (.ldc2_w 92, 3) := by decide +kernel
theorem dX11_frameOf_116 : decode cX11_frameOf 116 = .ok (.lload 6, 2) := by decide +kernel
theorem dX11_frameOf_118 : decode cX11_frameOf 118 = .ok (.lload 6, 2) := by decide +kernel
theorem dX11_frameOf_120 : decode cX11_frameOf 120 = .ok (.ldc2_w 94, 3) := by decide +kernel
theorem dX11_frameOf_123 : decode cX11_frameOf 123 = .ok (.ldiv, 1) := by decide +kernel
theorem dX11_frameOf_124 : decode cX11_frameOf 124 = .ok (.lsub, 1) := by decide +kernel
theorem dX11_frameOf_125 : decode cX11_frameOf 125 = .ok (.lmul, 1) := by decide +kernel
theorem dX11_frameOf_126 : decode cX11_frameOf 126 = .ok (.lsub, 1) := by decide +kernel
theorem dX11_frameOf_127 : decode cX11_frameOf 127 = .ok (.lstore 8, 2) := by decide +kernel
theorem dX11_frameOf_129 : decode cX11_frameOf 129 = .ok (.lload 8, 2) := by decide +kernel
theorem dX11_frameOf_131 : decode cX11_frameOf 131 = .ok (.ldc2_w 96, 3) := by decide +kernel
theorem dX11_frameOf_134 : decode cX11_frameOf 134 = .ok (.lcmp, 1) := by decide +kernel
theorem dX11_frameOf_135 : decode cX11_frameOf 135 = .ok (.ifCond .le 13, 3) := by decide +kernel
theorem dX11_frameOf_138 : decode cX11_frameOf 138 = .ok (.new 79, 3) := by decide +kernel
theorem dX11_frameOf_141 : decode cX11_frameOf 141 = .ok (.dup, 1) := by decide +kernel
theorem dX11_frameOf_142 : decode cX11_frameOf 142 = .ok (.ldc 98, 2) := by decide +kernel
theorem dX11_frameOf_144 : decode cX11_frameOf 144 = .ok (.invokespecial 83, 3) := by decide +kernel
theorem dX11_frameOf_147 : decode cX11_frameOf 147 = .ok (.athrow, 1) := by decide +kernel
theorem dX11_frameOf_148 : decode cX11_frameOf 148 = .ok (.lload 8, 2) := by decide +kernel
theorem dX11_frameOf_150 : decode cX11_frameOf 150 = .ok (.l2i, 1) := by decide +kernel
theorem dX11_frameOf_151 : decode cX11_frameOf 151 = .ok (.ireturn, 1) := by decide +kernel
theorem dX11_stampOf_0 : decode cX11_stampOf 0 = .ok (.iload_n 1, 1) := by decide +kernel
theorem dX11_stampOf_1 : decode cX11_stampOf 1 = .ok (.invokestatic 100, 3) := by decide +kernel
theorem dX11_stampOf_4 : decode cX11_stampOf 4 = .ok (.iload_n 2, 1) := by decide +kernel
theorem dX11_stampOf_5 : decode cX11_stampOf 5 = .ok (.iconst 0, 1) := by decide +kernel
theorem dX11_stampOf_6 : decode cX11_stampOf 6 = .ok (.iconst 3, 1) := by decide +kernel
theorem dX11_stampOf_7 : decode cX11_stampOf 7 = .ok (.invokestatic 75, 3) := by decide +kernel
theorem dX11_stampOf_10 : decode cX11_stampOf 10 = .ok (.invokestatic 104, 3) := by decide +kernel
theorem dX11_stampOf_13 : decode cX11_stampOf 13 = .ok (.iload_n 3, 1) := by decide +kernel
theorem dX11_stampOf_14 : decode cX11_stampOf 14 = .ok (.ifCond .eq 10, 3) := by decide +kernel
theorem dX11_stampOf_17 : decode cX11_stampOf 17 = .ok (.iload_n 1, 1) := by decide +kernel
theorem dX11_stampOf_18 : decode cX11_stampOf 18 = .ok (.invokestatic 108, 3) := by decide +kernel
theorem dX11_stampOf_21 : decode cX11_stampOf 21 = .ok (.goto 4, 3) := by decide +kernel
theorem dX11_stampOf_24 : decode cX11_stampOf 24 = .ok (.iload_n 1, 1) := by decide +kernel
theorem dX11_stampOf_25 : decode cX11_stampOf 25 = .ok (.istore 4, 2) := by decide +kernel
theorem dX11_stampOf_27 : decode cX11_stampOf 27 = .ok (.iload_n 2, 1) := by decide +kernel
theorem dX11_stampOf_28 : decode cX11_stampOf 28 = .ok (.tableswitch 53 0 2 #[28, 34, 44], 28) := by decide +kernel
theorem dX11_stampOf_56 : decode cX11_stampOf 56 = .ok (.iload 4, 2) := by decide +kernel
theorem dX11_stampOf_58 : decode cX11_stampOf 58 = .ok (.ldc 112, 2) := by decide +kernel
theorem dX11_stampOf_60 : decode cX11_stampOf 60 = .ok (.idiv, 1) := by decide +kernel
theorem dX11_stampOf_61 : decode cX11_stampOf 61 = .ok (.ireturn, 1) := by decide +kernel
theorem dX11_stampOf_62 : decode cX11_stampOf 62 = .ok (.iload 4, 2) := by decide +kernel
theorem dX11_stampOf_64 : decode cX11_stampOf 64 = .ok (.sipush 1800, 3) := by decide +kernel
theorem dX11_stampOf_67 : decode cX11_stampOf 67 = .ok (.idiv, 1) := by decide +kernel
theorem dX11_stampOf_68 : decode cX11_stampOf 68 = .ok (.bipush 60, 2) := by decide +kernel
theorem dX11_stampOf_70 : decode cX11_stampOf 70 = .ok (.irem, 1) := by decide +kernel
theorem dX11_stampOf_71 : decode cX11_stampOf 71 = .ok (.ireturn, 1) := by decide +kernel
theorem dX11_stampOf_72 : decode cX11_stampOf 72 = .ok (.iload 4, 2) := by decide +kernel
theorem dX11_stampOf_74 : decode cX11_stampOf 74 = .ok (.bipush 30, 2) := by decide +kernel
theorem dX11_stampOf_76 : decode cX11_stampOf 76 = .ok (.idiv, 1) := by decide +kernel
theorem dX11_stampOf_77 : decode cX11_stampOf 77 = .ok (.bipush 60, 2) := by decide +kernel
theorem dX11_stampOf_79 : decode cX11_stampOf 79 = .ok (.irem, 1) := by decide +kernel
theorem dX11_stampOf_80 : decode cX11_stampOf 80 = .ok (.ireturn, 1) := by decide +kernel
theorem dX11_stampOf_81 : decode cX11_stampOf 81 = .ok (.iload 4, 2) := by decide +kernel
theorem dX11_stampOf_83 : decode cX11_stampOf 83 = .ok (.bipush 30, 2) := by decide +kernel
theorem dX11_stampOf_85 : decode cX11_stampOf 85 = .ok (.irem, 1) := by decide +kernel
theorem dX11_stampOf_86 : decode cX11_stampOf 86 = .ok (.ireturn, 1) := by decide +kernel
theorem dX11_code_0 : decode cX11_code 0 = .ok (.iload_n 1, 1) := by decide +kernel
theorem dX11_code_1 : decode cX11_code 1 = .ok (.invokestatic 100, 3) := by decide +kernel
theorem dX11_code_4 : decode cX11_code 4 = .ok (.iload_n 2, 1) := by decide +kernel
theorem dX11_code_5 : decode cX11_code 5 = .ok (.iload_n 3, 1) := by decide +kernel
theorem dX11_code_6 : decode cX11_code 6 = .ok (.invokestatic 113, 3) := by decide +kernel
theorem dX11_code_9 : decode cX11_code 9 = .ok (.invokestatic 104, 3) := by decide +kernel
theorem dX11_code_12 : decode cX11_code 12 = .ok (.aload_n 0, 1) := by decide +kernel
theorem dX11_code_13 : decode cX11_code 13 = .ok (.getfield 10, 3) := by decide +kernel
theorem dX11_code_16 : decode cX11_code 16 = .ok (.getfield 117, 3) := by decide +kernel
theorem dX11_code_19 : decode cX11_code 19 = .ok (.sipush 200, 3) := by decide +kernel
theorem dX11_code_22 : decode cX11_code 22 = .ok (.if_icmp .lt 24, 3) := by decide +kernel
theorem dX11_code_25 : decode cX11_code 25 = .ok (.aload_n 0, 1) := by decide +kernel
theorem dX11_code_26 : decode cX11_code 26 = .ok (.getfield 10, 3) := by decide +kernel
theorem dX11_code_29 : decode cX11_code 29 = .ok (.iload_n 1, 1) := by decide +kernel
theorem dX11_code_30 : decode cX11_code 30 = .ok (.invokevirtual 121, 3) := by decide +kernel
theorem dX11_code_33 : decode cX11_code 33 = .ok (.ifCond .ne 13, 3) := by decide +kernel
theorem dX11_code_36 : decode cX11_code 36 = .ok (.new 125, 3) := by decide +kernel
theorem dX11_code_39 : decode cX11_code 39 = .ok (.dup, 1) := by decide +kernel
theorem dX11_code_40 : decode cX11_code 40 = .ok (.ldc 127, 2) := by decide +kernel
theorem dX11_code_42 : decode cX11_code 42 = .ok (.invokespecial 129, 3) := by decide +kernel
theorem dX11_code_45 : decode cX11_code 45 = .ok (.athrow, 1) := by decide +kernel
theorem dX11_code_46 : decode cX11_code 46 = .ok (.aload_n 0, 1) := by decide +kernel
theorem dX11_code_47 : decode cX11_code 47 = .ok (.getfield 10, 3) := by decide +kernel
theorem dX11_code_50 : decode cX11_code 50 = .ok (.iload_n 1, 1) := by decide +kernel
theorem dX11_code_51 : decode cX11_code 51 = .ok (.iload_n 2, 1) := by decide +kernel
theorem dX11_code_52 : decode cX11_code 52 = .ok (.iload_n 2, 1) := by decide +kernel
theorem dX11_code_53 : decode cX11_code 53 = .ok (.invokestatic 130, 3) := by decide +kernel
theorem dX11_code_56 : decode cX11_code 56 = .ok (.ifCond .eq 7, 3) := by decide +kernel
theorem dX11_code_59 : decode cX11_code 59 = .ok (.iload_n 3, 1) := by decide +kernel
theorem dX11_code_60 : decode cX11_code 60 = .ok (.goto 4, 3) := by decide +kernel
theorem dX11_code_63 : decode cX11_code 63 = .ok (.iconst 0, 1) := by decide +kernel
theorem dX11_code_64 : decode cX11_code 64 = .ok (.invokevirtual 134, 3) := by decide +kernel
theorem dX11_code_67 : decode cX11_code 67 = .ok (.istore 4, 2) := by decide +kernel
theorem dX11_code_69 : decode cX11_code 69 = .ok (.aload_n 0, 1) := by decide +kernel
theorem dX11_code_70 : decode cX11_code 70 = .ok (.getfield 19, 3) := by decide +kernel
theorem dX11_code_73 : decode cX11_code 73 = .ok (.invokevirtual 138, 3) := by decide +kernel
theorem dX11_code_76 : decode cX11_code 76 = .ok (.iload 4, 2) := by decide +kernel
theorem dX11_code_78 : decode cX11_code 78 = .ok (.ireturn, 1) := by decide +kernel
theorem dX11_dropCode_0 : decode cX11_dropCode 0 = .ok (.iload_n 1, 1) := by decide +kernel
theorem dX11_dropCode_1 : decode cX11_dropCode 1 = .ok (.invokestatic 100, 3) := by decide +kernel
theorem dX11_dropCode_4 : decode cX11_dropCode 4 = .ok (.aload_n 0, 1) := by decide +kernel
theorem dX11_dropCode_5 : decode cX11_dropCode 5 = .ok (.getfield 10, 3) := by decide +kernel
theorem dX11_dropCode_8 : decode cX11_dropCode 8 = .ok (.iload_n 1, 1) := by decide +kernel
theorem dX11_dropCode_9 : decode cX11_dropCode 9 = .ok (.invokevirtual 141, 3) := by decide +kernel
theorem dX11_dropCode_12 : decode cX11_dropCode 12 = .ok (.istore_n 2, 1) := by decide +kernel
theorem dX11_dropCode_13 : decode cX11_dropCode 13 = .ok (.aload_n 0, 1) := by decide +kernel
theorem dX11_dropCode_14 : decode cX11_dropCode 14 = .ok (.getfield 19, 3) := by decide +kernel
theorem dX11_dropCode_17 : decode cX11_dropCode 17 = .ok (.invokevirtual 138, 3) := by decide +kernel
theorem dX11_dropCode_20 : decode cX11_dropCode 20 = .ok (.iload_n 2, 1) := by decide +kernel
theorem dX11_dropCode_21 : decode cX11_dropCode 21 = .ok (.ireturn, 1) := by decide +kernel
theorem dX11_cellAt_0 : decode cX11_cellAt 0 = .ok (.iload_n 1, 1) := by decide +kernel
theorem dX11_cellAt_1 : decode cX11_cellAt 1 = .ok (.iload_n 2, 1) := by decide +kernel
theorem dX11_cellAt_2 : decode cX11_cellAt 2 = .ok (.iload_n 3, 1) := by decide +kernel
theorem dX11_cellAt_3 : decode cX11_cellAt 3 = .ok (.invokestatic 144, 3) := by decide +kernel
theorem dX11_cellAt_6 : decode cX11_cellAt 6 = .ok (.aload_n 0, 1) := by decide +kernel
theorem dX11_cellAt_7 : decode cX11_cellAt 7 = .ok (.iload_n 1, 1) := by decide +kernel
theorem dX11_cellAt_8 : decode cX11_cellAt 8 = .ok (.invokevirtual 148, 3) := by decide +kernel
theorem dX11_cellAt_11 : decode cX11_cellAt 11 = .ok (.getfield 152, 3) := by decide +kernel
theorem dX11_cellAt_14 : decode cX11_cellAt 14 = .ok (.iload_n 2, 1) := by decide +kernel
theorem dX11_cellAt_15 : decode cX11_cellAt 15 = .ok (.iload_n 3, 1) := by decide +kernel
theorem dX11_cellAt_16 : decode cX11_cellAt 16 = .ok (.invokevirtual 156, 3) := by decide +kernel
theorem dX11_cellAt_19 : decode cX11_cellAt 19 = .ok (.ireturn, 1) := by decide +kernel
theorem dX11_cellAnew_0 : decode cX11_cellAnew 0 = .ok (.iload_n 1, 1) := by decide +kernel
theorem dX11_cellAnew_1 : decode cX11_cellAnew 1 = .ok (.iload_n 2, 1) := by decide +kernel
theorem dX11_cellAnew_2 : decode cX11_cellAnew 2 = .ok (.iload_n 3, 1) := by decide +kernel
theorem dX11_cellAnew_3 : decode cX11_cellAnew 3 = .ok (.invokestatic 144, 3) := by decide +kernel
theorem dX11_cellAnew_6 : decode cX11_cellAnew 6 = .ok (.aload_n 0, 1) := by decide +kernel
theorem dX11_cellAnew_7 : decode cX11_cellAnew 7 = .ok (.getfield 23, 3) := by decide +kernel
theorem dX11_cellAnew_10 : decode cX11_cellAnew 10 = .ok (.invokevirtual 138, 3) := by decide +kernel
theorem dX11_cellAnew_13 : decode cX11_cellAnew 13 = .ok (.aload_n 0, 1) := by decide +kernel
theorem dX11_cellAnew_14 : decode cX11_cellAnew 14 = .ok (.getfield 23, 3) := by decide +kernel
theorem dX11_cellAnew_17 : decode cX11_cellAnew 17 = .ok (.aload_n 0, 1) := by decide +kernel
theorem dX11_cellAnew_18 : decode cX11_cellAnew 18 = .ok (.getfield 10, 3) := by decide +kernel
theorem dX11_cellAnew_21 : decode cX11_cellAnew 21 = .ok (.iload_n 1, 1) := by decide +kernel
theorem dX11_cellAnew_22 : decode cX11_cellAnew 22 = .ok (.invokevirtual 162, 3) := by decide +kernel
theorem dX11_cellAnew_25 : decode cX11_cellAnew 25 = .ok (.aload_n 0, 1) := by decide +kernel
theorem dX11_cellAnew_26 : decode cX11_cellAnew 26 = .ok (.getfield 23, 3) := by decide +kernel
theorem dX11_cellAnew_29 : decode cX11_cellAnew 29 = .ok (.getfield 152, 3) := by decide +kernel
theorem dX11_cellAnew_32 : decode cX11_cellAnew 32 = .ok (.iload_n 2, 1) := by decide +kernel
theorem dX11_cellAnew_33 : decode cX11_cellAnew 33 = .ok (.iload_n 3, 1) := by decide +kernel
theorem dX11_cellAnew_34 : decode cX11_cellAnew 34 = .ok (.invokevirtual 156, 3) := by decide +kernel
theorem dX11_cellAnew_37 : decode cX11_cellAnew 37 = .ok (.ireturn, 1) := by decide +kernel
theorem dX11_colourAt_0 : decode cX11_colourAt 0 = .ok (.iload_n 1, 1) := by decide +kernel
theorem dX11_colourAt_1 : decode cX11_colourAt 1 = .ok (.iload_n 2, 1) := by decide +kernel
theorem dX11_colourAt_2 : decode cX11_colourAt 2 = .ok (.iload_n 3, 1) := by decide +kernel
theorem dX11_colourAt_3 : decode cX11_colourAt 3 = .ok (.invokestatic 144, 3) := by decide +kernel
theorem dX11_colourAt_6 : decode cX11_colourAt 6 = .ok (.aload_n 0, 1) := by decide +kernel
theorem dX11_colourAt_7 : decode cX11_colourAt 7 = .ok (.iload_n 1, 1) := by decide +kernel
theorem dX11_colourAt_8 : decode cX11_colourAt 8 = .ok (.invokevirtual 148, 3) := by decide +kernel
theorem dX11_colourAt_11 : decode cX11_colourAt 11 = .ok (.getfield 152, 3) := by decide +kernel
theorem dX11_colourAt_14 : decode cX11_colourAt 14 = .ok (.iload_n 2, 1) := by decide +kernel
theorem dX11_colourAt_15 : decode cX11_colourAt 15 = .ok (.iload_n 3, 1) := by decide +kernel
theorem dX11_colourAt_16 : decode cX11_colourAt 16 = .ok (.invokevirtual 166, 3) := by decide +kernel
theorem dX11_colourAt_19 : decode cX11_colourAt 19 = .ok (.ireturn, 1) := by decide +kernel
theorem dX11_modeAt_0 : decode cX11_modeAt 0 = .ok (.iload_n 1, 1) := by decide +kernel
theorem dX11_modeAt_1 : decode cX11_modeAt 1 = .ok (.invokestatic 100, 3) := by decide +kernel
theorem dX11_modeAt_4 : decode cX11_modeAt 4 = .ok (.aload_n 0, 1) := by decide +kernel
theorem dX11_modeAt_5 : decode cX11_modeAt 5 = .ok (.iload_n 1, 1) := by decide +kernel
theorem dX11_modeAt_6 : decode cX11_modeAt 6 = .ok (.invokevirtual 148, 3) := by decide +kernel
theorem dX11_modeAt_9 : decode cX11_modeAt 9 = .ok (.getfield 169, 3) := by decide +kernel
theorem dX11_modeAt_12 : decode cX11_modeAt 12 = .ok (.ireturn, 1) := by decide +kernel
theorem dX11_cursorAt_0 : decode cX11_cursorAt 0 = .ok (.iload_n 1, 1) := by decide +kernel
theorem dX11_cursorAt_1 : decode cX11_cursorAt 1 = .ok (.invokestatic 100, 3) := by decide +kernel
theorem dX11_cursorAt_4 : decode cX11_cursorAt 4 = .ok (.aload_n 0, 1) := by decide +kernel
theorem dX11_cursorAt_5 : decode cX11_cursorAt 5 = .ok (.iload_n 1, 1) := by decide +kernel
theorem dX11_cursorAt_6 : decode cX11_cursorAt 6 = .ok (.invokevirtual 148, 3) := by decide +kernel
theorem dX11_cursorAt_9 : decode cX11_cursorAt 9 = .ok (.astore_n 2, 1) := by decide +kernel
theorem dX11_cursorAt_10 : decode cX11_cursorAt 10 = .ok (.bipush 20, 2) := by decide +kernel
theorem dX11_cursorAt_12 : decode cX11_cursorAt 12 = .ok (.aload_n 2, 1) := by decide +kernel
theorem dX11_cursorAt_13 : decode cX11_cursorAt 13 = .ok (.getfield 173, 3) := by decide +kernel
theorem dX11_cursorAt_16 : decode cX11_cursorAt 16 = .ok (.imul, 1) := by decide +kernel
theorem dX11_cursorAt_17 : decode cX11_cursorAt 17 = .ok (.aload_n 2, 1) := by decide +kernel
theorem dX11_cursorAt_18 : decode cX11_cursorAt 18 = .ok (.getfield 176, 3) := by decide +kernel
theorem dX11_cursorAt_21 : decode cX11_cursorAt 21 = .ok (.iadd, 1) := by decide +kernel
theorem dX11_cursorAt_22 : decode cX11_cursorAt 22 = .ok (.ireturn, 1) := by decide +kernel
theorem dX11_shown_0 : decode cX11_shown 0 = .ok (.iload_n 1, 1) := by decide +kernel
theorem dX11_shown_1 : decode cX11_shown 1 = .ok (.invokestatic 100, 3) := by decide +kernel
theorem dX11_shown_4 : decode cX11_shown 4 = .ok (.aload_n 0, 1) := by decide +kernel
theorem dX11_shown_5 : decode cX11_shown 5 = .ok (.iload_n 1, 1) := by decide +kernel
theorem dX11_shown_6 : decode cX11_shown 6 = .ok (.invokevirtual 148, 3) := by decide +kernel
theorem dX11_shown_9 : decode cX11_shown 9 = .ok (.getfield 152, 3) := by decide +kernel
theorem dX11_shown_12 : decode cX11_shown 12 = .ok (.invokevirtual 179, 3) := by decide +kernel
theorem dX11_shown_15 : decode cX11_shown 15 = .ok (.ireturn, 1) := by decide +kernel
theorem dX11_setRegion_0 : decode cX11_setRegion 0 = .ok (.iload_n 1, 1) := by decide +kernel
theorem dX11_setRegion_1 : decode cX11_setRegion 1 = .ok (.iconst 0, 1) := by decide +kernel
theorem dX11_setRegion_2 : decode cX11_setRegion 2 = .ok (.iconst 2, 1) := by decide +kernel
theorem dX11_setRegion_3 : decode cX11_setRegion 3 = .ok (.invokestatic 75, 3) := by decide +kernel
theorem dX11_setRegion_6 : decode cX11_setRegion 6 = .ok (.ifCond .eq 46, 3) := by decide +kernel
theorem dX11_setRegion_9 : decode cX11_setRegion 9 = .ok (.iload_n 2, 1) := by decide +kernel
theorem dX11_setRegion_10 : decode cX11_setRegion 10 = .ok (.iconst 0, 1) := by decide +kernel
theorem dX11_setRegion_11 : decode cX11_setRegion 11 = .ok (.bipush 7, 2) := by decide +kernel
theorem dX11_setRegion_13 : decode cX11_setRegion 13 = .ok (.invokestatic 75, 3) := by decide +kernel
theorem dX11_setRegion_16 : decode cX11_setRegion 16 = .ok (.ifCond .eq 36, 3) := by decide +kernel
theorem dX11_setRegion_19 : decode cX11_setRegion 19 = .ok (.iload_n 3, 1) := by decide +kernel
theorem dX11_setRegion_20 : decode cX11_setRegion 20 = .ok (.iconst 1, 1) := by decide +kernel
theorem dX11_setRegion_21 : decode cX11_setRegion 21 = .ok (.bipush 8, 2) := by decide +kernel
theorem dX11_setRegion_23 : decode cX11_setRegion 23 = .ok (.invokestatic 75, 3) := by decide +kernel
theorem dX11_setRegion_26 : decode cX11_setRegion 26 = .ok (.ifCond .eq 26, 3) := by decide +kernel
theorem dX11_setRegion_29 : decode cX11_setRegion 29 = .ok (.iload_n 2, 1) := by decide +kernel
theorem dX11_setRegion_30 : decode cX11_setRegion 30 = .ok (.iload_n 3, 1) := by decide +kernel
theorem dX11_setRegion_31 : decode cX11_setRegion 31 = .ok (.iadd, 1) := by decide +kernel
theorem dX11_setRegion_32 : decode cX11_setRegion 32 = .ok (.bipush 8, 2) := by decide +kernel
theorem dX11_setRegion_34 : decode cX11_setRegion 34 = .ok (.if_icmp .gt 18, 3) := by decide +kernel
theorem dX11_setRegion_37 : decode cX11_setRegion 37 = .ok (.iload 4, 2) := by decide +kernel
theorem dX11_setRegion_39 : decode cX11_setRegion 39 = .ok (.iconst 5, 1) := by decide +kernel
theorem dX11_setRegion_40 : decode cX11_setRegion 40 = .ok (.bipush 40, 2) := by decide +kernel
theorem dX11_setRegion_42 : decode cX11_setRegion 42 = .ok (.invokestatic 75, 3) := by decide +kernel
theorem dX11_setRegion_45 : decode cX11_setRegion 45 = .ok (.ifCond .eq 7, 3) := by decide +kernel
theorem dX11_setRegion_48 : decode cX11_setRegion 48 = .ok (.iconst 1, 1) := by decide +kernel
theorem dX11_setRegion_49 : decode cX11_setRegion 49 = .ok (.goto 4, 3) := by decide +kernel
theorem dX11_setRegion_52 : decode cX11_setRegion 52 = .ok (.iconst 0, 1) := by decide +kernel
theorem dX11_setRegion_53 : decode cX11_setRegion 53 = .ok (.invokestatic 104, 3) := by decide +kernel
theorem dX11_setRegion_56 : decode cX11_setRegion 56 = .ok (.aload_n 0, 1) := by decide +kernel
theorem dX11_setRegion_57 : decode cX11_setRegion 57 = .ok (.getfield 29, 3) := by decide +kernel
theorem dX11_setRegion_60 : decode cX11_setRegion 60 = .ok (.getfield 183, 3) := by decide +kernel
theorem dX11_setRegion_63 : decode cX11_setRegion 63 = .ok (.iload_n 1, 1) := by decide +kernel
theorem dX11_setRegion_64 : decode cX11_setRegion 64 = .ok (.iaload, 1) := by decide +kernel
theorem dX11_setRegion_65 : decode cX11_setRegion 65 = .ok (.istore 5, 2) := by decide +kernel
theorem dX11_setRegion_67 : decode cX11_setRegion 67 = .ok (.aload_n 0, 1) := by decide +kernel
theorem dX11_setRegion_68 : decode cX11_setRegion 68 = .ok (.getfield 29, 3) := by decide +kernel
theorem dX11_setRegion_71 : decode cX11_setRegion 71 = .ok (.getfield 187, 3) := by decide +kernel
theorem dX11_setRegion_74 : decode cX11_setRegion 74 = .ok (.iload_n 1, 1) := by decide +kernel
theorem dX11_setRegion_75 : decode cX11_setRegion 75 = .ok (.iload_n 2, 1) := by decide +kernel
theorem dX11_setRegion_76 : decode cX11_setRegion 76 = .ok (.iastore, 1) := by decide +kernel
theorem dX11_setRegion_77 : decode cX11_setRegion 77 = .ok (.aload_n 0, 1) := by decide +kernel
theorem dX11_setRegion_78 : decode cX11_setRegion 78 = .ok (.getfield 29, 3) := by decide +kernel
theorem dX11_setRegion_81 : decode cX11_setRegion 81 = .ok (.getfield 190, 3) := by decide +kernel
theorem dX11_setRegion_84 : decode cX11_setRegion 84 = .ok (.iload_n 1, 1) := by decide +kernel
theorem dX11_setRegion_85 : decode cX11_setRegion 85 = .ok (.iload_n 3, 1) := by decide +kernel
theorem dX11_setRegion_86 : decode cX11_setRegion 86 = .ok (.iastore, 1) := by decide +kernel
theorem dX11_setRegion_87 : decode cX11_setRegion 87 = .ok (.aload_n 0, 1) := by decide +kernel
theorem dX11_setRegion_88 : decode cX11_setRegion 88 = .ok (.getfield 29, 3) := by decide +kernel
theorem dX11_setRegion_91 : decode cX11_setRegion 91 = .ok (.getfield 183, 3) := by decide +kernel
theorem dX11_setRegion_94 : decode cX11_setRegion 94 = .ok (.iload_n 1, 1) := by decide +kernel
theorem dX11_setRegion_95 : decode cX11_setRegion 95 = .ok (.iload 4, 2) := by decide +kernel
theorem dX11_setRegion_97 : decode cX11_setRegion 97 = .ok (.iastore, 1) := by decide +kernel
theorem dX11_setRegion_98 : decode cX11_setRegion 98 = .ok (.aload_n 0, 1) := by decide +kernel
theorem dX11_setRegion_99 : decode cX11_setRegion 99 = .ok (.iconst 0, 1) := by decide +kernel
theorem dX11_setRegion_100 : decode cX11_setRegion 100 = .ok (.putfield 193, 3) := by decide +kernel
theorem dX11_setRegion_103 : decode cX11_setRegion 103 = .ok (.iload 5, 2) := by decide +kernel
theorem dX11_setRegion_105 : decode cX11_setRegion 105 = .ok (.ireturn, 1) := by decide +kernel
theorem dX11_addCue_0 : decode cX11_addCue 0 = .ok (.iload_n 1, 1) := by decide +kernel
theorem dX11_addCue_1 : decode cX11_addCue 1 = .ok (.invokestatic 100, 3) := by decide +kernel
theorem dX11_addCue_4 : decode cX11_addCue 4 = .ok (.iload_n 2, 1) := by decide +kernel
theorem dX11_addCue_5 : decode cX11_addCue 5 = .ok (.invokestatic 100, 3) := by decide +kernel
theorem dX11_addCue_8 : decode cX11_addCue 8 = .ok (.iload_n 2, 1) := by decide +kernel
theorem dX11_addCue_9 : decode cX11_addCue 9 = .ok (.iload_n 1, 1) := by decide +kernel
theorem dX11_addCue_10 : decode cX11_addCue 10 = .ok (.if_icmp .le 16, 3) := by decide +kernel
theorem dX11_addCue_13 : decode cX11_addCue 13 = .ok (.iload_n 3, 1) := by decide +kernel
theorem dX11_addCue_14 : decode cX11_addCue 14 = .ok (.iconst 0, 1) := by decide +kernel
theorem dX11_addCue_15 : decode cX11_addCue 15 = .ok (.iconst 2, 1) := by decide +kernel
theorem dX11_addCue_16 : decode cX11_addCue 16 = .ok (.invokestatic 75, 3) := by decide +kernel
theorem dX11_addCue_19 : decode cX11_addCue 19 = .ok (.ifCond .eq 7, 3) := by decide +kernel
theorem dX11_addCue_22 : decode cX11_addCue 22 = .ok (.iconst 1, 1) := by decide +kernel
theorem dX11_addCue_23 : decode cX11_addCue 23 = .ok (.goto 4, 3) := by decide +kernel
theorem dX11_addCue_26 : decode cX11_addCue 26 = .ok (.iconst 0, 1) := by decide +kernel
theorem dX11_addCue_27 : decode cX11_addCue 27 = .ok (.invokestatic 104, 3) := by decide +kernel
theorem dX11_addCue_30 : decode cX11_addCue 30 = .ok (.aload_n 0, 1) := by decide +kernel
theorem dX11_addCue_31 : decode cX11_addCue 31 = .ok (.invokevirtual 197, 3) := by decide +kernel
theorem dX11_addCue_34 : decode cX11_addCue 34 = .ok (.aload_n 0, 1) := by decide +kernel
theorem dX11_addCue_35 : decode cX11_addCue 35 = .ok (.iload_n 1, 1) := by decide +kernel
theorem dX11_addCue_36 : decode cX11_addCue 36 = .ok (.iload_n 2, 1) := by decide +kernel
theorem dX11_addCue_37 : decode cX11_addCue 37 = .ok (.iload_n 3, 1) := by decide +kernel
theorem dX11_addCue_38 : decode cX11_addCue 38 = .ok (.invokevirtual 200, 3) := by decide +kernel
theorem dX11_addCue_41 : decode cX11_addCue 41 = .ok (.ireturn, 1) := by decide +kernel
theorem dX11_addWord_0 : decode cX11_addWord 0 = .ok (.aload_n 0, 1) := by decide +kernel
theorem dX11_addWord_1 : decode cX11_addWord 1 = .ok (.iload_n 1, 1) := by decide +kernel
theorem dX11_addWord_2 : decode cX11_addWord 2 = .ok (.invokevirtual 204, 3) := by decide +kernel
theorem dX11_addWord_5 : decode cX11_addWord 5 = .ok (.astore_n 3, 1) := by decide +kernel
theorem dX11_addWord_6 : decode cX11_addWord 6 = .ok (.iload_n 2, 1) := by decide +kernel
theorem dX11_addWord_7 : decode cX11_addWord 7 = .ok (.iconst 1, 1) := by decide +kernel
theorem dX11_addWord_8 : decode cX11_addWord 8 = .ok (.bipush 99, 2) := by decide +kernel
theorem dX11_addWord_10 : decode cX11_addWord 10 = .ok (.invokestatic 75, 3) := by decide +kernel
theorem dX11_addWord_13 : decode cX11_addWord 13 = .ok (.invokestatic 104, 3) := by decide +kernel
theorem dX11_addWord_16 : decode cX11_addWord 16 = .ok (.aload_n 3, 1) := by decide +kernel
theorem dX11_addWord_17 : decode cX11_addWord 17 = .ok (.getfield 208, 3) := by decide +kernel
theorem dX11_addWord_20 : decode cX11_addWord 20 = .ok (.bipush 12, 2) := by decide +kernel
theorem dX11_addWord_22 : decode cX11_addWord 22 = .ok (.if_icmp .lt 13, 3) := by decide +kernel
theorem dX11_addWord_25 : decode cX11_addWord 25 = .ok (.new 125, 3) := by decide +kernel
theorem dX11_addWord_28 : decode cX11_addWord 28 = .ok (.dup, 1) := by decide +kernel
theorem dX11_addWord_29 : decode cX11_addWord 29 = .ok (.ldc 213, 2) := by decide +kernel
theorem dX11_addWord_31 : decode cX11_addWord 31 = .ok (.invokespecial 129, 3) := by decide +kernel
theorem dX11_addWord_34 : decode cX11_addWord 34 = .ok (.athrow, 1) := by decide +kernel
theorem dX11_addWord_35 : decode cX11_addWord 35 = .ok (.aload_n 3, 1) := by decide +kernel
theorem dX11_addWord_36 : decode cX11_addWord 36 = .ok (.iload_n 2, 1) := by decide +kernel
theorem dX11_addWord_37 : decode cX11_addWord 37 = .ok (.invokevirtual 215, 3) := by decide +kernel
theorem dX11_addWord_40 : decode cX11_addWord 40 = .ok (.aload_n 0, 1) := by decide +kernel
theorem dX11_addWord_41 : decode cX11_addWord 41 = .ok (.iconst 0, 1) := by decide +kernel
theorem dX11_addWord_42 : decode cX11_addWord 42 = .ok (.putfield 193, 3) := by decide +kernel
theorem dX11_addWord_45 : decode cX11_addWord 45 = .ok (.aload_n 3, 1) := by decide +kernel
theorem dX11_addWord_46 : decode cX11_addWord 46 = .ok (.getfield 208, 3) := by decide +kernel
theorem dX11_addWord_49 : decode cX11_addWord 49 = .ok (.ireturn, 1) := by decide +kernel
theorem dX11_dropCue_0 : decode cX11_dropCue 0 = .ok (.aload_n 0, 1) := by decide +kernel
theorem dX11_dropCue_1 : decode cX11_dropCue 1 = .ok (.iload_n 1, 1) := by decide +kernel
theorem dX11_dropCue_2 : decode cX11_dropCue 2 = .ok (.invokevirtual 204, 3) := by decide +kernel
theorem dX11_dropCue_5 : decode cX11_dropCue 5 = .ok (.astore_n 2, 1) := by decide +kernel
theorem dX11_dropCue_6 : decode cX11_dropCue 6 = .ok (.aload_n 2, 1) := by decide +kernel
theorem dX11_dropCue_7 : decode cX11_dropCue 7 = .ok (.iconst 0, 1) := by decide +kernel
theorem dX11_dropCue_8 : decode cX11_dropCue 8 = .ok (.putfield 218, 3) := by decide +kernel
theorem dX11_dropCue_11 : decode cX11_dropCue 11 = .ok (.aload_n 0, 1) := by decide +kernel
theorem dX11_dropCue_12 : decode cX11_dropCue 12 = .ok (.iconst 0, 1) := by decide +kernel
theorem dX11_dropCue_13 : decode cX11_dropCue 13 = .ok (.putfield 193, 3) := by decide +kernel
theorem dX11_dropCue_16 : decode cX11_dropCue 16 = .ok (.aload_n 2, 1) := by decide +kernel
theorem dX11_dropCue_17 : decode cX11_dropCue 17 = .ok (.getfield 208, 3) := by decide +kernel
theorem dX11_dropCue_20 : decode cX11_dropCue 20 = .ok (.ireturn, 1) := by decide +kernel
theorem dX11_cues_0 : decode cX11_cues 0 = .ok (.iconst 0, 1) := by decide +kernel
theorem dX11_cues_1 : decode cX11_cues 1 = .ok (.istore_n 1, 1) := by decide +kernel
theorem dX11_cues_2 : decode cX11_cues 2 = .ok (.iconst 0, 1) := by decide +kernel
theorem dX11_cues_3 : decode cX11_cues 3 = .ok (.istore_n 2, 1) := by decide +kernel
theorem dX11_cues_4 : decode cX11_cues 4 = .ok (.iload_n 2, 1) := by decide +kernel
theorem dX11_cues_5 : decode cX11_cues 5 = .ok (.bipush 24, 2) := by decide +kernel
theorem dX11_cues_7 : decode cX11_cues 7 = .ok (.if_icmp .ge 24, 3) := by decide +kernel
theorem dX11_cues_10 : decode cX11_cues 10 = .ok (.aload_n 0, 1) := by decide +kernel
theorem dX11_cues_11 : decode cX11_cues 11 = .ok (.getfield 37, 3) := by decide +kernel
theorem dX11_cues_14 : decode cX11_cues 14 = .ok (.iload_n 2, 1) := by decide +kernel
theorem dX11_cues_15 : decode cX11_cues 15 = .ok (.aaload, 1) := by decide +kernel
theorem dX11_cues_16 : decode cX11_cues 16 = .ok (.getfield 218, 3) := by decide +kernel
theorem dX11_cues_19 : decode cX11_cues 19 = .ok (.ifCond .eq 6, 3) := by decide +kernel
theorem dX11_cues_22 : decode cX11_cues 22 = .ok (.iinc 1 1, 3) := by decide +kernel
theorem dX11_cues_25 : decode cX11_cues 25 = .ok (.iinc 2 1, 3) := by decide +kernel
theorem dX11_cues_28 : decode cX11_cues 28 = .ok (.goto (-24), 3) := by decide +kernel
theorem dX11_cues_31 : decode cX11_cues 31 = .ok (.iload_n 1, 1) := by decide +kernel
theorem dX11_cues_32 : decode cX11_cues 32 = .ok (.ireturn, 1) := by decide +kernel
theorem dX11_startOf_0 : decode cX11_startOf 0 = .ok (.aload_n 0, 1) := by decide +kernel
theorem dX11_startOf_1 : decode cX11_startOf 1 = .ok (.iload_n 1, 1) := by decide +kernel
theorem dX11_startOf_2 : decode cX11_startOf 2 = .ok (.invokevirtual 204, 3) := by decide +kernel
theorem dX11_startOf_5 : decode cX11_startOf 5 = .ok (.getfield 221, 3) := by decide +kernel
theorem dX11_startOf_8 : decode cX11_startOf 8 = .ok (.ireturn, 1) := by decide +kernel
theorem dX11_endOf_0 : decode cX11_endOf 0 = .ok (.aload_n 0, 1) := by decide +kernel
theorem dX11_endOf_1 : decode cX11_endOf 1 = .ok (.iload_n 1, 1) := by decide +kernel
theorem dX11_endOf_2 : decode cX11_endOf 2 = .ok (.invokevirtual 204, 3) := by decide +kernel
theorem dX11_endOf_5 : decode cX11_endOf 5 = .ok (.getfield 224, 3) := by decide +kernel
theorem dX11_endOf_8 : decode cX11_endOf 8 = .ok (.ireturn, 1) := by decide +kernel
theorem dX11_lines_0 : decode cX11_lines 0 = .ok (.aload_n 0, 1) := by decide +kernel
theorem dX11_lines_1 : decode cX11_lines 1 = .ok (.iload_n 1, 1) := by decide +kernel
theorem dX11_lines_2 : decode cX11_lines 2 = .ok (.invokevirtual 204, 3) := by decide +kernel
theorem dX11_lines_5 : decode cX11_lines 5 = .ok (.astore_n 2, 1) := by decide +kernel
theorem dX11_lines_6 : decode cX11_lines 6 = .ok (.aload_n 0, 1) := by decide +kernel
theorem dX11_lines_7 : decode cX11_lines 7 = .ok (.invokevirtual 227, 3) := by decide +kernel
theorem dX11_lines_10 : decode cX11_lines 10 = .ok (.aload_n 2, 1) := by decide +kernel
theorem dX11_lines_11 : decode cX11_lines 11 = .ok (.getfield 230, 3) := by decide +kernel
theorem dX11_lines_14 : decode cX11_lines 14 = .ok (.ireturn, 1) := by decide +kernel
theorem dX11_wordsIn_0 : decode cX11_wordsIn 0 = .ok (.aload_n 0, 1) := by decide +kernel
theorem dX11_wordsIn_1 : decode cX11_wordsIn 1 = .ok (.iload_n 1, 1) := by decide +kernel
theorem dX11_wordsIn_2 : decode cX11_wordsIn 2 = .ok (.invokevirtual 204, 3) := by decide +kernel
theorem dX11_wordsIn_5 : decode cX11_wordsIn 5 = .ok (.astore_n 3, 1) := by decide +kernel
theorem dX11_wordsIn_6 : decode cX11_wordsIn 6 = .ok (.aload_n 0, 1) := by decide +kernel
theorem dX11_wordsIn_7 : decode cX11_wordsIn 7 = .ok (.invokevirtual 227, 3) := by decide +kernel
theorem dX11_wordsIn_10 : decode cX11_wordsIn 10 = .ok (.iload_n 2, 1) := by decide +kernel
theorem dX11_wordsIn_11 : decode cX11_wordsIn 11 = .ok (.ifCond .lt 17, 3) := by decide +kernel
theorem dX11_wordsIn_14 : decode cX11_wordsIn 14 = .ok (.iload_n 2, 1) := by decide +kernel
theorem dX11_wordsIn_15 : decode cX11_wordsIn 15 = .ok (.aload_n 3, 1) := by decide +kernel
theorem dX11_wordsIn_16 : decode cX11_wordsIn 16 = .ok (.getfield 230, 3) := by decide +kernel
theorem dX11_wordsIn_19 : decode cX11_wordsIn 19 = .ok (.if_icmp .ge 9, 3) := by decide +kernel
theorem dX11_wordsIn_22 : decode cX11_wordsIn 22 = .ok (.iload_n 2, 1) := by decide +kernel
theorem dX11_wordsIn_23 : decode cX11_wordsIn 23 = .ok (.bipush 12, 2) := by decide +kernel
theorem dX11_wordsIn_25 : decode cX11_wordsIn 25 = .ok (.if_icmp .lt 13, 3) := by decide +kernel
theorem dX11_wordsIn_28 : decode cX11_wordsIn 28 = .ok (.new 233, 3) := by decide +kernel
theorem dX11_wordsIn_31 : decode cX11_wordsIn 31 = .ok (.dup, 1) := by decide +kernel
theorem dX11_wordsIn_32 : decode cX11_wordsIn 32 = .ok (.ldc 235, 2) := by decide +kernel
theorem dX11_wordsIn_34 : decode cX11_wordsIn 34 = .ok (.invokespecial 237, 3) := by decide +kernel
theorem dX11_wordsIn_37 : decode cX11_wordsIn 37 = .ok (.athrow, 1) := by decide +kernel
theorem dX11_wordsIn_38 : decode cX11_wordsIn 38 = .ok (.aload_n 3, 1) := by decide +kernel
theorem dX11_wordsIn_39 : decode cX11_wordsIn 39 = .ok (.getfield 238, 3) := by decide +kernel
theorem dX11_wordsIn_42 : decode cX11_wordsIn 42 = .ok (.iload_n 2, 1) := by decide +kernel
theorem dX11_wordsIn_43 : decode cX11_wordsIn 43 = .ok (.iaload, 1) := by decide +kernel
theorem dX11_wordsIn_44 : decode cX11_wordsIn 44 = .ok (.ireturn, 1) := by decide +kernel
theorem dX11_rowOf_0 : decode cX11_rowOf 0 = .ok (.aload_n 0, 1) := by decide +kernel
theorem dX11_rowOf_1 : decode cX11_rowOf 1 = .ok (.iload_n 1, 1) := by decide +kernel
theorem dX11_rowOf_2 : decode cX11_rowOf 2 = .ok (.invokevirtual 204, 3) := by decide +kernel
theorem dX11_rowOf_5 : decode cX11_rowOf 5 = .ok (.astore_n 2, 1) := by decide +kernel
theorem dX11_rowOf_6 : decode cX11_rowOf 6 = .ok (.aload_n 0, 1) := by decide +kernel
theorem dX11_rowOf_7 : decode cX11_rowOf 7 = .ok (.invokevirtual 227, 3) := by decide +kernel
theorem dX11_rowOf_10 : decode cX11_rowOf 10 = .ok (.aload_n 2, 1) := by decide +kernel
theorem dX11_rowOf_11 : decode cX11_rowOf 11 = .ok (.getfield 241, 3) := by decide +kernel
theorem dX11_rowOf_14 : decode cX11_rowOf 14 = .ok (.ireturn, 1) := by decide +kernel
theorem dX11_cueAt_0 : decode cX11_cueAt 0 = .ok (.iload_n 1, 1) := by decide +kernel
theorem dX11_cueAt_1 : decode cX11_cueAt 1 = .ok (.invokestatic 100, 3) := by decide +kernel
theorem dX11_cueAt_4 : decode cX11_cueAt 4 = .ok (.iload_n 2, 1) := by decide +kernel
theorem dX11_cueAt_5 : decode cX11_cueAt 5 = .ok (.iconst 0, 1) := by decide +kernel
theorem dX11_cueAt_6 : decode cX11_cueAt 6 = .ok (.bipush 7, 2) := by decide +kernel
theorem dX11_cueAt_8 : decode cX11_cueAt 8 = .ok (.invokestatic 75, 3) := by decide +kernel
theorem dX11_cueAt_11 : decode cX11_cueAt 11 = .ok (.invokestatic 104, 3) := by decide +kernel
theorem dX11_cueAt_14 : decode cX11_cueAt 14 = .ok (.aload_n 0, 1) := by decide +kernel
theorem dX11_cueAt_15 : decode cX11_cueAt 15 = .ok (.invokevirtual 227, 3) := by decide +kernel
theorem dX11_cueAt_18 : decode cX11_cueAt 18 = .ok (.aload_n 0, 1) := by decide +kernel
theorem dX11_cueAt_19 : decode cX11_cueAt 19 = .ok (.getfield 29, 3) := by decide +kernel
theorem dX11_cueAt_22 : decode cX11_cueAt 22 = .ok (.iload_n 1, 1) := by decide +kernel
theorem dX11_cueAt_23 : decode cX11_cueAt 23 = .ok (.iload_n 2, 1) := by decide +kernel
theorem dX11_cueAt_24 : decode cX11_cueAt 24 = .ok (.invokevirtual 242, 3) := by decide +kernel
theorem dX11_cueAt_27 : decode cX11_cueAt 27 = .ok (.ireturn, 1) := by decide +kernel
theorem dX11_cueAnew_0 : decode cX11_cueAnew 0 = .ok (.iload_n 1, 1) := by decide +kernel
theorem dX11_cueAnew_1 : decode cX11_cueAnew 1 = .ok (.invokestatic 100, 3) := by decide +kernel
theorem dX11_cueAnew_4 : decode cX11_cueAnew 4 = .ok (.iload_n 2, 1) := by decide +kernel
theorem dX11_cueAnew_5 : decode cX11_cueAnew 5 = .ok (.iconst 0, 1) := by decide +kernel
theorem dX11_cueAnew_6 : decode cX11_cueAnew 6 = .ok (.bipush 7, 2) := by decide +kernel
theorem dX11_cueAnew_8 : decode cX11_cueAnew 8 = .ok (.invokestatic 75, 3) := by decide +kernel
theorem dX11_cueAnew_11 : decode cX11_cueAnew 11 = .ok (.invokestatic 104, 3) := by decide +kernel
theorem dX11_cueAnew_14 : decode cX11_cueAnew 14 = .ok (.aload_n 0, 1) := by decide +kernel
theorem dX11_cueAnew_15 : decode cX11_cueAnew 15 = .ok (.invokevirtual 227, 3) := by decide +kernel
theorem dX11_cueAnew_18 : decode cX11_cueAnew 18 = .ok (.aload_n 0, 1) := by decide +kernel
theorem dX11_cueAnew_19 : decode cX11_cueAnew 19 = .ok (.getfield 29, 3) := by decide +kernel
theorem dX11_cueAnew_22 : decode cX11_cueAnew 22 = .ok (.iload_n 1, 1) := by decide +kernel
theorem dX11_cueAnew_23 : decode cX11_cueAnew 23 = .ok (.invokevirtual 245, 3) := by decide +kernel
theorem dX11_cueAnew_26 : decode cX11_cueAnew 26 = .ok (.aload_n 0, 1) := by decide +kernel
theorem dX11_cueAnew_27 : decode cX11_cueAnew 27 = .ok (.getfield 29, 3) := by decide +kernel
theorem dX11_cueAnew_30 : decode cX11_cueAnew 30 = .ok (.iload_n 2, 1) := by decide +kernel
theorem dX11_cueAnew_31 : decode cX11_cueAnew 31 = .ok (.invokevirtual 248, 3) := by decide +kernel
theorem dX11_cueAnew_34 : decode cX11_cueAnew 34 = .ok (.ireturn, 1) := by decide +kernel
theorem dX11_addCut_0 : decode cX11_addCut 0 = .ok (.iload_n 1, 1) := by decide +kernel
theorem dX11_addCut_1 : decode cX11_addCut 1 = .ok (.invokestatic 100, 3) := by decide +kernel
theorem dX11_addCut_4 : decode cX11_addCut 4 = .ok (.aload_n 0, 1) := by decide +kernel
theorem dX11_addCut_5 : decode cX11_addCut 5 = .ok (.getfield 43, 3) := by decide +kernel
theorem dX11_addCut_8 : decode cX11_addCut 8 = .ok (.getfield 251, 3) := by decide +kernel
theorem dX11_addCut_11 : decode cX11_addCut 11 = .ok (.bipush 20, 2) := by decide +kernel
theorem dX11_addCut_13 : decode cX11_addCut 13 = .ok (.if_icmp .ge 15, 3) := by decide +kernel
theorem dX11_addCut_16 : decode cX11_addCut 16 = .ok (.aload_n 0, 1) := by decide +kernel
theorem dX11_addCut_17 : decode cX11_addCut 17 = .ok (.getfield 43, 3) := by decide +kernel
theorem dX11_addCut_20 : decode cX11_addCut 20 = .ok (.iload_n 1, 1) := by decide +kernel
theorem dX11_addCut_21 : decode cX11_addCut 21 = .ok (.invokevirtual 252, 3) := by decide +kernel
theorem dX11_addCut_24 : decode cX11_addCut 24 = .ok (.iload_n 1, 1) := by decide +kernel
theorem dX11_addCut_25 : decode cX11_addCut 25 = .ok (.if_icmp .ne 13, 3) := by decide +kernel
theorem dX11_addCut_28 : decode cX11_addCut 28 = .ok (.new 125, 3) := by decide +kernel
theorem dX11_addCut_31 : decode cX11_addCut 31 = .ok (.dup, 1) := by decide +kernel
theorem dX11_addCut_32 : decode cX11_addCut 32 = .ok (.ldc 255, 2) := by decide +kernel
theorem dX11_addCut_34 : decode cX11_addCut 34 = .ok (.invokespecial 129, 3) := by decide +kernel
theorem dX11_addCut_37 : decode cX11_addCut 37 = .ok (.athrow, 1) := by decide +kernel
theorem dX11_addCut_38 : decode cX11_addCut 38 = .ok (.aload_n 0, 1) := by decide +kernel
theorem dX11_addCut_39 : decode cX11_addCut 39 = .ok (.getfield 43, 3) := by decide +kernel
theorem dX11_addCut_42 : decode cX11_addCut 42 = .ok (.iload_n 1, 1) := by decide +kernel
theorem dX11_addCut_43 : decode cX11_addCut 43 = .ok (.invokevirtual 257, 3) := by decide +kernel
theorem dX11_addCut_46 : decode cX11_addCut 46 = .ok (.aload_n 0, 1) := by decide +kernel
theorem dX11_addCut_47 : decode cX11_addCut 47 = .ok (.getfield 43, 3) := by decide +kernel
theorem dX11_addCut_50 : decode cX11_addCut 50 = .ok (.getfield 251, 3) := by decide +kernel
theorem dX11_addCut_53 : decode cX11_addCut 53 = .ok (.ireturn, 1) := by decide +kernel
theorem dX11_snap_0 : decode cX11_snap 0 = .ok (.iload_n 1, 1) := by decide +kernel
theorem dX11_snap_1 : decode cX11_snap 1 = .ok (.iconst 0, 1) := by decide +kernel
theorem dX11_snap_2 : decode cX11_snap 2 = .ok (.bipush 99, 2) := by decide +kernel
theorem dX11_snap_4 : decode cX11_snap 4 = .ok (.invokestatic 75, 3) := by decide +kernel
theorem dX11_snap_7 : decode cX11_snap 7 = .ok (.invokestatic 104, 3) := by decide +kernel
theorem dX11_snap_10 : decode cX11_snap 10 = .ok (.iconst 0, 1) := by decide +kernel
theorem dX11_snap_11 : decode cX11_snap 11 = .ok (.istore_n 2, 1) := by decide +kernel
theorem dX11_snap_12 : decode cX11_snap 12 = .ok (.iconst 0, 1) := by decide +kernel
theorem dX11_snap_13 : decode cX11_snap 13 = .ok (.istore_n 3, 1) := by decide +kernel
theorem dX11_snap_14 : decode cX11_snap 14 = .ok (.iload_n 3, 1) := by decide +kernel
theorem dX11_snap_15 : decode cX11_snap 15 = .ok (.bipush 24, 2) := by decide +kernel
theorem dX11_snap_17 : decode cX11_snap 17 = .ok (.if_icmp .ge 121, 3) := by decide +kernel
theorem dX11_snap_20 : decode cX11_snap 20 = .ok (.aload_n 0, 1) := by decide +kernel
theorem dX11_snap_21 : decode cX11_snap 21 = .ok (.getfield 37, 3) := by decide +kernel
theorem dX11_snap_24 : decode cX11_snap 24 = .ok (.iload_n 3, 1) := by decide +kernel
theorem dX11_snap_25 : decode cX11_snap 25 = .ok (.aaload, 1) := by decide +kernel
theorem dX11_snap_26 : decode cX11_snap 26 = .ok (.astore 4, 2) := by decide +kernel
theorem dX11_snap_28 : decode cX11_snap 28 = .ok (.aload 4, 2) := by decide +kernel
theorem dX11_snap_30 : decode cX11_snap 30 = .ok (.getfield 218, 3) := by decide +kernel
theorem dX11_snap_33 : decode cX11_snap 33 = .ok (.ifCond .eq 99, 3) := by decide +kernel
theorem dX11_snap_36 : decode cX11_snap 36 = .ok (.aload_n 0, 1) := by decide +kernel
theorem dX11_snap_37 : decode cX11_snap 37 = .ok (.getfield 43, 3) := by decide +kernel
theorem dX11_snap_40 : decode cX11_snap 40 = .ok (.aload 4, 2) := by decide +kernel
theorem dX11_snap_42 : decode cX11_snap 42 = .ok (.getfield 221, 3) := by decide +kernel
theorem dX11_snap_45 : decode cX11_snap 45 = .ok (.iload_n 1, 1) := by decide +kernel
theorem dX11_snap_46 : decode cX11_snap 46 = .ok (.invokevirtual 260, 3) := by decide +kernel
theorem dX11_snap_49 : decode cX11_snap 49 = .ok (.istore 5, 2) := by decide +kernel
theorem dX11_snap_51 : decode cX11_snap 51 = .ok (.iload_n 2, 1) := by decide +kernel
theorem dX11_snap_52 : decode cX11_snap 52 = .ok (.aload 4, 2) := by decide +kernel
theorem dX11_snap_54 : decode cX11_snap 54 = .ok (.iload 5, 2) := by decide +kernel
theorem dX11_snap_56 : decode cX11_snap 56 = .ok (.aload 4, 2) := by decide +kernel
theorem dX11_snap_58 : decode cX11_snap 58 = .ok (.getfield 224, 3) := by decide +kernel
theorem dX11_snap_61 : decode cX11_snap 61 = .ok (.if_icmp .ge 8, 3) := by decide +kernel
theorem dX11_snap_64 : decode cX11_snap 64 = .ok (.iload 5, 2) := by decide +kernel
theorem dX11_snap_66 : decode cX11_snap 66 = .ok (.goto 8, 3) := by decide +kernel
theorem dX11_snap_69 : decode cX11_snap 69 = .ok (.aload 4, 2) := by decide +kernel
theorem dX11_snap_71 : decode cX11_snap 71 = .ok (.getfield 221, 3) := by decide +kernel
theorem dX11_snap_74 : decode cX11_snap 74 = .ok (.aload 4, 2) := by decide +kernel
theorem dX11_snap_76 : decode cX11_snap 76 = .ok (.getfield 224, 3) := by decide +kernel
theorem dX11_snap_79 : decode cX11_snap 79 = .ok (.invokevirtual 263, 3) := by decide +kernel
theorem dX11_snap_82 : decode cX11_snap 82 = .ok (.iadd, 1) := by decide +kernel
theorem dX11_snap_83 : decode cX11_snap 83 = .ok (.istore_n 2, 1) := by decide +kernel
theorem dX11_snap_84 : decode cX11_snap 84 = .ok (.aload_n 0, 1) := by decide +kernel
theorem dX11_snap_85 : decode cX11_snap 85 = .ok (.getfield 43, 3) := by decide +kernel
theorem dX11_snap_88 : decode cX11_snap 88 = .ok (.aload 4, 2) := by decide +kernel
theorem dX11_snap_90 : decode cX11_snap 90 = .ok (.getfield 224, 3) := by decide +kernel
theorem dX11_snap_93 : decode cX11_snap 93 = .ok (.iload_n 1, 1) := by decide +kernel
theorem dX11_snap_94 : decode cX11_snap 94 = .ok (.invokevirtual 260, 3) := by decide +kernel
theorem dX11_snap_97 : decode cX11_snap 97 = .ok (.istore 6, 2) := by decide +kernel
theorem dX11_snap_99 : decode cX11_snap 99 = .ok (.iload_n 2, 1) := by decide +kernel
theorem dX11_snap_100 : decode cX11_snap 100 = .ok (.aload 4, 2) := by decide +kernel
theorem dX11_snap_102 : decode cX11_snap 102 = .ok (.aload 4, 2) := by decide +kernel
theorem dX11_snap_104 : decode cX11_snap 104 = .ok (.getfield 221, 3) := by decide +kernel
theorem dX11_snap_107 : decode cX11_snap 107 = .ok (.iload 6, 2) := by decide +kernel
theorem dX11_snap_109 : decode cX11_snap 109 = .ok (.aload 4, 2) := by decide +kernel
theorem dX11_snap_111 : decode cX11_snap 111 = .ok (.getfield 221, 3) := by decide +kernel
theorem dX11_snap_114 : decode cX11_snap 114 = .ok (.if_icmp .le 8, 3) := by decide +kernel
theorem dX11_snap_117 : decode cX11_snap 117 = .ok (.iload 6, 2) := by decide +kernel
theorem dX11_snap_119 : decode cX11_snap 119 = .ok (.goto 8, 3) := by decide +kernel
theorem dX11_snap_122 : decode cX11_snap 122 = .ok (.aload 4, 2) := by decide +kernel
theorem dX11_snap_124 : decode cX11_snap 124 = .ok (.getfield 224, 3) := by decide +kernel
theorem dX11_snap_127 : decode cX11_snap 127 = .ok (.invokevirtual 263, 3) := by decide +kernel
theorem dX11_snap_130 : decode cX11_snap 130 = .ok (.iadd, 1) := by decide +kernel
theorem dX11_snap_131 : decode cX11_snap 131 = .ok (.istore_n 2, 1) := by decide +kernel
theorem dX11_snap_132 : decode cX11_snap 132 = .ok (.iinc 3 1, 3) := by decide +kernel
theorem dX11_snap_135 : decode cX11_snap 135 = .ok (.goto (-121), 3) := by decide +kernel
theorem dX11_snap_138 : decode cX11_snap 138 = .ok (.aload_n 0, 1) := by decide +kernel
theorem dX11_snap_139 : decode cX11_snap 139 = .ok (.iconst 0, 1) := by decide +kernel
theorem dX11_snap_140 : decode cX11_snap 140 = .ok (.putfield 193, 3) := by decide +kernel
theorem dX11_snap_143 : decode cX11_snap 143 = .ok (.iload_n 2, 1) := by decide +kernel
theorem dX11_snap_144 : decode cX11_snap 144 = .ok (.ireturn, 1) := by decide +kernel
theorem dX11_stretch_0 : decode cX11_stretch 0 = .ok (.iload_n 1, 1) := by decide +kernel
theorem dX11_stretch_1 : decode cX11_stretch 1 = .ok (.iconst 1, 1) := by decide +kernel
theorem dX11_stretch_2 : decode cX11_stretch 2 = .ok (.sipush 999, 3) := by decide +kernel
theorem dX11_stretch_5 : decode cX11_stretch 5 = .ok (.invokestatic 75, 3) := by decide +kernel
theorem dX11_stretch_8 : decode cX11_stretch 8 = .ok (.ifCond .eq 17, 3) := by decide +kernel
theorem dX11_stretch_11 : decode cX11_stretch 11 = .ok (.iload_n 2, 1) := by decide +kernel
theorem dX11_stretch_12 : decode cX11_stretch 12 = .ok (.iconst 0, 1) := by decide +kernel
theorem dX11_stretch_13 : decode cX11_stretch 13 = .ok (.bipush 99, 2) := by decide +kernel
theorem dX11_stretch_15 : decode cX11_stretch 15 = .ok (.invokestatic 75, 3) := by decide +kernel
theorem dX11_stretch_18 : decode cX11_stretch 18 = .ok (.ifCond .eq 7, 3) := by decide +kernel
theorem dX11_stretch_21 : decode cX11_stretch 21 = .ok (.iconst 1, 1) := by decide +kernel
theorem dX11_stretch_22 : decode cX11_stretch 22 = .ok (.goto 4, 3) := by decide +kernel
theorem dX11_stretch_25 : decode cX11_stretch 25 = .ok (.iconst 0, 1) := by decide +kernel
theorem dX11_stretch_26 : decode cX11_stretch 26 = .ok (.invokestatic 104, 3) := by decide +kernel
theorem dX11_stretch_29 : decode cX11_stretch 29 = .ok (.aload_n 0, 1) := by decide +kernel
theorem dX11_stretch_30 : decode cX11_stretch 30 = .ok (.invokevirtual 227, 3) := by decide +kernel
theorem dX11_stretch_33 : decode cX11_stretch 33 = .ok (.iconst 0, 1) := by decide +kernel
theorem dX11_stretch_34 : decode cX11_stretch 34 = .ok (.istore_n 3, 1) := by decide +kernel
theorem dX11_stretch_35 : decode cX11_stretch 35 = .ok (.iconst 0, 1) := by decide +kernel
theorem dX11_stretch_36 : decode cX11_stretch 36 = .ok (.istore 4, 2) := by decide +kernel
theorem dX11_stretch_38 : decode cX11_stretch 38 = .ok (.iload 4, 2) := by decide +kernel
theorem dX11_stretch_40 : decode cX11_stretch 40 = .ok (.aload_n 0, 1) := by decide +kernel
theorem dX11_stretch_41 : decode cX11_stretch 41 = .ok (.getfield 29, 3) := by decide +kernel
theorem dX11_stretch_44 : decode cX11_stretch 44 = .ok (.getfield 266, 3) := by decide +kernel
theorem dX11_stretch_47 : decode cX11_stretch 47 = .ok (.if_icmp .ge 106, 3) := by decide +kernel
theorem dX11_stretch_50 : decode cX11_stretch 50 = .ok (.aload_n 0, 1) := by decide +kernel
theorem dX11_stretch_51 : decode cX11_stretch 51 = .ok (.getfield 29, 3) := by decide +kernel
theorem dX11_stretch_54 : decode cX11_stretch 54 = .ok (.iload 4, 2) := by decide +kernel
theorem dX11_stretch_56 : decode cX11_stretch 56 = .ok (.invokevirtual 267, 3) := by decide +kernel
theorem dX11_stretch_59 : decode cX11_stretch 59 = .ok (.astore 5, 2) := by decide +kernel
theorem dX11_stretch_61 : decode cX11_stretch 61 = .ok (.aload 5, 2) := by decide +kernel
theorem dX11_stretch_63 : decode cX11_stretch 63 = .ok (.getfield 224, 3) := by decide +kernel
theorem dX11_stretch_66 : decode cX11_stretch 66 = .ok (.aload 5, 2) := by decide +kernel
theorem dX11_stretch_68 : decode cX11_stretch 68 = .ok (.getfield 221, 3) := by decide +kernel
theorem dX11_stretch_71 : decode cX11_stretch 71 = .ok (.iload_n 1, 1) := by decide +kernel
theorem dX11_stretch_72 : decode cX11_stretch 72 = .ok (.iadd, 1) := by decide +kernel
theorem dX11_stretch_73 : decode cX11_stretch 73 = .ok (.invokestatic 270, 3) := by decide +kernel
theorem dX11_stretch_76 : decode cX11_stretch 76 = .ok (.ldc_w 275, 3) := by decide +kernel
theorem dX11_stretch_79 : decode cX11_stretch 79 = .ok (.invokestatic 276, 3) := by decide +kernel
theorem dX11_stretch_82 : decode cX11_stretch 82 = .ok (.istore 6, 2) := by decide +kernel
theorem dX11_stretch_84 : decode cX11_stretch 84 = .ok (.aload_n 0, 1) := by decide +kernel
theorem dX11_stretch_85 : decode cX11_stretch 85 = .ok (.getfield 29, 3) := by decide +kernel
theorem dX11_stretch_88 : decode cX11_stretch 88 = .ok (.iload 4, 2) := by decide +kernel
theorem dX11_stretch_90 : decode cX11_stretch 90 = .ok (.invokevirtual 279, 3) := by decide +kernel
theorem dX11_stretch_93 : decode cX11_stretch 93 = .ok (.istore 7, 2) := by decide +kernel
theorem dX11_stretch_95 : decode cX11_stretch 95 = .ok (.iload 7, 2) := by decide +kernel
theorem dX11_stretch_97 : decode cX11_stretch 97 = .ok (.iconst (-1), 1) := by decide +kernel
theorem dX11_stretch_98 : decode cX11_stretch 98 = .ok (.if_icmp .eq 24, 3) := by decide +kernel
theorem dX11_stretch_101 : decode cX11_stretch 101 = .ok (.iload 6, 2) := by decide +kernel
theorem dX11_stretch_103 : decode cX11_stretch 103 = .ok (.aload_n 0, 1) := by decide +kernel
theorem dX11_stretch_104 : decode cX11_stretch 104 = .ok (.getfield 29, 3) := by decide +kernel
theorem dX11_stretch_107 : decode cX11_stretch 107 = .ok (.iload 7, 2) := by decide +kernel
theorem dX11_stretch_109 : decode cX11_stretch 109 = .ok (.invokevirtual 267, 3) := by decide +kernel
theorem dX11_stretch_112 : decode cX11_stretch 112 = .ok (.getfield 221, 3) := by decide +kernel
theorem dX11_stretch_115 : decode cX11_stretch 115 = .ok (.iload_n 2, 1) := by decide +kernel
theorem dX11_stretch_116 : decode cX11_stretch 116 = .ok (.isub, 1) := by decide +kernel
theorem dX11_stretch_117 : decode cX11_stretch 117 = .ok (.invokestatic 276, 3) := by decide +kernel
theorem dX11_stretch_120 : decode cX11_stretch 120 = .ok (.istore 6, 2) := by decide +kernel
theorem dX11_stretch_122 : decode cX11_stretch 122 = .ok (.iload_n 3, 1) := by decide +kernel
theorem dX11_stretch_123 : decode cX11_stretch 123 = .ok (.aload 5, 2) := by decide +kernel
theorem dX11_stretch_125 : decode cX11_stretch 125 = .ok (.aload 5, 2) := by decide +kernel
theorem dX11_stretch_127 : decode cX11_stretch 127 = .ok (.getfield 221, 3) := by decide +kernel
theorem dX11_stretch_130 : decode cX11_stretch 130 = .ok (.iload 6, 2) := by decide +kernel
theorem dX11_stretch_132 : decode cX11_stretch 132 = .ok (.aload 5, 2) := by decide +kernel
theorem dX11_stretch_134 : decode cX11_stretch 134 = .ok (.getfield 221, 3) := by decide +kernel
theorem dX11_stretch_137 : decode cX11_stretch 137 = .ok (.iconst 1, 1) := by decide +kernel
theorem dX11_stretch_138 : decode cX11_stretch 138 = .ok (.iadd, 1) := by decide +kernel
theorem dX11_stretch_139 : decode cX11_stretch 139 = .ok (.invokestatic 270, 3) := by decide +kernel
theorem dX11_stretch_142 : decode cX11_stretch 142 = .ok (.invokevirtual 263, 3) := by decide +kernel
theorem dX11_stretch_145 : decode cX11_stretch 145 = .ok (.iadd, 1) := by decide +kernel
theorem dX11_stretch_146 : decode cX11_stretch 146 = .ok (.istore_n 3, 1) := by decide +kernel
theorem dX11_stretch_147 : decode cX11_stretch 147 = .ok (.iinc 4 1, 3) := by decide +kernel
theorem dX11_stretch_150 : decode cX11_stretch 150 = .ok (.goto (-112), 3) := by decide +kernel
theorem dX11_stretch_153 : decode cX11_stretch 153 = .ok (.aload_n 0, 1) := by decide +kernel
theorem dX11_stretch_154 : decode cX11_stretch 154 = .ok (.iconst 0, 1) := by decide +kernel
theorem dX11_stretch_155 : decode cX11_stretch 155 = .ok (.putfield 193, 3) := by decide +kernel
theorem dX11_stretch_158 : decode cX11_stretch 158 = .ok (.iload_n 3, 1) := by decide +kernel
theorem dX11_stretch_159 : decode cX11_stretch 159 = .ok (.ireturn, 1) := by decide +kernel
theorem dX11_merge_0 : decode cX11_merge 0 = .ok (.aload_n 0, 1) := by decide +kernel
theorem dX11_merge_1 : decode cX11_merge 1 = .ok (.iload_n 1, 1) := by decide +kernel
theorem dX11_merge_2 : decode cX11_merge 2 = .ok (.invokevirtual 204, 3) := by decide +kernel
theorem dX11_merge_5 : decode cX11_merge 5 = .ok (.astore_n 3, 1) := by decide +kernel
theorem dX11_merge_6 : decode cX11_merge 6 = .ok (.aload_n 0, 1) := by decide +kernel
theorem dX11_merge_7 : decode cX11_merge 7 = .ok (.iload_n 2, 1) := by decide +kernel
theorem dX11_merge_8 : decode cX11_merge 8 = .ok (.invokevirtual 204, 3) := by decide +kernel
theorem dX11_merge_11 : decode cX11_merge 11 = .ok (.astore 4, 2) := by decide +kernel
theorem dX11_merge_13 : decode cX11_merge 13 = .ok (.iload_n 1, 1) := by decide +kernel
theorem dX11_merge_14 : decode cX11_merge 14 = .ok (.iload_n 2, 1) := by decide +kernel
theorem dX11_merge_15 : decode cX11_merge 15 = .ok (.if_icmp .eq 19, 3) := by decide +kernel
theorem dX11_merge_18 : decode cX11_merge 18 = .ok (.aload_n 3, 1) := by decide +kernel
theorem dX11_merge_19 : decode cX11_merge 19 = .ok (.getfield 282, 3) := by decide +kernel
theorem dX11_merge_22 : decode cX11_merge 22 = .ok (.aload 4, 2) := by decide +kernel
theorem dX11_merge_24 : decode cX11_merge 24 = .ok (.getfield 282, 3) := by decide +kernel
theorem dX11_merge_27 : decode cX11_merge 27 = .ok (.if_icmp .ne 7, 3) := by decide +kernel
theorem dX11_merge_30 : decode cX11_merge 30 = .ok (.iconst 1, 1) := by decide +kernel
theorem dX11_merge_31 : decode cX11_merge 31 = .ok (.goto 4, 3) := by decide +kernel
theorem dX11_merge_34 : decode cX11_merge 34 = .ok (.iconst 0, 1) := by decide +kernel
theorem dX11_merge_35 : decode cX11_merge 35 = .ok (.invokestatic 104, 3) := by decide +kernel
theorem dX11_merge_38 : decode cX11_merge 38 = .ok (.aload_n 3, 1) := by decide +kernel
theorem dX11_merge_39 : decode cX11_merge 39 = .ok (.getfield 208, 3) := by decide +kernel
theorem dX11_merge_42 : decode cX11_merge 42 = .ok (.aload 4, 2) := by decide +kernel
theorem dX11_merge_44 : decode cX11_merge 44 = .ok (.getfield 208, 3) := by decide +kernel
theorem dX11_merge_47 : decode cX11_merge 47 = .ok (.iadd, 1) := by decide +kernel
theorem dX11_merge_48 : decode cX11_merge 48 = .ok (.bipush 12, 2) := by decide +kernel
theorem dX11_merge_50 : decode cX11_merge 50 = .ok (.if_icmp .le 14, 3) := by decide +kernel
theorem dX11_merge_53 : decode cX11_merge 53 = .ok (.new 125, 3) := by decide +kernel
theorem dX11_merge_56 : decode cX11_merge 56 = .ok (.dup, 1) := by decide +kernel
theorem dX11_merge_57 : decode cX11_merge 57 = .ok (.ldc_w 285, 3) := by decide +kernel
theorem dX11_merge_60 : decode cX11_merge 60 = .ok (.invokespecial 129, 3) := by decide +kernel
theorem dX11_merge_63 : decode cX11_merge 63 = .ok (.athrow, 1) := by decide +kernel
theorem dX11_merge_64 : decode cX11_merge 64 = .ok (.aload_n 3, 1) := by decide +kernel
theorem dX11_merge_65 : decode cX11_merge 65 = .ok (.aload 4, 2) := by decide +kernel
theorem dX11_merge_67 : decode cX11_merge 67 = .ok (.iconst 0, 1) := by decide +kernel
theorem dX11_merge_68 : decode cX11_merge 68 = .ok (.invokevirtual 287, 3) := by decide +kernel
theorem dX11_merge_71 : decode cX11_merge 71 = .ok (.aload_n 3, 1) := by decide +kernel
theorem dX11_merge_72 : decode cX11_merge 72 = .ok (.aload_n 3, 1) := by decide +kernel
theorem dX11_merge_73 : decode cX11_merge 73 = .ok (.getfield 221, 3) := by decide +kernel
theorem dX11_merge_76 : decode cX11_merge 76 = .ok (.aload 4, 2) := by decide +kernel
theorem dX11_merge_78 : decode cX11_merge 78 = .ok (.getfield 221, 3) := by decide +kernel
theorem dX11_merge_81 : decode cX11_merge 81 = .ok (.invokestatic 276, 3) := by decide +kernel
theorem dX11_merge_84 : decode cX11_merge 84 = .ok (.putfield 221, 3) := by decide +kernel
theorem dX11_merge_87 : decode cX11_merge 87 = .ok (.aload_n 3, 1) := by decide +kernel
theorem dX11_merge_88 : decode cX11_merge 88 = .ok (.aload_n 3, 1) := by decide +kernel
theorem dX11_merge_89 : decode cX11_merge 89 = .ok (.getfield 224, 3) := by decide +kernel
theorem dX11_merge_92 : decode cX11_merge 92 = .ok (.aload 4, 2) := by decide +kernel
theorem dX11_merge_94 : decode cX11_merge 94 = .ok (.getfield 224, 3) := by decide +kernel
theorem dX11_merge_97 : decode cX11_merge 97 = .ok (.invokestatic 270, 3) := by decide +kernel
theorem dX11_merge_100 : decode cX11_merge 100 = .ok (.putfield 224, 3) := by decide +kernel
theorem dX11_merge_103 : decode cX11_merge 103 = .ok (.aload 4, 2) := by decide +kernel
theorem dX11_merge_105 : decode cX11_merge 105 = .ok (.iconst 0, 1) := by decide +kernel
theorem dX11_merge_106 : decode cX11_merge 106 = .ok (.putfield 218, 3) := by decide +kernel
theorem dX11_merge_109 : decode cX11_merge 109 = .ok (.aload_n 0, 1) := by decide +kernel
theorem dX11_merge_110 : decode cX11_merge 110 = .ok (.iconst 0, 1) := by decide +kernel
theorem dX11_merge_111 : decode cX11_merge 111 = .ok (.putfield 193, 3) := by decide +kernel
theorem dX11_merge_114 : decode cX11_merge 114 = .ok (.aload_n 3, 1) := by decide +kernel
theorem dX11_merge_115 : decode cX11_merge 115 = .ok (.getfield 208, 3) := by decide +kernel
theorem dX11_merge_118 : decode cX11_merge 118 = .ok (.ireturn, 1) := by decide +kernel
theorem dX11_split_0 : decode cX11_split 0 = .ok (.aload_n 0, 1) := by decide +kernel
theorem dX11_split_1 : decode cX11_split 1 = .ok (.iload_n 1, 1) := by decide +kernel
theorem dX11_split_2 : decode cX11_split 2 = .ok (.invokevirtual 204, 3) := by decide +kernel
theorem dX11_split_5 : decode cX11_split 5 = .ok (.astore_n 3, 1) := by decide +kernel
theorem dX11_split_6 : decode cX11_split 6 = .ok (.iload_n 2, 1) := by decide +kernel
theorem dX11_split_7 : decode cX11_split 7 = .ok (.iconst 1, 1) := by decide +kernel
theorem dX11_split_8 : decode cX11_split 8 = .ok (.if_icmp .lt 15, 3) := by decide +kernel
theorem dX11_split_11 : decode cX11_split 11 = .ok (.iload_n 2, 1) := by decide +kernel
theorem dX11_split_12 : decode cX11_split 12 = .ok (.aload_n 3, 1) := by decide +kernel
theorem dX11_split_13 : decode cX11_split 13 = .ok (.getfield 208, 3) := by decide +kernel
theorem dX11_split_16 : decode cX11_split 16 = .ok (.if_icmp .ge 7, 3) := by decide +kernel
theorem dX11_split_19 : decode cX11_split 19 = .ok (.iconst 1, 1) := by decide +kernel
theorem dX11_split_20 : decode cX11_split 20 = .ok (.goto 4, 3) := by decide +kernel
theorem dX11_split_23 : decode cX11_split 23 = .ok (.iconst 0, 1) := by decide +kernel
theorem dX11_split_24 : decode cX11_split 24 = .ok (.invokestatic 104, 3) := by decide +kernel
theorem dX11_split_27 : decode cX11_split 27 = .ok (.aload_n 3, 1) := by decide +kernel
theorem dX11_split_28 : decode cX11_split 28 = .ok (.invokevirtual 291, 3) := by decide +kernel
theorem dX11_split_31 : decode cX11_split 31 = .ok (.iconst 2, 1) := by decide +kernel
theorem dX11_split_32 : decode cX11_split 32 = .ok (.if_icmp .ge 14, 3) := by decide +kernel
theorem dX11_split_35 : decode cX11_split 35 = .ok (.new 294, 3) := by decide +kernel
theorem dX11_split_38 : decode cX11_split 38 = .ok (.dup, 1) := by decide +kernel
theorem dX11_split_39 : decode cX11_split 39 = .ok (.ldc_w 296, 3) := by decide +kernel
theorem dX11_split_42 : decode cX11_split 42 = .ok (.invokespecial 298, 3) := by decide +kernel
theorem dX11_split_45 : decode cX11_split 45 = .ok (.athrow, 1) := by decide +kernel
theorem dX11_split_46 : decode cX11_split 46 = .ok (.aload_n 0, 1) := by decide +kernel
theorem dX11_split_47 : decode cX11_split 47 = .ok (.invokevirtual 197, 3) := by decide +kernel
theorem dX11_split_50 : decode cX11_split 50 = .ok (.aload_n 3, 1) := by decide +kernel
theorem dX11_split_51 : decode cX11_split 51 = .ok (.invokevirtual 291, 3) := by decide +kernel
theorem dX11_split_54 : decode cX11_split 54 = .ok (.i2l, 1) := by decide +kernel
theorem dX11_split_55 : decode cX11_split 55 = .ok (.aload_n 3, 1) := by decide +kernel
theorem dX11_split_56 : decode cX11_split 56 = .ok (.iload_n 2, 1) := by decide +kernel
theorem dX11_split_57 : decode cX11_split 57 = .ok (.invokevirtual 299, 3) := by decide +kernel
theorem dX11_split_60 : decode cX11_split 60 = .ok (.i2l, 1) := by decide +kernel
theorem dX11_split_61 : decode cX11_split 61 = .ok (.aload_n 3, 1) := by decide +kernel
theorem dX11_split_62 : decode cX11_split 62 = .ok (.aload_n 3, 1) := by decide +kernel
theorem dX11_split_63 : decode cX11_split 63 = .ok (.getfield 208, 3) := by decide +kernel
theorem dX11_split_66 : decode cX11_split 66 = .ok (.invokevirtual 299, 3) := by decide +kernel
theorem dX11_split_69 : decode cX11_split 69 = .ok (.i2l, 1) := by decide +kernel
theorem dX11_split_70 : decode cX11_split 70 = .ok (.invokestatic 302, 3) := by decide +kernel
theorem dX11_split_73 : decode cX11_split 73 = .ok (.lstore 4, 2) := by decide +kernel
theorem dX11_split_75 : decode cX11_split 75 = .ok (.aload_n 3, 1) := by decide +kernel
theorem dX11_split_76 : decode cX11_split 76 = .ok (.getfield 221, 3) := by decide +kernel
theorem dX11_split_79 : decode cX11_split 79 = .ok (.lconst 1, 1) := by decide +kernel
theorem dX11_split_80 : decode cX11_split 80 = .ok (.lload 4, 2) := by decide +kernel
theorem dX11_split_82 : decode cX11_split 82 = .ok (.aload_n 3, 1) := by decide +kernel
theorem dX11_split_83 : decode cX11_split 83 = .ok (.invokevirtual 291, 3) := by decide +kernel
theorem dX11_split_86 : decode cX11_split 86 = .ok (.iconst 1, 1) := by decide +kernel
theorem dX11_split_87 : decode cX11_split 87 = .ok (.isub, 1) := by decide +kernel
theorem dX11_split_88 : decode cX11_split 88 = .ok (.i2l, 1) := by decide +kernel
theorem dX11_split_89 : decode cX11_split 89 = .ok (.invokestatic 306, 3) := by decide +kernel
theorem dX11_split_92 : decode cX11_split 92 = .ok (.invokestatic 309, 3) := by decide +kernel
theorem dX11_split_95 : decode cX11_split 95 = .ok (.l2i, 1) := by decide +kernel
theorem dX11_split_96 : decode cX11_split 96 = .ok (.iadd, 1) := by decide +kernel
theorem dX11_split_97 : decode cX11_split 97 = .ok (.istore 6, 2) := by decide +kernel
theorem dX11_split_99 : decode cX11_split 99 = .ok (.aload_n 0, 1) := by decide +kernel
theorem dX11_split_100 : decode cX11_split 100 = .ok (.iload 6, 2) := by decide +kernel
theorem dX11_split_102 : decode cX11_split 102 = .ok (.aload_n 3, 1) := by decide +kernel
theorem dX11_split_103 : decode cX11_split 103 = .ok (.getfield 224, 3) := by decide +kernel
theorem dX11_split_106 : decode cX11_split 106 = .ok (.aload_n 3, 1) := by decide +kernel
theorem dX11_split_107 : decode cX11_split 107 = .ok (.getfield 282, 3) := by decide +kernel
theorem dX11_split_110 : decode cX11_split 110 = .ok (.invokevirtual 200, 3) := by decide +kernel
theorem dX11_split_113 : decode cX11_split 113 = .ok (.istore 7, 2) := by decide +kernel
theorem dX11_split_115 : decode cX11_split 115 = .ok (.aload_n 0, 1) := by decide +kernel
theorem dX11_split_116 : decode cX11_split 116 = .ok (.getfield 37, 3) := by decide +kernel
theorem dX11_split_119 : decode cX11_split 119 = .ok (.iload 7, 2) := by decide +kernel
theorem dX11_split_121 : decode cX11_split 121 = .ok (.aaload, 1) := by decide +kernel
theorem dX11_split_122 : decode cX11_split 122 = .ok (.aload_n 3, 1) := by decide +kernel
theorem dX11_split_123 : decode cX11_split 123 = .ok (.iload_n 2, 1) := by decide +kernel
theorem dX11_split_124 : decode cX11_split 124 = .ok (.invokevirtual 287, 3) := by decide +kernel
theorem dX11_split_127 : decode cX11_split 127 = .ok (.aload_n 3, 1) := by decide +kernel
theorem dX11_split_128 : decode cX11_split 128 = .ok (.iload_n 2, 1) := by decide +kernel
theorem dX11_split_129 : decode cX11_split 129 = .ok (.invokevirtual 311, 3) := by decide +kernel
theorem dX11_split_132 : decode cX11_split 132 = .ok (.aload_n 3, 1) := by decide +kernel
theorem dX11_split_133 : decode cX11_split 133 = .ok (.iload 6, 2) := by decide +kernel
theorem dX11_split_135 : decode cX11_split 135 = .ok (.putfield 224, 3) := by decide +kernel
theorem dX11_split_138 : decode cX11_split 138 = .ok (.iload 7, 2) := by decide +kernel
theorem dX11_split_140 : decode cX11_split 140 = .ok (.ireturn, 1) := by decide +kernel
theorem dX11_convert_0 : decode cX11_convert 0 = .ok (.iload_n 1, 1) := by decide +kernel
theorem dX11_convert_1 : decode cX11_convert 1 = .ok (.iconst 1, 1) := by decide +kernel
theorem dX11_convert_2 : decode cX11_convert 2 = .ok (.sipush 1001, 3) := by decide +kernel
theorem dX11_convert_5 : decode cX11_convert 5 = .ok (.invokestatic 75, 3) := by decide +kernel
theorem dX11_convert_8 : decode cX11_convert 8 = .ok (.ifCond .eq 18, 3) := by decide +kernel
theorem dX11_convert_11 : decode cX11_convert 11 = .ok (.iload_n 2, 1) := by decide +kernel
theorem dX11_convert_12 : decode cX11_convert 12 = .ok (.iconst 1, 1) := by decide +kernel
theorem dX11_convert_13 : decode cX11_convert 13 = .ok (.sipush 1001, 3) := by decide +kernel
theorem dX11_convert_16 : decode cX11_convert 16 = .ok (.invokestatic 75, 3) := by decide +kernel
theorem dX11_convert_19 : decode cX11_convert 19 = .ok (.ifCond .eq 7, 3) := by decide +kernel
theorem dX11_convert_22 : decode cX11_convert 22 = .ok (.iconst 1, 1) := by decide +kernel
theorem dX11_convert_23 : decode cX11_convert 23 = .ok (.goto 4, 3) := by decide +kernel
theorem dX11_convert_26 : decode cX11_convert 26 = .ok (.iconst 0, 1) := by decide +kernel
theorem dX11_convert_27 : decode cX11_convert 27 = .ok (.invokestatic 104, 3) := by decide +kernel
theorem dX11_convert_30 : decode cX11_convert 30 = .ok (.aload_n 0, 1) := by decide +kernel
theorem dX11_convert_31 : decode cX11_convert 31 = .ok (.invokevirtual 314, 3) := by decide +kernel
theorem dX11_convert_34 : decode cX11_convert 34 = .ok (.i2l, 1) := by decide +kernel
theorem dX11_convert_35 : decode cX11_convert 35 = .ok (.iload_n 1, 1) := by decide +kernel
theorem dX11_convert_36 : decode cX11_convert 36 = .ok (.i2l, 1) := by decide +kernel
theorem dX11_convert_37 : decode cX11_convert 37 = .ok (.iload_n 2, 1) := by decide +kernel
theorem dX11_convert_38 : decode cX11_convert 38 = .ok (.i2l, 1) := by decide +kernel
theorem dX11_convert_39 : decode cX11_convert 39 = .ok (.invokestatic 302, 3) := by decide +kernel
theorem dX11_convert_42 : decode cX11_convert 42 = .ok (.ldc2_w 96, 3) := by decide +kernel
theorem dX11_convert_45 : decode cX11_convert 45 = .ok (.lcmp, 1) := by decide +kernel
theorem dX11_convert_46 : decode cX11_convert 46 = .ok (.ifCond .le 14, 3) := by decide +kernel
theorem dX11_convert_49 : decode cX11_convert 49 = .ok (.new 294, 3) := by decide +kernel
theorem dX11_convert_52 : decode cX11_convert 52 = .ok (.dup, 1) := by decide +kernel
theorem dX11_convert_53 : decode cX11_convert 53 = .ok (.ldc_w 317, 3) := by decide +kernel
theorem dX11_convert_56 : decode cX11_convert 56 = .ok (.invokespecial 298, 3) := by decide +kernel
theorem dX11_convert_59 : decode cX11_convert 59 = .ok (.athrow, 1) := by decide +kernel
theorem dX11_convert_60 : decode cX11_convert 60 = .ok (.iconst 0, 1) := by decide +kernel
theorem dX11_convert_61 : decode cX11_convert 61 = .ok (.istore_n 3, 1) := by decide +kernel
theorem dX11_convert_62 : decode cX11_convert 62 = .ok (.iload_n 3, 1) := by decide +kernel
theorem dX11_convert_63 : decode cX11_convert 63 = .ok (.bipush 24, 2) := by decide +kernel
theorem dX11_convert_65 : decode cX11_convert 65 = .ok (.if_icmp .ge 70, 3) := by decide +kernel
theorem dX11_convert_68 : decode cX11_convert 68 = .ok (.aload_n 0, 1) := by decide +kernel
theorem dX11_convert_69 : decode cX11_convert 69 = .ok (.getfield 37, 3) := by decide +kernel
theorem dX11_convert_72 : decode cX11_convert 72 = .ok (.iload_n 3, 1) := by decide +kernel
theorem dX11_convert_73 : decode cX11_convert 73 = .ok (.aaload, 1) := by decide +kernel
theorem dX11_convert_74 : decode cX11_convert 74 = .ok (.astore 4, 2) := by decide +kernel
theorem dX11_convert_76 : decode cX11_convert 76 = .ok (.aload 4, 2) := by decide +kernel
theorem dX11_convert_78 : decode cX11_convert 78 = .ok (.getfield 218, 3) := by decide +kernel
theorem dX11_convert_81 : decode cX11_convert 81 = .ok (.ifCond .eq 48, 3) := by decide +kernel
theorem dX11_convert_84 : decode cX11_convert 84 = .ok (.aload 4, 2) := by decide +kernel
theorem dX11_convert_86 : decode cX11_convert 86 = .ok (.getfield 221, 3) := by decide +kernel
theorem dX11_convert_89 : decode cX11_convert 89 = .ok (.i2l, 1) := by decide +kernel
theorem dX11_convert_90 : decode cX11_convert 90 = .ok (.iload_n 1, 1) := by decide +kernel
theorem dX11_convert_91 : decode cX11_convert 91 = .ok (.i2l, 1) := by decide +kernel
theorem dX11_convert_92 : decode cX11_convert 92 = .ok (.iload_n 2, 1) := by decide +kernel
theorem dX11_convert_93 : decode cX11_convert 93 = .ok (.i2l, 1) := by decide +kernel
theorem dX11_convert_94 : decode cX11_convert 94 = .ok (.invokestatic 302, 3) := by decide +kernel
theorem dX11_convert_97 : decode cX11_convert 97 = .ok (.l2i, 1) := by decide +kernel
theorem dX11_convert_98 : decode cX11_convert 98 = .ok (.istore 5, 2) := by decide +kernel
theorem dX11_convert_100 : decode cX11_convert 100 = .ok (.aload 4, 2) := by decide +kernel
theorem dX11_convert_102 : decode cX11_convert 102 = .ok (.iload 5, 2) := by decide +kernel
theorem dX11_convert_104 : decode cX11_convert 104 = .ok (.aload 4, 2) := by decide +kernel
theorem dX11_convert_106 : decode cX11_convert 106 = .ok (.getfield 224, 3) := by decide +kernel
theorem dX11_convert_109 : decode cX11_convert 109 = .ok (.i2l, 1) := by decide +kernel
theorem dX11_convert_110 : decode cX11_convert 110 = .ok (.iload_n 1, 1) := by decide +kernel
theorem dX11_convert_111 : decode cX11_convert 111 = .ok (.i2l, 1) := by decide +kernel
theorem dX11_convert_112 : decode cX11_convert 112 = .ok (.iload_n 2, 1) := by decide +kernel
theorem dX11_convert_113 : decode cX11_convert 113 = .ok (.i2l, 1) := by decide +kernel
theorem dX11_convert_114 : decode cX11_convert 114 = .ok (.invokestatic 302, 3) := by decide +kernel
theorem dX11_convert_117 : decode cX11_convert 117 = .ok (.l2i, 1) := by decide +kernel
theorem dX11_convert_118 : decode cX11_convert 118 = .ok (.iload 5, 2) := by decide +kernel
theorem dX11_convert_120 : decode cX11_convert 120 = .ok (.iconst 1, 1) := by decide +kernel
theorem dX11_convert_121 : decode cX11_convert 121 = .ok (.iadd, 1) := by decide +kernel
theorem dX11_convert_122 : decode cX11_convert 122 = .ok (.invokestatic 270, 3) := by decide +kernel
theorem dX11_convert_125 : decode cX11_convert 125 = .ok (.invokevirtual 263, 3) := by decide +kernel
theorem dX11_convert_128 : decode cX11_convert 128 = .ok (.pop, 1) := by decide +kernel
theorem dX11_convert_129 : decode cX11_convert 129 = .ok (.iinc 3 1, 3) := by decide +kernel
theorem dX11_convert_132 : decode cX11_convert 132 = .ok (.goto (-70), 3) := by decide +kernel
theorem dX11_convert_135 : decode cX11_convert 135 = .ok (.aload_n 0, 1) := by decide +kernel
theorem dX11_convert_136 : decode cX11_convert 136 = .ok (.getfield 43, 3) := by decide +kernel
theorem dX11_convert_139 : decode cX11_convert 139 = .ok (.getfield 319, 3) := by decide +kernel
theorem dX11_convert_142 : decode cX11_convert 142 = .ok (.aload_n 0, 1) := by decide +kernel
theorem dX11_convert_143 : decode cX11_convert 143 = .ok (.getfield 43, 3) := by decide +kernel
theorem dX11_convert_146 : decode cX11_convert 146 = .ok (.getfield 251, 3) := by decide +kernel
theorem dX11_convert_149 : decode cX11_convert 149 = .ok (.iload_n 1, 1) := by decide +kernel
theorem dX11_convert_150 : decode cX11_convert 150 = .ok (.iload_n 2, 1) := by decide +kernel
theorem dX11_convert_151 : decode cX11_convert 151 = .ok (.invokestatic 322, 3) := by decide +kernel
theorem dX11_convert_154 : decode cX11_convert 154 = .ok (.aload_n 0, 1) := by decide +kernel
theorem dX11_convert_155 : decode cX11_convert 155 = .ok (.getfield 64, 3) := by decide +kernel
theorem dX11_convert_158 : decode cX11_convert 158 = .ok (.getfield 326, 3) := by decide +kernel
theorem dX11_convert_161 : decode cX11_convert 161 = .ok (.aload_n 0, 1) := by decide +kernel
theorem dX11_convert_162 : decode cX11_convert 162 = .ok (.getfield 64, 3) := by decide +kernel
theorem dX11_convert_165 : decode cX11_convert 165 = .ok (.getfield 327, 3) := by decide +kernel
theorem dX11_convert_168 : decode cX11_convert 168 = .ok (.iload_n 1, 1) := by decide +kernel
theorem dX11_convert_169 : decode cX11_convert 169 = .ok (.iload_n 2, 1) := by decide +kernel
theorem dX11_convert_170 : decode cX11_convert 170 = .ok (.invokestatic 322, 3) := by decide +kernel
theorem dX11_convert_173 : decode cX11_convert 173 = .ok (.aload_n 0, 1) := by decide +kernel
theorem dX11_convert_174 : decode cX11_convert 174 = .ok (.iconst 0, 1) := by decide +kernel
theorem dX11_convert_175 : decode cX11_convert 175 = .ok (.putfield 193, 3) := by decide +kernel
theorem dX11_convert_178 : decode cX11_convert 178 = .ok (.aload_n 0, 1) := by decide +kernel
theorem dX11_convert_179 : decode cX11_convert 179 = .ok (.invokevirtual 328, 3) := by decide +kernel
theorem dX11_convert_182 : decode cX11_convert 182 = .ok (.ireturn, 1) := by decide +kernel
theorem dX11_addAnchor_0 : decode cX11_addAnchor 0 = .ok (.iload_n 1, 1) := by decide +kernel
theorem dX11_addAnchor_1 : decode cX11_addAnchor 1 = .ok (.invokestatic 100, 3) := by decide +kernel
theorem dX11_addAnchor_4 : decode cX11_addAnchor 4 = .ok (.iload_n 2, 1) := by decide +kernel
theorem dX11_addAnchor_5 : decode cX11_addAnchor 5 = .ok (.invokestatic 100, 3) := by decide +kernel
theorem dX11_addAnchor_8 : decode cX11_addAnchor 8 = .ok (.aload_n 0, 1) := by decide +kernel
theorem dX11_addAnchor_9 : decode cX11_addAnchor 9 = .ok (.getfield 50, 3) := by decide +kernel
theorem dX11_addAnchor_12 : decode cX11_addAnchor 12 = .ok (.iload_n 1, 1) := by decide +kernel
theorem dX11_addAnchor_13 : decode cX11_addAnchor 13 = .ok (.iload_n 2, 1) := by decide +kernel
theorem dX11_addAnchor_14 : decode cX11_addAnchor 14 = .ok (.invokevirtual 330, 3) := by decide +kernel
theorem dX11_addAnchor_17 : decode cX11_addAnchor 17 = .ok (.invokestatic 104, 3) := by decide +kernel
theorem dX11_addAnchor_20 : decode cX11_addAnchor 20 = .ok (.aload_n 0, 1) := by decide +kernel
theorem dX11_addAnchor_21 : decode cX11_addAnchor 21 = .ok (.getfield 50, 3) := by decide +kernel
theorem dX11_addAnchor_24 : decode cX11_addAnchor 24 = .ok (.getfield 334, 3) := by decide +kernel
theorem dX11_addAnchor_27 : decode cX11_addAnchor 27 = .ok (.bipush 8, 2) := by decide +kernel
theorem dX11_addAnchor_29 : decode cX11_addAnchor 29 = .ok (.if_icmp .lt 14, 3) := by decide +kernel
theorem dX11_addAnchor_32 : decode cX11_addAnchor 32 = .ok (.new 125, 3) := by decide +kernel
theorem dX11_addAnchor_35 : decode cX11_addAnchor 35 = .ok (.dup, 1) := by decide +kernel
theorem dX11_addAnchor_36 : decode cX11_addAnchor 36 = .ok (.ldc_w 335, 3) := by decide +kernel
theorem dX11_addAnchor_39 : decode cX11_addAnchor 39 = .ok (.invokespecial 129, 3) := by decide +kernel
theorem dX11_addAnchor_42 : decode cX11_addAnchor 42 = .ok (.athrow, 1) := by decide +kernel
theorem dX11_addAnchor_43 : decode cX11_addAnchor 43 = .ok (.aload_n 0, 1) := by decide +kernel
theorem dX11_addAnchor_44 : decode cX11_addAnchor 44 = .ok (.getfield 50, 3) := by decide +kernel
theorem dX11_addAnchor_47 : decode cX11_addAnchor 47 = .ok (.iload_n 1, 1) := by decide +kernel
theorem dX11_addAnchor_48 : decode cX11_addAnchor 48 = .ok (.iload_n 2, 1) := by decide +kernel
theorem dX11_addAnchor_49 : decode cX11_addAnchor 49 = .ok (.invokevirtual 337, 3) := by decide +kernel
theorem dX11_addAnchor_52 : decode cX11_addAnchor 52 = .ok (.aload_n 0, 1) := by decide +kernel
theorem dX11_addAnchor_53 : decode cX11_addAnchor 53 = .ok (.getfield 50, 3) := by decide +kernel
theorem dX11_addAnchor_56 : decode cX11_addAnchor 56 = .ok (.getfield 334, 3) := by decide +kernel
theorem dX11_addAnchor_59 : decode cX11_addAnchor 59 = .ok (.ireturn, 1) := by decide +kernel
theorem dX11_drift_0 : decode cX11_drift 0 = .ok (.aload_n 0, 1) := by decide +kernel
theorem dX11_drift_1 : decode cX11_drift 1 = .ok (.getfield 50, 3) := by decide +kernel
theorem dX11_drift_4 : decode cX11_drift 4 = .ok (.getfield 334, 3) := by decide +kernel
theorem dX11_drift_7 : decode cX11_drift 7 = .ok (.ifCond .gt 14, 3) := by decide +kernel
theorem dX11_drift_10 : decode cX11_drift 10 = .ok (.new 125, 3) := by decide +kernel
theorem dX11_drift_13 : decode cX11_drift 13 = .ok (.dup, 1) := by decide +kernel
theorem dX11_drift_14 : decode cX11_drift 14 = .ok (.ldc_w 340, 3) := by decide +kernel
theorem dX11_drift_17 : decode cX11_drift 17 = .ok (.invokespecial 129, 3) := by decide +kernel
theorem dX11_drift_20 : decode cX11_drift 20 = .ok (.athrow, 1) := by decide +kernel
theorem dX11_drift_21 : decode cX11_drift 21 = .ok (.iconst 0, 1) := by decide +kernel
theorem dX11_drift_22 : decode cX11_drift 22 = .ok (.istore_n 1, 1) := by decide +kernel
theorem dX11_drift_23 : decode cX11_drift 23 = .ok (.iconst 0, 1) := by decide +kernel
theorem dX11_drift_24 : decode cX11_drift 24 = .ok (.istore_n 2, 1) := by decide +kernel
theorem dX11_drift_25 : decode cX11_drift 25 = .ok (.iload_n 2, 1) := by decide +kernel
theorem dX11_drift_26 : decode cX11_drift 26 = .ok (.bipush 24, 2) := by decide +kernel
theorem dX11_drift_28 : decode cX11_drift 28 = .ok (.if_icmp .ge 79, 3) := by decide +kernel
theorem dX11_drift_31 : decode cX11_drift 31 = .ok (.aload_n 0, 1) := by decide +kernel
theorem dX11_drift_32 : decode cX11_drift 32 = .ok (.getfield 37, 3) := by decide +kernel
theorem dX11_drift_35 : decode cX11_drift 35 = .ok (.iload_n 2, 1) := by decide +kernel
theorem dX11_drift_36 : decode cX11_drift 36 = .ok (.aaload, 1) := by decide +kernel
theorem dX11_drift_37 : decode cX11_drift 37 = .ok (.astore_n 3, 1) := by decide +kernel
theorem dX11_drift_38 : decode cX11_drift 38 = .ok (.aload_n 3, 1) := by decide +kernel
theorem dX11_drift_39 : decode cX11_drift 39 = .ok (.getfield 218, 3) := by decide +kernel
theorem dX11_drift_42 : decode cX11_drift 42 = .ok (.ifCond .eq 59, 3) := by decide +kernel
theorem dX11_drift_45 : decode cX11_drift 45 = .ok (.aload_n 0, 1) := by decide +kernel
theorem dX11_drift_46 : decode cX11_drift 46 = .ok (.getfield 50, 3) := by decide +kernel
theorem dX11_drift_49 : decode cX11_drift 49 = .ok (.aload_n 3, 1) := by decide +kernel
theorem dX11_drift_50 : decode cX11_drift 50 = .ok (.getfield 221, 3) := by decide +kernel
theorem dX11_drift_53 : decode cX11_drift 53 = .ok (.invokevirtual 342, 3) := by decide +kernel
theorem dX11_drift_56 : decode cX11_drift 56 = .ok (.ldc_w 346, 3) := by decide +kernel
theorem dX11_drift_59 : decode cX11_drift 59 = .ok (.invokestatic 347, 3) := by decide +kernel
theorem dX11_drift_62 : decode cX11_drift 62 = .ok (.istore 4, 2) := by decide +kernel
theorem dX11_drift_64 : decode cX11_drift 64 = .ok (.aload_n 0, 1) := by decide +kernel
theorem dX11_drift_65 : decode cX11_drift 65 = .ok (.getfield 50, 3) := by decide +kernel
theorem dX11_drift_68 : decode cX11_drift 68 = .ok (.aload_n 3, 1) := by decide +kernel
theorem dX11_drift_69 : decode cX11_drift 69 = .ok (.getfield 224, 3) := by decide +kernel
theorem dX11_drift_72 : decode cX11_drift 72 = .ok (.invokevirtual 342, 3) := by decide +kernel
theorem dX11_drift_75 : decode cX11_drift 75 = .ok (.ldc_w 275, 3) := by decide +kernel
theorem dX11_drift_78 : decode cX11_drift 78 = .ok (.invokestatic 347, 3) := by decide +kernel
theorem dX11_drift_81 : decode cX11_drift 81 = .ok (.istore 5, 2) := by decide +kernel
theorem dX11_drift_83 : decode cX11_drift 83 = .ok (.iload_n 1, 1) := by decide +kernel
theorem dX11_drift_84 : decode cX11_drift 84 = .ok (.aload_n 3, 1) := by decide +kernel
theorem dX11_drift_85 : decode cX11_drift 85 = .ok (.iload 4, 2) := by decide +kernel
theorem dX11_drift_87 : decode cX11_drift 87 = .ok (.iload 5, 2) := by decide +kernel
theorem dX11_drift_89 : decode cX11_drift 89 = .ok (.iload 4, 2) := by decide +kernel
theorem dX11_drift_91 : decode cX11_drift 91 = .ok (.iconst 1, 1) := by decide +kernel
theorem dX11_drift_92 : decode cX11_drift 92 = .ok (.iadd, 1) := by decide +kernel
theorem dX11_drift_93 : decode cX11_drift 93 = .ok (.invokestatic 270, 3) := by decide +kernel
theorem dX11_drift_96 : decode cX11_drift 96 = .ok (.invokevirtual 263, 3) := by decide +kernel
theorem dX11_drift_99 : decode cX11_drift 99 = .ok (.iadd, 1) := by decide +kernel
theorem dX11_drift_100 : decode cX11_drift 100 = .ok (.istore_n 1, 1) := by decide +kernel
theorem dX11_drift_101 : decode cX11_drift 101 = .ok (.iinc 2 1, 3) := by decide +kernel
theorem dX11_drift_104 : decode cX11_drift 104 = .ok (.goto (-79), 3) := by decide +kernel
theorem dX11_drift_107 : decode cX11_drift 107 = .ok (.aload_n 0, 1) := by decide +kernel
theorem dX11_drift_108 : decode cX11_drift 108 = .ok (.getfield 50, 3) := by decide +kernel
theorem dX11_drift_111 : decode cX11_drift 111 = .ok (.iconst 0, 1) := by decide +kernel
theorem dX11_drift_112 : decode cX11_drift 112 = .ok (.putfield 334, 3) := by decide +kernel
theorem dX11_drift_115 : decode cX11_drift 115 = .ok (.aload_n 0, 1) := by decide +kernel
theorem dX11_drift_116 : decode cX11_drift 116 = .ok (.iconst 0, 1) := by decide +kernel
theorem dX11_drift_117 : decode cX11_drift 117 = .ok (.putfield 193, 3) := by decide +kernel
theorem dX11_drift_120 : decode cX11_drift 120 = .ok (.iload_n 1, 1) := by decide +kernel
theorem dX11_drift_121 : decode cX11_drift 121 = .ok (.ireturn, 1) := by decide +kernel
theorem dX11_addHeard_0 : decode cX11_addHeard 0 = .ok (.iload_n 1, 1) := by decide +kernel
theorem dX11_addHeard_1 : decode cX11_addHeard 1 = .ok (.invokestatic 100, 3) := by decide +kernel
theorem dX11_addHeard_4 : decode cX11_addHeard 4 = .ok (.iload_n 2, 1) := by decide +kernel
theorem dX11_addHeard_5 : decode cX11_addHeard 5 = .ok (.iconst 1, 1) := by decide +kernel
theorem dX11_addHeard_6 : decode cX11_addHeard 6 = .ok (.bipush 99, 2) := by decide +kernel
theorem dX11_addHeard_8 : decode cX11_addHeard 8 = .ok (.invokestatic 75, 3) := by decide +kernel
theorem dX11_addHeard_11 : decode cX11_addHeard 11 = .ok (.invokestatic 104, 3) := by decide +kernel
theorem dX11_addHeard_14 : decode cX11_addHeard 14 = .ok (.aload_n 0, 1) := by decide +kernel
theorem dX11_addHeard_15 : decode cX11_addHeard 15 = .ok (.getfield 64, 3) := by decide +kernel
theorem dX11_addHeard_18 : decode cX11_addHeard 18 = .ok (.getfield 327, 3) := by decide +kernel
theorem dX11_addHeard_21 : decode cX11_addHeard 21 = .ok (.bipush 30, 2) := by decide +kernel
theorem dX11_addHeard_23 : decode cX11_addHeard 23 = .ok (.if_icmp .lt 14, 3) := by decide +kernel
theorem dX11_addHeard_26 : decode cX11_addHeard 26 = .ok (.new 125, 3) := by decide +kernel
theorem dX11_addHeard_29 : decode cX11_addHeard 29 = .ok (.dup, 1) := by decide +kernel
theorem dX11_addHeard_30 : decode cX11_addHeard 30 = .ok (.ldc_w 351, 3) := by decide +kernel
theorem dX11_addHeard_33 : decode cX11_addHeard 33 = .ok (.invokespecial 129, 3) := by decide +kernel
theorem dX11_addHeard_36 : decode cX11_addHeard 36 = .ok (.athrow, 1) := by decide +kernel
theorem dX11_addHeard_37 : decode cX11_addHeard 37 = .ok (.aload_n 0, 1) := by decide +kernel
theorem dX11_addHeard_38 : decode cX11_addHeard 38 = .ok (.getfield 64, 3) := by decide +kernel
theorem dX11_addHeard_41 : decode cX11_addHeard 41 = .ok (.iload_n 1, 1) := by decide +kernel
theorem dX11_addHeard_42 : decode cX11_addHeard 42 = .ok (.iload_n 2, 1) := by decide +kernel
theorem dX11_addHeard_43 : decode cX11_addHeard 43 = .ok (.invokevirtual 353, 3) := by decide +kernel
theorem dX11_addHeard_46 : decode cX11_addHeard 46 = .ok (.aload_n 0, 1) := by decide +kernel
theorem dX11_addHeard_47 : decode cX11_addHeard 47 = .ok (.getfield 64, 3) := by decide +kernel
theorem dX11_addHeard_50 : decode cX11_addHeard 50 = .ok (.getfield 327, 3) := by decide +kernel
theorem dX11_addHeard_53 : decode cX11_addHeard 53 = .ok (.ireturn, 1) := by decide +kernel
theorem dX11_hear_0 : decode cX11_hear 0 = .ok (.aload_n 0, 1) := by decide +kernel
theorem dX11_hear_1 : decode cX11_hear 1 = .ok (.getfield 64, 3) := by decide +kernel
theorem dX11_hear_4 : decode cX11_hear 4 = .ok (.aload_n 0, 1) := by decide +kernel
theorem dX11_hear_5 : decode cX11_hear 5 = .ok (.iload_n 1, 1) := by decide +kernel
theorem dX11_hear_6 : decode cX11_hear 6 = .ok (.invokevirtual 204, 3) := by decide +kernel
theorem dX11_hear_9 : decode cX11_hear 9 = .ok (.aload_n 0, 1) := by decide +kernel
theorem dX11_hear_10 : decode cX11_hear 10 = .ok (.getfield 57, 3) := by decide +kernel
theorem dX11_hear_13 : decode cX11_hear 13 = .ok (.invokevirtual 354, 3) := by decide +kernel
theorem dX11_hear_16 : decode cX11_hear 16 = .ok (.ireturn, 1) := by decide +kernel
theorem dX11_timeOf_0 : decode cX11_timeOf 0 = .ok (.aload_n 0, 1) := by decide +kernel
theorem dX11_timeOf_1 : decode cX11_timeOf 1 = .ok (.iload_n 1, 1) := by decide +kernel
theorem dX11_timeOf_2 : decode cX11_timeOf 2 = .ok (.invokevirtual 204, 3) := by decide +kernel
theorem dX11_timeOf_5 : decode cX11_timeOf 5 = .ok (.astore_n 3, 1) := by decide +kernel
theorem dX11_timeOf_6 : decode cX11_timeOf 6 = .ok (.iload_n 2, 1) := by decide +kernel
theorem dX11_timeOf_7 : decode cX11_timeOf 7 = .ok (.ifCond .lt 17, 3) := by decide +kernel
theorem dX11_timeOf_10 : decode cX11_timeOf 10 = .ok (.iload_n 2, 1) := by decide +kernel
theorem dX11_timeOf_11 : decode cX11_timeOf 11 = .ok (.aload_n 3, 1) := by decide +kernel
theorem dX11_timeOf_12 : decode cX11_timeOf 12 = .ok (.getfield 208, 3) := by decide +kernel
theorem dX11_timeOf_15 : decode cX11_timeOf 15 = .ok (.if_icmp .ge 9, 3) := by decide +kernel
theorem dX11_timeOf_18 : decode cX11_timeOf 18 = .ok (.iload_n 2, 1) := by decide +kernel
theorem dX11_timeOf_19 : decode cX11_timeOf 19 = .ok (.bipush 12, 2) := by decide +kernel
theorem dX11_timeOf_21 : decode cX11_timeOf 21 = .ok (.if_icmp .lt 14, 3) := by decide +kernel
theorem dX11_timeOf_24 : decode cX11_timeOf 24 = .ok (.new 233, 3) := by decide +kernel
theorem dX11_timeOf_27 : decode cX11_timeOf 27 = .ok (.dup, 1) := by decide +kernel
theorem dX11_timeOf_28 : decode cX11_timeOf 28 = .ok (.ldc_w 358, 3) := by decide +kernel
theorem dX11_timeOf_31 : decode cX11_timeOf 31 = .ok (.invokespecial 237, 3) := by decide +kernel
theorem dX11_timeOf_34 : decode cX11_timeOf 34 = .ok (.athrow, 1) := by decide +kernel
theorem dX11_timeOf_35 : decode cX11_timeOf 35 = .ok (.aload_n 3, 1) := by decide +kernel
theorem dX11_timeOf_36 : decode cX11_timeOf 36 = .ok (.getfield 360, 3) := by decide +kernel
theorem dX11_timeOf_39 : decode cX11_timeOf 39 = .ok (.iload_n 2, 1) := by decide +kernel
theorem dX11_timeOf_40 : decode cX11_timeOf 40 = .ok (.iaload, 1) := by decide +kernel
theorem dX11_timeOf_41 : decode cX11_timeOf 41 = .ok (.ireturn, 1) := by decide +kernel
theorem dX11_sung_0 : decode cX11_sung 0 = .ok (.aload_n 0, 1) := by decide +kernel
theorem dX11_sung_1 : decode cX11_sung 1 = .ok (.iload_n 1, 1) := by decide +kernel
theorem dX11_sung_2 : decode cX11_sung 2 = .ok (.invokevirtual 204, 3) := by decide +kernel
theorem dX11_sung_5 : decode cX11_sung 5 = .ok (.astore_n 3, 1) := by decide +kernel
theorem dX11_sung_6 : decode cX11_sung 6 = .ok (.iload_n 2, 1) := by decide +kernel
theorem dX11_sung_7 : decode cX11_sung 7 = .ok (.invokestatic 100, 3) := by decide +kernel
theorem dX11_sung_10 : decode cX11_sung 10 = .ok (.iconst 0, 1) := by decide +kernel
theorem dX11_sung_11 : decode cX11_sung 11 = .ok (.istore 4, 2) := by decide +kernel
theorem dX11_sung_13 : decode cX11_sung 13 = .ok (.iconst 0, 1) := by decide +kernel
theorem dX11_sung_14 : decode cX11_sung 14 = .ok (.istore 5, 2) := by decide +kernel
theorem dX11_sung_16 : decode cX11_sung 16 = .ok (.iload 5, 2) := by decide +kernel
theorem dX11_sung_18 : decode cX11_sung 18 = .ok (.aload_n 3, 1) := by decide +kernel
theorem dX11_sung_19 : decode cX11_sung 19 = .ok (.getfield 208, 3) := by decide +kernel
theorem dX11_sung_22 : decode cX11_sung 22 = .ok (.if_icmp .ge 41, 3) := by decide +kernel
theorem dX11_sung_25 : decode cX11_sung 25 = .ok (.iload 5, 2) := by decide +kernel
theorem dX11_sung_27 : decode cX11_sung 27 = .ok (.bipush 12, 2) := by decide +kernel
theorem dX11_sung_29 : decode cX11_sung 29 = .ok (.if_icmp .ge 34, 3) := by decide +kernel
theorem dX11_sung_32 : decode cX11_sung 32 = .ok (.aload_n 3, 1) := by decide +kernel
theorem dX11_sung_33 : decode cX11_sung 33 = .ok (.getfield 360, 3) := by decide +kernel
theorem dX11_sung_36 : decode cX11_sung 36 = .ok (.iload 5, 2) := by decide +kernel
theorem dX11_sung_38 : decode cX11_sung 38 = .ok (.iaload, 1) := by decide +kernel
theorem dX11_sung_39 : decode cX11_sung 39 = .ok (.iconst (-1), 1) := by decide +kernel
theorem dX11_sung_40 : decode cX11_sung 40 = .ok (.if_icmp .eq 17, 3) := by decide +kernel
theorem dX11_sung_43 : decode cX11_sung 43 = .ok (.aload_n 3, 1) := by decide +kernel
theorem dX11_sung_44 : decode cX11_sung 44 = .ok (.getfield 360, 3) := by decide +kernel
theorem dX11_sung_47 : decode cX11_sung 47 = .ok (.iload 5, 2) := by decide +kernel
theorem dX11_sung_49 : decode cX11_sung 49 = .ok (.iaload, 1) := by decide +kernel
theorem dX11_sung_50 : decode cX11_sung 50 = .ok (.iload_n 2, 1) := by decide +kernel
theorem dX11_sung_51 : decode cX11_sung 51 = .ok (.if_icmp .gt 6, 3) := by decide +kernel
theorem dX11_sung_54 : decode cX11_sung 54 = .ok (.iinc 4 1, 3) := by decide +kernel
theorem dX11_sung_57 : decode cX11_sung 57 = .ok (.iinc 5 1, 3) := by decide +kernel
theorem dX11_sung_60 : decode cX11_sung 60 = .ok (.goto (-44), 3) := by decide +kernel
theorem dX11_sung_63 : decode cX11_sung 63 = .ok (.iload 4, 2) := by decide +kernel
theorem dX11_sung_65 : decode cX11_sung 65 = .ok (.ireturn, 1) := by decide +kernel
theorem dX11_pairOf_0 : decode cX11_pairOf 0 = .ok (.aload_n 0, 1) := by decide +kernel
theorem dX11_pairOf_1 : decode cX11_pairOf 1 = .ok (.iload_n 1, 1) := by decide +kernel
theorem dX11_pairOf_2 : decode cX11_pairOf 2 = .ok (.invokevirtual 204, 3) := by decide +kernel
theorem dX11_pairOf_5 : decode cX11_pairOf 5 = .ok (.astore_n 2, 1) := by decide +kernel
theorem dX11_pairOf_6 : decode cX11_pairOf 6 = .ok (.aload_n 2, 1) := by decide +kernel
theorem dX11_pairOf_7 : decode cX11_pairOf 7 = .ok (.getfield 282, 3) := by decide +kernel
theorem dX11_pairOf_10 : decode cX11_pairOf 10 = .ok (.ifCond .ne 14, 3) := by decide +kernel
theorem dX11_pairOf_13 : decode cX11_pairOf 13 = .ok (.new 294, 3) := by decide +kernel
theorem dX11_pairOf_16 : decode cX11_pairOf 16 = .ok (.dup, 1) := by decide +kernel
theorem dX11_pairOf_17 : decode cX11_pairOf 17 = .ok (.ldc_w 363, 3) := by decide +kernel
theorem dX11_pairOf_20 : decode cX11_pairOf 20 = .ok (.invokespecial 298, 3) := by decide +kernel
theorem dX11_pairOf_23 : decode cX11_pairOf 23 = .ok (.athrow, 1) := by decide +kernel
theorem dX11_pairOf_24 : decode cX11_pairOf 24 = .ok (.aload_n 0, 1) := by decide +kernel
theorem dX11_pairOf_25 : decode cX11_pairOf 25 = .ok (.invokevirtual 227, 3) := by decide +kernel
theorem dX11_pairOf_28 : decode cX11_pairOf 28 = .ok (.aload_n 0, 1) := by decide +kernel
theorem dX11_pairOf_29 : decode cX11_pairOf 29 = .ok (.getfield 71, 3) := by decide +kernel
theorem dX11_pairOf_32 : decode cX11_pairOf 32 = .ok (.aload_n 0, 1) := by decide +kernel
theorem dX11_pairOf_33 : decode cX11_pairOf 33 = .ok (.getfield 29, 3) := by decide +kernel
theorem dX11_pairOf_36 : decode cX11_pairOf 36 = .ok (.aload_n 0, 1) := by decide +kernel
theorem dX11_pairOf_37 : decode cX11_pairOf 37 = .ok (.getfield 57, 3) := by decide +kernel
theorem dX11_pairOf_40 : decode cX11_pairOf 40 = .ok (.invokevirtual 365, 3) := by decide +kernel
theorem dX11_pairOf_43 : decode cX11_pairOf 43 = .ok (.pop, 1) := by decide +kernel
theorem dX11_pairOf_44 : decode cX11_pairOf 44 = .ok (.aload_n 2, 1) := by decide +kernel
theorem dX11_pairOf_45 : decode cX11_pairOf 45 = .ok (.getfield 282, 3) := by decide +kernel
theorem dX11_pairOf_48 : decode cX11_pairOf 48 = .ok (.iconst 1, 1) := by decide +kernel
theorem dX11_pairOf_49 : decode cX11_pairOf 49 = .ok (.if_icmp .ne 18, 3) := by decide +kernel
theorem dX11_pairOf_52 : decode cX11_pairOf 52 = .ok (.aload_n 0, 1) := by decide +kernel
theorem dX11_pairOf_53 : decode cX11_pairOf 53 = .ok (.getfield 71, 3) := by decide +kernel
theorem dX11_pairOf_56 : decode cX11_pairOf 56 = .ok (.iload_n 1, 1) := by decide +kernel
theorem dX11_pairOf_57 : decode cX11_pairOf 57 = .ok (.aload_n 0, 1) := by decide +kernel
theorem dX11_pairOf_58 : decode cX11_pairOf 58 = .ok (.getfield 57, 3) := by decide +kernel
theorem dX11_pairOf_61 : decode cX11_pairOf 61 = .ok (.invokevirtual 369, 3) := by decide +kernel
theorem dX11_pairOf_64 : decode cX11_pairOf 64 = .ok (.goto 15, 3) := by decide +kernel
theorem dX11_pairOf_67 : decode cX11_pairOf 67 = .ok (.aload_n 0, 1) := by decide +kernel
theorem dX11_pairOf_68 : decode cX11_pairOf 68 = .ok (.getfield 71, 3) := by decide +kernel
theorem dX11_pairOf_71 : decode cX11_pairOf 71 = .ok (.iload_n 1, 1) := by decide +kernel
theorem dX11_pairOf_72 : decode cX11_pairOf 72 = .ok (.aload_n 0, 1) := by decide +kernel
theorem dX11_pairOf_73 : decode cX11_pairOf 73 = .ok (.getfield 57, 3) := by decide +kernel
theorem dX11_pairOf_76 : decode cX11_pairOf 76 = .ok (.invokevirtual 373, 3) := by decide +kernel
theorem dX11_pairOf_79 : decode cX11_pairOf 79 = .ok (.ireturn, 1) := by decide +kernel
theorem dX11_pairCost_0 : decode cX11_pairCost 0 = .ok (.aload_n 0, 1) := by decide +kernel
theorem dX11_pairCost_1 : decode cX11_pairCost 1 = .ok (.invokevirtual 227, 3) := by decide +kernel
theorem dX11_pairCost_4 : decode cX11_pairCost 4 = .ok (.aload_n 0, 1) := by decide +kernel
theorem dX11_pairCost_5 : decode cX11_pairCost 5 = .ok (.getfield 71, 3) := by decide +kernel
theorem dX11_pairCost_8 : decode cX11_pairCost 8 = .ok (.aload_n 0, 1) := by decide +kernel
theorem dX11_pairCost_9 : decode cX11_pairCost 9 = .ok (.getfield 29, 3) := by decide +kernel
theorem dX11_pairCost_12 : decode cX11_pairCost 12 = .ok (.aload_n 0, 1) := by decide +kernel
theorem dX11_pairCost_13 : decode cX11_pairCost 13 = .ok (.getfield 57, 3) := by decide +kernel
theorem dX11_pairCost_16 : decode cX11_pairCost 16 = .ok (.invokevirtual 365, 3) := by decide +kernel
theorem dX11_pairCost_19 : decode cX11_pairCost 19 = .ok (.ireturn, 1) := by decide +kernel
theorem dX11_readingTime_0 : decode cX11_readingTime 0 = .ok (.aload_n 0, 1) := by decide +kernel
theorem dX11_readingTime_1 : decode cX11_readingTime 1 = .ok (.iload_n 1, 1) := by decide +kernel
theorem dX11_readingTime_2 : decode cX11_readingTime 2 = .ok (.invokevirtual 204, 3) := by decide +kernel
theorem dX11_readingTime_5 : decode cX11_readingTime 5 = .ok (.astore_n 2, 1) := by decide +kernel
theorem dX11_readingTime_6 : decode cX11_readingTime 6 = .ok (.iconst 0, 1) := by decide +kernel
theorem dX11_readingTime_7 : decode cX11_readingTime 7 = .ok (.aload_n 2, 1) := by decide +kernel
theorem dX11_readingTime_8 : decode cX11_readingTime 8 = .ok (.getfield 208, 3) := by decide +kernel
theorem dX11_readingTime_11 : decode cX11_readingTime 11 = .ok (.iconst 1, 1) := by decide +kernel
theorem dX11_readingTime_12 : decode cX11_readingTime 12 = .ok (.isub, 1) := by decide +kernel
theorem dX11_readingTime_13 : decode cX11_readingTime 13 = .ok (.invokestatic 270, 3) := by decide +kernel
theorem dX11_readingTime_16 : decode cX11_readingTime 16 = .ok (.i2l, 1) := by decide +kernel
theorem dX11_readingTime_17 : decode cX11_readingTime 17 = .ok (.lstore_n 3, 1) := by decide +kernel
theorem dX11_readingTime_18 : decode cX11_readingTime 18 = .ok (.aload_n 2, 1) := by decide +kernel
theorem dX11_readingTime_19 : decode cX11_readingTime 19 = .ok (.aload_n 2, 1) := by decide +kernel
theorem dX11_readingTime_20 : decode cX11_readingTime 20 = .ok (.getfield 208, 3) := by decide +kernel
theorem dX11_readingTime_23 : decode cX11_readingTime 23 = .ok (.invokevirtual 299, 3) := by decide +kernel
theorem dX11_readingTime_26 : decode cX11_readingTime 26 = .ok (.i2l, 1) := by decide +kernel
theorem dX11_readingTime_27 : decode cX11_readingTime 27 = .ok (.lload_n 3, 1) := by decide +kernel
theorem dX11_readingTime_28 : decode cX11_readingTime 28 = .ok (.ladd, 1) := by decide +kernel
theorem dX11_readingTime_29 : decode cX11_readingTime 29 = .ok (.ldc2_w 376, 3) := by decide +kernel
theorem dX11_readingTime_32 : decode cX11_readingTime 32 = .ok (.lmul, 1) := by decide +kernel
theorem dX11_readingTime_33 : decode cX11_readingTime 33 = .ok (.ldc2_w 378, 3) := by decide +kernel
theorem dX11_readingTime_36 : decode cX11_readingTime 36 = .ok (.aload_n 2, 1) := by decide +kernel
theorem dX11_readingTime_37 : decode cX11_readingTime 37 = .ok (.getfield 208, 3) := by decide +kernel
theorem dX11_readingTime_40 : decode cX11_readingTime 40 = .ok (.i2l, 1) := by decide +kernel
theorem dX11_readingTime_41 : decode cX11_readingTime 41 = .ok (.lmul, 1) := by decide +kernel
theorem dX11_readingTime_42 : decode cX11_readingTime 42 = .ok (.ladd, 1) := by decide +kernel
theorem dX11_readingTime_43 : decode cX11_readingTime 43 = .ok (.lreturn, 1) := by decide +kernel
theorem dX11_speed_0 : decode cX11_speed 0 = .ok (.aload_n 0, 1) := by decide +kernel
theorem dX11_speed_1 : decode cX11_speed 1 = .ok (.iload_n 1, 1) := by decide +kernel
theorem dX11_speed_2 : decode cX11_speed 2 = .ok (.invokevirtual 204, 3) := by decide +kernel
theorem dX11_speed_5 : decode cX11_speed 5 = .ok (.astore_n 2, 1) := by decide +kernel
theorem dX11_speed_6 : decode cX11_speed 6 = .ok (.aload_n 2, 1) := by decide +kernel
theorem dX11_speed_7 : decode cX11_speed 7 = .ok (.invokevirtual 291, 3) := by decide +kernel
theorem dX11_speed_10 : decode cX11_speed 10 = .ok (.istore_n 3, 1) := by decide +kernel
theorem dX11_speed_11 : decode cX11_speed 11 = .ok (.iload_n 3, 1) := by decide +kernel
theorem dX11_speed_12 : decode cX11_speed 12 = .ok (.iconst 1, 1) := by decide +kernel
theorem dX11_speed_13 : decode cX11_speed 13 = .ok (.if_icmp .ge 7, 3) := by decide +kernel
theorem dX11_speed_16 : decode cX11_speed 16 = .ok (.fconst 0, 1) := by decide +kernel
theorem dX11_speed_17 : decode cX11_speed 17 = .ok (.goto 19, 3) := by decide +kernel
theorem dX11_speed_20 : decode cX11_speed 20 = .ok (.aload_n 2, 1) := by decide +kernel
theorem dX11_speed_21 : decode cX11_speed 21 = .ok (.aload_n 2, 1) := by decide +kernel
theorem dX11_speed_22 : decode cX11_speed 22 = .ok (.getfield 208, 3) := by decide +kernel
theorem dX11_speed_25 : decode cX11_speed 25 = .ok (.invokevirtual 299, 3) := by decide +kernel
theorem dX11_speed_28 : decode cX11_speed 28 = .ok (.i2f, 1) := by decide +kernel
theorem dX11_speed_29 : decode cX11_speed 29 = .ok (.iload_n 3, 1) := by decide +kernel
theorem dX11_speed_30 : decode cX11_speed 30 = .ok (.i2f, 1) := by decide +kernel
theorem dX11_speed_31 : decode cX11_speed 31 = .ok (.fdiv, 1) := by decide +kernel
theorem dX11_speed_32 : decode cX11_speed 32 = .ok (.ldc_w 380, 3) := by decide +kernel
theorem dX11_speed_35 : decode cX11_speed 35 = .ok (.fmul, 1) := by decide +kernel
theorem dX11_speed_36 : decode cX11_speed 36 = .ok (.freturn, 1) := by decide +kernel
theorem dX11_isSound_0 : decode cX11_isSound 0 = .ok (.aload_n 0, 1) := by decide +kernel
theorem dX11_isSound_1 : decode cX11_isSound 1 = .ok (.invokevirtual 227, 3) := by decide +kernel
theorem dX11_isSound_4 : decode cX11_isSound 4 = .ok (.aload_n 0, 1) := by decide +kernel
theorem dX11_isSound_5 : decode cX11_isSound 5 = .ok (.getfield 29, 3) := by decide +kernel
theorem dX11_isSound_8 : decode cX11_isSound 8 = .ok (.invokevirtual 386, 3) := by decide +kernel
theorem dX11_isSound_11 : decode cX11_isSound 11 = .ok (.ifCond .ne 21, 3) := by decide +kernel
theorem dX11_isSound_14 : decode cX11_isSound 14 = .ok (.aload_n 0, 1) := by decide +kernel
theorem dX11_isSound_15 : decode cX11_isSound 15 = .ok (.invokevirtual 390, 3) := by decide +kernel
theorem dX11_isSound_18 : decode cX11_isSound 18 = .ok (.ifCond .eq 14, 3) := by decide +kernel
theorem dX11_isSound_21 : decode cX11_isSound 21 = .ok (.aload_n 0, 1) := by decide +kernel
theorem dX11_isSound_22 : decode cX11_isSound 22 = .ok (.invokevirtual 393, 3) := by decide +kernel
theorem dX11_isSound_25 : decode cX11_isSound 25 = .ok (.ifCond .eq 7, 3) := by decide +kernel
theorem dX11_isSound_28 : decode cX11_isSound 28 = .ok (.iconst 1, 1) := by decide +kernel
theorem dX11_isSound_29 : decode cX11_isSound 29 = .ok (.goto 4, 3) := by decide +kernel
theorem dX11_isSound_32 : decode cX11_isSound 32 = .ok (.iconst 0, 1) := by decide +kernel
theorem dX11_isSound_33 : decode cX11_isSound 33 = .ok (.ireturn, 1) := by decide +kernel
theorem dX11_isIn_0 : decode cX11_isIn 0 = .ok (.iload_n 0, 1) := by decide +kernel
theorem dX11_isIn_1 : decode cX11_isIn 1 = .ok (.iload_n 1, 1) := by decide +kernel
theorem dX11_isIn_2 : decode cX11_isIn 2 = .ok (.if_icmp .lt 12, 3) := by decide +kernel
theorem dX11_isIn_5 : decode cX11_isIn 5 = .ok (.iload_n 0, 1) := by decide +kernel
theorem dX11_isIn_6 : decode cX11_isIn 6 = .ok (.iload_n 2, 1) := by decide +kernel
theorem dX11_isIn_7 : decode cX11_isIn 7 = .ok (.if_icmp .gt 7, 3) := by decide +kernel
theorem dX11_isIn_10 : decode cX11_isIn 10 = .ok (.iconst 1, 1) := by decide +kernel
theorem dX11_isIn_11 : decode cX11_isIn 11 = .ok (.goto 4, 3) := by decide +kernel
theorem dX11_isIn_14 : decode cX11_isIn 14 = .ok (.iconst 0, 1) := by decide +kernel
theorem dX11_isIn_15 : decode cX11_isIn 15 = .ok (.ireturn, 1) := by decide +kernel
theorem dX11_needArgument_0 : decode cX11_needArgument 0 = .ok (.iload_n 0, 1) := by decide +kernel
theorem dX11_needArgument_1 : decode cX11_needArgument 1 = .ok (.ifCond .ne 14, 3) := by decide +kernel
theorem dX11_needArgument_4 : decode cX11_needArgument 4 = .ok (.new 79, 3) := by decide +kernel
theorem dX11_needArgument_7 : decode cX11_needArgument 7 = .ok (.dup, 1) := by decide +kernel
theorem dX11_needArgument_8 : decode cX11_needArgument 8 = .ok (.ldc_w 396, 3) := by decide +kernel
theorem dX11_needArgument_11 : decode cX11_needArgument 11 = .ok (.invokespecial 83, 3) := by decide +kernel
theorem dX11_needArgument_14 : decode cX11_needArgument 14 = .ok (.athrow, 1) := by decide +kernel
theorem dX11_needArgument_15 : decode cX11_needArgument 15 = .ok (.return_, 1) := by decide +kernel
theorem dX11_needFrame_0 : decode cX11_needFrame 0 = .ok (.iload_n 0, 1) := by decide +kernel
theorem dX11_needFrame_1 : decode cX11_needFrame 1 = .ok (.iconst 0, 1) := by decide +kernel
theorem dX11_needFrame_2 : decode cX11_needFrame 2 = .ok (.ldc_w 275, 3) := by decide +kernel
theorem dX11_needFrame_5 : decode cX11_needFrame 5 = .ok (.invokestatic 75, 3) := by decide +kernel
theorem dX11_needFrame_8 : decode cX11_needFrame 8 = .ok (.ifCond .ne 14, 3) := by decide +kernel
theorem dX11_needFrame_11 : decode cX11_needFrame 11 = .ok (.new 79, 3) := by decide +kernel
theorem dX11_needFrame_14 : decode cX11_needFrame 14 = .ok (.dup, 1) := by decide +kernel
theorem dX11_needFrame_15 : decode cX11_needFrame 15 = .ok (.ldc_w 398, 3) := by decide +kernel
theorem dX11_needFrame_18 : decode cX11_needFrame 18 = .ok (.invokespecial 83, 3) := by decide +kernel
theorem dX11_needFrame_21 : decode cX11_needFrame 21 = .ok (.athrow, 1) := by decide +kernel
theorem dX11_needFrame_22 : decode cX11_needFrame 22 = .ok (.return_, 1) := by decide +kernel
theorem dX11_needCell_0 : decode cX11_needCell 0 = .ok (.iload_n 0, 1) := by decide +kernel
theorem dX11_needCell_1 : decode cX11_needCell 1 = .ok (.invokestatic 100, 3) := by decide +kernel
theorem dX11_needCell_4 : decode cX11_needCell 4 = .ok (.iload_n 1, 1) := by decide +kernel
theorem dX11_needCell_5 : decode cX11_needCell 5 = .ok (.iconst 0, 1) := by decide +kernel
theorem dX11_needCell_6 : decode cX11_needCell 6 = .ok (.bipush 7, 2) := by decide +kernel
theorem dX11_needCell_8 : decode cX11_needCell 8 = .ok (.invokestatic 75, 3) := by decide +kernel
theorem dX11_needCell_11 : decode cX11_needCell 11 = .ok (.ifCond .eq 13, 3) := by decide +kernel
theorem dX11_needCell_14 : decode cX11_needCell 14 = .ok (.iload_n 2, 1) := by decide +kernel
theorem dX11_needCell_15 : decode cX11_needCell 15 = .ok (.iconst 0, 1) := by decide +kernel
theorem dX11_needCell_16 : decode cX11_needCell 16 = .ok (.bipush 19, 2) := by decide +kernel
theorem dX11_needCell_18 : decode cX11_needCell 18 = .ok (.invokestatic 75, 3) := by decide +kernel
theorem dX11_needCell_21 : decode cX11_needCell 21 = .ok (.ifCond .ne 14, 3) := by decide +kernel
theorem dX11_needCell_24 : decode cX11_needCell 24 = .ok (.new 79, 3) := by decide +kernel
theorem dX11_needCell_27 : decode cX11_needCell 27 = .ok (.dup, 1) := by decide +kernel
theorem dX11_needCell_28 : decode cX11_needCell 28 = .ok (.ldc_w 400, 3) := by decide +kernel
theorem dX11_needCell_31 : decode cX11_needCell 31 = .ok (.invokespecial 83, 3) := by decide +kernel
theorem dX11_needCell_34 : decode cX11_needCell 34 = .ok (.athrow, 1) := by decide +kernel
theorem dX11_needCell_35 : decode cX11_needCell 35 = .ok (.return_, 1) := by decide +kernel
theorem dX11_needRoomForCue_0 : decode cX11_needRoomForCue 0 = .ok (.aload_n 0, 1) := by decide +kernel
theorem dX11_needRoomForCue_1 : decode cX11_needRoomForCue 1 = .ok (.getfield 402, 3) := by decide +kernel
theorem dX11_needRoomForCue_4 : decode cX11_needRoomForCue 4 = .ok (.bipush 24, 2) := by decide +kernel
theorem dX11_needRoomForCue_6 : decode cX11_needRoomForCue 6 = .ok (.if_icmp .lt 14, 3) := by decide +kernel
theorem dX11_needRoomForCue_9 : decode cX11_needRoomForCue 9 = .ok (.new 125, 3) := by decide +kernel
theorem dX11_needRoomForCue_12 : decode cX11_needRoomForCue 12 = .ok (.dup, 1) := by decide +kernel
theorem dX11_needRoomForCue_13 : decode cX11_needRoomForCue 13 = .ok (.ldc_w 405, 3) := by decide +kernel
theorem dX11_needRoomForCue_16 : decode cX11_needRoomForCue 16 = .ok (.invokespecial 129, 3) := by decide +kernel
theorem dX11_needRoomForCue_19 : decode cX11_needRoomForCue 19 = .ok (.athrow, 1) := by decide +kernel
theorem dX11_needRoomForCue_20 : decode cX11_needRoomForCue 20 = .ok (.return_, 1) := by decide +kernel
theorem dX11_cueOf_0 : decode cX11_cueOf 0 = .ok (.iload_n 1, 1) := by decide +kernel
theorem dX11_cueOf_1 : decode cX11_cueOf 1 = .ok (.ifCond .lt 29, 3) := by decide +kernel
theorem dX11_cueOf_4 : decode cX11_cueOf 4 = .ok (.iload_n 1, 1) := by decide +kernel
theorem dX11_cueOf_5 : decode cX11_cueOf 5 = .ok (.aload_n 0, 1) := by decide +kernel
theorem dX11_cueOf_6 : decode cX11_cueOf 6 = .ok (.getfield 402, 3) := by decide +kernel
theorem dX11_cueOf_9 : decode cX11_cueOf 9 = .ok (.if_icmp .ge 21, 3) := by decide +kernel
theorem dX11_cueOf_12 : decode cX11_cueOf 12 = .ok (.iload_n 1, 1) := by decide +kernel
theorem dX11_cueOf_13 : decode cX11_cueOf 13 = .ok (.bipush 24, 2) := by decide +kernel
theorem dX11_cueOf_15 : decode cX11_cueOf 15 = .ok (.if_icmp .ge 15, 3) := by decide +kernel
theorem dX11_cueOf_18 : decode cX11_cueOf 18 = .ok (.aload_n 0, 1) := by decide +kernel
theorem dX11_cueOf_19 : decode cX11_cueOf 19 = .ok (.getfield 37, 3) := by decide +kernel
theorem dX11_cueOf_22 : decode cX11_cueOf 22 = .ok (.iload_n 1, 1) := by decide +kernel
theorem dX11_cueOf_23 : decode cX11_cueOf 23 = .ok (.aaload, 1) := by decide +kernel
theorem dX11_cueOf_24 : decode cX11_cueOf 24 = .ok (.getfield 218, 3) := by decide +kernel
theorem dX11_cueOf_27 : decode cX11_cueOf 27 = .ok (.ifCond .ne 14, 3) := by decide +kernel
theorem dX11_cueOf_30 : decode cX11_cueOf 30 = .ok (.new 407, 3) := by decide +kernel
theorem dX11_cueOf_33 : decode cX11_cueOf 33 = .ok (.dup, 1) := by decide +kernel
theorem dX11_cueOf_34 : decode cX11_cueOf 34 = .ok (.ldc_w 409, 3) := by decide +kernel
theorem dX11_cueOf_37 : decode cX11_cueOf 37 = .ok (.invokespecial 411, 3) := by decide +kernel
theorem dX11_cueOf_40 : decode cX11_cueOf 40 = .ok (.athrow, 1) := by decide +kernel
theorem dX11_cueOf_41 : decode cX11_cueOf 41 = .ok (.aload_n 0, 1) := by decide +kernel
theorem dX11_cueOf_42 : decode cX11_cueOf 42 = .ok (.getfield 37, 3) := by decide +kernel
theorem dX11_cueOf_45 : decode cX11_cueOf 45 = .ok (.iload_n 1, 1) := by decide +kernel
theorem dX11_cueOf_46 : decode cX11_cueOf 46 = .ok (.aaload, 1) := by decide +kernel
theorem dX11_cueOf_47 : decode cX11_cueOf 47 = .ok (.areturn, 1) := by decide +kernel
theorem dX11_countedWithDropped_0 : decode cX11_countedWithDropped 0 = .ok (.iload_n 0, 1) := by decide +kernel
theorem dX11_countedWithDropped_1 : decode cX11_countedWithDropped 1 = .ok (.sipush 17982, 3) := by decide +kernel
theorem dX11_countedWithDropped_4 : decode cX11_countedWithDropped 4 = .ok (.idiv, 1) := by decide +kernel
theorem dX11_countedWithDropped_5 : decode cX11_countedWithDropped 5 = .ok (.istore_n 1, 1) := by decide +kernel
theorem dX11_countedWithDropped_6 : decode cX11_countedWithDropped 6 = .ok (.iload_n 0, 1) := by decide +kernel
theorem dX11_countedWithDropped_7 : decode cX11_countedWithDropped 7 = .ok (.sipush 17982, 3) := by decide +kernel
theorem dX11_countedWithDropped_10 : decode cX11_countedWithDropped 10 = .ok (.irem, 1) := by decide +kernel
theorem dX11_countedWithDropped_11 : decode cX11_countedWithDropped 11 = .ok (.istore_n 2, 1) := by decide +kernel
theorem dX11_countedWithDropped_12 : decode cX11_countedWithDropped 12 = .ok (.iload_n 2, 1) := by decide +kernel
theorem dX11_countedWithDropped_13 : decode cX11_countedWithDropped 13 = .ok (.sipush 1800, 3) := by decide +kernel
theorem dX11_countedWithDropped_16 : decode cX11_countedWithDropped 16 = .ok (.if_icmp .ge 7, 3) := by decide +kernel
theorem dX11_countedWithDropped_19 : decode cX11_countedWithDropped 19 = .ok (.iconst 0, 1) := by decide +kernel
theorem dX11_countedWithDropped_20 : decode cX11_countedWithDropped 20 = .ok (.goto 14, 3) := by decide +kernel
theorem dX11_countedWithDropped_23 : decode cX11_countedWithDropped 23 = .ok (.iconst 1, 1) := by decide +kernel
theorem dX11_countedWithDropped_24 : decode cX11_countedWithDropped 24 = .ok (.iload_n 2, 1) := by decide +kernel
theorem dX11_countedWithDropped_25 : decode cX11_countedWithDropped 25 = .ok (.sipush 1800, 3) := by decide +kernel
theorem dX11_countedWithDropped_28 : decode cX11_countedWithDropped 28 = .ok (.isub, 1) := by decide +kernel
theorem dX11_countedWithDropped_29 : decode cX11_countedWithDropped 29 = .ok (.sipush 1798, 3) := by decide +kernel
theorem dX11_countedWithDropped_32 : decode cX11_countedWithDropped 32 = .ok (.idiv, 1) := by decide +kernel
theorem dX11_countedWithDropped_33 : decode cX11_countedWithDropped 33 = .ok (.iadd, 1) := by decide +kernel
theorem dX11_countedWithDropped_34 : decode cX11_countedWithDropped 34 = .ok (.istore_n 3, 1) := by decide +kernel
theorem dX11_countedWithDropped_35 : decode cX11_countedWithDropped 35 = .ok (.iload_n 0, 1) := by decide +kernel
theorem dX11_countedWithDropped_36 : decode cX11_countedWithDropped 36 = .ok (.iconst 2, 1) := by decide +kernel
theorem dX11_countedWithDropped_37 : decode cX11_countedWithDropped 37 = .ok (.bipush 9, 2) := by decide +kernel
theorem dX11_countedWithDropped_39 : decode cX11_countedWithDropped 39 = .ok (.iload_n 1, 1) := by decide +kernel
theorem dX11_countedWithDropped_40 : decode cX11_countedWithDropped 40 = .ok (.imul, 1) := by decide +kernel
theorem dX11_countedWithDropped_41 : decode cX11_countedWithDropped 41 = .ok (.iload_n 3, 1) := by decide +kernel
theorem dX11_countedWithDropped_42 : decode cX11_countedWithDropped 42 = .ok (.iadd, 1) := by decide +kernel
theorem dX11_countedWithDropped_43 : decode cX11_countedWithDropped 43 = .ok (.imul, 1) := by decide +kernel
theorem dX11_countedWithDropped_44 : decode cX11_countedWithDropped 44 = .ok (.iadd, 1) := by decide +kernel
theorem dX11_countedWithDropped_45 : decode cX11_countedWithDropped 45 = .ok (.ireturn, 1) := by decide +kernel
theorem dX11_hasValue_0 : decode cX11_hasValue 0 = .ok (.iload_n 0, 1) := by decide +kernel
theorem dX11_hasValue_1 : decode cX11_hasValue 1 = .ok (.bipush 116, 2) := by decide +kernel
theorem dX11_hasValue_3 : decode cX11_hasValue 3 = .ok (.if_icmp .eq 21, 3) := by decide +kernel
theorem dX11_hasValue_6 : decode cX11_hasValue 6 = .ok (.iload_n 0, 1) := by decide +kernel
theorem dX11_hasValue_7 : decode cX11_hasValue 7 = .ok (.bipush 114, 2) := by decide +kernel
theorem dX11_hasValue_9 : decode cX11_hasValue 9 = .ok (.if_icmp .eq 15, 3) := by decide +kernel
theorem dX11_hasValue_12 : decode cX11_hasValue 12 = .ok (.iload_n 0, 1) := by decide +kernel
theorem dX11_hasValue_13 : decode cX11_hasValue 13 = .ok (.bipush 109, 2) := by decide +kernel
theorem dX11_hasValue_15 : decode cX11_hasValue 15 = .ok (.if_icmp .eq 9, 3) := by decide +kernel
theorem dX11_hasValue_18 : decode cX11_hasValue 18 = .ok (.iload_n 0, 1) := by decide +kernel
theorem dX11_hasValue_19 : decode cX11_hasValue 19 = .ok (.bipush 107, 2) := by decide +kernel
theorem dX11_hasValue_21 : decode cX11_hasValue 21 = .ok (.if_icmp .ne 7, 3) := by decide +kernel
theorem dX11_hasValue_24 : decode cX11_hasValue 24 = .ok (.iconst 1, 1) := by decide +kernel
theorem dX11_hasValue_25 : decode cX11_hasValue 25 = .ok (.goto 4, 3) := by decide +kernel
theorem dX11_hasValue_28 : decode cX11_hasValue 28 = .ok (.iconst 0, 1) := by decide +kernel
theorem dX11_hasValue_29 : decode cX11_hasValue 29 = .ok (.ireturn, 1) := by decide +kernel
theorem dX11_isCode_0 : decode cX11_isCode 0 = .ok (.iload_n 0, 1) := by decide +kernel
theorem dX11_isCode_1 : decode cX11_isCode 1 = .ok (.tableswitch 141 98 120 #[139, 139, 139, 139, 141, 141, 141, 141, 141, 131, 141, 122, 139, 141, 139, 141, 115, 141, 107, 141, 141, 141, 139], 107) := by decide +kernel
theorem dX11_isCode_108 : decode cX11_isCode 108 = .ok (.iload_n 1, 1) := by decide +kernel
theorem dX11_isCode_109 : decode cX11_isCode 109 = .ok (.iconst 0, 1) := by decide +kernel
theorem dX11_isCode_110 : decode cX11_isCode 110 = .ok (.bipush 26, 2) := by decide +kernel
theorem dX11_isCode_112 : decode cX11_isCode 112 = .ok (.invokestatic 75, 3) := by decide +kernel
theorem dX11_isCode_115 : decode cX11_isCode 115 = .ok (.ireturn, 1) := by decide +kernel
theorem dX11_isCode_116 : decode cX11_isCode 116 = .ok (.iload_n 1, 1) := by decide +kernel
theorem dX11_isCode_117 : decode cX11_isCode 117 = .ok (.iconst 2, 1) := by decide +kernel
theorem dX11_isCode_118 : decode cX11_isCode 118 = .ok (.iconst 4, 1) := by decide +kernel
theorem dX11_isCode_119 : decode cX11_isCode 119 = .ok (.invokestatic 75, 3) := by decide +kernel
theorem dX11_isCode_122 : decode cX11_isCode 122 = .ok (.ireturn, 1) := by decide +kernel
theorem dX11_isCode_123 : decode cX11_isCode 123 = .ok (.iload_n 1, 1) := by decide +kernel
theorem dX11_isCode_124 : decode cX11_isCode 124 = .ok (.iconst 0, 1) := by decide +kernel
theorem dX11_isCode_125 : decode cX11_isCode 125 = .ok (.sipush 159, 3) := by decide +kernel
theorem dX11_isCode_128 : decode cX11_isCode 128 = .ok (.invokestatic 75, 3) := by decide +kernel
theorem dX11_isCode_131 : decode cX11_isCode 131 = .ok (.ireturn, 1) := by decide +kernel
theorem dX11_isCode_132 : decode cX11_isCode 132 = .ok (.iload_n 1, 1) := by decide +kernel
theorem dX11_isCode_133 : decode cX11_isCode 133 = .ok (.iconst 0, 1) := by decide +kernel
theorem dX11_isCode_134 : decode cX11_isCode 134 = .ok (.bipush 7, 2) := by decide +kernel
theorem dX11_isCode_136 : decode cX11_isCode 136 = .ok (.invokestatic 75, 3) := by decide +kernel
theorem dX11_isCode_139 : decode cX11_isCode 139 = .ok (.ireturn, 1) := by decide +kernel
theorem dX11_isCode_140 : decode cX11_isCode 140 = .ok (.iconst 1, 1) := by decide +kernel
theorem dX11_isCode_141 : decode cX11_isCode 141 = .ok (.ireturn, 1) := by decide +kernel
theorem dX11_isCode_142 : decode cX11_isCode 142 = .ok (.iconst 0, 1) := by decide +kernel
theorem dX11_isCode_143 : decode cX11_isCode 143 = .ok (.ireturn, 1) := by decide +kernel
theorem dX11_jumpTo_0 : decode cX11_jumpTo 0 = .ok (.aload_n 0, 1) := by decide +kernel
theorem dX11_jumpTo_1 : decode cX11_jumpTo 1 = .ok (.getfield 19, 3) := by decide +kernel
theorem dX11_jumpTo_4 : decode cX11_jumpTo 4 = .ok (.aload_n 0, 1) := by decide +kernel
theorem dX11_jumpTo_5 : decode cX11_jumpTo 5 = .ok (.getfield 10, 3) := by decide +kernel
theorem dX11_jumpTo_8 : decode cX11_jumpTo 8 = .ok (.iload_n 1, 1) := by decide +kernel
theorem dX11_jumpTo_9 : decode cX11_jumpTo 9 = .ok (.invokevirtual 162, 3) := by decide +kernel
theorem dX11_jumpTo_12 : decode cX11_jumpTo 12 = .ok (.aload_n 0, 1) := by decide +kernel
theorem dX11_jumpTo_13 : decode cX11_jumpTo 13 = .ok (.getfield 19, 3) := by decide +kernel
theorem dX11_jumpTo_16 : decode cX11_jumpTo 16 = .ok (.areturn, 1) := by decide +kernel
theorem dX11_makeCue_0 : decode cX11_makeCue 0 = .ok (.aload_n 0, 1) := by decide +kernel
theorem dX11_makeCue_1 : decode cX11_makeCue 1 = .ok (.getfield 402, 3) := by decide +kernel
theorem dX11_makeCue_4 : decode cX11_makeCue 4 = .ok (.istore 4, 2) := by decide +kernel
theorem dX11_makeCue_6 : decode cX11_makeCue 6 = .ok (.iload 4, 2) := by decide +kernel
theorem dX11_makeCue_8 : decode cX11_makeCue 8 = .ok (.bipush 24, 2) := by decide +kernel
theorem dX11_makeCue_10 : decode cX11_makeCue 10 = .ok (.if_icmp .ge 46, 3) := by decide +kernel
theorem dX11_makeCue_13 : decode cX11_makeCue 13 = .ok (.aload_n 0, 1) := by decide +kernel
theorem dX11_makeCue_14 : decode cX11_makeCue 14 = .ok (.getfield 37, 3) := by decide +kernel
theorem dX11_makeCue_17 : decode cX11_makeCue 17 = .ok (.iload 4, 2) := by decide +kernel
theorem dX11_makeCue_19 : decode cX11_makeCue 19 = .ok (.aaload, 1) := by decide +kernel
theorem dX11_makeCue_20 : decode cX11_makeCue 20 = .ok (.astore 5, 2) := by decide +kernel
theorem dX11_makeCue_22 : decode cX11_makeCue 22 = .ok (.aload 5, 2) := by decide +kernel
theorem dX11_makeCue_24 : decode cX11_makeCue 24 = .ok (.iconst 1, 1) := by decide +kernel
theorem dX11_makeCue_25 : decode cX11_makeCue 25 = .ok (.putfield 218, 3) := by decide +kernel
theorem dX11_makeCue_28 : decode cX11_makeCue 28 = .ok (.aload 5, 2) := by decide +kernel
theorem dX11_makeCue_30 : decode cX11_makeCue 30 = .ok (.iload_n 1, 1) := by decide +kernel
theorem dX11_makeCue_31 : decode cX11_makeCue 31 = .ok (.putfield 221, 3) := by decide +kernel
theorem dX11_makeCue_34 : decode cX11_makeCue 34 = .ok (.aload 5, 2) := by decide +kernel
theorem dX11_makeCue_36 : decode cX11_makeCue 36 = .ok (.iload_n 2, 1) := by decide +kernel
theorem dX11_makeCue_37 : decode cX11_makeCue 37 = .ok (.putfield 224, 3) := by decide +kernel
theorem dX11_makeCue_40 : decode cX11_makeCue 40 = .ok (.aload 5, 2) := by decide +kernel
theorem dX11_makeCue_42 : decode cX11_makeCue 42 = .ok (.iload_n 3, 1) := by decide +kernel
theorem dX11_makeCue_43 : decode cX11_makeCue 43 = .ok (.putfield 282, 3) := by decide +kernel
theorem dX11_makeCue_46 : decode cX11_makeCue 46 = .ok (.aload_n 0, 1) := by decide +kernel
theorem dX11_makeCue_47 : decode cX11_makeCue 47 = .ok (.dup, 1) := by decide +kernel
theorem dX11_makeCue_48 : decode cX11_makeCue 48 = .ok (.getfield 402, 3) := by decide +kernel
theorem dX11_makeCue_51 : decode cX11_makeCue 51 = .ok (.iconst 1, 1) := by decide +kernel
theorem dX11_makeCue_52 : decode cX11_makeCue 52 = .ok (.iadd, 1) := by decide +kernel
theorem dX11_makeCue_53 : decode cX11_makeCue 53 = .ok (.putfield 402, 3) := by decide +kernel
theorem dX11_makeCue_56 : decode cX11_makeCue 56 = .ok (.aload_n 0, 1) := by decide +kernel
theorem dX11_makeCue_57 : decode cX11_makeCue 57 = .ok (.iconst 0, 1) := by decide +kernel
theorem dX11_makeCue_58 : decode cX11_makeCue 58 = .ok (.putfield 193, 3) := by decide +kernel
theorem dX11_makeCue_61 : decode cX11_makeCue 61 = .ok (.iload 4, 2) := by decide +kernel
theorem dX11_makeCue_63 : decode cX11_makeCue 63 = .ok (.ireturn, 1) := by decide +kernel
theorem dX11_arrange_0 : decode cX11_arrange 0 = .ok (.aload_n 0, 1) := by decide +kernel
theorem dX11_arrange_1 : decode cX11_arrange 1 = .ok (.getfield 193, 3) := by decide +kernel
theorem dX11_arrange_4 : decode cX11_arrange 4 = .ok (.ifCond .ne 15, 3) := by decide +kernel
theorem dX11_arrange_7 : decode cX11_arrange 7 = .ok (.aload_n 0, 1) := by decide +kernel
theorem dX11_arrange_8 : decode cX11_arrange 8 = .ok (.getfield 29, 3) := by decide +kernel
theorem dX11_arrange_11 : decode cX11_arrange 11 = .ok (.invokevirtual 412, 3) := by decide +kernel
theorem dX11_arrange_14 : decode cX11_arrange 14 = .ok (.aload_n 0, 1) := by decide +kernel
theorem dX11_arrange_15 : decode cX11_arrange 15 = .ok (.iconst 1, 1) := by decide +kernel
theorem dX11_arrange_16 : decode cX11_arrange 16 = .ok (.putfield 193, 3) := by decide +kernel
theorem dX11_arrange_19 : decode cX11_arrange 19 = .ok (.return_, 1) := by decide +kernel
theorem dX11_isSameAtCodes_0 : decode cX11_isSameAtCodes 0 = .ok (.aload_n 0, 1) := by decide +kernel
theorem dX11_isSameAtCodes_1 : decode cX11_isSameAtCodes 1 = .ok (.getfield 23, 3) := by decide +kernel
theorem dX11_isSameAtCodes_4 : decode cX11_isSameAtCodes 4 = .ok (.invokevirtual 138, 3) := by decide +kernel
theorem dX11_isSameAtCodes_7 : decode cX11_isSameAtCodes 7 = .ok (.iconst 0, 1) := by decide +kernel
theorem dX11_isSameAtCodes_8 : decode cX11_isSameAtCodes 8 = .ok (.istore_n 1, 1) := by decide +kernel
theorem dX11_isSameAtCodes_9 : decode cX11_isSameAtCodes 9 = .ok (.iload_n 1, 1) := by decide +kernel
theorem dX11_isSameAtCodes_10 : decode cX11_isSameAtCodes 10 = .ok (.aload_n 0, 1) := by decide +kernel
theorem dX11_isSameAtCodes_11 : decode cX11_isSameAtCodes 11 = .ok (.getfield 10, 3) := by decide +kernel
theorem dX11_isSameAtCodes_14 : decode cX11_isSameAtCodes 14 = .ok (.getfield 117, 3) := by decide +kernel
theorem dX11_isSameAtCodes_17 : decode cX11_isSameAtCodes 17 = .ok (.if_icmp .ge 80, 3) := by decide +kernel
theorem dX11_isSameAtCodes_20 : decode cX11_isSameAtCodes 20 = .ok (.iload_n 1, 1) := by decide +kernel
theorem dX11_isSameAtCodes_21 : decode cX11_isSameAtCodes 21 = .ok (.sipush 200, 3) := by decide +kernel
theorem dX11_isSameAtCodes_24 : decode cX11_isSameAtCodes 24 = .ok (.if_icmp .ge 73, 3) := by decide +kernel
theorem dX11_isSameAtCodes_27 : decode cX11_isSameAtCodes 27 = .ok (.aload_n 0, 1) := by decide +kernel
theorem dX11_isSameAtCodes_28 : decode cX11_isSameAtCodes 28 = .ok (.getfield 10, 3) := by decide +kernel
theorem dX11_isSameAtCodes_31 : decode cX11_isSameAtCodes 31 = .ok (.getfield 415, 3) := by decide +kernel
theorem dX11_isSameAtCodes_34 : decode cX11_isSameAtCodes 34 = .ok (.iload_n 1, 1) := by decide +kernel
theorem dX11_isSameAtCodes_35 : decode cX11_isSameAtCodes 35 = .ok (.iaload, 1) := by decide +kernel
theorem dX11_isSameAtCodes_36 : decode cX11_isSameAtCodes 36 = .ok (.istore_n 2, 1) := by decide +kernel
theorem dX11_isSameAtCodes_37 : decode cX11_isSameAtCodes 37 = .ok (.aload_n 0, 1) := by decide +kernel
theorem dX11_isSameAtCodes_38 : decode cX11_isSameAtCodes 38 = .ok (.getfield 19, 3) := by decide +kernel
theorem dX11_isSameAtCodes_41 : decode cX11_isSameAtCodes 41 = .ok (.aload_n 0, 1) := by decide +kernel
theorem dX11_isSameAtCodes_42 : decode cX11_isSameAtCodes 42 = .ok (.getfield 10, 3) := by decide +kernel
theorem dX11_isSameAtCodes_45 : decode cX11_isSameAtCodes 45 = .ok (.iload_n 2, 1) := by decide +kernel
theorem dX11_isSameAtCodes_46 : decode cX11_isSameAtCodes 46 = .ok (.invokevirtual 162, 3) := by decide +kernel
theorem dX11_isSameAtCodes_49 : decode cX11_isSameAtCodes 49 = .ok (.aload_n 0, 1) := by decide +kernel
theorem dX11_isSameAtCodes_50 : decode cX11_isSameAtCodes 50 = .ok (.getfield 23, 3) := by decide +kernel
theorem dX11_isSameAtCodes_53 : decode cX11_isSameAtCodes 53 = .ok (.aload_n 0, 1) := by decide +kernel
theorem dX11_isSameAtCodes_54 : decode cX11_isSameAtCodes 54 = .ok (.getfield 10, 3) := by decide +kernel
theorem dX11_isSameAtCodes_57 : decode cX11_isSameAtCodes 57 = .ok (.iload_n 2, 1) := by decide +kernel
theorem dX11_isSameAtCodes_58 : decode cX11_isSameAtCodes 58 = .ok (.invokevirtual 162, 3) := by decide +kernel
theorem dX11_isSameAtCodes_61 : decode cX11_isSameAtCodes 61 = .ok (.aload_n 0, 1) := by decide +kernel
theorem dX11_isSameAtCodes_62 : decode cX11_isSameAtCodes 62 = .ok (.getfield 19, 3) := by decide +kernel
theorem dX11_isSameAtCodes_65 : decode cX11_isSameAtCodes 65 = .ok (.getfield 152, 3) := by decide +kernel
theorem dX11_isSameAtCodes_68 : decode cX11_isSameAtCodes 68 = .ok (.aload_n 0, 1) := by decide +kernel
theorem dX11_isSameAtCodes_69 : decode cX11_isSameAtCodes 69 = .ok (.getfield 23, 3) := by decide +kernel
theorem dX11_isSameAtCodes_72 : decode cX11_isSameAtCodes 72 = .ok (.getfield 152, 3) := by decide +kernel
theorem dX11_isSameAtCodes_75 : decode cX11_isSameAtCodes 75 = .ok (.invokevirtual 416, 3) := by decide +kernel
theorem dX11_isSameAtCodes_78 : decode cX11_isSameAtCodes 78 = .ok (.ifCond .eq 11, 3) := by decide +kernel
theorem dX11_isSameAtCodes_81 : decode cX11_isSameAtCodes 81 = .ok (.aload_n 0, 1) := by decide +kernel
theorem dX11_isSameAtCodes_82 : decode cX11_isSameAtCodes 82 = .ok (.iload_n 2, 1) := by decide +kernel
theorem dX11_isSameAtCodes_83 : decode cX11_isSameAtCodes 83 = .ok (.invokevirtual 420, 3) := by decide +kernel
theorem dX11_isSameAtCodes_86 : decode cX11_isSameAtCodes 86 = .ok (.ifCond .ne 5, 3) := by decide +kernel
theorem dX11_isSameAtCodes_89 : decode cX11_isSameAtCodes 89 = .ok (.iconst 0, 1) := by decide +kernel
theorem dX11_isSameAtCodes_90 : decode cX11_isSameAtCodes 90 = .ok (.ireturn, 1) := by decide +kernel
theorem dX11_isSameAtCodes_91 : decode cX11_isSameAtCodes 91 = .ok (.iinc 1 1, 3) := by decide +kernel
theorem dX11_isSameAtCodes_94 : decode cX11_isSameAtCodes 94 = .ok (.goto (-85), 3) := by decide +kernel
theorem dX11_isSameAtCodes_97 : decode cX11_isSameAtCodes 97 = .ok (.iconst 1, 1) := by decide +kernel
theorem dX11_isSameAtCodes_98 : decode cX11_isSameAtCodes 98 = .ok (.ireturn, 1) := by decide +kernel
theorem dX11_isSameAtCues_0 : decode cX11_isSameAtCues 0 = .ok (.iconst 0, 1) := by decide +kernel
theorem dX11_isSameAtCues_1 : decode cX11_isSameAtCues 1 = .ok (.istore_n 1, 1) := by decide +kernel
theorem dX11_isSameAtCues_2 : decode cX11_isSameAtCues 2 = .ok (.iload_n 1, 1) := by decide +kernel
theorem dX11_isSameAtCues_3 : decode cX11_isSameAtCues 3 = .ok (.aload_n 0, 1) := by decide +kernel
theorem dX11_isSameAtCues_4 : decode cX11_isSameAtCues 4 = .ok (.getfield 29, 3) := by decide +kernel
theorem dX11_isSameAtCues_7 : decode cX11_isSameAtCues 7 = .ok (.getfield 266, 3) := by decide +kernel
theorem dX11_isSameAtCues_10 : decode cX11_isSameAtCues 10 = .ok (.if_icmp .ge 44, 3) := by decide +kernel
theorem dX11_isSameAtCues_13 : decode cX11_isSameAtCues 13 = .ok (.aload_n 0, 1) := by decide +kernel
theorem dX11_isSameAtCues_14 : decode cX11_isSameAtCues 14 = .ok (.getfield 29, 3) := by decide +kernel
theorem dX11_isSameAtCues_17 : decode cX11_isSameAtCues 17 = .ok (.iload_n 1, 1) := by decide +kernel
theorem dX11_isSameAtCues_18 : decode cX11_isSameAtCues 18 = .ok (.invokevirtual 267, 3) := by decide +kernel
theorem dX11_isSameAtCues_21 : decode cX11_isSameAtCues 21 = .ok (.astore_n 2, 1) := by decide +kernel
theorem dX11_isSameAtCues_22 : decode cX11_isSameAtCues 22 = .ok (.aload_n 0, 1) := by decide +kernel
theorem dX11_isSameAtCues_23 : decode cX11_isSameAtCues 23 = .ok (.aload_n 2, 1) := by decide +kernel
theorem dX11_isSameAtCues_24 : decode cX11_isSameAtCues 24 = .ok (.getfield 221, 3) := by decide +kernel
theorem dX11_isSameAtCues_27 : decode cX11_isSameAtCues 27 = .ok (.invokevirtual 420, 3) := by decide +kernel
theorem dX11_isSameAtCues_30 : decode cX11_isSameAtCues 30 = .ok (.ifCond .eq 16, 3) := by decide +kernel
theorem dX11_isSameAtCues_33 : decode cX11_isSameAtCues 33 = .ok (.aload_n 0, 1) := by decide +kernel
theorem dX11_isSameAtCues_34 : decode cX11_isSameAtCues 34 = .ok (.aload_n 2, 1) := by decide +kernel
theorem dX11_isSameAtCues_35 : decode cX11_isSameAtCues 35 = .ok (.getfield 224, 3) := by decide +kernel
theorem dX11_isSameAtCues_38 : decode cX11_isSameAtCues 38 = .ok (.iconst 1, 1) := by decide +kernel
theorem dX11_isSameAtCues_39 : decode cX11_isSameAtCues 39 = .ok (.isub, 1) := by decide +kernel
theorem dX11_isSameAtCues_40 : decode cX11_isSameAtCues 40 = .ok (.invokevirtual 420, 3) := by decide +kernel
theorem dX11_isSameAtCues_43 : decode cX11_isSameAtCues 43 = .ok (.ifCond .ne 5, 3) := by decide +kernel
theorem dX11_isSameAtCues_46 : decode cX11_isSameAtCues 46 = .ok (.iconst 0, 1) := by decide +kernel
theorem dX11_isSameAtCues_47 : decode cX11_isSameAtCues 47 = .ok (.ireturn, 1) := by decide +kernel
theorem dX11_isSameAtCues_48 : decode cX11_isSameAtCues 48 = .ok (.iinc 1 1, 3) := by decide +kernel
theorem dX11_isSameAtCues_51 : decode cX11_isSameAtCues 51 = .ok (.goto (-49), 3) := by decide +kernel
theorem dX11_isSameAtCues_54 : decode cX11_isSameAtCues 54 = .ok (.iconst 1, 1) := by decide +kernel
theorem dX11_isSameAtCues_55 : decode cX11_isSameAtCues 55 = .ok (.ireturn, 1) := by decide +kernel
theorem dX11_hasSameCuesAt_0 : decode cX11_hasSameCuesAt 0 = .ok (.aload_n 0, 1) := by decide +kernel
theorem dX11_hasSameCuesAt_1 : decode cX11_hasSameCuesAt 1 = .ok (.getfield 29, 3) := by decide +kernel
theorem dX11_hasSameCuesAt_4 : decode cX11_hasSameCuesAt 4 = .ok (.iload_n 1, 1) := by decide +kernel
theorem dX11_hasSameCuesAt_5 : decode cX11_hasSameCuesAt 5 = .ok (.invokevirtual 245, 3) := by decide +kernel
theorem dX11_hasSameCuesAt_8 : decode cX11_hasSameCuesAt 8 = .ok (.iconst 0, 1) := by decide +kernel
theorem dX11_hasSameCuesAt_9 : decode cX11_hasSameCuesAt 9 = .ok (.istore_n 2, 1) := by decide +kernel
theorem dX11_hasSameCuesAt_10 : decode cX11_hasSameCuesAt 10 = .ok (.iload_n 2, 1) := by decide +kernel
theorem dX11_hasSameCuesAt_11 : decode cX11_hasSameCuesAt 11 = .ok (.bipush 8, 2) := by decide +kernel
theorem dX11_hasSameCuesAt_13 : decode cX11_hasSameCuesAt 13 = .ok (.if_icmp .ge 31, 3) := by decide +kernel
theorem dX11_hasSameCuesAt_16 : decode cX11_hasSameCuesAt 16 = .ok (.aload_n 0, 1) := by decide +kernel
theorem dX11_hasSameCuesAt_17 : decode cX11_hasSameCuesAt 17 = .ok (.getfield 29, 3) := by decide +kernel
theorem dX11_hasSameCuesAt_20 : decode cX11_hasSameCuesAt 20 = .ok (.iload_n 1, 1) := by decide +kernel
theorem dX11_hasSameCuesAt_21 : decode cX11_hasSameCuesAt 21 = .ok (.iload_n 2, 1) := by decide +kernel
theorem dX11_hasSameCuesAt_22 : decode cX11_hasSameCuesAt 22 = .ok (.invokevirtual 242, 3) := by decide +kernel
theorem dX11_hasSameCuesAt_25 : decode cX11_hasSameCuesAt 25 = .ok (.aload_n 0, 1) := by decide +kernel
theorem dX11_hasSameCuesAt_26 : decode cX11_hasSameCuesAt 26 = .ok (.getfield 29, 3) := by decide +kernel
theorem dX11_hasSameCuesAt_29 : decode cX11_hasSameCuesAt 29 = .ok (.iload_n 2, 1) := by decide +kernel
theorem dX11_hasSameCuesAt_30 : decode cX11_hasSameCuesAt 30 = .ok (.invokevirtual 248, 3) := by decide +kernel
theorem dX11_hasSameCuesAt_33 : decode cX11_hasSameCuesAt 33 = .ok (.if_icmp .eq 5, 3) := by decide +kernel
theorem dX11_hasSameCuesAt_36 : decode cX11_hasSameCuesAt 36 = .ok (.iconst 0, 1) := by decide +kernel
theorem dX11_hasSameCuesAt_37 : decode cX11_hasSameCuesAt 37 = .ok (.ireturn, 1) := by decide +kernel
theorem dX11_hasSameCuesAt_38 : decode cX11_hasSameCuesAt 38 = .ok (.iinc 2 1, 3) := by decide +kernel
theorem dX11_hasSameCuesAt_41 : decode cX11_hasSameCuesAt 41 = .ok (.goto (-31), 3) := by decide +kernel
theorem dX11_hasSameCuesAt_44 : decode cX11_hasSameCuesAt 44 = .ok (.iconst 1, 1) := by decide +kernel
theorem dX11_hasSameCuesAt_45 : decode cX11_hasSameCuesAt 45 = .ok (.ireturn, 1) := by decide +kernel
theorem dX11_scaled_0 : decode cX11_scaled 0 = .ok (.lload 4, 2) := by decide +kernel
theorem dX11_scaled_2 : decode cX11_scaled 2 = .ok (.lconst 0, 1) := by decide +kernel
theorem dX11_scaled_3 : decode cX11_scaled 3 = .ok (.lcmp, 1) := by decide +kernel
theorem dX11_scaled_4 : decode cX11_scaled 4 = .ok (.ifCond .le 12, 3) := by decide +kernel
theorem dX11_scaled_7 : decode cX11_scaled 7 = .ok (.lload_n 0, 1) := by decide +kernel
theorem dX11_scaled_8 : decode cX11_scaled 8 = .ok (.lload_n 2, 1) := by decide +kernel
theorem dX11_scaled_9 : decode cX11_scaled 9 = .ok (.lmul, 1) := by decide +kernel
theorem dX11_scaled_10 : decode cX11_scaled 10 = .ok (.lload 4, 2) := by decide +kernel
theorem dX11_scaled_12 : decode cX11_scaled 12 = .ok (.ldiv, 1) := by decide +kernel
theorem dX11_scaled_13 : decode cX11_scaled 13 = .ok (.goto 4, 3) := by decide +kernel
theorem dX11_scaled_16 : decode cX11_scaled 16 = .ok (.lconst 0, 1) := by decide +kernel
theorem dX11_scaled_17 : decode cX11_scaled 17 = .ok (.lreturn, 1) := by decide +kernel
theorem dX11_scaleAll_0 : decode cX11_scaleAll 0 = .ok (.iconst 0, 1) := by decide +kernel
theorem dX11_scaleAll_1 : decode cX11_scaleAll 1 = .ok (.istore 4, 2) := by decide +kernel
theorem dX11_scaleAll_3 : decode cX11_scaleAll 3 = .ok (.iload 4, 2) := by decide +kernel
theorem dX11_scaleAll_5 : decode cX11_scaleAll 5 = .ok (.iload_n 1, 1) := by decide +kernel
theorem dX11_scaleAll_6 : decode cX11_scaleAll 6 = .ok (.if_icmp .ge 33, 3) := by decide +kernel
theorem dX11_scaleAll_9 : decode cX11_scaleAll 9 = .ok (.iload 4, 2) := by decide +kernel
theorem dX11_scaleAll_11 : decode cX11_scaleAll 11 = .ok (.aload_n 0, 1) := by decide +kernel
theorem dX11_scaleAll_12 : decode cX11_scaleAll 12 = .ok (.arraylength, 1) := by decide +kernel
theorem dX11_scaleAll_13 : decode cX11_scaleAll 13 = .ok (.if_icmp .ge 26, 3) := by decide +kernel
theorem dX11_scaleAll_16 : decode cX11_scaleAll 16 = .ok (.aload_n 0, 1) := by decide +kernel
theorem dX11_scaleAll_17 : decode cX11_scaleAll 17 = .ok (.iload 4, 2) := by decide +kernel
theorem dX11_scaleAll_19 : decode cX11_scaleAll 19 = .ok (.aload_n 0, 1) := by decide +kernel
theorem dX11_scaleAll_20 : decode cX11_scaleAll 20 = .ok (.iload 4, 2) := by decide +kernel
theorem dX11_scaleAll_22 : decode cX11_scaleAll 22 = .ok (.iaload, 1) := by decide +kernel
theorem dX11_scaleAll_23 : decode cX11_scaleAll 23 = .ok (.i2l, 1) := by decide +kernel
theorem dX11_scaleAll_24 : decode cX11_scaleAll 24 = .ok (.iload_n 2, 1) := by decide +kernel
theorem dX11_scaleAll_25 : decode cX11_scaleAll 25 = .ok (.i2l, 1) := by decide +kernel
theorem dX11_scaleAll_26 : decode cX11_scaleAll 26 = .ok (.iload_n 3, 1) := by decide +kernel
theorem dX11_scaleAll_27 : decode cX11_scaleAll 27 = .ok (.i2l, 1) := by decide +kernel
theorem dX11_scaleAll_28 : decode cX11_scaleAll 28 = .ok (.invokestatic 302, 3) := by decide +kernel
theorem dX11_scaleAll_31 : decode cX11_scaleAll 31 = .ok (.l2i, 1) := by decide +kernel
theorem dX11_scaleAll_32 : decode cX11_scaleAll 32 = .ok (.iastore, 1) := by decide +kernel
theorem dX11_scaleAll_33 : decode cX11_scaleAll 33 = .ok (.iinc 4 1, 3) := by decide +kernel
theorem dX11_scaleAll_36 : decode cX11_scaleAll 36 = .ok (.goto (-33), 3) := by decide +kernel
theorem dX11_scaleAll_39 : decode cX11_scaleAll 39 = .ok (.return_, 1) := by decide +kernel
theorem dX11_clamped_0 : decode cX11_clamped 0 = .ok (.lconst 0, 1) := by decide +kernel
theorem dX11_clamped_1 : decode cX11_clamped 1 = .ok (.lload_n 0, 1) := by decide +kernel
theorem dX11_clamped_2 : decode cX11_clamped 2 = .ok (.iload_n 2, 1) := by decide +kernel
theorem dX11_clamped_3 : decode cX11_clamped 3 = .ok (.i2l, 1) := by decide +kernel
theorem dX11_clamped_4 : decode cX11_clamped 4 = .ok (.invokestatic 306, 3) := by decide +kernel
theorem dX11_clamped_7 : decode cX11_clamped 7 = .ok (.invokestatic 309, 3) := by decide +kernel
theorem dX11_clamped_10 : decode cX11_clamped 10 = .ok (.l2i, 1) := by decide +kernel
theorem dX11_clamped_11 : decode cX11_clamped 11 = .ok (.ireturn, 1) := by decide +kernel
theorem dX11_greatestFrame_0 : decode cX11_greatestFrame 0 = .ok (.iconst 0, 1) := by decide +kernel
theorem dX11_greatestFrame_1 : decode cX11_greatestFrame 1 = .ok (.istore_n 1, 1) := by decide +kernel
theorem dX11_greatestFrame_2 : decode cX11_greatestFrame 2 = .ok (.iconst 0, 1) := by decide +kernel
theorem dX11_greatestFrame_3 : decode cX11_greatestFrame 3 = .ok (.istore_n 2, 1) := by decide +kernel
theorem dX11_greatestFrame_4 : decode cX11_greatestFrame 4 = .ok (.iload_n 2, 1) := by decide +kernel
theorem dX11_greatestFrame_5 : decode cX11_greatestFrame 5 = .ok (.bipush 24, 2) := by decide +kernel
theorem dX11_greatestFrame_7 : decode cX11_greatestFrame 7 = .ok (.if_icmp .ge 35, 3) := by decide +kernel
theorem dX11_greatestFrame_10 : decode cX11_greatestFrame 10 = .ok (.aload_n 0, 1) := by decide +kernel
theorem dX11_greatestFrame_11 : decode cX11_greatestFrame 11 = .ok (.getfield 37, 3) := by decide +kernel
theorem dX11_greatestFrame_14 : decode cX11_greatestFrame 14 = .ok (.iload_n 2, 1) := by decide +kernel
theorem dX11_greatestFrame_15 : decode cX11_greatestFrame 15 = .ok (.aaload, 1) := by decide +kernel
theorem dX11_greatestFrame_16 : decode cX11_greatestFrame 16 = .ok (.getfield 218, 3) := by decide +kernel
theorem dX11_greatestFrame_19 : decode cX11_greatestFrame 19 = .ok (.ifCond .eq 17, 3) := by decide +kernel
theorem dX11_greatestFrame_22 : decode cX11_greatestFrame 22 = .ok (.iload_n 1, 1) := by decide +kernel
theorem dX11_greatestFrame_23 : decode cX11_greatestFrame 23 = .ok (.aload_n 0, 1) := by decide +kernel
theorem dX11_greatestFrame_24 : decode cX11_greatestFrame 24 = .ok (.getfield 37, 3) := by decide +kernel
theorem dX11_greatestFrame_27 : decode cX11_greatestFrame 27 = .ok (.iload_n 2, 1) := by decide +kernel
theorem dX11_greatestFrame_28 : decode cX11_greatestFrame 28 = .ok (.aaload, 1) := by decide +kernel
theorem dX11_greatestFrame_29 : decode cX11_greatestFrame 29 = .ok (.getfield 224, 3) := by decide +kernel
theorem dX11_greatestFrame_32 : decode cX11_greatestFrame 32 = .ok (.invokestatic 270, 3) := by decide +kernel
theorem dX11_greatestFrame_35 : decode cX11_greatestFrame 35 = .ok (.istore_n 1, 1) := by decide +kernel
theorem dX11_greatestFrame_36 : decode cX11_greatestFrame 36 = .ok (.iinc 2 1, 3) := by decide +kernel
theorem dX11_greatestFrame_39 : decode cX11_greatestFrame 39 = .ok (.goto (-35), 3) := by decide +kernel
theorem dX11_greatestFrame_42 : decode cX11_greatestFrame 42 = .ok (.iconst 0, 1) := by decide +kernel
theorem dX11_greatestFrame_43 : decode cX11_greatestFrame 43 = .ok (.istore_n 2, 1) := by decide +kernel
theorem dX11_greatestFrame_44 : decode cX11_greatestFrame 44 = .ok (.iload_n 2, 1) := by decide +kernel
theorem dX11_greatestFrame_45 : decode cX11_greatestFrame 45 = .ok (.aload_n 0, 1) := by decide +kernel
theorem dX11_greatestFrame_46 : decode cX11_greatestFrame 46 = .ok (.getfield 43, 3) := by decide +kernel
theorem dX11_greatestFrame_49 : decode cX11_greatestFrame 49 = .ok (.getfield 251, 3) := by decide +kernel
theorem dX11_greatestFrame_52 : decode cX11_greatestFrame 52 = .ok (.if_icmp .ge 29, 3) := by decide +kernel
theorem dX11_greatestFrame_55 : decode cX11_greatestFrame 55 = .ok (.iload_n 2, 1) := by decide +kernel
theorem dX11_greatestFrame_56 : decode cX11_greatestFrame 56 = .ok (.bipush 20, 2) := by decide +kernel
theorem dX11_greatestFrame_58 : decode cX11_greatestFrame 58 = .ok (.if_icmp .ge 23, 3) := by decide +kernel
theorem dX11_greatestFrame_61 : decode cX11_greatestFrame 61 = .ok (.iload_n 1, 1) := by decide +kernel
theorem dX11_greatestFrame_62 : decode cX11_greatestFrame 62 = .ok (.aload_n 0, 1) := by decide +kernel
theorem dX11_greatestFrame_63 : decode cX11_greatestFrame 63 = .ok (.getfield 43, 3) := by decide +kernel
theorem dX11_greatestFrame_66 : decode cX11_greatestFrame 66 = .ok (.getfield 319, 3) := by decide +kernel
theorem dX11_greatestFrame_69 : decode cX11_greatestFrame 69 = .ok (.iload_n 2, 1) := by decide +kernel
theorem dX11_greatestFrame_70 : decode cX11_greatestFrame 70 = .ok (.iaload, 1) := by decide +kernel
theorem dX11_greatestFrame_71 : decode cX11_greatestFrame 71 = .ok (.invokestatic 270, 3) := by decide +kernel
theorem dX11_greatestFrame_74 : decode cX11_greatestFrame 74 = .ok (.istore_n 1, 1) := by decide +kernel
theorem dX11_greatestFrame_75 : decode cX11_greatestFrame 75 = .ok (.iinc 2 1, 3) := by decide +kernel
theorem dX11_greatestFrame_78 : decode cX11_greatestFrame 78 = .ok (.goto (-34), 3) := by decide +kernel
theorem dX11_greatestFrame_81 : decode cX11_greatestFrame 81 = .ok (.iconst 0, 1) := by decide +kernel
theorem dX11_greatestFrame_82 : decode cX11_greatestFrame 82 = .ok (.istore_n 2, 1) := by decide +kernel
theorem dX11_greatestFrame_83 : decode cX11_greatestFrame 83 = .ok (.iload_n 2, 1) := by decide +kernel
theorem dX11_greatestFrame_84 : decode cX11_greatestFrame 84 = .ok (.aload_n 0, 1) := by decide +kernel
theorem dX11_greatestFrame_85 : decode cX11_greatestFrame 85 = .ok (.getfield 64, 3) := by decide +kernel
theorem dX11_greatestFrame_88 : decode cX11_greatestFrame 88 = .ok (.getfield 327, 3) := by decide +kernel
theorem dX11_greatestFrame_91 : decode cX11_greatestFrame 91 = .ok (.if_icmp .ge 29, 3) := by decide +kernel
theorem dX11_greatestFrame_94 : decode cX11_greatestFrame 94 = .ok (.iload_n 2, 1) := by decide +kernel
theorem dX11_greatestFrame_95 : decode cX11_greatestFrame 95 = .ok (.bipush 30, 2) := by decide +kernel
theorem dX11_greatestFrame_97 : decode cX11_greatestFrame 97 = .ok (.if_icmp .ge 23, 3) := by decide +kernel
theorem dX11_greatestFrame_100 : decode cX11_greatestFrame 100 = .ok (.iload_n 1, 1) := by decide +kernel
theorem dX11_greatestFrame_101 : decode cX11_greatestFrame 101 = .ok (.aload_n 0, 1) := by decide +kernel
theorem dX11_greatestFrame_102 : decode cX11_greatestFrame 102 = .ok (.getfield 64, 3) := by decide +kernel
theorem dX11_greatestFrame_105 : decode cX11_greatestFrame 105 = .ok (.getfield 326, 3) := by decide +kernel
theorem dX11_greatestFrame_108 : decode cX11_greatestFrame 108 = .ok (.iload_n 2, 1) := by decide +kernel
theorem dX11_greatestFrame_109 : decode cX11_greatestFrame 109 = .ok (.iaload, 1) := by decide +kernel
theorem dX11_greatestFrame_110 : decode cX11_greatestFrame 110 = .ok (.invokestatic 270, 3) := by decide +kernel
theorem dX11_greatestFrame_113 : decode cX11_greatestFrame 113 = .ok (.istore_n 1, 1) := by decide +kernel
theorem dX11_greatestFrame_114 : decode cX11_greatestFrame 114 = .ok (.iinc 2 1, 3) := by decide +kernel
theorem dX11_greatestFrame_117 : decode cX11_greatestFrame 117 = .ok (.goto (-34), 3) := by decide +kernel
theorem dX11_greatestFrame_120 : decode cX11_greatestFrame 120 = .ok (.iload_n 1, 1) := by decide +kernel
theorem dX11_greatestFrame_121 : decode cX11_greatestFrame 121 = .ok (.ireturn, 1) := by decide +kernel
theorem dJ9_abs_0f7a4_0 : decode cJ9_abs_0f7a4 0 = .ok (.iload_n 0, 1) := by decide +kernel
theorem dJ9_abs_0f7a4_1 : decode cJ9_abs_0f7a4 1 = .ok (.ifCond .ge 8, 3) := by decide +kernel
theorem dJ9_abs_0f7a4_4 : decode cJ9_abs_0f7a4 4 = .ok (.iload_n 0, 1) := by decide +kernel
theorem dJ9_abs_0f7a4_5 : decode cJ9_abs_0f7a4 5 = .ok (.ineg, 1) := by decide +kernel
theorem dJ9_abs_0f7a4_6 : decode cJ9_abs_0f7a4 6 = .ok (.goto 4, 3) := by decide +kernel
theorem dJ9_abs_0f7a4_9 : decode cJ9_abs_0f7a4 9 = .ok (.iload_n 0, 1) := by decide +kernel
theorem dJ9_abs_0f7a4_10 : decode cJ9_abs_0f7a4 10 = .ok (.ireturn, 1) := by decide +kernel
theorem dJ9_max_7cf53_0 : decode cJ9_max_7cf53 0 = .ok (.iload_n 0, 1) := by decide +kernel
theorem dJ9_max_7cf53_1 : decode cJ9_max_7cf53 1 = .ok (.iload_n 1, 1) := by decide +kernel
theorem dJ9_max_7cf53_2 : decode cJ9_max_7cf53 2 = .ok (.if_icmp .lt 7, 3) := by decide +kernel
theorem dJ9_max_7cf53_5 : decode cJ9_max_7cf53 5 = .ok (.iload_n 0, 1) := by decide +kernel
theorem dJ9_max_7cf53_6 : decode cJ9_max_7cf53 6 = .ok (.goto 4, 3) := by decide +kernel
theorem dJ9_max_7cf53_9 : decode cJ9_max_7cf53 9 = .ok (.iload_n 1, 1) := by decide +kernel
theorem dJ9_max_7cf53_10 : decode cJ9_max_7cf53 10 = .ok (.ireturn, 1) := by decide +kernel
theorem dJ9_max_f86c9_0 : decode cJ9_max_f86c9 0 = .ok (.lload_n 0, 1) := by decide +kernel
theorem dJ9_max_f86c9_1 : decode cJ9_max_f86c9 1 = .ok (.lload_n 2, 1) := by decide +kernel
theorem dJ9_max_f86c9_2 : decode cJ9_max_f86c9 2 = .ok (.lcmp, 1) := by decide +kernel
theorem dJ9_max_f86c9_3 : decode cJ9_max_f86c9 3 = .ok (.ifCond .lt 7, 3) := by decide +kernel
theorem dJ9_max_f86c9_6 : decode cJ9_max_f86c9 6 = .ok (.lload_n 0, 1) := by decide +kernel
theorem dJ9_max_f86c9_7 : decode cJ9_max_f86c9 7 = .ok (.goto 4, 3) := by decide +kernel
theorem dJ9_max_f86c9_10 : decode cJ9_max_f86c9 10 = .ok (.lload_n 2, 1) := by decide +kernel
theorem dJ9_max_f86c9_11 : decode cJ9_max_f86c9 11 = .ok (.lreturn, 1) := by decide +kernel
theorem dJ9_min_7cf53_0 : decode cJ9_min_7cf53 0 = .ok (.iload_n 0, 1) := by decide +kernel
theorem dJ9_min_7cf53_1 : decode cJ9_min_7cf53 1 = .ok (.iload_n 1, 1) := by decide +kernel
theorem dJ9_min_7cf53_2 : decode cJ9_min_7cf53 2 = .ok (.if_icmp .gt 7, 3) := by decide +kernel
theorem dJ9_min_7cf53_5 : decode cJ9_min_7cf53 5 = .ok (.iload_n 0, 1) := by decide +kernel
theorem dJ9_min_7cf53_6 : decode cJ9_min_7cf53 6 = .ok (.goto 4, 3) := by decide +kernel
theorem dJ9_min_7cf53_9 : decode cJ9_min_7cf53 9 = .ok (.iload_n 1, 1) := by decide +kernel
theorem dJ9_min_7cf53_10 : decode cJ9_min_7cf53 10 = .ok (.ireturn, 1) := by decide +kernel
theorem dJ9_min_f86c9_0 : decode cJ9_min_f86c9 0 = .ok (.lload_n 0, 1) := by decide +kernel
theorem dJ9_min_f86c9_1 : decode cJ9_min_f86c9 1 = .ok (.lload_n 2, 1) := by decide +kernel
theorem dJ9_min_f86c9_2 : decode cJ9_min_f86c9 2 = .ok (.lcmp, 1) := by decide +kernel
theorem dJ9_min_f86c9_3 : decode cJ9_min_f86c9 3 = .ok (.ifCond .gt 7, 3) := by decide +kernel
theorem dJ9_min_f86c9_6 : decode cJ9_min_f86c9 6 = .ok (.lload_n 0, 1) := by decide +kernel
theorem dJ9_min_f86c9_7 : decode cJ9_min_f86c9 7 = .ok (.goto 4, 3) := by decide +kernel
theorem dJ9_min_f86c9_10 : decode cJ9_min_f86c9 10 = .ok (.lload_n 2, 1) := by decide +kernel
theorem dJ9_min_f86c9_11 : decode cJ9_min_f86c9 11 = .ok (.lreturn, 1) := by decide +kernel
theorem dJ7_fill_53178_0 : decode cJ7_fill_53178 0 = .ok (.iconst 0, 1) := by decide +kernel
theorem dJ7_fill_53178_1 : decode cJ7_fill_53178 1 = .ok (.istore_n 2, 1) := by decide +kernel
theorem dJ7_fill_53178_2 : decode cJ7_fill_53178 2 = .ok (.aload_n 0, 1) := by decide +kernel
theorem dJ7_fill_53178_3 : decode cJ7_fill_53178 3 = .ok (.arraylength, 1) := by decide +kernel
theorem dJ7_fill_53178_4 : decode cJ7_fill_53178 4 = .ok (.istore_n 3, 1) := by decide +kernel
theorem dJ7_fill_53178_5 : decode cJ7_fill_53178 5 = .ok (.iload_n 2, 1) := by decide +kernel
theorem dJ7_fill_53178_6 : decode cJ7_fill_53178 6 = .ok (.iload_n 3, 1) := by decide +kernel
theorem dJ7_fill_53178_7 : decode cJ7_fill_53178 7 = .ok (.if_icmp .ge 13, 3) := by decide +kernel
theorem dJ7_fill_53178_10 : decode cJ7_fill_53178 10 = .ok (.aload_n 0, 1) := by decide +kernel
theorem dJ7_fill_53178_11 : decode cJ7_fill_53178 11 = .ok (.iload_n 2, 1) := by decide +kernel
theorem dJ7_fill_53178_12 : decode cJ7_fill_53178 12 = .ok (.iload_n 1, 1) := by decide +kernel
theorem dJ7_fill_53178_13 : decode cJ7_fill_53178 13 = .ok (.iastore, 1) := by decide +kernel
theorem dJ7_fill_53178_14 : decode cJ7_fill_53178 14 = .ok (.iinc 2 1, 3) := by decide +kernel
theorem dJ7_fill_53178_17 : decode cJ7_fill_53178 17 = .ok (.goto (-12), 3) := by decide +kernel
theorem dJ7_fill_53178_20 : decode cJ7_fill_53178 20 = .ok (.return_, 1) := by decide +kernel

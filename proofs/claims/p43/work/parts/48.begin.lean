theorem yS0_0 {x : Nat} {y : Int} (h : 32 ≤ x ∧ y ≠ 9) : yS0 x y = 0 := by
  unfold yS0
  rw [if_neg (by omega), if_neg (by omega), if_neg (by omega), if_neg (by omega), if_neg (by omega)]
theorem yS0_rg : yRg yS0 := fun a b => by
  unfold yS0
  repeat' split
  all_goals omega
theorem yS0_b2 : yB2 yS0 0 (fun _ => 0) (fun _ => 0) (fun _ => 0) := by
  have gc : ∀ k y : Int, y ≠ 9 → yS0 (cu k) y = 0 := fun k y h => yS0_0 (by unfold cu; omega)
  refine ⟨yS0_rg, by decide, fun k a b => Or.inr ⟨a, gc k 0 (by decide)⟩, fun r a b => ?_, fun i a b => ?_, fun i j a b c d => ?_, fun i a b => absurd b (by omega), by decide, by decide, by decide, by decide, by decide, by decide⟩
  · refine ⟨?_, ?_, ?_⟩
    · unfold yS0; rw [if_neg (by decide), if_neg (by decide), if_neg (by decide), if_neg (by omega), if_neg (by omega)]
    · unfold yS0; rw [if_neg (by decide), if_pos rfl]
    · unfold yS0; rw [if_neg (by decide), if_neg (by decide), if_pos rfl]
  · rw [gc i 1 (by decide), gc i 3 (by decide), gc i 6 (by decide)]; omega
  · unfold yS0
    rw [if_neg (by unfold cw; omega), if_neg (by unfold cw; omega), if_neg (by unfold cw; omega), if_neg (by unfold cw; omega), if_neg (by unfold cw; omega)]
    omega
section Y48
variable {L : Launch} {O : xWd}
theorem L_refs (hL : L.stackTraces = false) {σ : ySg} (hLb : O.2.2.2.2.1 < 2147483648)  {X : List xOb} (hA : yHs ([]) X) {c : Nat} (hXl : X.length ≤ c) (hc : c ≤ 10000) (hB : yB2 σ 0 (fun _ => 0) (fun _ => 0) (fun _ => 0)) : xWP L O mL_law (xR 13 828823 6605674) yKL 71 [(0, .ref xBig), (1, .ref 0)] [] (Wd σ X) c (6000 + 24 * c) := by
  refine xw_aload_n 1 dL_law_71 rfl ?_
  refine xz_iconst dL_law_72 ?_
  refine xz_iconst dL_law_73 ?_
  refine xz_iconst dL_law_74 ?_
  refine yv_new (N := 4) (L := [.int (iI 0), .int (iI 0), .int (iI 0), .int (iI 0)]) hXl (by omega) dL_law_75 rfl (by decide) rfl (by omega) (by omega) ?_
  refine xw_dup dL_law_77 rfl ?_
  refine xz_iconst dL_law_78 ?_
  refine xz_iconst dL_law_79 ?_
  refine yv_put (k := 0) (L2 := [.int (iI 0), .int (iI 0), .int (iI 0), .int (iI 0)]) dL_law_80 rfl (by show _ < 4; decide) (by show 4 ≤ _; decide) rfl ?_
  refine xw_dup dL_law_81 rfl ?_
  refine xz_iconst dL_law_82 ?_
  refine xz_iconst dL_law_83 ?_
  refine yv_put (k := 1) (L2 := [.int (iI 0), .int (iI 1), .int (iI 0), .int (iI 0)]) dL_law_84 rfl (by show _ < 4; decide) (by show 4 ≤ _; decide) rfl ?_
  refine xw_dup dL_law_85 rfl ?_
  refine xz_iconst dL_law_86 ?_
  refine xz_iconst dL_law_87 ?_
  refine yv_put (k := 2) (L2 := [.int (iI 0), .int (iI 1), .int (iI 0), .int (iI 0)]) dL_law_88 rfl (by show _ < 4; decide) (by show 4 ≤ _; decide) rfl ?_
  refine xw_dup dL_law_89 rfl ?_
  refine xz_iconst dL_law_90 ?_
  refine xz_iconst dL_law_91 ?_
  refine yv_put (k := 3) (L2 := [.int (iI 0), .int (iI 1), .int (iI 0), .int (iI 0)]) dL_law_92 rfl (by show _ < 4; decide) (by show 4 ≤ _; decide) rfl ?_
  refine yc_S (M' := mL_stamp) (d := 8) (c := 1) (s := 24) (As := [.ref 0, .int (iI 1), .int (iI 1), .ref (193 + X.length)]) (st := []) (v0 := some (.int (iI (-1002)))) (G2 := Wd σ ((X ++ [(64, [.int (iI 0), .int (iI 1), .int (iI 0), .int (iI 0)])]) ++ [(127, [])])) dL_law_93 okL_stamp (Or.inl w_1126) rfl (Nat.le_of_ble_eq_true rfl) (by decide) (by decide) (by omega) (by omega) rfl rfl (a_frameOf (d := 1) (c := 1) (s := 6) hL (by decide) (by decide) (by decide) (by omega) yv_last (r_frameOf_0_1_0_0_1 hL (yv_len hXl (by omega))) (fun w9 G9 h => by cases h.1) (fun E9 G9 h => ⟨Sum.inr.inj h.1, rfl, h.2⟩)) ?_
  refine yl_g (m2 := c + 2) (Y := [(64, [.int (iI 0), .int (iI 1), .int (iI 0), .int (iI 0)]), (127, [])]) hA hXl (by simp only [List.append_assoc, List.cons_append, List.nil_append]) (by show _ + 2 ≤ _; omega) (fun X hA hXl => ?_)
  refine xw_eq (pc2 := 96) rfl rfl rfl rfl (xw_wid (c2 := c + 2) (n2 := 6000 + 24 * c + 28) (by omega) (by omega) ?_)
  refine xz_sipush dL_law_96 (by omega) ?_
  refine xz_icmp_ne (tgt := 431) dL_law_99 (by decide) (by omega) (by omega) (fun c1 => ?_) (fun c1 => ?_)
  · exact absurd rfl c1
  · refine xw_aload_n 1 dL_law_102 rfl ?_
    refine xz_iconst dL_law_103 ?_
    refine xz_iconst dL_law_104 ?_
    refine xz_iconst dL_law_105 ?_
    refine yv_new (N := 4) (L := [.int (iI 0), .int (iI 0), .int (iI 0), .int (iI 0)]) hXl (by omega) dL_law_106 rfl (by decide) rfl (by omega) (by omega) ?_
    refine xw_dup dL_law_108 rfl ?_
    refine xz_iconst dL_law_109 ?_
    refine xz_iconst dL_law_110 ?_
    refine yv_put (k := 0) (L2 := [.int (iI 0), .int (iI 0), .int (iI 0), .int (iI 0)]) dL_law_111 rfl (by show _ < 4; decide) (by show 4 ≤ _; decide) rfl ?_
    refine xw_dup dL_law_112 rfl ?_
    refine xz_iconst dL_law_113 ?_
    refine xz_bipush dL_law_114 (by decide) ?_
    refine yv_put (k := 1) (L2 := [.int (iI 0), .int (iI 9), .int (iI 0), .int (iI 0)]) dL_law_116 rfl (by show _ < 4; decide) (by show 4 ≤ _; decide) rfl ?_
    refine xw_dup dL_law_117 rfl ?_
    refine xz_iconst dL_law_118 ?_
    refine xz_iconst dL_law_119 ?_
    refine yv_put (k := 2) (L2 := [.int (iI 0), .int (iI 9), .int (iI 0), .int (iI 0)]) dL_law_120 rfl (by show _ < 4; decide) (by show 4 ≤ _; decide) rfl ?_
    refine xw_dup dL_law_121 rfl ?_
    refine xz_iconst dL_law_122 ?_
    refine xz_iconst dL_law_123 ?_
    refine yv_put (k := 3) (L2 := [.int (iI 0), .int (iI 9), .int (iI 0), .int (iI 1)]) dL_law_124 rfl (by show _ < 4; decide) (by show 4 ≤ _; decide) rfl ?_
    refine yc_S (M' := mL_stamp) (d := 8) (c := 1) (s := 24) (As := [.ref 0, .int (iI 1), .int (iI 1), .ref (193 + X.length)]) (st := []) (v0 := some (.int (iI (-1002)))) (G2 := Wd σ ((X ++ [(64, [.int (iI 0), .int (iI 9), .int (iI 0), .int (iI 1)])]) ++ [(127, [])])) dL_law_125 okL_stamp (Or.inl w_1126) rfl (Nat.le_of_ble_eq_true rfl) (by decide) (by decide) (by omega) (by omega) rfl rfl (a_frameOf (d := 1) (c := 1) (s := 6) hL (by decide) (by decide) (by decide) (by omega) yv_last (r_frameOf_0_9_0_1_1 hL (yv_len hXl (by omega))) (fun w9 G9 h => by cases h.1) (fun E9 G9 h => ⟨Sum.inr.inj h.1, rfl, h.2⟩)) ?_
    refine yl_g (m2 := c + 4) (Y := [(64, [.int (iI 0), .int (iI 9), .int (iI 0), .int (iI 1)]), (127, [])]) hA hXl (by simp only [List.append_assoc, List.cons_append, List.nil_append]) (by show _ + 2 ≤ _; omega) (fun X hA hXl => ?_)
    refine xw_eq (pc2 := 128) rfl rfl rfl rfl (xw_wid (c2 := c + 4) (n2 := 6000 + 24 * c + 56) (by omega) (by omega) ?_)
    refine xz_sipush dL_law_128 (by omega) ?_
    refine xz_icmp_ne (tgt := 431) dL_law_131 (by decide) (by omega) (by omega) (fun c2 => ?_) (fun c2 => ?_)
    · exact absurd rfl c2
    · refine xw_aload_n 1 dL_law_134 rfl ?_
      refine xz_iconst dL_law_135 ?_
      refine xz_iconst dL_law_136 ?_
      refine xz_iconst dL_law_137 ?_
      refine yv_new (N := 4) (L := [.int (iI 0), .int (iI 0), .int (iI 0), .int (iI 0)]) hXl (by omega) dL_law_138 rfl (by decide) rfl (by omega) (by omega) ?_
      refine xw_dup dL_law_140 rfl ?_
      refine xz_iconst dL_law_141 ?_
      refine xz_iconst dL_law_142 ?_
      refine yv_put (k := 0) (L2 := [.int (iI 0), .int (iI 0), .int (iI 0), .int (iI 0)]) dL_law_143 rfl (by show _ < 4; decide) (by show 4 ≤ _; decide) rfl ?_
      refine xw_dup dL_law_144 rfl ?_
      refine xz_iconst dL_law_145 ?_
      refine xz_bipush dL_law_146 (by decide) ?_
      refine yv_put (k := 1) (L2 := [.int (iI 0), .int (iI 10), .int (iI 0), .int (iI 0)]) dL_law_148 rfl (by show _ < 4; decide) (by show 4 ≤ _; decide) rfl ?_
      refine xw_dup dL_law_149 rfl ?_
      refine xz_iconst dL_law_150 ?_
      refine xz_iconst dL_law_151 ?_
      refine yv_put (k := 2) (L2 := [.int (iI 0), .int (iI 10), .int (iI 0), .int (iI 0)]) dL_law_152 rfl (by show _ < 4; decide) (by show 4 ≤ _; decide) rfl ?_
      refine xw_dup dL_law_153 rfl ?_
      refine xz_iconst dL_law_154 ?_
      refine xz_iconst dL_law_155 ?_
      refine yv_put (k := 3) (L2 := [.int (iI 0), .int (iI 10), .int (iI 0), .int (iI 0)]) dL_law_156 rfl (by show _ < 4; decide) (by show 4 ≤ _; decide) rfl ?_
      refine yc_S (M' := mL_stamp) (d := 8) (c := 1) (s := 24) (As := [.ref 0, .int (iI 1), .int (iI 1), .ref (193 + X.length)]) (st := []) (v0 := some (.int (iI 17982))) (G2 := Wd σ (X ++ [(64, [.int (iI 0), .int (iI 10), .int (iI 0), .int (iI 0)])])) dL_law_157 okL_stamp (Or.inl w_1126) rfl (Nat.le_of_ble_eq_true rfl) (by decide) (by decide) (by omega) (by omega) rfl rfl (a_frameOf (d := 1) (c := 0) (s := 0) hL (by decide) (by decide) (by decide) (by omega) yv_last (g_frameOf_0_10_0_0_1 hL) (fun w9 G9 h => ⟨_, Sum.inl.inj h.1, rfl, h.2⟩) (fun E9 G9 h => by cases h.1)) ?_
      refine yl_g (m2 := c + 6) (Y := [(64, [.int (iI 0), .int (iI 10), .int (iI 0), .int (iI 0)])]) hA hXl (by simp only [List.append_assoc, List.cons_append, List.nil_append]) (by show _ + 1 ≤ _; omega) (fun X hA hXl => ?_)
      refine xw_eq (pc2 := 160) rfl rfl rfl rfl (xw_wid (c2 := c + 6) (n2 := 6000 + 24 * c + 84) (by omega) (by omega) ?_)
      refine xz_if_lt (tgt := 431) dL_law_160 (by decide) (by omega) (fun c3 => ?_) (fun c3 => ?_)
      · exact absurd c3 (by omega)
      · refine xw_aload_n 1 dL_law_163 rfl ?_
        refine xz_iconst dL_law_164 ?_
        refine xz_iconst dL_law_165 ?_
        refine xz_iconst dL_law_166 ?_
        refine yv_new (N := 4) (L := [.int (iI 0), .int (iI 0), .int (iI 0), .int (iI 0)]) hXl (by omega) dL_law_167 rfl (by decide) rfl (by omega) (by omega) ?_
        refine xw_dup dL_law_169 rfl ?_
        refine xz_iconst dL_law_170 ?_
        refine xz_iconst dL_law_171 ?_
        refine yv_put (k := 0) (L2 := [.int (iI 0), .int (iI 0), .int (iI 0), .int (iI 0)]) dL_law_172 rfl (by show _ < 4; decide) (by show 4 ≤ _; decide) rfl ?_
        refine xw_dup dL_law_173 rfl ?_
        refine xz_iconst dL_law_174 ?_
        refine xz_iconst dL_law_175 ?_
        refine yv_put (k := 1) (L2 := [.int (iI 0), .int (iI 1), .int (iI 0), .int (iI 0)]) dL_law_176 rfl (by show _ < 4; decide) (by show 4 ≤ _; decide) rfl ?_
        refine xw_dup dL_law_177 rfl ?_
        refine xz_iconst dL_law_178 ?_
        refine xz_iconst dL_law_179 ?_
        refine yv_put (k := 2) (L2 := [.int (iI 0), .int (iI 1), .int (iI 0), .int (iI 0)]) dL_law_180 rfl (by show _ < 4; decide) (by show 4 ≤ _; decide) rfl ?_
        refine xw_dup dL_law_181 rfl ?_
        refine xz_iconst dL_law_182 ?_
        refine xz_iconst dL_law_183 ?_
        refine yv_put (k := 3) (L2 := [.int (iI 0), .int (iI 1), .int (iI 0), .int (iI 2)]) dL_law_184 rfl (by show _ < 4; decide) (by show 4 ≤ _; decide) rfl ?_
        refine yc_S (M' := mL_stamp) (d := 8) (c := 1) (s := 24) (As := [.ref 0, .int (iI 1), .int (iI 1), .ref (193 + X.length)]) (st := []) (v0 := some (.int (iI 1800))) (G2 := Wd σ (X ++ [(64, [.int (iI 0), .int (iI 1), .int (iI 0), .int (iI 2)])])) dL_law_185 okL_stamp (Or.inl w_1126) rfl (Nat.le_of_ble_eq_true rfl) (by decide) (by decide) (by omega) (by omega) rfl rfl (a_frameOf (d := 1) (c := 0) (s := 0) hL (by decide) (by decide) (by decide) (by omega) yv_last (g_frameOf_0_1_0_2_1 hL) (fun w9 G9 h => ⟨_, Sum.inl.inj h.1, rfl, h.2⟩) (fun E9 G9 h => by cases h.1)) ?_
        refine yl_g (m2 := c + 8) (Y := [(64, [.int (iI 0), .int (iI 1), .int (iI 0), .int (iI 2)])]) hA hXl (by simp only [List.append_assoc, List.cons_append, List.nil_append]) (by show _ + 1 ≤ _; omega) (fun X hA hXl => ?_)
        refine xw_eq (pc2 := 188) rfl rfl rfl rfl (xw_wid (c2 := c + 8) (n2 := 6000 + 24 * c + 112) (by omega) (by omega) ?_)
        refine xz_sipush dL_law_188 (by decide) ?_
        refine xz_icmp_ne (tgt := 431) dL_law_191 (by decide) (by omega) (by omega) (fun c4 => ?_) (fun c4 => ?_)
        · exact absurd rfl c4
        · refine xw_aload_n 1 dL_law_194 rfl ?_
          refine xz_iconst dL_law_195 ?_
          refine xz_iconst dL_law_196 ?_
          refine xz_iconst dL_law_197 ?_
          refine yv_new (N := 4) (L := [.int (iI 0), .int (iI 0), .int (iI 0), .int (iI 0)]) hXl (by omega) dL_law_198 rfl (by decide) rfl (by omega) (by omega) ?_
          refine xw_dup dL_law_200 rfl ?_
          refine xz_iconst dL_law_201 ?_
          refine xz_iconst dL_law_202 ?_
          refine yv_put (k := 0) (L2 := [.int (iI 0), .int (iI 0), .int (iI 0), .int (iI 0)]) dL_law_203 rfl (by show _ < 4; decide) (by show 4 ≤ _; decide) rfl ?_
          refine xw_dup dL_law_204 rfl ?_
          refine xz_iconst dL_law_205 ?_
          refine xz_bipush dL_law_206 (by decide) ?_
          refine yv_put (k := 1) (L2 := [.int (iI 0), .int (iI 60), .int (iI 0), .int (iI 0)]) dL_law_208 rfl (by show _ < 4; decide) (by show 4 ≤ _; decide) rfl ?_
          refine xw_dup dL_law_209 rfl ?_
          refine xz_iconst dL_law_210 ?_
          refine xz_iconst dL_law_211 ?_
          refine yv_put (k := 2) (L2 := [.int (iI 0), .int (iI 60), .int (iI 0), .int (iI 0)]) dL_law_212 rfl (by show _ < 4; decide) (by show 4 ≤ _; decide) rfl ?_
          refine xw_dup dL_law_213 rfl ?_
          refine xz_iconst dL_law_214 ?_
          refine xz_iconst dL_law_215 ?_
          refine yv_put (k := 3) (L2 := [.int (iI 0), .int (iI 60), .int (iI 0), .int (iI 0)]) dL_law_216 rfl (by show _ < 4; decide) (by show 4 ≤ _; decide) rfl ?_
          refine yc_S (M' := mL_stamp) (d := 8) (c := 1) (s := 24) (As := [.ref 0, .int (iI 1), .int (iI 0), .ref (193 + X.length)]) (st := []) (v0 := some (.int (iI (-1002)))) (G2 := Wd σ ((X ++ [(64, [.int (iI 0), .int (iI 60), .int (iI 0), .int (iI 0)])]) ++ [(127, [])])) dL_law_217 okL_stamp (Or.inl w_1126) rfl (Nat.le_of_ble_eq_true rfl) (by decide) (by decide) (by omega) (by omega) rfl rfl (a_frameOf (d := 1) (c := 1) (s := 6) hL (by decide) (by decide) (by decide) (by omega) yv_last (r_frameOf_0_60_0_0_0 hL (yv_len hXl (by omega))) (fun w9 G9 h => by cases h.1) (fun E9 G9 h => ⟨Sum.inr.inj h.1, rfl, h.2⟩)) ?_
          refine yl_g (m2 := c + 10) (Y := [(64, [.int (iI 0), .int (iI 60), .int (iI 0), .int (iI 0)]), (127, [])]) hA hXl (by simp only [List.append_assoc, List.cons_append, List.nil_append]) (by show _ + 2 ≤ _; omega) (fun X hA hXl => ?_)
          refine xw_eq (pc2 := 220) rfl rfl rfl rfl (xw_wid (c2 := c + 10) (n2 := 6000 + 24 * c + 140) (by omega) (by omega) ?_)
          refine xz_sipush dL_law_220 (by omega) ?_
          refine xz_icmp_ne (tgt := 431) dL_law_223 (by decide) (by omega) (by omega) (fun c5 => ?_) (fun c5 => ?_)
          · exact absurd rfl c5
          · refine xw_aload_n 1 dL_law_226 rfl ?_
            refine xz_iconst dL_law_227 ?_
            refine xz_iconst dL_law_228 ?_
            refine xz_iconst dL_law_229 ?_
            refine yv_new (N := 4) (L := [.int (iI 0), .int (iI 0), .int (iI 0), .int (iI 0)]) hXl (by omega) dL_law_230 rfl (by decide) rfl (by omega) (by omega) ?_
            refine xw_dup dL_law_232 rfl ?_
            refine xz_iconst dL_law_233 ?_
            refine xz_iconst dL_law_234 ?_
            refine yv_put (k := 0) (L2 := [.int (iI 0), .int (iI 0), .int (iI 0), .int (iI 0)]) dL_law_235 rfl (by show _ < 4; decide) (by show 4 ≤ _; decide) rfl ?_
            refine xw_dup dL_law_236 rfl ?_
            refine xz_iconst dL_law_237 ?_
            refine xz_iconst dL_law_238 ?_
            refine yv_put (k := 1) (L2 := [.int (iI 0), .int (iI 0), .int (iI 0), .int (iI 0)]) dL_law_239 rfl (by show _ < 4; decide) (by show 4 ≤ _; decide) rfl ?_
            refine xw_dup dL_law_240 rfl ?_
            refine xz_iconst dL_law_241 ?_
            refine xz_bipush dL_law_242 (by decide) ?_
            refine yv_put (k := 2) (L2 := [.int (iI 0), .int (iI 0), .int (iI 60), .int (iI 0)]) dL_law_244 rfl (by show _ < 4; decide) (by show 4 ≤ _; decide) rfl ?_
            refine xw_dup dL_law_245 rfl ?_
            refine xz_iconst dL_law_246 ?_
            refine xz_iconst dL_law_247 ?_
            refine yv_put (k := 3) (L2 := [.int (iI 0), .int (iI 0), .int (iI 60), .int (iI 0)]) dL_law_248 rfl (by show _ < 4; decide) (by show 4 ≤ _; decide) rfl ?_
            refine yc_S (M' := mL_stamp) (d := 8) (c := 1) (s := 24) (As := [.ref 0, .int (iI 1), .int (iI 0), .ref (193 + X.length)]) (st := []) (v0 := some (.int (iI (-1002)))) (G2 := Wd σ ((X ++ [(64, [.int (iI 0), .int (iI 0), .int (iI 60), .int (iI 0)])]) ++ [(127, [])])) dL_law_249 okL_stamp (Or.inl w_1126) rfl (Nat.le_of_ble_eq_true rfl) (by decide) (by decide) (by omega) (by omega) rfl rfl (a_frameOf (d := 1) (c := 1) (s := 6) hL (by decide) (by decide) (by decide) (by omega) yv_last (r_frameOf_0_0_60_0_0 hL (yv_len hXl (by omega))) (fun w9 G9 h => by cases h.1) (fun E9 G9 h => ⟨Sum.inr.inj h.1, rfl, h.2⟩)) ?_
            refine yl_g (m2 := c + 12) (Y := [(64, [.int (iI 0), .int (iI 0), .int (iI 60), .int (iI 0)]), (127, [])]) hA hXl (by simp only [List.append_assoc, List.cons_append, List.nil_append]) (by show _ + 2 ≤ _; omega) (fun X hA hXl => ?_)
            refine xw_eq (pc2 := 252) rfl rfl rfl rfl (xw_wid (c2 := c + 12) (n2 := 6000 + 24 * c + 168) (by omega) (by omega) ?_)
            refine xz_sipush dL_law_252 (by omega) ?_
            refine xz_icmp_ne (tgt := 431) dL_law_255 (by decide) (by omega) (by omega) (fun c6 => ?_) (fun c6 => ?_)
            · exact absurd rfl c6
            · refine xw_aload_n 1 dL_law_258 rfl ?_
              refine xz_iconst dL_law_259 ?_
              refine xz_iconst dL_law_260 ?_
              refine xz_iconst dL_law_261 ?_
              refine yv_new (N := 4) (L := [.int (iI 0), .int (iI 0), .int (iI 0), .int (iI 0)]) hXl (by omega) dL_law_262 rfl (by decide) rfl (by omega) (by omega) ?_
              refine xw_dup dL_law_264 rfl ?_
              refine xz_iconst dL_law_265 ?_
              refine xz_iconst dL_law_266 ?_
              refine yv_put (k := 0) (L2 := [.int (iI 0), .int (iI 0), .int (iI 0), .int (iI 0)]) dL_law_267 rfl (by show _ < 4; decide) (by show 4 ≤ _; decide) rfl ?_
              refine xw_dup dL_law_268 rfl ?_
              refine xz_iconst dL_law_269 ?_
              refine xz_iconst dL_law_270 ?_
              refine yv_put (k := 1) (L2 := [.int (iI 0), .int (iI 0), .int (iI 0), .int (iI 0)]) dL_law_271 rfl (by show _ < 4; decide) (by show 4 ≤ _; decide) rfl ?_
              refine xw_dup dL_law_272 rfl ?_
              refine xz_iconst dL_law_273 ?_
              refine xz_iconst dL_law_274 ?_
              refine yv_put (k := 2) (L2 := [.int (iI 0), .int (iI 0), .int (iI 0), .int (iI 0)]) dL_law_275 rfl (by show _ < 4; decide) (by show 4 ≤ _; decide) rfl ?_
              refine xw_dup dL_law_276 rfl ?_
              refine xz_iconst dL_law_277 ?_
              refine xz_bipush dL_law_278 (by decide) ?_
              refine yv_put (k := 3) (L2 := [.int (iI 0), .int (iI 0), .int (iI 0), .int (iI 30)]) dL_law_280 rfl (by show _ < 4; decide) (by show 4 ≤ _; decide) rfl ?_
              refine yc_S (M' := mL_stamp) (d := 8) (c := 1) (s := 24) (As := [.ref 0, .int (iI 1), .int (iI 0), .ref (193 + X.length)]) (st := []) (v0 := some (.int (iI (-1002)))) (G2 := Wd σ ((X ++ [(64, [.int (iI 0), .int (iI 0), .int (iI 0), .int (iI 30)])]) ++ [(127, [])])) dL_law_281 okL_stamp (Or.inl w_1126) rfl (Nat.le_of_ble_eq_true rfl) (by decide) (by decide) (by omega) (by omega) rfl rfl (a_frameOf (d := 1) (c := 1) (s := 6) hL (by decide) (by decide) (by decide) (by omega) yv_last (r_frameOf_0_0_0_30_0 hL (yv_len hXl (by omega))) (fun w9 G9 h => by cases h.1) (fun E9 G9 h => ⟨Sum.inr.inj h.1, rfl, h.2⟩)) ?_
              refine yl_g (m2 := c + 14) (Y := [(64, [.int (iI 0), .int (iI 0), .int (iI 0), .int (iI 30)]), (127, [])]) hA hXl (by simp only [List.append_assoc, List.cons_append, List.nil_append]) (by show _ + 2 ≤ _; omega) (fun X hA hXl => ?_)
              refine xw_eq (pc2 := 284) rfl rfl rfl rfl (xw_wid (c2 := c + 14) (n2 := 6000 + 24 * c + 196) (by omega) (by omega) ?_)
              refine xz_sipush dL_law_284 (by omega) ?_
              refine xz_icmp_ne (tgt := 431) dL_law_287 (by decide) (by omega) (by omega) (fun c7 => ?_) (fun c7 => ?_)
              · exact absurd rfl c7
              · refine xw_aload_n 1 dL_law_290 rfl ?_
                refine xz_iconst dL_law_291 ?_
                refine xz_iconst dL_law_292 ?_
                refine xz_iconst dL_law_293 ?_
                refine yv_new (N := 4) (L := [.int (iI 0), .int (iI 0), .int (iI 0), .int (iI 0)]) hXl (by omega) dL_law_294 rfl (by decide) rfl (by omega) (by omega) ?_
                refine xw_dup dL_law_296 rfl ?_
                refine xz_iconst dL_law_297 ?_
                refine xz_iconst dL_law_298 ?_
                refine yv_put (k := 0) (L2 := [.int (iI (-1)), .int (iI 0), .int (iI 0), .int (iI 0)]) dL_law_299 rfl (by show _ < 4; decide) (by show 4 ≤ _; decide) rfl ?_
                refine xw_dup dL_law_300 rfl ?_
                refine xz_iconst dL_law_301 ?_
                refine xz_iconst dL_law_302 ?_
                refine yv_put (k := 1) (L2 := [.int (iI (-1)), .int (iI 0), .int (iI 0), .int (iI 0)]) dL_law_303 rfl (by show _ < 4; decide) (by show 4 ≤ _; decide) rfl ?_
                refine xw_dup dL_law_304 rfl ?_
                refine xz_iconst dL_law_305 ?_
                refine xz_iconst dL_law_306 ?_
                refine yv_put (k := 2) (L2 := [.int (iI (-1)), .int (iI 0), .int (iI 0), .int (iI 0)]) dL_law_307 rfl (by show _ < 4; decide) (by show 4 ≤ _; decide) rfl ?_
                refine xw_dup dL_law_308 rfl ?_
                refine xz_iconst dL_law_309 ?_
                refine xz_iconst dL_law_310 ?_
                refine yv_put (k := 3) (L2 := [.int (iI (-1)), .int (iI 0), .int (iI 0), .int (iI 0)]) dL_law_311 rfl (by show _ < 4; decide) (by show 4 ≤ _; decide) rfl ?_
                refine yc_S (M' := mL_stamp) (d := 8) (c := 1) (s := 24) (As := [.ref 0, .int (iI 1), .int (iI 0), .ref (193 + X.length)]) (st := []) (v0 := some (.int (iI (-1002)))) (G2 := Wd σ ((X ++ [(64, [.int (iI (-1)), .int (iI 0), .int (iI 0), .int (iI 0)])]) ++ [(127, [])])) dL_law_312 okL_stamp (Or.inl w_1126) rfl (Nat.le_of_ble_eq_true rfl) (by decide) (by decide) (by omega) (by omega) rfl rfl (a_frameOf (d := 1) (c := 1) (s := 6) hL (by decide) (by decide) (by decide) (by omega) yv_last (r_frameOf_m1_0_0_0_0 hL (yv_len hXl (by omega))) (fun w9 G9 h => by cases h.1) (fun E9 G9 h => ⟨Sum.inr.inj h.1, rfl, h.2⟩)) ?_
                refine yl_g (m2 := c + 16) (Y := [(64, [.int (iI (-1)), .int (iI 0), .int (iI 0), .int (iI 0)]), (127, [])]) hA hXl (by simp only [List.append_assoc, List.cons_append, List.nil_append]) (by show _ + 2 ≤ _; omega) (fun X hA hXl => ?_)
                refine xw_eq (pc2 := 315) rfl rfl rfl rfl (xw_wid (c2 := c + 16) (n2 := 6000 + 24 * c + 224) (by omega) (by omega) ?_)
                refine xz_sipush dL_law_315 (by omega) ?_
                refine xz_icmp_ne (tgt := 431) dL_law_318 (by decide) (by omega) (by omega) (fun c8 => ?_) (fun c8 => ?_)
                · exact absurd rfl c8
                · refine xw_aload_n 1 dL_law_321 rfl ?_
                  refine xz_iconst dL_law_322 ?_
                  refine xz_iconst dL_law_323 ?_
                  refine xz_iconst dL_law_324 ?_
                  refine yv_new (N := 4) (L := [.int (iI 0), .int (iI 0), .int (iI 0), .int (iI 0)]) hXl (by omega) dL_law_325 rfl (by decide) rfl (by omega) (by omega) ?_
                  refine xw_dup dL_law_327 rfl ?_
                  refine xz_iconst dL_law_328 ?_
                  refine xz_iconst dL_law_329 ?_
                  refine yv_put (k := 0) (L2 := [.int (iI 1), .int (iI 0), .int (iI 0), .int (iI 0)]) dL_law_330 rfl (by show _ < 4; decide) (by show 4 ≤ _; decide) rfl ?_
                  refine xw_dup dL_law_331 rfl ?_
                  refine xz_iconst dL_law_332 ?_
                  refine xz_iconst dL_law_333 ?_
                  refine yv_put (k := 1) (L2 := [.int (iI 1), .int (iI 0), .int (iI 0), .int (iI 0)]) dL_law_334 rfl (by show _ < 4; decide) (by show 4 ≤ _; decide) rfl ?_
                  refine xw_dup dL_law_335 rfl ?_
                  refine xz_iconst dL_law_336 ?_
                  refine xz_iconst dL_law_337 ?_
                  refine yv_put (k := 2) (L2 := [.int (iI 1), .int (iI 0), .int (iI 0), .int (iI 0)]) dL_law_338 rfl (by show _ < 4; decide) (by show 4 ≤ _; decide) rfl ?_
                  refine xw_dup dL_law_339 rfl ?_
                  refine xz_iconst dL_law_340 ?_
                  refine xz_iconst dL_law_341 ?_
                  refine yv_put (k := 3) (L2 := [.int (iI 1), .int (iI 0), .int (iI 0), .int (iI 0)]) dL_law_342 rfl (by show _ < 4; decide) (by show 4 ≤ _; decide) rfl ?_
                  refine yc_S (M' := mL_stamp) (d := 8) (c := 1) (s := 24) (As := [.ref 0, .int (iI 1), .int (iI 0), .ref (193 + X.length)]) (st := []) (v0 := some (.int (iI (-1002)))) (G2 := Wd σ ((X ++ [(64, [.int (iI 1), .int (iI 0), .int (iI 0), .int (iI 0)])]) ++ [(127, [])])) dL_law_343 okL_stamp (Or.inl w_1126) rfl (Nat.le_of_ble_eq_true rfl) (by decide) (by decide) (by omega) (by omega) rfl rfl (a_frameOf (d := 1) (c := 1) (s := 6) hL (by decide) (by decide) (by decide) (by omega) yv_last (r_frameOf_1_0_0_0_0 hL (yv_len hXl (by omega))) (fun w9 G9 h => by cases h.1) (fun E9 G9 h => ⟨Sum.inr.inj h.1, rfl, h.2⟩)) ?_
                  refine yl_g (m2 := c + 18) (Y := [(64, [.int (iI 1), .int (iI 0), .int (iI 0), .int (iI 0)]), (127, [])]) hA hXl (by simp only [List.append_assoc, List.cons_append, List.nil_append]) (by show _ + 2 ≤ _; omega) (fun X hA hXl => ?_)
                  refine xw_eq (pc2 := 346) rfl rfl rfl rfl (xw_wid (c2 := c + 18) (n2 := 6000 + 24 * c + 252) (by omega) (by omega) ?_)
                  refine xz_sipush dL_law_346 (by omega) ?_
                  refine xz_icmp_ne (tgt := 431) dL_law_349 (by decide) (by omega) (by omega) (fun c9 => ?_) (fun c9 => ?_)
                  · exact absurd rfl c9
                  · refine xw_aload_n 1 dL_law_352 rfl ?_
                    refine xz_iconst dL_law_353 ?_
                    refine xz_iconst dL_law_354 ?_
                    refine xz_iconst dL_law_355 ?_
                    refine yv_new (N := 4) (L := [.int (iI 0), .int (iI 0), .int (iI 0), .int (iI 0)]) hXl (by omega) dL_law_356 rfl (by decide) rfl (by omega) (by omega) ?_
                    refine xw_dup dL_law_358 rfl ?_
                    refine xz_iconst dL_law_359 ?_
                    refine xz_ldc (z := 2000000000) dL_law_360 w_1170 (by decide) ?_
                    refine yv_put (k := 0) (L2 := [.int (iI 2000000000), .int (iI 0), .int (iI 0), .int (iI 0)]) dL_law_362 rfl (by show _ < 4; decide) (by show 4 ≤ _; decide) rfl ?_
                    refine xw_dup dL_law_363 rfl ?_
                    refine xz_iconst dL_law_364 ?_
                    refine xz_iconst dL_law_365 ?_
                    refine yv_put (k := 1) (L2 := [.int (iI 2000000000), .int (iI 0), .int (iI 0), .int (iI 0)]) dL_law_366 rfl (by show _ < 4; decide) (by show 4 ≤ _; decide) rfl ?_
                    refine xw_dup dL_law_367 rfl ?_
                    refine xz_iconst dL_law_368 ?_
                    refine xz_iconst dL_law_369 ?_
                    refine yv_put (k := 2) (L2 := [.int (iI 2000000000), .int (iI 0), .int (iI 0), .int (iI 0)]) dL_law_370 rfl (by show _ < 4; decide) (by show 4 ≤ _; decide) rfl ?_
                    refine xw_dup dL_law_371 rfl ?_
                    refine xz_iconst dL_law_372 ?_
                    refine xz_iconst dL_law_373 ?_
                    refine yv_put (k := 3) (L2 := [.int (iI 2000000000), .int (iI 0), .int (iI 0), .int (iI 0)]) dL_law_374 rfl (by show _ < 4; decide) (by show 4 ≤ _; decide) rfl ?_
                    refine yc_S (M' := mL_stamp) (d := 8) (c := 1) (s := 24) (As := [.ref 0, .int (iI 1), .int (iI 0), .ref (193 + X.length)]) (st := []) (v0 := some (.int (iI (-1002)))) (G2 := Wd σ ((X ++ [(64, [.int (iI 2000000000), .int (iI 0), .int (iI 0), .int (iI 0)])]) ++ [(127, [])])) dL_law_375 okL_stamp (Or.inl w_1126) rfl (Nat.le_of_ble_eq_true rfl) (by decide) (by decide) (by omega) (by omega) rfl rfl (a_frameOf (d := 1) (c := 1) (s := 6) hL (by decide) (by decide) (by decide) (by omega) yv_last (r_frameOf_2000000000_0_0_0_0 hL (yv_len hXl (by omega))) (fun w9 G9 h => by cases h.1) (fun E9 G9 h => ⟨Sum.inr.inj h.1, rfl, h.2⟩)) ?_
                    refine yl_g (m2 := c + 20) (Y := [(64, [.int (iI 2000000000), .int (iI 0), .int (iI 0), .int (iI 0)]), (127, [])]) hA hXl (by simp only [List.append_assoc, List.cons_append, List.nil_append]) (by show _ + 2 ≤ _; omega) (fun X hA hXl => ?_)
                    refine xw_eq (pc2 := 378) rfl rfl rfl rfl (xw_wid (c2 := c + 20) (n2 := 6000 + 24 * c + 280) (by omega) (by omega) ?_)
                    refine xz_sipush dL_law_378 (by omega) ?_
                    refine xz_icmp_ne (tgt := 431) dL_law_381 (by decide) (by omega) (by omega) (fun c10 => ?_) (fun c10 => ?_)
                    · exact absurd rfl c10
                    · refine xw_aload_n 1 dL_law_384 rfl ?_
                      refine xz_iconst dL_law_385 ?_
                      refine xz_iconst dL_law_386 ?_
                      refine xz_iconst dL_law_387 ?_
                      refine yv_new (N := 2) (L := [.int (iI 0), .int (iI 0)]) hXl (by omega) dL_law_388 rfl (by decide) rfl (by omega) (by omega) ?_
                      refine xw_dup dL_law_390 rfl ?_
                      refine xz_iconst dL_law_391 ?_
                      refine xz_ldc (z := 100000) dL_law_392 w_1169 (by decide) ?_
                      refine yv_put (k := 0) (L2 := [.int (iI 100000), .int (iI 0)]) dL_law_394 rfl (by show _ < 2; decide) (by show 2 ≤ _; decide) rfl ?_
                      refine xw_dup dL_law_395 rfl ?_
                      refine xz_iconst dL_law_396 ?_
                      refine xz_iconst dL_law_397 ?_
                      refine yv_put (k := 1) (L2 := [.int (iI 100000), .int (iI 0)]) dL_law_398 rfl (by show _ < 2; decide) (by show 2 ≤ _; decide) rfl ?_
                      refine yc_S (M' := mL_stamp) (d := 8) (c := 1) (s := 24) (As := [.ref 0, .int (iI 0), .int (iI 0), .ref (193 + X.length)]) (st := []) (v0 := some (.int (iI (-1002)))) (G2 := Wd σ ((X ++ [(64, [.int (iI 100000), .int (iI 0)])]) ++ [(127, [])])) dL_law_399 okL_stamp (Or.inl w_1126) rfl (Nat.le_of_ble_eq_true rfl) (by decide) (by decide) (by omega) (by omega) rfl rfl (a_stampOf (d := 2) (c := 1) (s := 6) hL (by decide) (by decide) (by decide) (by omega) yv_last (r_stampOf_100000_0_0 hL (yv_len hXl (by omega))) (fun w9 G9 h => by cases h.1) (fun E9 G9 h => ⟨Sum.inr.inj h.1, rfl, h.2⟩)) ?_
                      refine yl_g (m2 := c + 22) (Y := [(64, [.int (iI 100000), .int (iI 0)]), (127, [])]) hA hXl (by simp only [List.append_assoc, List.cons_append, List.nil_append]) (by show _ + 2 ≤ _; omega) (fun X hA hXl => ?_)
                      refine xw_eq (pc2 := 402) rfl rfl rfl rfl (xw_wid (c2 := c + 22) (n2 := 6000 + 24 * c + 306) (by omega) (by omega) ?_)
                      refine xz_sipush dL_law_402 (by omega) ?_
                      refine xz_icmp_ne (tgt := 431) dL_law_405 (by decide) (by omega) (by omega) (fun c11 => ?_) (fun c11 => ?_)
                      · exact absurd rfl c11
                      · refine xw_aload_n 1 dL_law_408 rfl ?_
                        refine xz_iconst dL_law_409 ?_
                        refine xz_iconst dL_law_410 ?_
                        refine xz_iconst dL_law_411 ?_
                        refine yv_new (N := 2) (L := [.int (iI 0), .int (iI 0)]) hXl (by omega) dL_law_412 rfl (by decide) rfl (by omega) (by omega) ?_
                        refine xw_dup dL_law_414 rfl ?_
                        refine xz_iconst dL_law_415 ?_
                        refine xz_iconst dL_law_416 ?_
                        refine yv_put (k := 0) (L2 := [.int (iI 0), .int (iI 0)]) dL_law_417 rfl (by show _ < 2; decide) (by show 2 ≤ _; decide) rfl ?_
                        refine xw_dup dL_law_418 rfl ?_
                        refine xz_iconst dL_law_419 ?_
                        refine xz_iconst dL_law_420 ?_
                        refine yv_put (k := 1) (L2 := [.int (iI 0), .int (iI 4)]) dL_law_421 rfl (by show _ < 2; decide) (by show 2 ≤ _; decide) rfl ?_
                        refine yc_S (M' := mL_stamp) (d := 8) (c := 1) (s := 24) (As := [.ref 0, .int (iI 0), .int (iI 0), .ref (193 + X.length)]) (st := []) (v0 := some (.int (iI (-1002)))) (G2 := Wd σ ((X ++ [(64, [.int (iI 0), .int (iI 4)])]) ++ [(127, [])])) dL_law_422 okL_stamp (Or.inl w_1126) rfl (Nat.le_of_ble_eq_true rfl) (by decide) (by decide) (by omega) (by omega) rfl rfl (a_stampOf (d := 2) (c := 1) (s := 6) hL (by decide) (by decide) (by decide) (by omega) yv_last (r_stampOf_0_4_0 hL (yv_len hXl (by omega))) (fun w9 G9 h => by cases h.1) (fun E9 G9 h => ⟨Sum.inr.inj h.1, rfl, h.2⟩)) ?_
                        refine yl_g (m2 := c + 24) (Y := [(64, [.int (iI 0), .int (iI 4)]), (127, [])]) hA hXl (by simp only [List.append_assoc, List.cons_append, List.nil_append]) (by show _ + 2 ≤ _; omega) (fun X hA hXl => ?_)
                        refine xw_eq (pc2 := 425) rfl rfl rfl rfl (xw_wid (c2 := c + 24) (n2 := 6000 + 24 * c + 332) (by omega) (by omega) ?_)
                        refine xz_sipush dL_law_425 (by omega) ?_
                        refine xz_icmp_eq (tgt := 433) dL_law_428 (by decide) (by omega) (by omega) (fun c12 => ?_) (fun c12 => ?_)
                        · refine xw_wid (c2 := c + 24) (n2 := 6000 + 24 * (c + 24)) (by omega) (by omega) ?_
                          exact L_cue0 hL hLb hA (c := c + 24) hXl (by omega) hB
                        · exact absurd rfl c12
theorem L_stm (hL : L.stackTraces = false) {σ : ySg} (hLb : O.2.2.2.2.1 < 2147483648) (k : Int) (h0 : 0 ≤ k) (h1 : k ≤ 6) {X : List xOb} (hA : yHs ([]) X) {c : Nat} (hXl : X.length ≤ c) (hc : (c : Int) ≤ 1000 + 30 * k) (hB : yB2 σ 0 (fun _ => 0) (fun _ => 0) (fun _ => 0)) : xWP L O mL_law (xR 13 828823 6605674) yKL 10 [(0, .ref xBig), (1, .ref 0), (2, .int (iI k))] [] (Wd σ X) c (6000 + 24 * c) := by
  refine xw_iload_n 2 dL_law_10 rfl ?_
  refine xz_bipush dL_law_11 (by decide) ?_
  refine xz_icmp_ge (tgt := 71) dL_law_13 (by decide) (by omega) (by omega) (fun c1 => ?_) (fun c1 => ?_)
  · refine xw_loc [(0, .ref xBig), (1, .ref 0)] (fun q9 hq9 => by simp only [List.mem_cons, List.not_mem_nil, or_false] at hq9 ⊢; rcases hq9 with h | h <;> subst h <;> simp) ?_
    refine xw_wid (c2 := c) (n2 := 6000 + 24 * (c)) (by omega) (by omega) ?_
    exact L_refs hL hLb hA (c := c) hXl (by omega) hB
  · refine xw_iload_n 2 dL_law_16 rfl ?_
    refine xz_if_ne (tgt := 25) dL_law_17 (by decide) (by omega) (fun c2 => ?_) (fun c2 => ?_)
    · refine xw_aload_n 0 dL_law_25 rfl ?_
      refine xw_iload_n 2 dL_law_26 rfl ?_
      refine yc_SE (M' := mL_at) (d := 0) (c := 0) (s := 0) (As := [.ref xBig, .int (iI k)]) (st := []) dL_law_27 okL_at (Or.inl w_709) rfl (Nat.le_of_ble_eq_true rfl) (by decide) (by decide) (by omega) (by omega) (s_at hL hLb (by omega)) (fun w9 G9 h9 => ?_) (fun E9 G9 h9 => by obtain ⟨_, h, _⟩ := h9; cases h)
      obtain ⟨x3, e9, rfl⟩ := h9
      cases e9
      refine xz_ldc (z := 100000) dL_law_30 w_1169 (by decide) ?_
      refine yc_SE (M' := mL_some) (d := 0) (c := 0) (s := 0) (As := [.int x3, .int (iI 100000)]) (st := []) dL_law_32 okL_some (Or.inl w_712) rfl (Nat.le_of_ble_eq_true rfl) (by decide) (by decide) (by omega) (by omega) (s_some hL (by omega)) (fun w9 G9 h9 => ?_) (fun E9 G9 h9 => by obtain ⟨_, h, _⟩ := h9; cases h)
      obtain ⟨z4, e9, hz4, rfl⟩ := h9
      cases e9
      refine xw_istore_n (l2 := [(0, .ref xBig), (1, .ref 0), (2, .int (iI k)), (3, .int (iI z4))]) dL_law_35 (by decide) rfl rfl ?_
      refine xw_iload_n 2 dL_law_36 rfl ?_
      refine xz_iconst dL_law_37 ?_
      refine xz_icmp_ne (tgt := 53) dL_law_38 (by decide) (by omega) (by omega) (fun c5 => ?_) (fun c5 => ?_)
      · refine xw_iload_n 3 dL_law_53 rfl ?_
        refine xw_istore_n (l2 := [(0, .ref xBig), (1, .ref 0), (2, .int (iI k)), (3, .int (iI z4))]) dL_law_54 (by decide) rfl rfl ?_
        refine xw_aload_n 1 dL_law_55 rfl ?_
        refine xw_iload_n 3 dL_law_56 rfl ?_
        refine yc_SE (M' := mL_stampsAreGood) (d := 9) (c := 22) (s := 400) (As := [.ref 0, .int (iI z4)]) (st := []) dL_law_57 okL_stampsAreGood (Or.inl w_1148) rfl (Nat.le_of_ble_eq_true rfl) (by decide) (by decide) (by omega) (by omega) (s_good hL (n := c) (by omega) hA hXl (by omega)) (fun w9 G9 h9 => ?_) (fun E9 G9 h9 => by obtain ⟨h, _⟩ := h9; cases h)
        obtain ⟨e9, X2, rfl, hA2, hXl2⟩ := h9
        cases e9
        refine xz_if_ne (tgt := 65) dL_law_60 (by decide) (by omega) (fun c6 => ?_) (fun c6 => ?_)
        · refine xz_iinc (l2 := [(0, .ref xBig), (1, .ref 0), (2, .int (iI (k + 1))), (3, .int (iI z4))]) 2 dL_law_65 rfl (by decide) rfl rfl ?_
          refine xw_goto (tgt := 10) dL_law_68 (by decide) ?_
          refine xw_loc [(0, .ref xBig), (1, .ref 0), (2, .int (iI (k + 1)))] (fun q9 hq9 => by simp only [List.mem_cons, List.not_mem_nil, or_false] at hq9 ⊢; rcases hq9 with h | h | h <;> subst h <;> simp) ?_
          refine xw_wid (c2 := c + 22) (n2 := 6000 + 24 * (c + 22)) (by omega) (by omega) ?_
          exact L_stm hL hLb (k + 1) (by omega) (by omega) hA2 (c := c + 22) hXl2 (by omega) hB
        · exact absurd c6 (by decide)
      · refine xw_iload_n 3 dL_law_41 rfl ?_
        refine xz_sipush dL_law_42 (by decide) ?_
        refine xz_idiv dL_law_45 (by omega) (by decide) ?_
        refine xz_sipush dL_law_46 (by decide) ?_
        refine xz_imul dL_law_49 ?_
        refine xw_goto (tgt := 54) dL_law_50 (by decide) ?_
        refine xw_istore_n (l2 := [(0, .ref xBig), (1, .ref 0), (2, .int (iI k)), (3, .int (iI ((z4 / 1800) * 1800)))]) dL_law_54 (by decide) rfl rfl ?_
        refine xw_aload_n 1 dL_law_55 rfl ?_
        refine xw_iload_n 3 dL_law_56 rfl ?_
        refine yc_SE (M' := mL_stampsAreGood) (d := 9) (c := 22) (s := 400) (As := [.ref 0, .int (iI ((z4 / 1800) * 1800))]) (st := []) dL_law_57 okL_stampsAreGood (Or.inl w_1148) rfl (Nat.le_of_ble_eq_true rfl) (by decide) (by decide) (by omega) (by omega) (s_good hL (n := c) (by omega) hA hXl (by omega)) (fun w9 G9 h9 => ?_) (fun E9 G9 h9 => by obtain ⟨h, _⟩ := h9; cases h)
        obtain ⟨e9, X2, rfl, hA2, hXl2⟩ := h9
        cases e9
        refine xz_if_ne (tgt := 65) dL_law_60 (by decide) (by omega) (fun c7 => ?_) (fun c7 => ?_)
        · refine xz_iinc (l2 := [(0, .ref xBig), (1, .ref 0), (2, .int (iI (k + 1))), (3, .int (iI ((z4 / 1800) * 1800)))]) 2 dL_law_65 rfl (by decide) rfl rfl ?_
          refine xw_goto (tgt := 10) dL_law_68 (by decide) ?_
          refine xw_loc [(0, .ref xBig), (1, .ref 0), (2, .int (iI (k + 1)))] (fun q9 hq9 => by simp only [List.mem_cons, List.not_mem_nil, or_false] at hq9 ⊢; rcases hq9 with h | h | h <;> subst h <;> simp) ?_
          refine xw_wid (c2 := c + 22) (n2 := 6000 + 24 * (c + 22)) (by omega) (by omega) ?_
          exact L_stm hL hLb (k + 1) (by omega) (by omega) hA2 (c := c + 22) hXl2 (by omega) hB
        · exact absurd c7 (by decide)
    · refine xz_ldc (z := 99999) dL_law_20 w_1168 (by decide) ?_
      refine xw_goto (tgt := 35) dL_law_22 (by decide) ?_
      refine xw_istore_n (l2 := [(0, .ref xBig), (1, .ref 0), (2, .int (iI k)), (3, .int (iI 99999))]) dL_law_35 (by decide) rfl rfl ?_
      refine xw_iload_n 2 dL_law_36 rfl ?_
      refine xz_iconst dL_law_37 ?_
      refine xz_icmp_ne (tgt := 53) dL_law_38 (by decide) (by omega) (by omega) (fun c8 => ?_) (fun c8 => ?_)
      · refine xw_iload_n 3 dL_law_53 rfl ?_
        refine xw_istore_n (l2 := [(0, .ref xBig), (1, .ref 0), (2, .int (iI k)), (3, .int (iI 99999))]) dL_law_54 (by decide) rfl rfl ?_
        refine xw_aload_n 1 dL_law_55 rfl ?_
        refine xw_iload_n 3 dL_law_56 rfl ?_
        refine yc_SE (M' := mL_stampsAreGood) (d := 9) (c := 22) (s := 400) (As := [.ref 0, .int (iI 99999)]) (st := []) dL_law_57 okL_stampsAreGood (Or.inl w_1148) rfl (Nat.le_of_ble_eq_true rfl) (by decide) (by decide) (by omega) (by omega) (s_good hL (n := c) (by omega) hA hXl (by omega)) (fun w9 G9 h9 => ?_) (fun E9 G9 h9 => by obtain ⟨h, _⟩ := h9; cases h)
        obtain ⟨e9, X2, rfl, hA2, hXl2⟩ := h9
        cases e9
        refine xz_if_ne (tgt := 65) dL_law_60 (by decide) (by omega) (fun c9 => ?_) (fun c9 => ?_)
        · refine xz_iinc (l2 := [(0, .ref xBig), (1, .ref 0), (2, .int (iI (k + 1))), (3, .int (iI 99999))]) 2 dL_law_65 rfl (by decide) rfl rfl ?_
          refine xw_goto (tgt := 10) dL_law_68 (by decide) ?_
          refine xw_loc [(0, .ref xBig), (1, .ref 0), (2, .int (iI (k + 1)))] (fun q9 hq9 => by simp only [List.mem_cons, List.not_mem_nil, or_false] at hq9 ⊢; rcases hq9 with h | h | h <;> subst h <;> simp) ?_
          refine xw_wid (c2 := c + 22) (n2 := 6000 + 24 * (c + 22)) (by omega) (by omega) ?_
          exact L_stm hL hLb (k + 1) (by omega) (by omega) hA2 (c := c + 22) hXl2 (by omega) hB
        · exact absurd c9 (by decide)
      · refine xw_iload_n 3 dL_law_41 rfl ?_
        refine xz_sipush dL_law_42 (by decide) ?_
        refine xz_idiv dL_law_45 (by decide) (by decide) ?_
        refine xw_eq rfl rfl (s2 := [.int (iI 55)]) (by rw [show (99999 / 1800 : Int) = 55 from by decide] <;> rfl) rfl ?_
        refine xz_sipush dL_law_46 (by decide) ?_
        refine xz_imul dL_law_49 ?_
        refine xw_eq rfl rfl (s2 := [.int (iI 99000)]) rfl rfl ?_
        refine xw_goto (tgt := 54) dL_law_50 (by decide) ?_
        refine xw_istore_n (l2 := [(0, .ref xBig), (1, .ref 0), (2, .int (iI k)), (3, .int (iI 99000))]) dL_law_54 (by decide) rfl rfl ?_
        refine xw_aload_n 1 dL_law_55 rfl ?_
        refine xw_iload_n 3 dL_law_56 rfl ?_
        refine yc_SE (M' := mL_stampsAreGood) (d := 9) (c := 22) (s := 400) (As := [.ref 0, .int (iI 99000)]) (st := []) dL_law_57 okL_stampsAreGood (Or.inl w_1148) rfl (Nat.le_of_ble_eq_true rfl) (by decide) (by decide) (by omega) (by omega) (s_good hL (n := c) (by omega) hA hXl (by omega)) (fun w9 G9 h9 => ?_) (fun E9 G9 h9 => by obtain ⟨h, _⟩ := h9; cases h)
        obtain ⟨e9, X2, rfl, hA2, hXl2⟩ := h9
        cases e9
        refine xz_if_ne (tgt := 65) dL_law_60 (by decide) (by omega) (fun c10 => ?_) (fun c10 => ?_)
        · refine xz_iinc (l2 := [(0, .ref xBig), (1, .ref 0), (2, .int (iI (k + 1))), (3, .int (iI 99000))]) 2 dL_law_65 rfl (by decide) rfl rfl ?_
          refine xw_goto (tgt := 10) dL_law_68 (by decide) ?_
          refine xw_loc [(0, .ref xBig), (1, .ref 0), (2, .int (iI (k + 1)))] (fun q9 hq9 => by simp only [List.mem_cons, List.not_mem_nil, or_false] at hq9 ⊢; rcases hq9 with h | h | h <;> subst h <;> simp) ?_
          refine xw_wid (c2 := c + 22) (n2 := 6000 + 24 * (c + 22)) (by omega) (by omega) ?_
          exact L_stm hL hLb (k + 1) (by omega) (by omega) hA2 (c := c + 22) hXl2 (by omega) hB
        · exact absurd c10 (by decide)
termination_by (6 - k).toNat
theorem L_new (hL : L.stackTraces = false) (hLb : O.2.2.2.2.1 < 2147483648) : xWP L O mL_law (xR 13 828823 6605674) yKL 0 [(0, .ref xBig)] [] [] 0 0 := by
  refine xw_new (ci := 11) (fs := [.null, .null, .null, .null, .null, .int (iI 0), .int (iI 0), .null, .null, .null, .null, .null]) tyX11 dL_law_0 (by decide) rfl inX11 tyX11_ok w_59 w_60 w_34 rfl (fun j hj => by rcases (show j = 0 ∨ j = 1 ∨ j = 2 ∨ j = 3 ∨ j = 4 ∨ j = 5 ∨ j = 6 ∨ j = 7 ∨ j = 8 ∨ j = 9 ∨ j = 10 ∨ j = 11 by omega) with rfl | rfl | rfl | rfl | rfl | rfl | rfl | rfl | rfl | rfl | rfl | rfl <;> rfl) (by decide) (Nat.le_of_ble_eq_true rfl) (Nat.le_of_ble_eq_true rfl) ?_
  refine xw_eq rfl rfl (s2 := [.ref 0]) (G2 := [(11, [.null, .null, .null, .null, .null, .int (iI 0), .int (iI 0), .null, .null, .null, .null, .null])]) rfl rfl ?_
  refine xw_dup dL_law_3 rfl ?_
  refine yc_I (M' := mX11_init) (i := 0) (d := 3) (c := 192) (s := 5096) (As := []) (st := [.ref 0]) (G2 := Wd yS0 []) dL_law_4 okX11_init (Or.inl w_61) (by decide) rfl (Nat.le_of_ble_eq_true rfl) (by decide) (by decide) (Nat.le_of_ble_eq_true rfl) (Nat.le_of_ble_eq_true rfl) rfl (c_X11 hL) ?_
  refine xw_astore_n (l2 := [(0, .ref xBig), (1, .ref 0)]) dL_law_7 (by decide) rfl rfl ?_
  refine xz_iconst dL_law_8 ?_
  refine xw_istore_n (l2 := [(0, .ref xBig), (1, .ref 0), (2, .int (iI 0))]) dL_law_9 (by decide) rfl rfl ?_
  refine xw_wid (c2 := 1000) (n2 := 6000 + 24 * 1000) (by omega) (by omega) ?_
  exact L_stm hL hLb 0 (by omega) (by omega) (yHs_nil []) (c := 1000) (by decide) (by omega) yS0_b2
end Y48

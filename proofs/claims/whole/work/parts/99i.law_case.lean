section LW
variable {p : Program} {l : Launch} {e : Env} {s : State} {m : MethodId} {below : List Frame} {meth : Method} {c : Code} {D : va_G} {cI cC : ClassId} {E : Nat → Nat} {b L : Nat} {xs : Nat → Int32} {Q : State → Prop} {o0 w0 k : Nat} {W : va_W}
set_option maxHeartbeats 2000000 in
theorem lc_frame (C : Cx p s m #[Value.ref b] meth c code 4 "FrameTablesLaw" D (TY cI cC E) (fun q => s.heap.size ≤ q)) (hX : va_X b L xs s s.heap) (hbl : b < s.heap.size) (hL : L ≤ 2048) (hk : 4 * k + 4 ≤ L) (h : LI cI cC o0 w0 W) (kk : ∀ W', LI cI cC o0 w0 W' → V p l e room_1 s m #[Value.ref b] below meth c 4 D (fun q => s.heap.size ≤ q) 42 9458 Q W' [(0, .ref b), (1, .ref o0), (2, .ref w0), (3, .int (nI (4 * k)))] 494 []) : V p l e room_1 s m #[Value.ref b] below meth c 4 D (fun q => s.heap.size ≤ q) 42 9458 Q W [(0, .ref b), (1, .ref o0), (2, .ref w0), (3, .int (nI (4 * k)))] 104 [] := by
  have hbA : ¬ (fun q : Nat => s.heap.size ≤ q) b := Nat.not_le.mpr hbl
  obtain ⟨R1, Q1, hA, hB⟩ := st_frame (l := l) (D := D) (E := E) h (xs (4 * k + 1)) (xs (4 * k + 2)) (xs (4 * k + 3))
  refine V.aload_n C (i := 1) (j := 1) (n := 105) d_W_law_104 rfl rfl rfl ?_
  refine V.aload_n C (i := 0) (j := 0) (n := 106) d_W_law_105 rfl rfl rfl ?_
  refine V.iload_n C (i := 3) (j := 3) (n := 107) d_W_law_106 rfl rfl rfl ?_
  refine V.iconst C (v := nI 1) (n := 108) d_W_law_107 (by decide) rfl ?_
  refine V.iadd_n C (n := 109) d_W_law_108 rfl ?_
  refine V.sld C (n := 110) (i := 4 * k + 1) hX hbl hbA (by omega) (by omega) d_W_law_109 rfl ?_
  refine V.aload_n C (i := 0) (j := 0) (n := 111) d_W_law_110 rfl rfl rfl ?_
  refine V.iload_n C (i := 3) (j := 3) (n := 112) d_W_law_111 rfl rfl rfl ?_
  refine V.iconst C (v := nI 2) (n := 113) d_W_law_112 (by decide) rfl ?_
  refine V.iadd_n C (n := 114) d_W_law_113 rfl ?_
  refine V.sld C (n := 115) (i := 4 * k + 2) hX hbl hbA (by omega) (by omega) d_W_law_114 rfl ?_
  refine V.aload_n C (i := 0) (j := 0) (n := 116) d_W_law_115 rfl rfl rfl ?_
  refine V.iload_n C (i := 3) (j := 3) (n := 117) d_W_law_116 rfl rfl rfl ?_
  refine V.iconst C (v := nI 3) (n := 118) d_W_law_117 (by decide) rfl ?_
  refine V.iadd_n C (n := 119) d_W_law_118 rfl ?_
  refine V.sld C (n := 120) (i := 4 * k + 3) hX hbl hbA (by omega) (by omega) d_W_law_119 rfl ?_
  refine hA p e room_1 s m _ below meth c code 4 _ _ 42 9458 Q _ _ [] 120 123 3 13 C cw_W_13 ⟨by decide, by decide⟩ ⟨by decide, by decide⟩ rfl rfl (of_decide_eq_true rfl) d_W_law_120 rfl ?_
  intro W1 h1
  refine V.aload_n C (i := 2) (j := 2) (n := 124) d_W_law_123 rfl rfl rfl ?_
  refine V.aload_n C (i := 0) (j := 0) (n := 125) d_W_law_124 rfl rfl rfl ?_
  refine V.iload_n C (i := 3) (j := 3) (n := 126) d_W_law_125 rfl rfl rfl ?_
  refine V.iconst C (v := nI 1) (n := 127) d_W_law_126 (by decide) rfl ?_
  refine V.iadd_n C (n := 128) d_W_law_127 rfl ?_
  refine V.sld C (n := 129) (i := 4 * k + 1) hX hbl hbA (by omega) (by omega) d_W_law_128 rfl ?_
  refine V.aload_n C (i := 0) (j := 0) (n := 130) d_W_law_129 rfl rfl rfl ?_
  refine V.iload_n C (i := 3) (j := 3) (n := 131) d_W_law_130 rfl rfl rfl ?_
  refine V.iconst C (v := nI 2) (n := 132) d_W_law_131 (by decide) rfl ?_
  refine V.iadd_n C (n := 133) d_W_law_132 rfl ?_
  refine V.sld C (n := 134) (i := 4 * k + 2) hX hbl hbA (by omega) (by omega) d_W_law_133 rfl ?_
  refine V.aload_n C (i := 0) (j := 0) (n := 135) d_W_law_134 rfl rfl rfl ?_
  refine V.iload_n C (i := 3) (j := 3) (n := 136) d_W_law_135 rfl rfl rfl ?_
  refine V.iconst C (v := nI 3) (n := 137) d_W_law_136 (by decide) rfl ?_
  refine V.iadd_n C (n := 138) d_W_law_137 rfl ?_
  refine V.sld C (n := 139) (i := 4 * k + 3) hX hbl hbA (by omega) (by omega) d_W_law_138 rfl ?_
  refine hB W1 h1 p e room_1 s m _ below meth c code 4 _ _ 42 9458 Q _ _ [.int R1] 139 142 3 17 C cw_W_17 ⟨by decide, by decide⟩ ⟨by decide, by decide⟩ rfl rfl (of_decide_eq_true rfl) d_W_law_139 rfl ?_
  intro W2 h2
  exact V.icmp_eq C (tgt := 494) (n := 145) rfl rfl d_W_law_142 (by decide) rfl (fun _ => kk W2 h2) (fun hne => absurd rfl hne)
set_option maxHeartbeats 2000000 in
theorem lc_reader (C : Cx p s m #[Value.ref b] meth c code 4 "FrameTablesLaw" D (TY cI cC E) (fun q => s.heap.size ≤ q)) (hX : va_X b L xs s s.heap) (hbl : b < s.heap.size) (hL : L ≤ 2048) (hk : 4 * k + 4 ≤ L) (h : LI cI cC o0 w0 W) (kk : ∀ W', LI cI cC o0 w0 W' → V p l e room_1 s m #[Value.ref b] below meth c 4 D (fun q => s.heap.size ≤ q) 42 9458 Q W' [(0, .ref b), (1, .ref o0), (2, .ref w0), (3, .int (nI (4 * k)))] 494 []) : V p l e room_1 s m #[Value.ref b] below meth c 4 D (fun q => s.heap.size ≤ q) 42 9458 Q W [(0, .ref b), (1, .ref o0), (2, .ref w0), (3, .int (nI (4 * k)))] 147 [] := by
  have hbA : ¬ (fun q : Nat => s.heap.size ≤ q) b := Nat.not_le.mpr hbl
  obtain ⟨R1, Q1, hA, hB⟩ := st_reader (l := l) (D := D) (E := E) h (xs (4 * k + 1)) (xs (4 * k + 2)) (xs (4 * k + 3))
  refine V.aload_n C (i := 1) (j := 1) (n := 148) d_W_law_147 rfl rfl rfl ?_
  refine V.aload_n C (i := 0) (j := 0) (n := 149) d_W_law_148 rfl rfl rfl ?_
  refine V.iload_n C (i := 3) (j := 3) (n := 150) d_W_law_149 rfl rfl rfl ?_
  refine V.iconst C (v := nI 1) (n := 151) d_W_law_150 (by decide) rfl ?_
  refine V.iadd_n C (n := 152) d_W_law_151 rfl ?_
  refine V.sld C (n := 153) (i := 4 * k + 1) hX hbl hbA (by omega) (by omega) d_W_law_152 rfl ?_
  refine V.aload_n C (i := 0) (j := 0) (n := 154) d_W_law_153 rfl rfl rfl ?_
  refine V.iload_n C (i := 3) (j := 3) (n := 155) d_W_law_154 rfl rfl rfl ?_
  refine V.iconst C (v := nI 2) (n := 156) d_W_law_155 (by decide) rfl ?_
  refine V.iadd_n C (n := 157) d_W_law_156 rfl ?_
  refine V.sld C (n := 158) (i := 4 * k + 2) hX hbl hbA (by omega) (by omega) d_W_law_157 rfl ?_
  refine V.aload_n C (i := 0) (j := 0) (n := 159) d_W_law_158 rfl rfl rfl ?_
  refine V.iload_n C (i := 3) (j := 3) (n := 160) d_W_law_159 rfl rfl rfl ?_
  refine V.iconst C (v := nI 3) (n := 161) d_W_law_160 (by decide) rfl ?_
  refine V.iadd_n C (n := 162) d_W_law_161 rfl ?_
  refine V.sld C (n := 163) (i := 4 * k + 3) hX hbl hbA (by omega) (by omega) d_W_law_162 rfl ?_
  refine hA p e room_1 s m _ below meth c code 4 _ _ 42 9458 Q _ _ [] 163 166 3 18 C cw_W_18 ⟨by decide, by decide⟩ ⟨by decide, by decide⟩ rfl rfl (of_decide_eq_true rfl) d_W_law_163 rfl ?_
  intro W1 h1
  refine V.aload_n C (i := 2) (j := 2) (n := 167) d_W_law_166 rfl rfl rfl ?_
  refine V.aload_n C (i := 0) (j := 0) (n := 168) d_W_law_167 rfl rfl rfl ?_
  refine V.iload_n C (i := 3) (j := 3) (n := 169) d_W_law_168 rfl rfl rfl ?_
  refine V.iconst C (v := nI 1) (n := 170) d_W_law_169 (by decide) rfl ?_
  refine V.iadd_n C (n := 171) d_W_law_170 rfl ?_
  refine V.sld C (n := 172) (i := 4 * k + 1) hX hbl hbA (by omega) (by omega) d_W_law_171 rfl ?_
  refine V.aload_n C (i := 0) (j := 0) (n := 173) d_W_law_172 rfl rfl rfl ?_
  refine V.iload_n C (i := 3) (j := 3) (n := 174) d_W_law_173 rfl rfl rfl ?_
  refine V.iconst C (v := nI 2) (n := 175) d_W_law_174 (by decide) rfl ?_
  refine V.iadd_n C (n := 176) d_W_law_175 rfl ?_
  refine V.sld C (n := 177) (i := 4 * k + 2) hX hbl hbA (by omega) (by omega) d_W_law_176 rfl ?_
  refine V.aload_n C (i := 0) (j := 0) (n := 178) d_W_law_177 rfl rfl rfl ?_
  refine V.iload_n C (i := 3) (j := 3) (n := 179) d_W_law_178 rfl rfl rfl ?_
  refine V.iconst C (v := nI 3) (n := 180) d_W_law_179 (by decide) rfl ?_
  refine V.iadd_n C (n := 181) d_W_law_180 rfl ?_
  refine V.sld C (n := 182) (i := 4 * k + 3) hX hbl hbA (by omega) (by omega) d_W_law_181 rfl ?_
  refine hB W1 h1 p e room_1 s m _ below meth c code 4 _ _ 42 9458 Q _ _ [.int R1] 182 185 3 21 C cw_W_21 ⟨by decide, by decide⟩ ⟨by decide, by decide⟩ rfl rfl (of_decide_eq_true rfl) d_W_law_182 rfl ?_
  intro W2 h2
  exact V.icmp_eq C (tgt := 494) (n := 188) rfl rfl d_W_law_185 (by decide) rfl (fun _ => kk W2 h2) (fun hne => absurd rfl hne)
set_option maxHeartbeats 2000000 in
theorem lc_identifier (C : Cx p s m #[Value.ref b] meth c code 4 "FrameTablesLaw" D (TY cI cC E) (fun q => s.heap.size ≤ q)) (hX : va_X b L xs s s.heap) (hbl : b < s.heap.size) (hL : L ≤ 2048) (hk : 4 * k + 4 ≤ L) (h : LI cI cC o0 w0 W) (kk : ∀ W', LI cI cC o0 w0 W' → V p l e room_1 s m #[Value.ref b] below meth c 4 D (fun q => s.heap.size ≤ q) 42 9458 Q W' [(0, .ref b), (1, .ref o0), (2, .ref w0), (3, .int (nI (4 * k)))] 494 []) : V p l e room_1 s m #[Value.ref b] below meth c 4 D (fun q => s.heap.size ≤ q) 42 9458 Q W [(0, .ref b), (1, .ref o0), (2, .ref w0), (3, .int (nI (4 * k)))] 190 [] := by
  have hbA : ¬ (fun q : Nat => s.heap.size ≤ q) b := Nat.not_le.mpr hbl
  obtain ⟨R1, Q1, hA, hB⟩ := st_identifier (l := l) (D := D) (E := E) h (xs (4 * k + 1))
  refine V.aload_n C (i := 1) (j := 1) (n := 191) d_W_law_190 rfl rfl rfl ?_
  refine V.aload_n C (i := 0) (j := 0) (n := 192) d_W_law_191 rfl rfl rfl ?_
  refine V.iload_n C (i := 3) (j := 3) (n := 193) d_W_law_192 rfl rfl rfl ?_
  refine V.iconst C (v := nI 1) (n := 194) d_W_law_193 (by decide) rfl ?_
  refine V.iadd_n C (n := 195) d_W_law_194 rfl ?_
  refine V.sld C (n := 196) (i := 4 * k + 1) hX hbl hbA (by omega) (by omega) d_W_law_195 rfl ?_
  refine hA p e room_1 s m _ below meth c code 4 _ _ 42 9458 Q _ _ [] 196 199 1 22 C cw_W_22 ⟨by decide, by decide⟩ ⟨by decide, by decide⟩ rfl rfl (of_decide_eq_true rfl) d_W_law_196 rfl ?_
  intro W1 h1
  refine V.aload_n C (i := 2) (j := 2) (n := 200) d_W_law_199 rfl rfl rfl ?_
  refine V.aload_n C (i := 0) (j := 0) (n := 201) d_W_law_200 rfl rfl rfl ?_
  refine V.iload_n C (i := 3) (j := 3) (n := 202) d_W_law_201 rfl rfl rfl ?_
  refine V.iconst C (v := nI 1) (n := 203) d_W_law_202 (by decide) rfl ?_
  refine V.iadd_n C (n := 204) d_W_law_203 rfl ?_
  refine V.sld C (n := 205) (i := 4 * k + 1) hX hbl hbA (by omega) (by omega) d_W_law_204 rfl ?_
  refine hB W1 h1 p e room_1 s m _ below meth c code 4 _ _ 42 9458 Q _ _ [.int R1] 205 208 1 26 C cw_W_26 ⟨by decide, by decide⟩ ⟨by decide, by decide⟩ rfl rfl (of_decide_eq_true rfl) d_W_law_205 rfl ?_
  intro W2 h2
  exact V.icmp_eq C (tgt := 494) (n := 211) rfl rfl d_W_law_208 (by decide) rfl (fun _ => kk W2 h2) (fun hne => absurd rfl hne)
set_option maxHeartbeats 2000000 in
theorem lc_span (C : Cx p s m #[Value.ref b] meth c code 4 "FrameTablesLaw" D (TY cI cC E) (fun q => s.heap.size ≤ q)) (hX : va_X b L xs s s.heap) (hbl : b < s.heap.size) (hL : L ≤ 2048) (hk : 4 * k + 4 ≤ L) (h : LI cI cC o0 w0 W) (kk : ∀ W', LI cI cC o0 w0 W' → V p l e room_1 s m #[Value.ref b] below meth c 4 D (fun q => s.heap.size ≤ q) 42 9458 Q W' [(0, .ref b), (1, .ref o0), (2, .ref w0), (3, .int (nI (4 * k)))] 494 []) : V p l e room_1 s m #[Value.ref b] below meth c 4 D (fun q => s.heap.size ≤ q) 42 9458 Q W [(0, .ref b), (1, .ref o0), (2, .ref w0), (3, .int (nI (4 * k)))] 213 [] := by
  have hbA : ¬ (fun q : Nat => s.heap.size ≤ q) b := Nat.not_le.mpr hbl
  obtain ⟨R1, Q1, hA, hB⟩ := st_span (l := l) (D := D) (E := E) h (xs (4 * k + 1)) (xs (4 * k + 2)) (xs (4 * k + 3))
  refine V.aload_n C (i := 1) (j := 1) (n := 214) d_W_law_213 rfl rfl rfl ?_
  refine V.aload_n C (i := 0) (j := 0) (n := 215) d_W_law_214 rfl rfl rfl ?_
  refine V.iload_n C (i := 3) (j := 3) (n := 216) d_W_law_215 rfl rfl rfl ?_
  refine V.iconst C (v := nI 1) (n := 217) d_W_law_216 (by decide) rfl ?_
  refine V.iadd_n C (n := 218) d_W_law_217 rfl ?_
  refine V.sld C (n := 219) (i := 4 * k + 1) hX hbl hbA (by omega) (by omega) d_W_law_218 rfl ?_
  refine V.aload_n C (i := 0) (j := 0) (n := 220) d_W_law_219 rfl rfl rfl ?_
  refine V.iload_n C (i := 3) (j := 3) (n := 221) d_W_law_220 rfl rfl rfl ?_
  refine V.iconst C (v := nI 2) (n := 222) d_W_law_221 (by decide) rfl ?_
  refine V.iadd_n C (n := 223) d_W_law_222 rfl ?_
  refine V.sld C (n := 224) (i := 4 * k + 2) hX hbl hbA (by omega) (by omega) d_W_law_223 rfl ?_
  refine V.aload_n C (i := 0) (j := 0) (n := 225) d_W_law_224 rfl rfl rfl ?_
  refine V.iload_n C (i := 3) (j := 3) (n := 226) d_W_law_225 rfl rfl rfl ?_
  refine V.iconst C (v := nI 3) (n := 227) d_W_law_226 (by decide) rfl ?_
  refine V.iadd_n C (n := 228) d_W_law_227 rfl ?_
  refine V.sld C (n := 229) (i := 4 * k + 3) hX hbl hbA (by omega) (by omega) d_W_law_228 rfl ?_
  refine hA p e room_1 s m _ below meth c code 4 _ _ 42 9458 Q _ _ [] 229 232 3 27 C cw_W_27 ⟨by decide, by decide⟩ ⟨by decide, by decide⟩ rfl rfl (of_decide_eq_true rfl) d_W_law_229 rfl ?_
  intro W1 h1
  refine V.aload_n C (i := 2) (j := 2) (n := 233) d_W_law_232 rfl rfl rfl ?_
  refine V.aload_n C (i := 0) (j := 0) (n := 234) d_W_law_233 rfl rfl rfl ?_
  refine V.iload_n C (i := 3) (j := 3) (n := 235) d_W_law_234 rfl rfl rfl ?_
  refine V.iconst C (v := nI 1) (n := 236) d_W_law_235 (by decide) rfl ?_
  refine V.iadd_n C (n := 237) d_W_law_236 rfl ?_
  refine V.sld C (n := 238) (i := 4 * k + 1) hX hbl hbA (by omega) (by omega) d_W_law_237 rfl ?_
  refine V.aload_n C (i := 0) (j := 0) (n := 239) d_W_law_238 rfl rfl rfl ?_
  refine V.iload_n C (i := 3) (j := 3) (n := 240) d_W_law_239 rfl rfl rfl ?_
  refine V.iconst C (v := nI 2) (n := 241) d_W_law_240 (by decide) rfl ?_
  refine V.iadd_n C (n := 242) d_W_law_241 rfl ?_
  refine V.sld C (n := 243) (i := 4 * k + 2) hX hbl hbA (by omega) (by omega) d_W_law_242 rfl ?_
  refine V.aload_n C (i := 0) (j := 0) (n := 244) d_W_law_243 rfl rfl rfl ?_
  refine V.iload_n C (i := 3) (j := 3) (n := 245) d_W_law_244 rfl rfl rfl ?_
  refine V.iconst C (v := nI 3) (n := 246) d_W_law_245 (by decide) rfl ?_
  refine V.iadd_n C (n := 247) d_W_law_246 rfl ?_
  refine V.sld C (n := 248) (i := 4 * k + 3) hX hbl hbA (by omega) (by omega) d_W_law_247 rfl ?_
  refine hB W1 h1 p e room_1 s m _ below meth c code 4 _ _ 42 9458 Q _ _ [.int R1] 248 251 3 30 C cw_W_30 ⟨by decide, by decide⟩ ⟨by decide, by decide⟩ rfl rfl (of_decide_eq_true rfl) d_W_law_248 rfl ?_
  intro W2 h2
  exact V.icmp_eq C (tgt := 494) (n := 254) rfl rfl d_W_law_251 (by decide) rfl (fun _ => kk W2 h2) (fun hne => absurd rfl hne)
set_option maxHeartbeats 2000000 in
theorem lc_offset (C : Cx p s m #[Value.ref b] meth c code 4 "FrameTablesLaw" D (TY cI cC E) (fun q => s.heap.size ≤ q)) (hX : va_X b L xs s s.heap) (hbl : b < s.heap.size) (hL : L ≤ 2048) (hk : 4 * k + 4 ≤ L) (h : LI cI cC o0 w0 W) (kk : ∀ W', LI cI cC o0 w0 W' → V p l e room_1 s m #[Value.ref b] below meth c 4 D (fun q => s.heap.size ≤ q) 42 9458 Q W' [(0, .ref b), (1, .ref o0), (2, .ref w0), (3, .int (nI (4 * k)))] 494 []) : V p l e room_1 s m #[Value.ref b] below meth c 4 D (fun q => s.heap.size ≤ q) 42 9458 Q W [(0, .ref b), (1, .ref o0), (2, .ref w0), (3, .int (nI (4 * k)))] 256 [] := by
  have hbA : ¬ (fun q : Nat => s.heap.size ≤ q) b := Nat.not_le.mpr hbl
  obtain ⟨R1, Q1, hA, hB⟩ := st_offset (l := l) (D := D) (E := E) h ((xs (4 * k + 1)).toInt64 <<< ((nI 32).toInt64 &&& 63) ||| (xs (4 * k + 2)).toInt64 &&& jI 4294967295)
  refine V.aload_n C (i := 1) (j := 1) (n := 257) d_W_law_256 rfl rfl rfl ?_
  refine V.aload_n C (i := 0) (j := 0) (n := 258) d_W_law_257 rfl rfl rfl ?_
  refine V.iload_n C (i := 3) (j := 3) (n := 259) d_W_law_258 rfl rfl rfl ?_
  refine V.iconst C (v := nI 1) (n := 260) d_W_law_259 (by decide) rfl ?_
  refine V.iadd_n C (n := 261) d_W_law_260 rfl ?_
  refine V.sld C (n := 262) (i := 4 * k + 1) hX hbl hbA (by omega) (by omega) d_W_law_261 rfl ?_
  refine V.i2l_r C (n := 263) d_W_law_262 rfl rfl ?_
  refine V.bipush C (v := nI 32) (n := 265) d_W_law_263 (by decide) rfl ?_
  refine V.lshl_r C (n := 266) d_W_law_265 rfl rfl ?_
  refine V.aload_n C (i := 0) (j := 0) (n := 267) d_W_law_266 rfl rfl rfl ?_
  refine V.iload_n C (i := 3) (j := 3) (n := 268) d_W_law_267 rfl rfl rfl ?_
  refine V.iconst C (v := nI 2) (n := 269) d_W_law_268 (by decide) rfl ?_
  refine V.iadd_n C (n := 270) d_W_law_269 rfl ?_
  refine V.sld C (n := 271) (i := 4 * k + 2) hX hbl hbA (by omega) (by omega) d_W_law_270 rfl ?_
  refine V.i2l_r C (n := 272) d_W_law_271 rfl rfl ?_
  refine V.ldc2 C (n := 275) l2_W_31 d_W_law_272 rfl ?_
  refine V.land_r C (n := 276) d_W_law_275 rfl rfl ?_
  refine V.lor_r C (n := 277) d_W_law_276 rfl rfl ?_
  refine hA p e room_1 s m _ below meth c code 4 _ _ 42 9458 Q _ _ [] 277 280 1 33 C cw_W_33 ⟨by decide, by decide⟩ ⟨by decide, by decide⟩ rfl rfl (of_decide_eq_true rfl) d_W_law_277 rfl ?_
  intro W1 h1
  refine V.aload_n C (i := 2) (j := 2) (n := 281) d_W_law_280 rfl rfl rfl ?_
  refine V.aload_n C (i := 0) (j := 0) (n := 282) d_W_law_281 rfl rfl rfl ?_
  refine V.iload_n C (i := 3) (j := 3) (n := 283) d_W_law_282 rfl rfl rfl ?_
  refine V.iconst C (v := nI 1) (n := 284) d_W_law_283 (by decide) rfl ?_
  refine V.iadd_n C (n := 285) d_W_law_284 rfl ?_
  refine V.sld C (n := 286) (i := 4 * k + 1) hX hbl hbA (by omega) (by omega) d_W_law_285 rfl ?_
  refine V.i2l_r C (n := 287) d_W_law_286 rfl rfl ?_
  refine V.bipush C (v := nI 32) (n := 289) d_W_law_287 (by decide) rfl ?_
  refine V.lshl_r C (n := 290) d_W_law_289 rfl rfl ?_
  refine V.aload_n C (i := 0) (j := 0) (n := 291) d_W_law_290 rfl rfl rfl ?_
  refine V.iload_n C (i := 3) (j := 3) (n := 292) d_W_law_291 rfl rfl rfl ?_
  refine V.iconst C (v := nI 2) (n := 293) d_W_law_292 (by decide) rfl ?_
  refine V.iadd_n C (n := 294) d_W_law_293 rfl ?_
  refine V.sld C (n := 295) (i := 4 * k + 2) hX hbl hbA (by omega) (by omega) d_W_law_294 rfl ?_
  refine V.i2l_r C (n := 296) d_W_law_295 rfl rfl ?_
  refine V.ldc2 C (n := 299) l2_W_31 d_W_law_296 rfl ?_
  refine V.land_r C (n := 300) d_W_law_299 rfl rfl ?_
  refine V.lor_r C (n := 301) d_W_law_300 rfl rfl ?_
  refine hB W1 h1 p e room_1 s m _ below meth c code 4 _ _ 42 9458 Q _ _ [.int R1] 301 304 1 37 C cw_W_37 ⟨by decide, by decide⟩ ⟨by decide, by decide⟩ rfl rfl (of_decide_eq_true rfl) d_W_law_301 rfl ?_
  intro W2 h2
  exact V.icmp_eq C (tgt := 494) (n := 307) rfl rfl d_W_law_304 (by decide) rfl (fun _ => kk W2 h2) (fun hne => absurd rfl hne)
set_option maxHeartbeats 2000000 in
theorem lc_at (C : Cx p s m #[Value.ref b] meth c code 4 "FrameTablesLaw" D (TY cI cC E) (fun q => s.heap.size ≤ q)) (hX : va_X b L xs s s.heap) (hbl : b < s.heap.size) (hL : L ≤ 2048) (hk : 4 * k + 4 ≤ L) (h : LI cI cC o0 w0 W) (kk : ∀ W', LI cI cC o0 w0 W' → V p l e room_1 s m #[Value.ref b] below meth c 4 D (fun q => s.heap.size ≤ q) 42 9458 Q W' [(0, .ref b), (1, .ref o0), (2, .ref w0), (3, .int (nI (4 * k)))] 494 []) : V p l e room_1 s m #[Value.ref b] below meth c 4 D (fun q => s.heap.size ≤ q) 42 9458 Q W [(0, .ref b), (1, .ref o0), (2, .ref w0), (3, .int (nI (4 * k)))] 309 [] := by
  have hbA : ¬ (fun q : Nat => s.heap.size ≤ q) b := Nat.not_le.mpr hbl
  obtain ⟨R1, Q1, hA, hB⟩ := st_at (l := l) (D := D) (E := E) h (xs (4 * k + 1))
  refine V.aload_n C (i := 1) (j := 1) (n := 310) d_W_law_309 rfl rfl rfl ?_
  refine V.aload_n C (i := 0) (j := 0) (n := 311) d_W_law_310 rfl rfl rfl ?_
  refine V.iload_n C (i := 3) (j := 3) (n := 312) d_W_law_311 rfl rfl rfl ?_
  refine V.iconst C (v := nI 1) (n := 313) d_W_law_312 (by decide) rfl ?_
  refine V.iadd_n C (n := 314) d_W_law_313 rfl ?_
  refine V.sld C (n := 315) (i := 4 * k + 1) hX hbl hbA (by omega) (by omega) d_W_law_314 rfl ?_
  refine hA p e room_1 s m _ below meth c code 4 _ _ 42 9458 Q _ _ [] 315 318 1 38 C cw_W_38 ⟨by decide, by decide⟩ ⟨by decide, by decide⟩ rfl rfl (of_decide_eq_true rfl) d_W_law_315 rfl ?_
  intro W1 h1
  refine V.aload_n C (i := 2) (j := 2) (n := 319) d_W_law_318 rfl rfl rfl ?_
  refine V.aload_n C (i := 0) (j := 0) (n := 320) d_W_law_319 rfl rfl rfl ?_
  refine V.iload_n C (i := 3) (j := 3) (n := 321) d_W_law_320 rfl rfl rfl ?_
  refine V.iconst C (v := nI 1) (n := 322) d_W_law_321 (by decide) rfl ?_
  refine V.iadd_n C (n := 323) d_W_law_322 rfl ?_
  refine V.sld C (n := 324) (i := 4 * k + 1) hX hbl hbA (by omega) (by omega) d_W_law_323 rfl ?_
  refine hB W1 h1 p e room_1 s m _ below meth c code 4 _ _ 42 9458 Q _ _ [.int R1] 324 327 1 41 C cw_W_41 ⟨by decide, by decide⟩ ⟨by decide, by decide⟩ rfl rfl (of_decide_eq_true rfl) d_W_law_324 rfl ?_
  intro W2 h2
  exact V.icmp_eq C (tgt := 494) (n := 330) rfl rfl d_W_law_327 (by decide) rfl (fun _ => kk W2 h2) (fun hne => absurd rfl hne)
set_option maxHeartbeats 2000000 in
theorem lc_exact (C : Cx p s m #[Value.ref b] meth c code 4 "FrameTablesLaw" D (TY cI cC E) (fun q => s.heap.size ≤ q)) (hX : va_X b L xs s s.heap) (hbl : b < s.heap.size) (hL : L ≤ 2048) (hk : 4 * k + 4 ≤ L) (h : LI cI cC o0 w0 W) (kk : ∀ W', LI cI cC o0 w0 W' → V p l e room_1 s m #[Value.ref b] below meth c 4 D (fun q => s.heap.size ≤ q) 42 9458 Q W' [(0, .ref b), (1, .ref o0), (2, .ref w0), (3, .int (nI (4 * k)))] 494 []) : V p l e room_1 s m #[Value.ref b] below meth c 4 D (fun q => s.heap.size ≤ q) 42 9458 Q W [(0, .ref b), (1, .ref o0), (2, .ref w0), (3, .int (nI (4 * k)))] 332 [] := by
  have hbA : ¬ (fun q : Nat => s.heap.size ≤ q) b := Nat.not_le.mpr hbl
  obtain ⟨R1, Q1, hA, hB⟩ := st_exact (l := l) (D := D) (E := E) h 
  refine V.aload_n C (i := 1) (j := 1) (n := 333) d_W_law_332 rfl rfl rfl ?_
  refine hA p e room_1 s m _ below meth c code 4 _ _ 42 9458 Q _ _ [] 333 336 0 42 C cw_W_42 ⟨by decide, by decide⟩ ⟨by decide, by decide⟩ rfl rfl (of_decide_eq_true rfl) d_W_law_333 rfl ?_
  intro W1 h1
  refine V.aload_n C (i := 2) (j := 2) (n := 337) d_W_law_336 rfl rfl rfl ?_
  refine hB W1 h1 p e room_1 s m _ below meth c code 4 _ _ 42 9458 Q _ _ [.int R1] 337 340 0 46 C cw_W_46 ⟨by decide, by decide⟩ ⟨by decide, by decide⟩ rfl rfl (of_decide_eq_true rfl) d_W_law_337 rfl ?_
  intro W2 h2
  exact V.icmp_eq C (tgt := 494) (n := 343) rfl rfl d_W_law_340 (by decide) rfl (fun _ => kk W2 h2) (fun hne => absurd rfl hne)
set_option maxHeartbeats 2000000 in
theorem lc_gap (C : Cx p s m #[Value.ref b] meth c code 4 "FrameTablesLaw" D (TY cI cC E) (fun q => s.heap.size ≤ q)) (hX : va_X b L xs s s.heap) (hbl : b < s.heap.size) (hL : L ≤ 2048) (hk : 4 * k + 4 ≤ L) (h : LI cI cC o0 w0 W) (kk : ∀ W', LI cI cC o0 w0 W' → V p l e room_1 s m #[Value.ref b] below meth c 4 D (fun q => s.heap.size ≤ q) 42 9458 Q W' [(0, .ref b), (1, .ref o0), (2, .ref w0), (3, .int (nI (4 * k)))] 494 []) : V p l e room_1 s m #[Value.ref b] below meth c 4 D (fun q => s.heap.size ≤ q) 42 9458 Q W [(0, .ref b), (1, .ref o0), (2, .ref w0), (3, .int (nI (4 * k)))] 345 [] := by
  have hbA : ¬ (fun q : Nat => s.heap.size ≤ q) b := Nat.not_le.mpr hbl
  obtain ⟨R1, Q1, hA, hB⟩ := st_gap (l := l) (D := D) (E := E) h (xs (4 * k + 1)) (xs (4 * k + 2))
  refine V.aload_n C (i := 1) (j := 1) (n := 346) d_W_law_345 rfl rfl rfl ?_
  refine V.aload_n C (i := 0) (j := 0) (n := 347) d_W_law_346 rfl rfl rfl ?_
  refine V.iload_n C (i := 3) (j := 3) (n := 348) d_W_law_347 rfl rfl rfl ?_
  refine V.iconst C (v := nI 1) (n := 349) d_W_law_348 (by decide) rfl ?_
  refine V.iadd_n C (n := 350) d_W_law_349 rfl ?_
  refine V.sld C (n := 351) (i := 4 * k + 1) hX hbl hbA (by omega) (by omega) d_W_law_350 rfl ?_
  refine V.aload_n C (i := 0) (j := 0) (n := 352) d_W_law_351 rfl rfl rfl ?_
  refine V.iload_n C (i := 3) (j := 3) (n := 353) d_W_law_352 rfl rfl rfl ?_
  refine V.iconst C (v := nI 2) (n := 354) d_W_law_353 (by decide) rfl ?_
  refine V.iadd_n C (n := 355) d_W_law_354 rfl ?_
  refine V.sld C (n := 356) (i := 4 * k + 2) hX hbl hbA (by omega) (by omega) d_W_law_355 rfl ?_
  refine hA p e room_1 s m _ below meth c code 4 _ _ 42 9458 Q _ _ [] 356 359 2 47 C cw_W_47 ⟨by decide, by decide⟩ ⟨by decide, by decide⟩ rfl rfl (of_decide_eq_true rfl) d_W_law_356 rfl ?_
  intro W1 h1
  refine V.aload_n C (i := 2) (j := 2) (n := 360) d_W_law_359 rfl rfl rfl ?_
  refine V.aload_n C (i := 0) (j := 0) (n := 361) d_W_law_360 rfl rfl rfl ?_
  refine V.iload_n C (i := 3) (j := 3) (n := 362) d_W_law_361 rfl rfl rfl ?_
  refine V.iconst C (v := nI 1) (n := 363) d_W_law_362 (by decide) rfl ?_
  refine V.iadd_n C (n := 364) d_W_law_363 rfl ?_
  refine V.sld C (n := 365) (i := 4 * k + 1) hX hbl hbA (by omega) (by omega) d_W_law_364 rfl ?_
  refine V.aload_n C (i := 0) (j := 0) (n := 366) d_W_law_365 rfl rfl rfl ?_
  refine V.iload_n C (i := 3) (j := 3) (n := 367) d_W_law_366 rfl rfl rfl ?_
  refine V.iconst C (v := nI 2) (n := 368) d_W_law_367 (by decide) rfl ?_
  refine V.iadd_n C (n := 369) d_W_law_368 rfl ?_
  refine V.sld C (n := 370) (i := 4 * k + 2) hX hbl hbA (by omega) (by omega) d_W_law_369 rfl ?_
  refine hB W1 h1 p e room_1 s m _ below meth c code 4 _ _ 42 9458 Q _ _ [.int R1] 370 373 2 51 C cw_W_51 ⟨by decide, by decide⟩ ⟨by decide, by decide⟩ rfl rfl (of_decide_eq_true rfl) d_W_law_370 rfl ?_
  intro W2 h2
  exact V.icmp_eq C (tgt := 494) (n := 376) rfl rfl d_W_law_373 (by decide) rfl (fun _ => kk W2 h2) (fun hne => absurd rfl hne)
set_option maxHeartbeats 2000000 in
theorem lc_check (C : Cx p s m #[Value.ref b] meth c code 4 "FrameTablesLaw" D (TY cI cC E) (fun q => s.heap.size ≤ q)) (hX : va_X b L xs s s.heap) (hbl : b < s.heap.size) (hL : L ≤ 2048) (hk : 4 * k + 4 ≤ L) (h : LI cI cC o0 w0 W) (kk : ∀ W', LI cI cC o0 w0 W' → V p l e room_1 s m #[Value.ref b] below meth c 4 D (fun q => s.heap.size ≤ q) 42 9458 Q W' [(0, .ref b), (1, .ref o0), (2, .ref w0), (3, .int (nI (4 * k)))] 494 []) : V p l e room_1 s m #[Value.ref b] below meth c 4 D (fun q => s.heap.size ≤ q) 42 9458 Q W [(0, .ref b), (1, .ref o0), (2, .ref w0), (3, .int (nI (4 * k)))] 378 [] := by
  have hbA : ¬ (fun q : Nat => s.heap.size ≤ q) b := Nat.not_le.mpr hbl
  obtain ⟨R1, Q1, hA, hB⟩ := st_check (l := l) (D := D) (E := E) h 
  refine V.aload_n C (i := 1) (j := 1) (n := 379) d_W_law_378 rfl rfl rfl ?_
  refine hA p e room_1 s m _ below meth c code 4 _ _ 42 9458 Q _ _ [] 379 382 0 52 C cw_W_52 ⟨by decide, by decide⟩ ⟨by decide, by decide⟩ rfl rfl (of_decide_eq_true rfl) d_W_law_379 rfl ?_
  intro W1 h1
  refine V.aload_n C (i := 2) (j := 2) (n := 383) d_W_law_382 rfl rfl rfl ?_
  refine hB W1 h1 p e room_1 s m _ below meth c code 4 _ _ 42 9458 Q _ _ [.int R1] 383 386 0 56 C cw_W_56 ⟨by decide, by decide⟩ ⟨by decide, by decide⟩ rfl rfl (of_decide_eq_true rfl) d_W_law_383 rfl ?_
  intro W2 h2
  exact V.icmp_eq C (tgt := 494) (n := 389) rfl rfl d_W_law_386 (by decide) rfl (fun _ => kk W2 h2) (fun hne => absurd rfl hne)
set_option maxHeartbeats 2000000 in
theorem lc_sign (C : Cx p s m #[Value.ref b] meth c code 4 "FrameTablesLaw" D (TY cI cC E) (fun q => s.heap.size ≤ q)) (hX : va_X b L xs s s.heap) (hbl : b < s.heap.size) (hL : L ≤ 2048) (hk : 4 * k + 4 ≤ L) (h : LI cI cC o0 w0 W) (kk : ∀ W', LI cI cC o0 w0 W' → V p l e room_1 s m #[Value.ref b] below meth c 4 D (fun q => s.heap.size ≤ q) 42 9458 Q W' [(0, .ref b), (1, .ref o0), (2, .ref w0), (3, .int (nI (4 * k)))] 494 []) : V p l e room_1 s m #[Value.ref b] below meth c 4 D (fun q => s.heap.size ≤ q) 42 9458 Q W [(0, .ref b), (1, .ref o0), (2, .ref w0), (3, .int (nI (4 * k)))] 391 [] := by
  have hbA : ¬ (fun q : Nat => s.heap.size ≤ q) b := Nat.not_le.mpr hbl
  obtain ⟨Q1, hA, hB⟩ := st_sign (l := l) (D := D) (E := E) h (xs (4 * k + 1))
  refine V.aload_n C (i := 1) (j := 1) (n := 392) d_W_law_391 rfl rfl rfl ?_
  refine V.aload_n C (i := 0) (j := 0) (n := 393) d_W_law_392 rfl rfl rfl ?_
  refine V.iload_n C (i := 3) (j := 3) (n := 394) d_W_law_393 rfl rfl rfl ?_
  refine V.iconst C (v := nI 1) (n := 395) d_W_law_394 (by decide) rfl ?_
  refine V.iadd_n C (n := 396) d_W_law_395 rfl ?_
  refine V.sld C (n := 397) (i := 4 * k + 1) hX hbl hbA (by omega) (by omega) d_W_law_396 rfl ?_
  refine hA p e room_1 s m _ below meth c code 4 _ _ 42 9458 Q _ _ [] 397 400 1 57 C cw_W_57 ⟨by decide, by decide⟩ ⟨by decide, by decide⟩ rfl rfl (of_decide_eq_true rfl) d_W_law_397 rfl ?_
  intro W1 h1
  refine V.aload_n C (i := 2) (j := 2) (n := 401) d_W_law_400 rfl rfl rfl ?_
  refine V.aload_n C (i := 0) (j := 0) (n := 402) d_W_law_401 rfl rfl rfl ?_
  refine V.iload_n C (i := 3) (j := 3) (n := 403) d_W_law_402 rfl rfl rfl ?_
  refine V.iconst C (v := nI 1) (n := 404) d_W_law_403 (by decide) rfl ?_
  refine V.iadd_n C (n := 405) d_W_law_404 rfl ?_
  refine V.sld C (n := 406) (i := 4 * k + 1) hX hbl hbA (by omega) (by omega) d_W_law_405 rfl ?_
  refine hB W1 h1 p e room_1 s m _ below meth c code 4 _ _ 42 9458 Q _ _ [] 406 409 1 61 C cw_W_61 ⟨by decide, by decide⟩ ⟨by decide, by decide⟩ rfl rfl (of_decide_eq_true rfl) d_W_law_406 rfl ?_
  intro W2 h2
  exact V.goto C (n := 494) d_W_law_409 (by decide) (kk W2 h2)
set_option maxHeartbeats 2000000 in
theorem lc_read (C : Cx p s m #[Value.ref b] meth c code 4 "FrameTablesLaw" D (TY cI cC E) (fun q => s.heap.size ≤ q)) (hX : va_X b L xs s s.heap) (hbl : b < s.heap.size) (hL : L ≤ 2048) (hk : 4 * k + 4 ≤ L) (h : LI cI cC o0 w0 W) (kk : ∀ W', LI cI cC o0 w0 W' → V p l e room_1 s m #[Value.ref b] below meth c 4 D (fun q => s.heap.size ≤ q) 42 9458 Q W' [(0, .ref b), (1, .ref o0), (2, .ref w0), (3, .int (nI (4 * k)))] 494 []) : V p l e room_1 s m #[Value.ref b] below meth c 4 D (fun q => s.heap.size ≤ q) 42 9458 Q W [(0, .ref b), (1, .ref o0), (2, .ref w0), (3, .int (nI (4 * k)))] 412 [] := by
  have hbA : ¬ (fun q : Nat => s.heap.size ≤ q) b := Nat.not_le.mpr hbl
  obtain ⟨R1, Q1, hA, hB⟩ := st_read (l := l) (D := D) (E := E) h 
  refine V.aload_n C (i := 1) (j := 1) (n := 413) d_W_law_412 rfl rfl rfl ?_
  refine hA p e room_1 s m _ below meth c code 4 _ _ 42 9458 Q _ _ [] 413 416 0 62 C cw_W_62 ⟨by decide, by decide⟩ ⟨by decide, by decide⟩ rfl rfl (of_decide_eq_true rfl) d_W_law_413 rfl ?_
  intro W1 h1
  refine V.aload_n C (i := 2) (j := 2) (n := 417) d_W_law_416 rfl rfl rfl ?_
  refine hB W1 h1 p e room_1 s m _ below meth c code 4 _ _ 42 9458 Q _ _ [.int R1] 417 420 0 65 C cw_W_65 ⟨by decide, by decide⟩ ⟨by decide, by decide⟩ rfl rfl (of_decide_eq_true rfl) d_W_law_417 rfl ?_
  intro W2 h2
  exact V.icmp_eq C (tgt := 494) (n := 423) rfl rfl d_W_law_420 (by decide) rfl (fun _ => kk W2 h2) (fun hne => absurd rfl hne)
set_option maxHeartbeats 2000000 in
theorem lc_print (C : Cx p s m #[Value.ref b] meth c code 4 "FrameTablesLaw" D (TY cI cC E) (fun q => s.heap.size ≤ q)) (hX : va_X b L xs s s.heap) (hbl : b < s.heap.size) (hL : L ≤ 2048) (hk : 4 * k + 4 ≤ L) (h : LI cI cC o0 w0 W) (kk : ∀ W', LI cI cC o0 w0 W' → V p l e room_1 s m #[Value.ref b] below meth c 4 D (fun q => s.heap.size ≤ q) 42 9458 Q W' [(0, .ref b), (1, .ref o0), (2, .ref w0), (3, .int (nI (4 * k)))] 494 []) : V p l e room_1 s m #[Value.ref b] below meth c 4 D (fun q => s.heap.size ≤ q) 42 9458 Q W [(0, .ref b), (1, .ref o0), (2, .ref w0), (3, .int (nI (4 * k)))] 425 [] := by
  have hbA : ¬ (fun q : Nat => s.heap.size ≤ q) b := Nat.not_le.mpr hbl
  obtain ⟨R1, Q1, hA, hB⟩ := st_print (l := l) (D := D) (E := E) h 
  refine V.aload_n C (i := 1) (j := 1) (n := 426) d_W_law_425 rfl rfl rfl ?_
  refine hA p e room_1 s m _ below meth c code 4 _ _ 42 9458 Q _ _ [] 426 429 0 66 C cw_W_66 ⟨by decide, by decide⟩ ⟨by decide, by decide⟩ rfl rfl (of_decide_eq_true rfl) d_W_law_426 rfl ?_
  intro W1 h1
  refine V.aload_n C (i := 2) (j := 2) (n := 430) d_W_law_429 rfl rfl rfl ?_
  refine hB W1 h1 p e room_1 s m _ below meth c code 4 _ _ 42 9458 Q _ _ [.int R1] 430 433 0 69 C cw_W_69 ⟨by decide, by decide⟩ ⟨by decide, by decide⟩ rfl rfl (of_decide_eq_true rfl) d_W_law_430 rfl ?_
  intro W2 h2
  exact V.icmp_eq C (tgt := 494) (n := 436) rfl rfl d_W_law_433 (by decide) rfl (fun _ => kk W2 h2) (fun hne => absurd rfl hne)
set_option maxHeartbeats 2000000 in
theorem lc_letter (C : Cx p s m #[Value.ref b] meth c code 4 "FrameTablesLaw" D (TY cI cC E) (fun q => s.heap.size ≤ q)) (hX : va_X b L xs s s.heap) (hbl : b < s.heap.size) (hL : L ≤ 2048) (hk : 4 * k + 4 ≤ L) (h : LI cI cC o0 w0 W) (kk : ∀ W', LI cI cC o0 w0 W' → V p l e room_1 s m #[Value.ref b] below meth c 4 D (fun q => s.heap.size ≤ q) 42 9458 Q W' [(0, .ref b), (1, .ref o0), (2, .ref w0), (3, .int (nI (4 * k)))] 494 []) : V p l e room_1 s m #[Value.ref b] below meth c 4 D (fun q => s.heap.size ≤ q) 42 9458 Q W [(0, .ref b), (1, .ref o0), (2, .ref w0), (3, .int (nI (4 * k)))] 438 [] := by
  have hbA : ¬ (fun q : Nat => s.heap.size ≤ q) b := Nat.not_le.mpr hbl
  obtain ⟨R1, Q1, hA, hB⟩ := st_letter (l := l) (D := D) (E := E) h (xs (4 * k + 1))
  refine V.aload_n C (i := 1) (j := 1) (n := 439) d_W_law_438 rfl rfl rfl ?_
  refine V.aload_n C (i := 0) (j := 0) (n := 440) d_W_law_439 rfl rfl rfl ?_
  refine V.iload_n C (i := 3) (j := 3) (n := 441) d_W_law_440 rfl rfl rfl ?_
  refine V.iconst C (v := nI 1) (n := 442) d_W_law_441 (by decide) rfl ?_
  refine V.iadd_n C (n := 443) d_W_law_442 rfl ?_
  refine V.sld C (n := 444) (i := 4 * k + 1) hX hbl hbA (by omega) (by omega) d_W_law_443 rfl ?_
  refine hA p e room_1 s m _ below meth c code 4 _ _ 42 9458 Q _ _ [] 444 447 1 70 C cw_W_70 ⟨by decide, by decide⟩ ⟨by decide, by decide⟩ rfl rfl (of_decide_eq_true rfl) d_W_law_444 rfl ?_
  intro W1 h1
  refine V.aload_n C (i := 2) (j := 2) (n := 448) d_W_law_447 rfl rfl rfl ?_
  refine V.aload_n C (i := 0) (j := 0) (n := 449) d_W_law_448 rfl rfl rfl ?_
  refine V.iload_n C (i := 3) (j := 3) (n := 450) d_W_law_449 rfl rfl rfl ?_
  refine V.iconst C (v := nI 1) (n := 451) d_W_law_450 (by decide) rfl ?_
  refine V.iadd_n C (n := 452) d_W_law_451 rfl ?_
  refine V.sld C (n := 453) (i := 4 * k + 1) hX hbl hbA (by omega) (by omega) d_W_law_452 rfl ?_
  refine hB W1 h1 p e room_1 s m _ below meth c code 4 _ _ 42 9458 Q _ _ [.int R1] 453 456 1 73 C cw_W_73 ⟨by decide, by decide⟩ ⟨by decide, by decide⟩ rfl rfl (of_decide_eq_true rfl) d_W_law_453 rfl ?_
  intro W2 h2
  exact V.icmp_eq C (tgt := 494) (n := 459) rfl rfl d_W_law_456 (by decide) rfl (fun _ => kk W2 h2) (fun hne => absurd rfl hne)
set_option maxHeartbeats 2000000 in
theorem lc_touched (C : Cx p s m #[Value.ref b] meth c code 4 "FrameTablesLaw" D (TY cI cC E) (fun q => s.heap.size ≤ q)) (hX : va_X b L xs s s.heap) (hbl : b < s.heap.size) (hL : L ≤ 2048) (hk : 4 * k + 4 ≤ L) (h : LI cI cC o0 w0 W) (kk : ∀ W', LI cI cC o0 w0 W' → V p l e room_1 s m #[Value.ref b] below meth c 4 D (fun q => s.heap.size ≤ q) 42 9458 Q W' [(0, .ref b), (1, .ref o0), (2, .ref w0), (3, .int (nI (4 * k)))] 494 []) : V p l e room_1 s m #[Value.ref b] below meth c 4 D (fun q => s.heap.size ≤ q) 42 9458 Q W [(0, .ref b), (1, .ref o0), (2, .ref w0), (3, .int (nI (4 * k)))] 461 [] := by
  have hbA : ¬ (fun q : Nat => s.heap.size ≤ q) b := Nat.not_le.mpr hbl
  obtain ⟨R1, Q1, hA, hB⟩ := st_touched (l := l) (D := D) (E := E) h (xs (4 * k + 1)) (xs (4 * k + 2))
  refine V.aload_n C (i := 1) (j := 1) (n := 462) d_W_law_461 rfl rfl rfl ?_
  refine V.aload_n C (i := 0) (j := 0) (n := 463) d_W_law_462 rfl rfl rfl ?_
  refine V.iload_n C (i := 3) (j := 3) (n := 464) d_W_law_463 rfl rfl rfl ?_
  refine V.iconst C (v := nI 1) (n := 465) d_W_law_464 (by decide) rfl ?_
  refine V.iadd_n C (n := 466) d_W_law_465 rfl ?_
  refine V.sld C (n := 467) (i := 4 * k + 1) hX hbl hbA (by omega) (by omega) d_W_law_466 rfl ?_
  refine V.aload_n C (i := 0) (j := 0) (n := 468) d_W_law_467 rfl rfl rfl ?_
  refine V.iload_n C (i := 3) (j := 3) (n := 469) d_W_law_468 rfl rfl rfl ?_
  refine V.iconst C (v := nI 2) (n := 470) d_W_law_469 (by decide) rfl ?_
  refine V.iadd_n C (n := 471) d_W_law_470 rfl ?_
  refine V.sld C (n := 472) (i := 4 * k + 2) hX hbl hbA (by omega) (by omega) d_W_law_471 rfl ?_
  refine hA p e room_1 s m _ below meth c code 4 _ _ 42 9458 Q _ _ [] 472 475 2 74 C cw_W_74 ⟨by decide, by decide⟩ ⟨by decide, by decide⟩ rfl rfl (of_decide_eq_true rfl) d_W_law_472 rfl ?_
  intro W1 h1
  refine V.aload_n C (i := 2) (j := 2) (n := 476) d_W_law_475 rfl rfl rfl ?_
  refine V.aload_n C (i := 0) (j := 0) (n := 477) d_W_law_476 rfl rfl rfl ?_
  refine V.iload_n C (i := 3) (j := 3) (n := 478) d_W_law_477 rfl rfl rfl ?_
  refine V.iconst C (v := nI 1) (n := 479) d_W_law_478 (by decide) rfl ?_
  refine V.iadd_n C (n := 480) d_W_law_479 rfl ?_
  refine V.sld C (n := 481) (i := 4 * k + 1) hX hbl hbA (by omega) (by omega) d_W_law_480 rfl ?_
  refine V.aload_n C (i := 0) (j := 0) (n := 482) d_W_law_481 rfl rfl rfl ?_
  refine V.iload_n C (i := 3) (j := 3) (n := 483) d_W_law_482 rfl rfl rfl ?_
  refine V.iconst C (v := nI 2) (n := 484) d_W_law_483 (by decide) rfl ?_
  refine V.iadd_n C (n := 485) d_W_law_484 rfl ?_
  refine V.sld C (n := 486) (i := 4 * k + 2) hX hbl hbA (by omega) (by omega) d_W_law_485 rfl ?_
  refine hB W1 h1 p e room_1 s m _ below meth c code 4 _ _ 42 9458 Q _ _ [.int R1] 486 489 2 77 C cw_W_77 ⟨by decide, by decide⟩ ⟨by decide, by decide⟩ rfl rfl (of_decide_eq_true rfl) d_W_law_486 rfl ?_
  intro W2 h2
  exact V.icmp_eq C (tgt := 494) (n := 492) rfl rfl d_W_law_489 (by decide) rfl (fun _ => kk W2 h2) (fun hne => absurd rfl hne)
end LW

section CGL
variable {X X' M M' : DT} {T : Nat × Nat}
theorem Rel.cgM (h : Rel T X M) (hM : ∀ a : AD, 14 ≤ a.1 → M' a = M a) : Rel T X M' := by
  obtain ⟨h1, h2, h3, h4, h5, h6, h7, h8, h9⟩ := h
  exact ⟨h1.cg (fun _ => rfl) (hM _ (leb rfl)), h2.cg (fun _ _ _ _ => rfl) (fun n _ _ => hM _ (leb rfl)), h3.cg (fun _ _ => rfl) (fun _ _ => rfl) (fun u _ => by rw [hM _ (leb rfl)]), h4.cg (fun _ _ _ _ => rfl) (fun _ _ _ _ => rfl) (hM _ (leb rfl)), h5.cg (fun _ _ => rfl) (fun _ _ => rfl) (fun _ _ _ _ => rfl) (fun _ _ _ _ => rfl) (hM _ (leb rfl)) (hM _ (leb rfl)) (fun u _ _ => by rw [hM _ (leb rfl)]), h6.cg (fun _ => rfl) (fun _ _ => rfl) (fun _ _ _ _ => rfl) (fun n _ _ => hM _ (leb rfl)) (fun u _ _ => by rw [hM _ (leb rfl)]), h7.cg (fun _ => rfl) (fun _ => rfl) (fun _ => rfl) (fun n _ _ => hM _ (leb rfl)), h8.cg rfl (by rw [hM _ (leb rfl)]), h9.cg (fun u _ => Or.inl (by rw [hM _ (leb rfl)]))⟩
theorem Rel.cgX (h : Rel T X M) (hX : ∀ a : AD, a.1 < 14 → X' a = X a) : Rel T X' M := by
  obtain ⟨h1, h2, h3, h4, h5, h6, h7, h8, h9⟩ := h
  exact ⟨h1.cg (fun _ => hX _ (leb rfl)) rfl, h2.cg (fun _ _ _ _ => by rw [hX _ (leb rfl)]) (fun n _ _ => rfl), h3.cg (fun _ _ => hX _ (leb rfl)) (fun _ _ => by rw [hX _ (leb rfl)]) (fun u _ => rfl), h4.cg (fun _ _ _ _ => hX _ (leb rfl)) (fun _ _ _ _ => by rw [hX _ (leb rfl)]) rfl, h5.cg (fun _ _ => by rw [hX _ (leb rfl)]) (fun _ _ => hX _ (leb rfl)) (fun _ _ _ _ => hX _ (leb rfl)) (fun _ _ _ _ => by rw [hX _ (leb rfl)]) rfl rfl (fun u _ _ => rfl), h6.cg (fun _ => hX _ (leb rfl)) (fun _ _ => hX _ (leb rfl)) (fun _ _ _ _ => hX _ (leb rfl)) (fun n _ _ => rfl) (fun u _ _ => rfl), h7.cg (fun _ => by rw [hX _ (leb rfl)]) (fun _ => hX _ (leb rfl)) (fun _ => hX _ (leb rfl)) (fun n _ _ => rfl), h8.cg (by rw [hX _ (leb rfl)]) rfl, h9⟩
/-- one call of the law: both sides -/
theorem law_call {K : EK} {d : Nat} {cx cm : MT} {av : List AV} {T' : Nat × Nat} {D : DT} (hR : Rel T D D) (hS : Sim K d cx cm av T T' D) : ∃ (r : Int32) (X1 M1 : DT), CF K cx (d + 7) (rR (0, 0, 0) :: av) D (some (rI r)) X1 ∧ CF K cm (d + 7) (rR (14, 0, 0) :: av) X1 (some (rI r)) M1 ∧ Rel T' M1 M1 := by
  obtain ⟨r, X1, g1, g2, g3⟩ := hS
  obtain ⟨M1, k1, k2, k3⟩ := g3 X1 (hR.cgM g2)
  exact ⟨r, X1, M1, g1, k1, k3.cgX k2⟩
end CGL

set_option maxRecDepth 20000 in
set_option maxHeartbeats 2000000 in
theorem law_poke (K : EK) (d : Nat) {j T : Nat} {D : DT} (hLL : ek_L K < 2 ^ 31) (hj : 6 * j + 6 ≤ ek_L K) (hT : T + 5000 < 2 ^ 31) (hR : Rel (T, T) D D) (Q : Option AV → DT → Prop) (ih : ∀ (T' : Nat) (D' : DT), T' ≤ T + 5000 → Rel (T', T') D' D' → RD K mL_law (d + 8) 759 [some (rR (16, 0, 0)), some (rR (0, 0, 0)), some (rR (14, 0, 0)), some (rI (nI (6 * j)))] [] D' Q) : RD K mL_law (d + 8) 116 [some (rR (16, 0, 0)), some (rR (0, 0, 0)), some (rR (14, 0, 0)), some (rI (nI (6 * j)))] [] D Q := by
  obtain ⟨r, X1, M1, g1, g2, g3⟩ := law_call hR (s_poke K d (ek_x K (6 * j + 1)) (ek_x K (6 * j + 2)) (ek_x K (6 * j + 3)) (ek_x K (6 * j + 4)) (ek_x K (6 * j + 5)))
  refine RD.aload_n (pc := 116) dL_law_116 rfl ?_
  refine RD.aload_n (pc := 117) dL_law_117 rfl ?_
  refine RD.iload_n (pc := 118) dL_law_118 rfl ?_
  refine RD.iconst (pc := 119) (v := 1) dL_law_119 (by decide) ?_
  refine RD.iadd (pc := 120) dL_law_120 ?_
  refine RD.eqI (nI_add (6 * j) 1) ?_
  refine RD.sald (pc := 121) ((6 * j) + 1) dL_law_121 rfl (by omega) hLL ?_
  refine RD.aload_n (pc := 122) dL_law_122 rfl ?_
  refine RD.iload_n (pc := 123) dL_law_123 rfl ?_
  refine RD.iconst (pc := 124) (v := 2) dL_law_124 (by decide) ?_
  refine RD.iadd (pc := 125) dL_law_125 ?_
  refine RD.eqI (nI_add (6 * j) 2) ?_
  refine RD.sald (pc := 126) ((6 * j) + 2) dL_law_126 rfl (by omega) hLL ?_
  refine RD.aload_n (pc := 127) dL_law_127 rfl ?_
  refine RD.iload_n (pc := 128) dL_law_128 rfl ?_
  refine RD.iconst (pc := 129) (v := 3) dL_law_129 (by decide) ?_
  refine RD.iadd (pc := 130) dL_law_130 ?_
  refine RD.eqI (nI_add (6 * j) 3) ?_
  refine RD.sald (pc := 131) ((6 * j) + 3) dL_law_131 rfl (by omega) hLL ?_
  refine RD.aload_n (pc := 132) dL_law_132 rfl ?_
  refine RD.iload_n (pc := 133) dL_law_133 rfl ?_
  refine RD.iconst (pc := 134) (v := 4) dL_law_134 (by decide) ?_
  refine RD.iadd (pc := 135) dL_law_135 ?_
  refine RD.eqI (nI_add (6 * j) 4) ?_
  refine RD.sald (pc := 136) ((6 * j) + 4) dL_law_136 rfl (by omega) hLL ?_
  refine RD.aload_n (pc := 137) dL_law_137 rfl ?_
  refine RD.iload_n (pc := 138) dL_law_138 rfl ?_
  refine RD.iconst (pc := 139) (v := 5) dL_law_139 (by decide) ?_
  refine RD.iadd (pc := 140) dL_law_140 ?_
  refine RD.eqI (nI_add (6 * j) 5) ?_
  refine RD.sald (pc := 141) ((6 * j) + 5) dL_law_141 rfl (by omega) hLL ?_
  refine RD.cV5 (pc := 142) dL_law_142 mlL_13 rfl ok0 rfl g1 (leb rfl) ?_
  refine RD.aload_n (pc := 145) dL_law_145 rfl ?_
  refine RD.aload_n (pc := 146) dL_law_146 rfl ?_
  refine RD.iload_n (pc := 147) dL_law_147 rfl ?_
  refine RD.iconst (pc := 148) (v := 1) dL_law_148 (by decide) ?_
  refine RD.iadd (pc := 149) dL_law_149 ?_
  refine RD.eqI (nI_add (6 * j) 1) ?_
  refine RD.sald (pc := 150) ((6 * j) + 1) dL_law_150 rfl (by omega) hLL ?_
  refine RD.aload_n (pc := 151) dL_law_151 rfl ?_
  refine RD.iload_n (pc := 152) dL_law_152 rfl ?_
  refine RD.iconst (pc := 153) (v := 2) dL_law_153 (by decide) ?_
  refine RD.iadd (pc := 154) dL_law_154 ?_
  refine RD.eqI (nI_add (6 * j) 2) ?_
  refine RD.sald (pc := 155) ((6 * j) + 2) dL_law_155 rfl (by omega) hLL ?_
  refine RD.aload_n (pc := 156) dL_law_156 rfl ?_
  refine RD.iload_n (pc := 157) dL_law_157 rfl ?_
  refine RD.iconst (pc := 158) (v := 3) dL_law_158 (by decide) ?_
  refine RD.iadd (pc := 159) dL_law_159 ?_
  refine RD.eqI (nI_add (6 * j) 3) ?_
  refine RD.sald (pc := 160) ((6 * j) + 3) dL_law_160 rfl (by omega) hLL ?_
  refine RD.aload_n (pc := 161) dL_law_161 rfl ?_
  refine RD.iload_n (pc := 162) dL_law_162 rfl ?_
  refine RD.iconst (pc := 163) (v := 4) dL_law_163 (by decide) ?_
  refine RD.iadd (pc := 164) dL_law_164 ?_
  refine RD.eqI (nI_add (6 * j) 4) ?_
  refine RD.sald (pc := 165) ((6 * j) + 4) dL_law_165 rfl (by omega) hLL ?_
  refine RD.aload_n (pc := 166) dL_law_166 rfl ?_
  refine RD.iload_n (pc := 167) dL_law_167 rfl ?_
  refine RD.iconst (pc := 168) (v := 5) dL_law_168 (by decide) ?_
  refine RD.iadd (pc := 169) dL_law_169 ?_
  refine RD.eqI (nI_add (6 * j) 5) ?_
  refine RD.sald (pc := 170) ((6 * j) + 5) dL_law_170 rfl (by omega) hLL ?_
  refine RD.cV5 (pc := 171) dL_law_171 mlL_17 rfl ok14 rfl g2 (leb rfl) ?_
  refine RD.icmp_eq (pc := 174) 759 dL_law_174 (by decide) (fun c174 => ?_) (fun c174 => absurd rfl c174)
  exact ih T M1 (by omega) g3

set_option maxRecDepth 20000 in
set_option maxHeartbeats 2000000 in
theorem law_start (K : EK) (d : Nat) {j T : Nat} {D : DT} (hLL : ek_L K < 2 ^ 31) (hj : 6 * j + 6 ≤ ek_L K) (hT : T + 5000 < 2 ^ 31) (hR : Rel (T, T) D D) (Q : Option AV → DT → Prop) (ih : ∀ (T' : Nat) (D' : DT), T' ≤ T + 5000 → Rel (T', T') D' D' → RD K mL_law (d + 8) 759 [some (rR (16, 0, 0)), some (rR (0, 0, 0)), some (rR (14, 0, 0)), some (rI (nI (6 * j)))] [] D' Q) : RD K mL_law (d + 8) 179 [some (rR (16, 0, 0)), some (rR (0, 0, 0)), some (rR (14, 0, 0)), some (rI (nI (6 * j)))] [] D Q := by
  obtain ⟨r, X1, M1, g1, g2, g3⟩ := law_call hR (s_start K d (ek_x K (6 * j + 1)))
  refine RD.aload_n (pc := 179) dL_law_179 rfl ?_
  refine RD.aload_n (pc := 180) dL_law_180 rfl ?_
  refine RD.iload_n (pc := 181) dL_law_181 rfl ?_
  refine RD.iconst (pc := 182) (v := 1) dL_law_182 (by decide) ?_
  refine RD.iadd (pc := 183) dL_law_183 ?_
  refine RD.eqI (nI_add (6 * j) 1) ?_
  refine RD.sald (pc := 184) ((6 * j) + 1) dL_law_184 rfl (by omega) hLL ?_
  refine RD.cV1 (pc := 185) dL_law_185 mlL_18 rfl ok0 rfl g1 (leb rfl) ?_
  refine RD.aload_n (pc := 188) dL_law_188 rfl ?_
  refine RD.aload_n (pc := 189) dL_law_189 rfl ?_
  refine RD.iload_n (pc := 190) dL_law_190 rfl ?_
  refine RD.iconst (pc := 191) (v := 1) dL_law_191 (by decide) ?_
  refine RD.iadd (pc := 192) dL_law_192 ?_
  refine RD.eqI (nI_add (6 * j) 1) ?_
  refine RD.sald (pc := 193) ((6 * j) + 1) dL_law_193 rfl (by omega) hLL ?_
  refine RD.cV1 (pc := 194) dL_law_194 mlL_22 rfl ok14 rfl g2 (leb rfl) ?_
  refine RD.icmp_eq (pc := 197) 759 dL_law_197 (by decide) (fun c197 => ?_) (fun c197 => absurd rfl c197)
  exact ih T M1 (by omega) g3

set_option maxRecDepth 20000 in
set_option maxHeartbeats 2000000 in
theorem law_counter (K : EK) (d : Nat) {j T : Nat} {D : DT} (hLL : ek_L K < 2 ^ 31) (hj : 6 * j + 6 ≤ ek_L K) (hT : T + 5000 < 2 ^ 31) (hR : Rel (T, T) D D) (Q : Option AV → DT → Prop) (ih : ∀ (T' : Nat) (D' : DT), T' ≤ T + 5000 → Rel (T', T') D' D' → RD K mL_law (d + 8) 759 [some (rR (16, 0, 0)), some (rR (0, 0, 0)), some (rR (14, 0, 0)), some (rI (nI (6 * j)))] [] D' Q) : RD K mL_law (d + 8) 202 [some (rR (16, 0, 0)), some (rR (0, 0, 0)), some (rR (14, 0, 0)), some (rI (nI (6 * j)))] [] D Q := by
  obtain ⟨r, X1, M1, g1, g2, g3⟩ := law_call hR (s_counter K d (ek_x K (6 * j + 1)) (ek_x K (6 * j + 2)))
  refine RD.aload_n (pc := 202) dL_law_202 rfl ?_
  refine RD.aload_n (pc := 203) dL_law_203 rfl ?_
  refine RD.iload_n (pc := 204) dL_law_204 rfl ?_
  refine RD.iconst (pc := 205) (v := 1) dL_law_205 (by decide) ?_
  refine RD.iadd (pc := 206) dL_law_206 ?_
  refine RD.eqI (nI_add (6 * j) 1) ?_
  refine RD.sald (pc := 207) ((6 * j) + 1) dL_law_207 rfl (by omega) hLL ?_
  refine RD.aload_n (pc := 208) dL_law_208 rfl ?_
  refine RD.iload_n (pc := 209) dL_law_209 rfl ?_
  refine RD.iconst (pc := 210) (v := 2) dL_law_210 (by decide) ?_
  refine RD.iadd (pc := 211) dL_law_211 ?_
  refine RD.eqI (nI_add (6 * j) 2) ?_
  refine RD.sald (pc := 212) ((6 * j) + 2) dL_law_212 rfl (by omega) hLL ?_
  refine RD.cV2 (pc := 213) dL_law_213 mlL_23 rfl ok0 rfl g1 (leb rfl) ?_
  refine RD.aload_n (pc := 216) dL_law_216 rfl ?_
  refine RD.aload_n (pc := 217) dL_law_217 rfl ?_
  refine RD.iload_n (pc := 218) dL_law_218 rfl ?_
  refine RD.iconst (pc := 219) (v := 1) dL_law_219 (by decide) ?_
  refine RD.iadd (pc := 220) dL_law_220 ?_
  refine RD.eqI (nI_add (6 * j) 1) ?_
  refine RD.sald (pc := 221) ((6 * j) + 1) dL_law_221 rfl (by omega) hLL ?_
  refine RD.aload_n (pc := 222) dL_law_222 rfl ?_
  refine RD.iload_n (pc := 223) dL_law_223 rfl ?_
  refine RD.iconst (pc := 224) (v := 2) dL_law_224 (by decide) ?_
  refine RD.iadd (pc := 225) dL_law_225 ?_
  refine RD.eqI (nI_add (6 * j) 2) ?_
  refine RD.sald (pc := 226) ((6 * j) + 2) dL_law_226 rfl (by omega) hLL ?_
  refine RD.cV2 (pc := 227) dL_law_227 mlL_27 rfl ok14 rfl g2 (leb rfl) ?_
  refine RD.icmp_eq (pc := 230) 759 dL_law_230 (by decide) (fun c230 => ?_) (fun c230 => absurd rfl c230)
  exact ih T M1 (by omega) g3

set_option maxRecDepth 20000 in
set_option maxHeartbeats 2000000 in
theorem law_tag (K : EK) (d : Nat) {j T : Nat} {D : DT} (hLL : ek_L K < 2 ^ 31) (hj : 6 * j + 6 ≤ ek_L K) (hT : T + 5000 < 2 ^ 31) (hR : Rel (T, T) D D) (Q : Option AV → DT → Prop) (ih : ∀ (T' : Nat) (D' : DT), T' ≤ T + 5000 → Rel (T', T') D' D' → RD K mL_law (d + 8) 759 [some (rR (16, 0, 0)), some (rR (0, 0, 0)), some (rR (14, 0, 0)), some (rI (nI (6 * j)))] [] D' Q) : RD K mL_law (d + 8) 235 [some (rR (16, 0, 0)), some (rR (0, 0, 0)), some (rR (14, 0, 0)), some (rI (nI (6 * j)))] [] D Q := by
  by_cases hb : (ek_x K (6 * j + 3)) = 0
  · obtain ⟨r, X1, M1, g1, g2, g3⟩ := law_call hR (s_tag K d (ek_x K (6 * j + 1)) (ek_x K (6 * j + 2)) 0 (Or.inl rfl) ⟨D, hR⟩)
    refine RD.aload_n (pc := 235) dL_law_235 rfl ?_
    refine RD.aload_n (pc := 236) dL_law_236 rfl ?_
    refine RD.iload_n (pc := 237) dL_law_237 rfl ?_
    refine RD.iconst (pc := 238) (v := 1) dL_law_238 (by decide) ?_
    refine RD.iadd (pc := 239) dL_law_239 ?_
    refine RD.eqI (nI_add (6 * j) 1) ?_
    refine RD.sald (pc := 240) ((6 * j) + 1) dL_law_240 rfl (by omega) hLL ?_
    refine RD.aload_n (pc := 241) dL_law_241 rfl ?_
    refine RD.iload_n (pc := 242) dL_law_242 rfl ?_
    refine RD.iconst (pc := 243) (v := 2) dL_law_243 (by decide) ?_
    refine RD.iadd (pc := 244) dL_law_244 ?_
    refine RD.eqI (nI_add (6 * j) 2) ?_
    refine RD.sald (pc := 245) ((6 * j) + 2) dL_law_245 rfl (by omega) hLL ?_
    refine RD.aload_n (pc := 246) dL_law_246 rfl ?_
    refine RD.iload_n (pc := 247) dL_law_247 rfl ?_
    refine RD.iconst (pc := 248) (v := 3) dL_law_248 (by decide) ?_
    refine RD.iadd (pc := 249) dL_law_249 ?_
    refine RD.eqI (nI_add (6 * j) 3) ?_
    refine RD.sald (pc := 250) ((6 * j) + 3) dL_law_250 rfl (by omega) hLL ?_
    refine RD.if_eq (pc := 251) 258 dL_law_251 (by decide) (fun c251 => ?_) (fun c251 => absurd hb c251)
    refine RD.iconst (pc := 258) (v := 0) dL_law_258 (by decide) ?_
    refine RD.cV3 (pc := 259) dL_law_259 mlL_28 rfl ok0 rfl g1 (leb rfl) ?_
    refine RD.aload_n (pc := 262) dL_law_262 rfl ?_
    refine RD.aload_n (pc := 263) dL_law_263 rfl ?_
    refine RD.iload_n (pc := 264) dL_law_264 rfl ?_
    refine RD.iconst (pc := 265) (v := 1) dL_law_265 (by decide) ?_
    refine RD.iadd (pc := 266) dL_law_266 ?_
    refine RD.eqI (nI_add (6 * j) 1) ?_
    refine RD.sald (pc := 267) ((6 * j) + 1) dL_law_267 rfl (by omega) hLL ?_
    refine RD.aload_n (pc := 268) dL_law_268 rfl ?_
    refine RD.iload_n (pc := 269) dL_law_269 rfl ?_
    refine RD.iconst (pc := 270) (v := 2) dL_law_270 (by decide) ?_
    refine RD.iadd (pc := 271) dL_law_271 ?_
    refine RD.eqI (nI_add (6 * j) 2) ?_
    refine RD.sald (pc := 272) ((6 * j) + 2) dL_law_272 rfl (by omega) hLL ?_
    refine RD.aload_n (pc := 273) dL_law_273 rfl ?_
    refine RD.iload_n (pc := 274) dL_law_274 rfl ?_
    refine RD.iconst (pc := 275) (v := 3) dL_law_275 (by decide) ?_
    refine RD.iadd (pc := 276) dL_law_276 ?_
    refine RD.eqI (nI_add (6 * j) 3) ?_
    refine RD.sald (pc := 277) ((6 * j) + 3) dL_law_277 rfl (by omega) hLL ?_
    refine RD.if_eq (pc := 278) 285 dL_law_278 (by decide) (fun c278 => ?_) (fun c278 => absurd hb c278)
    refine RD.iconst (pc := 285) (v := 0) dL_law_285 (by decide) ?_
    refine RD.cV3 (pc := 286) dL_law_286 mlL_32 rfl ok14 rfl g2 (leb rfl) ?_
    refine RD.icmp_eq (pc := 289) 759 dL_law_289 (by decide) (fun c289 => ?_) (fun c289 => absurd rfl c289)
    exact ih T M1 (by omega) g3
  · obtain ⟨r, X1, M1, g1, g2, g3⟩ := law_call hR (s_tag K d (ek_x K (6 * j + 1)) (ek_x K (6 * j + 2)) 1 (Or.inr rfl) ⟨D, hR⟩)
    refine RD.aload_n (pc := 235) dL_law_235 rfl ?_
    refine RD.aload_n (pc := 236) dL_law_236 rfl ?_
    refine RD.iload_n (pc := 237) dL_law_237 rfl ?_
    refine RD.iconst (pc := 238) (v := 1) dL_law_238 (by decide) ?_
    refine RD.iadd (pc := 239) dL_law_239 ?_
    refine RD.eqI (nI_add (6 * j) 1) ?_
    refine RD.sald (pc := 240) ((6 * j) + 1) dL_law_240 rfl (by omega) hLL ?_
    refine RD.aload_n (pc := 241) dL_law_241 rfl ?_
    refine RD.iload_n (pc := 242) dL_law_242 rfl ?_
    refine RD.iconst (pc := 243) (v := 2) dL_law_243 (by decide) ?_
    refine RD.iadd (pc := 244) dL_law_244 ?_
    refine RD.eqI (nI_add (6 * j) 2) ?_
    refine RD.sald (pc := 245) ((6 * j) + 2) dL_law_245 rfl (by omega) hLL ?_
    refine RD.aload_n (pc := 246) dL_law_246 rfl ?_
    refine RD.iload_n (pc := 247) dL_law_247 rfl ?_
    refine RD.iconst (pc := 248) (v := 3) dL_law_248 (by decide) ?_
    refine RD.iadd (pc := 249) dL_law_249 ?_
    refine RD.eqI (nI_add (6 * j) 3) ?_
    refine RD.sald (pc := 250) ((6 * j) + 3) dL_law_250 rfl (by omega) hLL ?_
    refine RD.if_eq (pc := 251) 258 dL_law_251 (by decide) (fun c251 => absurd c251 hb) (fun c251 => ?_)
    refine RD.iconst (pc := 254) (v := 1) dL_law_254 (by decide) ?_
    refine RD.goto (pc := 255) 259 dL_law_255 (by decide) ?_
    refine RD.cV3 (pc := 259) dL_law_259 mlL_28 rfl ok0 rfl g1 (leb rfl) ?_
    refine RD.aload_n (pc := 262) dL_law_262 rfl ?_
    refine RD.aload_n (pc := 263) dL_law_263 rfl ?_
    refine RD.iload_n (pc := 264) dL_law_264 rfl ?_
    refine RD.iconst (pc := 265) (v := 1) dL_law_265 (by decide) ?_
    refine RD.iadd (pc := 266) dL_law_266 ?_
    refine RD.eqI (nI_add (6 * j) 1) ?_
    refine RD.sald (pc := 267) ((6 * j) + 1) dL_law_267 rfl (by omega) hLL ?_
    refine RD.aload_n (pc := 268) dL_law_268 rfl ?_
    refine RD.iload_n (pc := 269) dL_law_269 rfl ?_
    refine RD.iconst (pc := 270) (v := 2) dL_law_270 (by decide) ?_
    refine RD.iadd (pc := 271) dL_law_271 ?_
    refine RD.eqI (nI_add (6 * j) 2) ?_
    refine RD.sald (pc := 272) ((6 * j) + 2) dL_law_272 rfl (by omega) hLL ?_
    refine RD.aload_n (pc := 273) dL_law_273 rfl ?_
    refine RD.iload_n (pc := 274) dL_law_274 rfl ?_
    refine RD.iconst (pc := 275) (v := 3) dL_law_275 (by decide) ?_
    refine RD.iadd (pc := 276) dL_law_276 ?_
    refine RD.eqI (nI_add (6 * j) 3) ?_
    refine RD.sald (pc := 277) ((6 * j) + 3) dL_law_277 rfl (by omega) hLL ?_
    refine RD.if_eq (pc := 278) 285 dL_law_278 (by decide) (fun c278 => absurd c278 hb) (fun c278 => ?_)
    refine RD.iconst (pc := 281) (v := 1) dL_law_281 (by decide) ?_
    refine RD.goto (pc := 282) 286 dL_law_282 (by decide) ?_
    refine RD.cV3 (pc := 286) dL_law_286 mlL_32 rfl ok14 rfl g2 (leb rfl) ?_
    refine RD.icmp_eq (pc := 289) 759 dL_law_289 (by decide) (fun c289 => ?_) (fun c289 => absurd rfl c289)
    exact ih T M1 (by omega) g3

set_option maxRecDepth 20000 in
set_option maxHeartbeats 2000000 in
theorem law_capability (K : EK) (d : Nat) {j T : Nat} {D : DT} (hLL : ek_L K < 2 ^ 31) (hj : 6 * j + 6 ≤ ek_L K) (hT : T + 5000 < 2 ^ 31) (hR : Rel (T, T) D D) (Q : Option AV → DT → Prop) (ih : ∀ (T' : Nat) (D' : DT), T' ≤ T + 5000 → Rel (T', T') D' D' → RD K mL_law (d + 8) 759 [some (rR (16, 0, 0)), some (rR (0, 0, 0)), some (rR (14, 0, 0)), some (rI (nI (6 * j)))] [] D' Q) : RD K mL_law (d + 8) 294 [some (rR (16, 0, 0)), some (rR (0, 0, 0)), some (rR (14, 0, 0)), some (rI (nI (6 * j)))] [] D Q := by
  by_cases hb : (ek_x K (6 * j + 4)) = 0
  · obtain ⟨r, X1, M1, g1, g2, g3⟩ := law_call hR (s_capability K d (ek_x K (6 * j + 1)) (ek_x K (6 * j + 2)) (ek_x K (6 * j + 3)) 0 (Or.inl rfl) ⟨D, hR⟩)
    refine RD.aload_n (pc := 294) dL_law_294 rfl ?_
    refine RD.aload_n (pc := 295) dL_law_295 rfl ?_
    refine RD.iload_n (pc := 296) dL_law_296 rfl ?_
    refine RD.iconst (pc := 297) (v := 1) dL_law_297 (by decide) ?_
    refine RD.iadd (pc := 298) dL_law_298 ?_
    refine RD.eqI (nI_add (6 * j) 1) ?_
    refine RD.sald (pc := 299) ((6 * j) + 1) dL_law_299 rfl (by omega) hLL ?_
    refine RD.aload_n (pc := 300) dL_law_300 rfl ?_
    refine RD.iload_n (pc := 301) dL_law_301 rfl ?_
    refine RD.iconst (pc := 302) (v := 2) dL_law_302 (by decide) ?_
    refine RD.iadd (pc := 303) dL_law_303 ?_
    refine RD.eqI (nI_add (6 * j) 2) ?_
    refine RD.sald (pc := 304) ((6 * j) + 2) dL_law_304 rfl (by omega) hLL ?_
    refine RD.aload_n (pc := 305) dL_law_305 rfl ?_
    refine RD.iload_n (pc := 306) dL_law_306 rfl ?_
    refine RD.iconst (pc := 307) (v := 3) dL_law_307 (by decide) ?_
    refine RD.iadd (pc := 308) dL_law_308 ?_
    refine RD.eqI (nI_add (6 * j) 3) ?_
    refine RD.sald (pc := 309) ((6 * j) + 3) dL_law_309 rfl (by omega) hLL ?_
    refine RD.aload_n (pc := 310) dL_law_310 rfl ?_
    refine RD.iload_n (pc := 311) dL_law_311 rfl ?_
    refine RD.iconst (pc := 312) (v := 4) dL_law_312 (by decide) ?_
    refine RD.iadd (pc := 313) dL_law_313 ?_
    refine RD.eqI (nI_add (6 * j) 4) ?_
    refine RD.sald (pc := 314) ((6 * j) + 4) dL_law_314 rfl (by omega) hLL ?_
    refine RD.if_eq (pc := 315) 322 dL_law_315 (by decide) (fun c315 => ?_) (fun c315 => absurd hb c315)
    refine RD.iconst (pc := 322) (v := 0) dL_law_322 (by decide) ?_
    refine RD.cV4 (pc := 323) dL_law_323 mlL_33 rfl ok0 rfl g1 (leb rfl) ?_
    refine RD.aload_n (pc := 326) dL_law_326 rfl ?_
    refine RD.aload_n (pc := 327) dL_law_327 rfl ?_
    refine RD.iload_n (pc := 328) dL_law_328 rfl ?_
    refine RD.iconst (pc := 329) (v := 1) dL_law_329 (by decide) ?_
    refine RD.iadd (pc := 330) dL_law_330 ?_
    refine RD.eqI (nI_add (6 * j) 1) ?_
    refine RD.sald (pc := 331) ((6 * j) + 1) dL_law_331 rfl (by omega) hLL ?_
    refine RD.aload_n (pc := 332) dL_law_332 rfl ?_
    refine RD.iload_n (pc := 333) dL_law_333 rfl ?_
    refine RD.iconst (pc := 334) (v := 2) dL_law_334 (by decide) ?_
    refine RD.iadd (pc := 335) dL_law_335 ?_
    refine RD.eqI (nI_add (6 * j) 2) ?_
    refine RD.sald (pc := 336) ((6 * j) + 2) dL_law_336 rfl (by omega) hLL ?_
    refine RD.aload_n (pc := 337) dL_law_337 rfl ?_
    refine RD.iload_n (pc := 338) dL_law_338 rfl ?_
    refine RD.iconst (pc := 339) (v := 3) dL_law_339 (by decide) ?_
    refine RD.iadd (pc := 340) dL_law_340 ?_
    refine RD.eqI (nI_add (6 * j) 3) ?_
    refine RD.sald (pc := 341) ((6 * j) + 3) dL_law_341 rfl (by omega) hLL ?_
    refine RD.aload_n (pc := 342) dL_law_342 rfl ?_
    refine RD.iload_n (pc := 343) dL_law_343 rfl ?_
    refine RD.iconst (pc := 344) (v := 4) dL_law_344 (by decide) ?_
    refine RD.iadd (pc := 345) dL_law_345 ?_
    refine RD.eqI (nI_add (6 * j) 4) ?_
    refine RD.sald (pc := 346) ((6 * j) + 4) dL_law_346 rfl (by omega) hLL ?_
    refine RD.if_eq (pc := 347) 354 dL_law_347 (by decide) (fun c347 => ?_) (fun c347 => absurd hb c347)
    refine RD.iconst (pc := 354) (v := 0) dL_law_354 (by decide) ?_
    refine RD.cV4 (pc := 355) dL_law_355 mlL_37 rfl ok14 rfl g2 (leb rfl) ?_
    refine RD.icmp_eq (pc := 358) 759 dL_law_358 (by decide) (fun c358 => ?_) (fun c358 => absurd rfl c358)
    exact ih T M1 (by omega) g3
  · obtain ⟨r, X1, M1, g1, g2, g3⟩ := law_call hR (s_capability K d (ek_x K (6 * j + 1)) (ek_x K (6 * j + 2)) (ek_x K (6 * j + 3)) 1 (Or.inr rfl) ⟨D, hR⟩)
    refine RD.aload_n (pc := 294) dL_law_294 rfl ?_
    refine RD.aload_n (pc := 295) dL_law_295 rfl ?_
    refine RD.iload_n (pc := 296) dL_law_296 rfl ?_
    refine RD.iconst (pc := 297) (v := 1) dL_law_297 (by decide) ?_
    refine RD.iadd (pc := 298) dL_law_298 ?_
    refine RD.eqI (nI_add (6 * j) 1) ?_
    refine RD.sald (pc := 299) ((6 * j) + 1) dL_law_299 rfl (by omega) hLL ?_
    refine RD.aload_n (pc := 300) dL_law_300 rfl ?_
    refine RD.iload_n (pc := 301) dL_law_301 rfl ?_
    refine RD.iconst (pc := 302) (v := 2) dL_law_302 (by decide) ?_
    refine RD.iadd (pc := 303) dL_law_303 ?_
    refine RD.eqI (nI_add (6 * j) 2) ?_
    refine RD.sald (pc := 304) ((6 * j) + 2) dL_law_304 rfl (by omega) hLL ?_
    refine RD.aload_n (pc := 305) dL_law_305 rfl ?_
    refine RD.iload_n (pc := 306) dL_law_306 rfl ?_
    refine RD.iconst (pc := 307) (v := 3) dL_law_307 (by decide) ?_
    refine RD.iadd (pc := 308) dL_law_308 ?_
    refine RD.eqI (nI_add (6 * j) 3) ?_
    refine RD.sald (pc := 309) ((6 * j) + 3) dL_law_309 rfl (by omega) hLL ?_
    refine RD.aload_n (pc := 310) dL_law_310 rfl ?_
    refine RD.iload_n (pc := 311) dL_law_311 rfl ?_
    refine RD.iconst (pc := 312) (v := 4) dL_law_312 (by decide) ?_
    refine RD.iadd (pc := 313) dL_law_313 ?_
    refine RD.eqI (nI_add (6 * j) 4) ?_
    refine RD.sald (pc := 314) ((6 * j) + 4) dL_law_314 rfl (by omega) hLL ?_
    refine RD.if_eq (pc := 315) 322 dL_law_315 (by decide) (fun c315 => absurd c315 hb) (fun c315 => ?_)
    refine RD.iconst (pc := 318) (v := 1) dL_law_318 (by decide) ?_
    refine RD.goto (pc := 319) 323 dL_law_319 (by decide) ?_
    refine RD.cV4 (pc := 323) dL_law_323 mlL_33 rfl ok0 rfl g1 (leb rfl) ?_
    refine RD.aload_n (pc := 326) dL_law_326 rfl ?_
    refine RD.aload_n (pc := 327) dL_law_327 rfl ?_
    refine RD.iload_n (pc := 328) dL_law_328 rfl ?_
    refine RD.iconst (pc := 329) (v := 1) dL_law_329 (by decide) ?_
    refine RD.iadd (pc := 330) dL_law_330 ?_
    refine RD.eqI (nI_add (6 * j) 1) ?_
    refine RD.sald (pc := 331) ((6 * j) + 1) dL_law_331 rfl (by omega) hLL ?_
    refine RD.aload_n (pc := 332) dL_law_332 rfl ?_
    refine RD.iload_n (pc := 333) dL_law_333 rfl ?_
    refine RD.iconst (pc := 334) (v := 2) dL_law_334 (by decide) ?_
    refine RD.iadd (pc := 335) dL_law_335 ?_
    refine RD.eqI (nI_add (6 * j) 2) ?_
    refine RD.sald (pc := 336) ((6 * j) + 2) dL_law_336 rfl (by omega) hLL ?_
    refine RD.aload_n (pc := 337) dL_law_337 rfl ?_
    refine RD.iload_n (pc := 338) dL_law_338 rfl ?_
    refine RD.iconst (pc := 339) (v := 3) dL_law_339 (by decide) ?_
    refine RD.iadd (pc := 340) dL_law_340 ?_
    refine RD.eqI (nI_add (6 * j) 3) ?_
    refine RD.sald (pc := 341) ((6 * j) + 3) dL_law_341 rfl (by omega) hLL ?_
    refine RD.aload_n (pc := 342) dL_law_342 rfl ?_
    refine RD.iload_n (pc := 343) dL_law_343 rfl ?_
    refine RD.iconst (pc := 344) (v := 4) dL_law_344 (by decide) ?_
    refine RD.iadd (pc := 345) dL_law_345 ?_
    refine RD.eqI (nI_add (6 * j) 4) ?_
    refine RD.sald (pc := 346) ((6 * j) + 4) dL_law_346 rfl (by omega) hLL ?_
    refine RD.if_eq (pc := 347) 354 dL_law_347 (by decide) (fun c347 => absurd c347 hb) (fun c347 => ?_)
    refine RD.iconst (pc := 350) (v := 1) dL_law_350 (by decide) ?_
    refine RD.goto (pc := 351) 355 dL_law_351 (by decide) ?_
    refine RD.cV4 (pc := 355) dL_law_355 mlL_37 rfl ok14 rfl g2 (leb rfl) ?_
    refine RD.icmp_eq (pc := 358) 759 dL_law_358 (by decide) (fun c358 => ?_) (fun c358 => absurd rfl c358)
    exact ih T M1 (by omega) g3

set_option maxRecDepth 20000 in
set_option maxHeartbeats 2000000 in
theorem law_file (K : EK) (d : Nat) {j T : Nat} {D : DT} (hLL : ek_L K < 2 ^ 31) (hj : 6 * j + 6 ≤ ek_L K) (hT : T + 5000 < 2 ^ 31) (hR : Rel (T, T) D D) (Q : Option AV → DT → Prop) (ih : ∀ (T' : Nat) (D' : DT), T' ≤ T + 5000 → Rel (T', T') D' D' → RD K mL_law (d + 8) 759 [some (rR (16, 0, 0)), some (rR (0, 0, 0)), some (rR (14, 0, 0)), some (rI (nI (6 * j)))] [] D' Q) : RD K mL_law (d + 8) 363 [some (rR (16, 0, 0)), some (rR (0, 0, 0)), some (rR (14, 0, 0)), some (rI (nI (6 * j)))] [] D Q := by
  obtain ⟨r, X1, M1, g1, g2, g3⟩ := law_call hR (s_file K d (ek_x K (6 * j + 1)) (ek_x K (6 * j + 2)) ⟨D, hR⟩)
  refine RD.aload_n (pc := 363) dL_law_363 rfl ?_
  refine RD.aload_n (pc := 364) dL_law_364 rfl ?_
  refine RD.iload_n (pc := 365) dL_law_365 rfl ?_
  refine RD.iconst (pc := 366) (v := 1) dL_law_366 (by decide) ?_
  refine RD.iadd (pc := 367) dL_law_367 ?_
  refine RD.eqI (nI_add (6 * j) 1) ?_
  refine RD.sald (pc := 368) ((6 * j) + 1) dL_law_368 rfl (by omega) hLL ?_
  refine RD.aload_n (pc := 369) dL_law_369 rfl ?_
  refine RD.iload_n (pc := 370) dL_law_370 rfl ?_
  refine RD.iconst (pc := 371) (v := 2) dL_law_371 (by decide) ?_
  refine RD.iadd (pc := 372) dL_law_372 ?_
  refine RD.eqI (nI_add (6 * j) 2) ?_
  refine RD.sald (pc := 373) ((6 * j) + 2) dL_law_373 rfl (by omega) hLL ?_
  refine RD.cV2 (pc := 374) dL_law_374 mlL_38 rfl ok0 rfl g1 (leb rfl) ?_
  refine RD.aload_n (pc := 377) dL_law_377 rfl ?_
  refine RD.aload_n (pc := 378) dL_law_378 rfl ?_
  refine RD.iload_n (pc := 379) dL_law_379 rfl ?_
  refine RD.iconst (pc := 380) (v := 1) dL_law_380 (by decide) ?_
  refine RD.iadd (pc := 381) dL_law_381 ?_
  refine RD.eqI (nI_add (6 * j) 1) ?_
  refine RD.sald (pc := 382) ((6 * j) + 1) dL_law_382 rfl (by omega) hLL ?_
  refine RD.aload_n (pc := 383) dL_law_383 rfl ?_
  refine RD.iload_n (pc := 384) dL_law_384 rfl ?_
  refine RD.iconst (pc := 385) (v := 2) dL_law_385 (by decide) ?_
  refine RD.iadd (pc := 386) dL_law_386 ?_
  refine RD.eqI (nI_add (6 * j) 2) ?_
  refine RD.sald (pc := 387) ((6 * j) + 2) dL_law_387 rfl (by omega) hLL ?_
  refine RD.cV2 (pc := 388) dL_law_388 mlL_41 rfl ok14 rfl g2 (leb rfl) ?_
  refine RD.icmp_eq (pc := 391) 759 dL_law_391 (by decide) (fun c391 => ?_) (fun c391 => absurd rfl c391)
  exact ih T M1 (by omega) g3

set_option maxRecDepth 20000 in
set_option maxHeartbeats 2000000 in
theorem law_fill (K : EK) (d : Nat) {j T : Nat} {D : DT} (hLL : ek_L K < 2 ^ 31) (hj : 6 * j + 6 ≤ ek_L K) (hT : T + 5000 < 2 ^ 31) (hR : Rel (T, T) D D) (Q : Option AV → DT → Prop) (ih : ∀ (T' : Nat) (D' : DT), T' ≤ T + 5000 → Rel (T', T') D' D' → RD K mL_law (d + 8) 759 [some (rR (16, 0, 0)), some (rR (0, 0, 0)), some (rR (14, 0, 0)), some (rI (nI (6 * j)))] [] D' Q) : RD K mL_law (d + 8) 396 [some (rR (16, 0, 0)), some (rR (0, 0, 0)), some (rR (14, 0, 0)), some (rI (nI (6 * j)))] [] D Q := by
  obtain ⟨r, X1, M1, g1, g2, g3⟩ := law_call hR (s_fill K d (ek_x K (6 * j + 1)) (ek_x K (6 * j + 2)) (ek_x K (6 * j + 3)))
  refine RD.aload_n (pc := 396) dL_law_396 rfl ?_
  refine RD.aload_n (pc := 397) dL_law_397 rfl ?_
  refine RD.iload_n (pc := 398) dL_law_398 rfl ?_
  refine RD.iconst (pc := 399) (v := 1) dL_law_399 (by decide) ?_
  refine RD.iadd (pc := 400) dL_law_400 ?_
  refine RD.eqI (nI_add (6 * j) 1) ?_
  refine RD.sald (pc := 401) ((6 * j) + 1) dL_law_401 rfl (by omega) hLL ?_
  refine RD.aload_n (pc := 402) dL_law_402 rfl ?_
  refine RD.iload_n (pc := 403) dL_law_403 rfl ?_
  refine RD.iconst (pc := 404) (v := 2) dL_law_404 (by decide) ?_
  refine RD.iadd (pc := 405) dL_law_405 ?_
  refine RD.eqI (nI_add (6 * j) 2) ?_
  refine RD.sald (pc := 406) ((6 * j) + 2) dL_law_406 rfl (by omega) hLL ?_
  refine RD.aload_n (pc := 407) dL_law_407 rfl ?_
  refine RD.iload_n (pc := 408) dL_law_408 rfl ?_
  refine RD.iconst (pc := 409) (v := 3) dL_law_409 (by decide) ?_
  refine RD.iadd (pc := 410) dL_law_410 ?_
  refine RD.eqI (nI_add (6 * j) 3) ?_
  refine RD.sald (pc := 411) ((6 * j) + 3) dL_law_411 rfl (by omega) hLL ?_
  refine RD.cV3 (pc := 412) dL_law_412 mlL_42 rfl ok0 rfl g1 (leb rfl) ?_
  refine RD.aload_n (pc := 415) dL_law_415 rfl ?_
  refine RD.aload_n (pc := 416) dL_law_416 rfl ?_
  refine RD.iload_n (pc := 417) dL_law_417 rfl ?_
  refine RD.iconst (pc := 418) (v := 1) dL_law_418 (by decide) ?_
  refine RD.iadd (pc := 419) dL_law_419 ?_
  refine RD.eqI (nI_add (6 * j) 1) ?_
  refine RD.sald (pc := 420) ((6 * j) + 1) dL_law_420 rfl (by omega) hLL ?_
  refine RD.aload_n (pc := 421) dL_law_421 rfl ?_
  refine RD.iload_n (pc := 422) dL_law_422 rfl ?_
  refine RD.iconst (pc := 423) (v := 2) dL_law_423 (by decide) ?_
  refine RD.iadd (pc := 424) dL_law_424 ?_
  refine RD.eqI (nI_add (6 * j) 2) ?_
  refine RD.sald (pc := 425) ((6 * j) + 2) dL_law_425 rfl (by omega) hLL ?_
  refine RD.aload_n (pc := 426) dL_law_426 rfl ?_
  refine RD.iload_n (pc := 427) dL_law_427 rfl ?_
  refine RD.iconst (pc := 428) (v := 3) dL_law_428 (by decide) ?_
  refine RD.iadd (pc := 429) dL_law_429 ?_
  refine RD.eqI (nI_add (6 * j) 3) ?_
  refine RD.sald (pc := 430) ((6 * j) + 3) dL_law_430 rfl (by omega) hLL ?_
  refine RD.cV3 (pc := 431) dL_law_431 mlL_46 rfl ok14 rfl g2 (leb rfl) ?_
  refine RD.icmp_eq (pc := 434) 759 dL_law_434 (by decide) (fun c434 => ?_) (fun c434 => absurd rfl c434)
  exact ih T M1 (by omega) g3

set_option maxRecDepth 20000 in
set_option maxHeartbeats 2000000 in
theorem law_post (K : EK) (d : Nat) {j T : Nat} {D : DT} (hLL : ek_L K < 2 ^ 31) (hj : 6 * j + 6 ≤ ek_L K) (hT : T + 5000 < 2 ^ 31) (hR : Rel (T, T) D D) (Q : Option AV → DT → Prop) (ih : ∀ (T' : Nat) (D' : DT), T' ≤ T + 5000 → Rel (T', T') D' D' → RD K mL_law (d + 8) 759 [some (rR (16, 0, 0)), some (rR (0, 0, 0)), some (rR (14, 0, 0)), some (rI (nI (6 * j)))] [] D' Q) : RD K mL_law (d + 8) 439 [some (rR (16, 0, 0)), some (rR (0, 0, 0)), some (rR (14, 0, 0)), some (rI (nI (6 * j)))] [] D Q := by
  obtain ⟨r, X1, M1, g1, g2, g3⟩ := law_call hR (s_post K d (ek_x K (6 * j + 1)) (ek_x K (6 * j + 2)) (ek_x K (6 * j + 3)) ⟨D, hR⟩)
  refine RD.aload_n (pc := 439) dL_law_439 rfl ?_
  refine RD.aload_n (pc := 440) dL_law_440 rfl ?_
  refine RD.iload_n (pc := 441) dL_law_441 rfl ?_
  refine RD.iconst (pc := 442) (v := 1) dL_law_442 (by decide) ?_
  refine RD.iadd (pc := 443) dL_law_443 ?_
  refine RD.eqI (nI_add (6 * j) 1) ?_
  refine RD.sald (pc := 444) ((6 * j) + 1) dL_law_444 rfl (by omega) hLL ?_
  refine RD.aload_n (pc := 445) dL_law_445 rfl ?_
  refine RD.iload_n (pc := 446) dL_law_446 rfl ?_
  refine RD.iconst (pc := 447) (v := 2) dL_law_447 (by decide) ?_
  refine RD.iadd (pc := 448) dL_law_448 ?_
  refine RD.eqI (nI_add (6 * j) 2) ?_
  refine RD.sald (pc := 449) ((6 * j) + 2) dL_law_449 rfl (by omega) hLL ?_
  refine RD.aload_n (pc := 450) dL_law_450 rfl ?_
  refine RD.iload_n (pc := 451) dL_law_451 rfl ?_
  refine RD.iconst (pc := 452) (v := 3) dL_law_452 (by decide) ?_
  refine RD.iadd (pc := 453) dL_law_453 ?_
  refine RD.eqI (nI_add (6 * j) 3) ?_
  refine RD.sald (pc := 454) ((6 * j) + 3) dL_law_454 rfl (by omega) hLL ?_
  refine RD.cV3 (pc := 455) dL_law_455 mlL_47 rfl ok0 rfl g1 (leb rfl) ?_
  refine RD.aload_n (pc := 458) dL_law_458 rfl ?_
  refine RD.aload_n (pc := 459) dL_law_459 rfl ?_
  refine RD.iload_n (pc := 460) dL_law_460 rfl ?_
  refine RD.iconst (pc := 461) (v := 1) dL_law_461 (by decide) ?_
  refine RD.iadd (pc := 462) dL_law_462 ?_
  refine RD.eqI (nI_add (6 * j) 1) ?_
  refine RD.sald (pc := 463) ((6 * j) + 1) dL_law_463 rfl (by omega) hLL ?_
  refine RD.aload_n (pc := 464) dL_law_464 rfl ?_
  refine RD.iload_n (pc := 465) dL_law_465 rfl ?_
  refine RD.iconst (pc := 466) (v := 2) dL_law_466 (by decide) ?_
  refine RD.iadd (pc := 467) dL_law_467 ?_
  refine RD.eqI (nI_add (6 * j) 2) ?_
  refine RD.sald (pc := 468) ((6 * j) + 2) dL_law_468 rfl (by omega) hLL ?_
  refine RD.aload_n (pc := 469) dL_law_469 rfl ?_
  refine RD.iload_n (pc := 470) dL_law_470 rfl ?_
  refine RD.iconst (pc := 471) (v := 3) dL_law_471 (by decide) ?_
  refine RD.iadd (pc := 472) dL_law_472 ?_
  refine RD.eqI (nI_add (6 * j) 3) ?_
  refine RD.sald (pc := 473) ((6 * j) + 3) dL_law_473 rfl (by omega) hLL ?_
  refine RD.cV3 (pc := 474) dL_law_474 mlL_50 rfl ok14 rfl g2 (leb rfl) ?_
  refine RD.icmp_eq (pc := 477) 759 dL_law_477 (by decide) (fun c477 => ?_) (fun c477 => absurd rfl c477)
  exact ih T M1 (by omega) g3

set_option maxRecDepth 20000 in
set_option maxHeartbeats 2000000 in
theorem law_run (K : EK) (d : Nat) {j T : Nat} {D : DT} (hLL : ek_L K < 2 ^ 31) (hj : 6 * j + 6 ≤ ek_L K) (hT : T + 5000 < 2 ^ 31) (hR : Rel (T, T) D D) (Q : Option AV → DT → Prop) (ih : ∀ (T' : Nat) (D' : DT), T' ≤ T + 5000 → Rel (T', T') D' D' → RD K mL_law (d + 8) 759 [some (rR (16, 0, 0)), some (rR (0, 0, 0)), some (rR (14, 0, 0)), some (rI (nI (6 * j)))] [] D' Q) : RD K mL_law (d + 8) 482 [some (rR (16, 0, 0)), some (rR (0, 0, 0)), some (rR (14, 0, 0)), some (rI (nI (6 * j)))] [] D Q := by
  obtain ⟨T', hT', hS⟩ := s_run K d (ek_x K (6 * j + 1)) hT ⟨D, hR⟩
  obtain ⟨r, X1, M1, g1, g2, g3⟩ := law_call hR hS
  refine RD.aload_n (pc := 482) dL_law_482 rfl ?_
  refine RD.aload_n (pc := 483) dL_law_483 rfl ?_
  refine RD.iload_n (pc := 484) dL_law_484 rfl ?_
  refine RD.iconst (pc := 485) (v := 1) dL_law_485 (by decide) ?_
  refine RD.iadd (pc := 486) dL_law_486 ?_
  refine RD.eqI (nI_add (6 * j) 1) ?_
  refine RD.sald (pc := 487) ((6 * j) + 1) dL_law_487 rfl (by omega) hLL ?_
  refine RD.cV1 (pc := 488) dL_law_488 mlL_51 rfl ok0 rfl g1 (leb rfl) ?_
  refine RD.aload_n (pc := 491) dL_law_491 rfl ?_
  refine RD.aload_n (pc := 492) dL_law_492 rfl ?_
  refine RD.iload_n (pc := 493) dL_law_493 rfl ?_
  refine RD.iconst (pc := 494) (v := 1) dL_law_494 (by decide) ?_
  refine RD.iadd (pc := 495) dL_law_495 ?_
  refine RD.eqI (nI_add (6 * j) 1) ?_
  refine RD.sald (pc := 496) ((6 * j) + 1) dL_law_496 rfl (by omega) hLL ?_
  refine RD.cV1 (pc := 497) dL_law_497 mlL_54 rfl ok14 rfl g2 (leb rfl) ?_
  refine RD.icmp_eq (pc := 500) 759 dL_law_500 (by decide) (fun c500 => ?_) (fun c500 => absurd rfl c500)
  exact ih T' M1 hT' g3

set_option maxRecDepth 20000 in
set_option maxHeartbeats 2000000 in
theorem law_cell (K : EK) (d : Nat) {j T : Nat} {D : DT} (hLL : ek_L K < 2 ^ 31) (hj : 6 * j + 6 ≤ ek_L K) (hT : T + 5000 < 2 ^ 31) (hR : Rel (T, T) D D) (Q : Option AV → DT → Prop) (ih : ∀ (T' : Nat) (D' : DT), T' ≤ T + 5000 → Rel (T', T') D' D' → RD K mL_law (d + 8) 759 [some (rR (16, 0, 0)), some (rR (0, 0, 0)), some (rR (14, 0, 0)), some (rI (nI (6 * j)))] [] D' Q) : RD K mL_law (d + 8) 505 [some (rR (16, 0, 0)), some (rR (0, 0, 0)), some (rR (14, 0, 0)), some (rI (nI (6 * j)))] [] D Q := by
  obtain ⟨r, X1, M1, g1, g2, g3⟩ := law_call hR (s_cell K d (ek_x K (6 * j + 1)) (ek_x K (6 * j + 2)))
  refine RD.aload_n (pc := 505) dL_law_505 rfl ?_
  refine RD.aload_n (pc := 506) dL_law_506 rfl ?_
  refine RD.iload_n (pc := 507) dL_law_507 rfl ?_
  refine RD.iconst (pc := 508) (v := 1) dL_law_508 (by decide) ?_
  refine RD.iadd (pc := 509) dL_law_509 ?_
  refine RD.eqI (nI_add (6 * j) 1) ?_
  refine RD.sald (pc := 510) ((6 * j) + 1) dL_law_510 rfl (by omega) hLL ?_
  refine RD.aload_n (pc := 511) dL_law_511 rfl ?_
  refine RD.iload_n (pc := 512) dL_law_512 rfl ?_
  refine RD.iconst (pc := 513) (v := 2) dL_law_513 (by decide) ?_
  refine RD.iadd (pc := 514) dL_law_514 ?_
  refine RD.eqI (nI_add (6 * j) 2) ?_
  refine RD.sald (pc := 515) ((6 * j) + 2) dL_law_515 rfl (by omega) hLL ?_
  refine RD.cV2 (pc := 516) dL_law_516 mlL_55 rfl ok0 rfl g1 (leb rfl) ?_
  refine RD.aload_n (pc := 519) dL_law_519 rfl ?_
  refine RD.aload_n (pc := 520) dL_law_520 rfl ?_
  refine RD.iload_n (pc := 521) dL_law_521 rfl ?_
  refine RD.iconst (pc := 522) (v := 1) dL_law_522 (by decide) ?_
  refine RD.iadd (pc := 523) dL_law_523 ?_
  refine RD.eqI (nI_add (6 * j) 1) ?_
  refine RD.sald (pc := 524) ((6 * j) + 1) dL_law_524 rfl (by omega) hLL ?_
  refine RD.aload_n (pc := 525) dL_law_525 rfl ?_
  refine RD.iload_n (pc := 526) dL_law_526 rfl ?_
  refine RD.iconst (pc := 527) (v := 2) dL_law_527 (by decide) ?_
  refine RD.iadd (pc := 528) dL_law_528 ?_
  refine RD.eqI (nI_add (6 * j) 2) ?_
  refine RD.sald (pc := 529) ((6 * j) + 2) dL_law_529 rfl (by omega) hLL ?_
  refine RD.cV2 (pc := 530) dL_law_530 mlL_58 rfl ok14 rfl g2 (leb rfl) ?_
  refine RD.icmp_eq (pc := 533) 759 dL_law_533 (by decide) (fun c533 => ?_) (fun c533 => absurd rfl c533)
  exact ih T M1 (by omega) g3

set_option maxRecDepth 20000 in
set_option maxHeartbeats 2000000 in
theorem law_slot (K : EK) (d : Nat) {j T : Nat} {D : DT} (hLL : ek_L K < 2 ^ 31) (hj : 6 * j + 6 ≤ ek_L K) (hT : T + 5000 < 2 ^ 31) (hR : Rel (T, T) D D) (Q : Option AV → DT → Prop) (ih : ∀ (T' : Nat) (D' : DT), T' ≤ T + 5000 → Rel (T', T') D' D' → RD K mL_law (d + 8) 759 [some (rR (16, 0, 0)), some (rR (0, 0, 0)), some (rR (14, 0, 0)), some (rI (nI (6 * j)))] [] D' Q) : RD K mL_law (d + 8) 538 [some (rR (16, 0, 0)), some (rR (0, 0, 0)), some (rR (14, 0, 0)), some (rI (nI (6 * j)))] [] D Q := by
  obtain ⟨r, X1, M1, g1, g2, g3⟩ := law_call hR (s_slot K d (ek_x K (6 * j + 1)) (ek_x K (6 * j + 2)) ⟨D, hR⟩)
  refine RD.aload_n (pc := 538) dL_law_538 rfl ?_
  refine RD.aload_n (pc := 539) dL_law_539 rfl ?_
  refine RD.iload_n (pc := 540) dL_law_540 rfl ?_
  refine RD.iconst (pc := 541) (v := 1) dL_law_541 (by decide) ?_
  refine RD.iadd (pc := 542) dL_law_542 ?_
  refine RD.eqI (nI_add (6 * j) 1) ?_
  refine RD.sald (pc := 543) ((6 * j) + 1) dL_law_543 rfl (by omega) hLL ?_
  refine RD.aload_n (pc := 544) dL_law_544 rfl ?_
  refine RD.iload_n (pc := 545) dL_law_545 rfl ?_
  refine RD.iconst (pc := 546) (v := 2) dL_law_546 (by decide) ?_
  refine RD.iadd (pc := 547) dL_law_547 ?_
  refine RD.eqI (nI_add (6 * j) 2) ?_
  refine RD.sald (pc := 548) ((6 * j) + 2) dL_law_548 rfl (by omega) hLL ?_
  refine RD.cV2 (pc := 549) dL_law_549 mlL_59 rfl ok0 rfl g1 (leb rfl) ?_
  refine RD.aload_n (pc := 552) dL_law_552 rfl ?_
  refine RD.aload_n (pc := 553) dL_law_553 rfl ?_
  refine RD.iload_n (pc := 554) dL_law_554 rfl ?_
  refine RD.iconst (pc := 555) (v := 1) dL_law_555 (by decide) ?_
  refine RD.iadd (pc := 556) dL_law_556 ?_
  refine RD.eqI (nI_add (6 * j) 1) ?_
  refine RD.sald (pc := 557) ((6 * j) + 1) dL_law_557 rfl (by omega) hLL ?_
  refine RD.aload_n (pc := 558) dL_law_558 rfl ?_
  refine RD.iload_n (pc := 559) dL_law_559 rfl ?_
  refine RD.iconst (pc := 560) (v := 2) dL_law_560 (by decide) ?_
  refine RD.iadd (pc := 561) dL_law_561 ?_
  refine RD.eqI (nI_add (6 * j) 2) ?_
  refine RD.sald (pc := 562) ((6 * j) + 2) dL_law_562 rfl (by omega) hLL ?_
  refine RD.cV2 (pc := 563) dL_law_563 mlL_62 rfl ok14 rfl g2 (leb rfl) ?_
  refine RD.icmp_eq (pc := 566) 759 dL_law_566 (by decide) (fun c566 => ?_) (fun c566 => absurd rfl c566)
  exact ih T M1 (by omega) g3

set_option maxRecDepth 20000 in
set_option maxHeartbeats 2000000 in
theorem law_label (K : EK) (d : Nat) {j T : Nat} {D : DT} (hLL : ek_L K < 2 ^ 31) (hj : 6 * j + 6 ≤ ek_L K) (hT : T + 5000 < 2 ^ 31) (hR : Rel (T, T) D D) (Q : Option AV → DT → Prop) (ih : ∀ (T' : Nat) (D' : DT), T' ≤ T + 5000 → Rel (T', T') D' D' → RD K mL_law (d + 8) 759 [some (rR (16, 0, 0)), some (rR (0, 0, 0)), some (rR (14, 0, 0)), some (rI (nI (6 * j)))] [] D' Q) : RD K mL_law (d + 8) 571 [some (rR (16, 0, 0)), some (rR (0, 0, 0)), some (rR (14, 0, 0)), some (rI (nI (6 * j)))] [] D Q := by
  obtain ⟨r, X1, M1, g1, g2, g3⟩ := law_call hR (s_label K d (ek_x K (6 * j + 1)) (ek_x K (6 * j + 2)) ⟨D, hR⟩)
  refine RD.aload_n (pc := 571) dL_law_571 rfl ?_
  refine RD.aload_n (pc := 572) dL_law_572 rfl ?_
  refine RD.iload_n (pc := 573) dL_law_573 rfl ?_
  refine RD.iconst (pc := 574) (v := 1) dL_law_574 (by decide) ?_
  refine RD.iadd (pc := 575) dL_law_575 ?_
  refine RD.eqI (nI_add (6 * j) 1) ?_
  refine RD.sald (pc := 576) ((6 * j) + 1) dL_law_576 rfl (by omega) hLL ?_
  refine RD.aload_n (pc := 577) dL_law_577 rfl ?_
  refine RD.iload_n (pc := 578) dL_law_578 rfl ?_
  refine RD.iconst (pc := 579) (v := 2) dL_law_579 (by decide) ?_
  refine RD.iadd (pc := 580) dL_law_580 ?_
  refine RD.eqI (nI_add (6 * j) 2) ?_
  refine RD.sald (pc := 581) ((6 * j) + 2) dL_law_581 rfl (by omega) hLL ?_
  refine RD.cV2 (pc := 582) dL_law_582 mlL_63 rfl ok0 rfl g1 (leb rfl) ?_
  refine RD.aload_n (pc := 585) dL_law_585 rfl ?_
  refine RD.aload_n (pc := 586) dL_law_586 rfl ?_
  refine RD.iload_n (pc := 587) dL_law_587 rfl ?_
  refine RD.iconst (pc := 588) (v := 1) dL_law_588 (by decide) ?_
  refine RD.iadd (pc := 589) dL_law_589 ?_
  refine RD.eqI (nI_add (6 * j) 1) ?_
  refine RD.sald (pc := 590) ((6 * j) + 1) dL_law_590 rfl (by omega) hLL ?_
  refine RD.aload_n (pc := 591) dL_law_591 rfl ?_
  refine RD.iload_n (pc := 592) dL_law_592 rfl ?_
  refine RD.iconst (pc := 593) (v := 2) dL_law_593 (by decide) ?_
  refine RD.iadd (pc := 594) dL_law_594 ?_
  refine RD.eqI (nI_add (6 * j) 2) ?_
  refine RD.sald (pc := 595) ((6 * j) + 2) dL_law_595 rfl (by omega) hLL ?_
  refine RD.cV2 (pc := 596) dL_law_596 mlL_66 rfl ok14 rfl g2 (leb rfl) ?_
  refine RD.icmp_eq (pc := 599) 759 dL_law_599 (by decide) (fun c599 => ?_) (fun c599 => absurd rfl c599)
  exact ih T M1 (by omega) g3

set_option maxRecDepth 20000 in
set_option maxHeartbeats 2000000 in
theorem law_output (K : EK) (d : Nat) {j T : Nat} {D : DT} (hLL : ek_L K < 2 ^ 31) (hj : 6 * j + 6 ≤ ek_L K) (hT : T + 5000 < 2 ^ 31) (hR : Rel (T, T) D D) (Q : Option AV → DT → Prop) (ih : ∀ (T' : Nat) (D' : DT), T' ≤ T + 5000 → Rel (T', T') D' D' → RD K mL_law (d + 8) 759 [some (rR (16, 0, 0)), some (rR (0, 0, 0)), some (rR (14, 0, 0)), some (rI (nI (6 * j)))] [] D' Q) : RD K mL_law (d + 8) 604 [some (rR (16, 0, 0)), some (rR (0, 0, 0)), some (rR (14, 0, 0)), some (rI (nI (6 * j)))] [] D Q := by
  obtain ⟨r, X1, M1, g1, g2, g3⟩ := law_call hR (s_output K d (ek_x K (6 * j + 1)) (ek_x K (6 * j + 2)) ⟨D, hR⟩)
  refine RD.aload_n (pc := 604) dL_law_604 rfl ?_
  refine RD.aload_n (pc := 605) dL_law_605 rfl ?_
  refine RD.iload_n (pc := 606) dL_law_606 rfl ?_
  refine RD.iconst (pc := 607) (v := 1) dL_law_607 (by decide) ?_
  refine RD.iadd (pc := 608) dL_law_608 ?_
  refine RD.eqI (nI_add (6 * j) 1) ?_
  refine RD.sald (pc := 609) ((6 * j) + 1) dL_law_609 rfl (by omega) hLL ?_
  refine RD.aload_n (pc := 610) dL_law_610 rfl ?_
  refine RD.iload_n (pc := 611) dL_law_611 rfl ?_
  refine RD.iconst (pc := 612) (v := 2) dL_law_612 (by decide) ?_
  refine RD.iadd (pc := 613) dL_law_613 ?_
  refine RD.eqI (nI_add (6 * j) 2) ?_
  refine RD.sald (pc := 614) ((6 * j) + 2) dL_law_614 rfl (by omega) hLL ?_
  refine RD.cV2 (pc := 615) dL_law_615 mlL_67 rfl ok0 rfl g1 (leb rfl) ?_
  refine RD.aload_n (pc := 618) dL_law_618 rfl ?_
  refine RD.aload_n (pc := 619) dL_law_619 rfl ?_
  refine RD.iload_n (pc := 620) dL_law_620 rfl ?_
  refine RD.iconst (pc := 621) (v := 1) dL_law_621 (by decide) ?_
  refine RD.iadd (pc := 622) dL_law_622 ?_
  refine RD.eqI (nI_add (6 * j) 1) ?_
  refine RD.sald (pc := 623) ((6 * j) + 1) dL_law_623 rfl (by omega) hLL ?_
  refine RD.aload_n (pc := 624) dL_law_624 rfl ?_
  refine RD.iload_n (pc := 625) dL_law_625 rfl ?_
  refine RD.iconst (pc := 626) (v := 2) dL_law_626 (by decide) ?_
  refine RD.iadd (pc := 627) dL_law_627 ?_
  refine RD.eqI (nI_add (6 * j) 2) ?_
  refine RD.sald (pc := 628) ((6 * j) + 2) dL_law_628 rfl (by omega) hLL ?_
  refine RD.cV2 (pc := 629) dL_law_629 mlL_70 rfl ok14 rfl g2 (leb rfl) ?_
  refine RD.icmp_eq (pc := 632) 759 dL_law_632 (by decide) (fun c632 => ?_) (fun c632 => absurd rfl c632)
  exact ih T M1 (by omega) g3

set_option maxRecDepth 20000 in
set_option maxHeartbeats 2000000 in
theorem law_outputTags (K : EK) (d : Nat) {j T : Nat} {D : DT} (hLL : ek_L K < 2 ^ 31) (hj : 6 * j + 6 ≤ ek_L K) (hT : T + 5000 < 2 ^ 31) (hR : Rel (T, T) D D) (Q : Option AV → DT → Prop) (ih : ∀ (T' : Nat) (D' : DT), T' ≤ T + 5000 → Rel (T', T') D' D' → RD K mL_law (d + 8) 759 [some (rR (16, 0, 0)), some (rR (0, 0, 0)), some (rR (14, 0, 0)), some (rI (nI (6 * j)))] [] D' Q) : RD K mL_law (d + 8) 637 [some (rR (16, 0, 0)), some (rR (0, 0, 0)), some (rR (14, 0, 0)), some (rI (nI (6 * j)))] [] D Q := by
  obtain ⟨r, X1, M1, g1, g2, g3⟩ := law_call hR (s_outputTags K d (ek_x K (6 * j + 1)) (ek_x K (6 * j + 2)) ⟨D, hR⟩)
  refine RD.aload_n (pc := 637) dL_law_637 rfl ?_
  refine RD.aload_n (pc := 638) dL_law_638 rfl ?_
  refine RD.iload_n (pc := 639) dL_law_639 rfl ?_
  refine RD.iconst (pc := 640) (v := 1) dL_law_640 (by decide) ?_
  refine RD.iadd (pc := 641) dL_law_641 ?_
  refine RD.eqI (nI_add (6 * j) 1) ?_
  refine RD.sald (pc := 642) ((6 * j) + 1) dL_law_642 rfl (by omega) hLL ?_
  refine RD.aload_n (pc := 643) dL_law_643 rfl ?_
  refine RD.iload_n (pc := 644) dL_law_644 rfl ?_
  refine RD.iconst (pc := 645) (v := 2) dL_law_645 (by decide) ?_
  refine RD.iadd (pc := 646) dL_law_646 ?_
  refine RD.eqI (nI_add (6 * j) 2) ?_
  refine RD.sald (pc := 647) ((6 * j) + 2) dL_law_647 rfl (by omega) hLL ?_
  refine RD.cV2 (pc := 648) dL_law_648 mlL_71 rfl ok0 rfl g1 (leb rfl) ?_
  refine RD.aload_n (pc := 651) dL_law_651 rfl ?_
  refine RD.aload_n (pc := 652) dL_law_652 rfl ?_
  refine RD.iload_n (pc := 653) dL_law_653 rfl ?_
  refine RD.iconst (pc := 654) (v := 1) dL_law_654 (by decide) ?_
  refine RD.iadd (pc := 655) dL_law_655 ?_
  refine RD.eqI (nI_add (6 * j) 1) ?_
  refine RD.sald (pc := 656) ((6 * j) + 1) dL_law_656 rfl (by omega) hLL ?_
  refine RD.aload_n (pc := 657) dL_law_657 rfl ?_
  refine RD.iload_n (pc := 658) dL_law_658 rfl ?_
  refine RD.iconst (pc := 659) (v := 2) dL_law_659 (by decide) ?_
  refine RD.iadd (pc := 660) dL_law_660 ?_
  refine RD.eqI (nI_add (6 * j) 2) ?_
  refine RD.sald (pc := 661) ((6 * j) + 2) dL_law_661 rfl (by omega) hLL ?_
  refine RD.cV2 (pc := 662) dL_law_662 mlL_74 rfl ok14 rfl g2 (leb rfl) ?_
  refine RD.icmp_eq (pc := 665) 759 dL_law_665 (by decide) (fun c665 => ?_) (fun c665 => absurd rfl c665)
  exact ih T M1 (by omega) g3

set_option maxRecDepth 20000 in
set_option maxHeartbeats 2000000 in
theorem law_content (K : EK) (d : Nat) {j T : Nat} {D : DT} (hLL : ek_L K < 2 ^ 31) (hj : 6 * j + 6 ≤ ek_L K) (hT : T + 5000 < 2 ^ 31) (hR : Rel (T, T) D D) (Q : Option AV → DT → Prop) (ih : ∀ (T' : Nat) (D' : DT), T' ≤ T + 5000 → Rel (T', T') D' D' → RD K mL_law (d + 8) 759 [some (rR (16, 0, 0)), some (rR (0, 0, 0)), some (rR (14, 0, 0)), some (rI (nI (6 * j)))] [] D' Q) : RD K mL_law (d + 8) 670 [some (rR (16, 0, 0)), some (rR (0, 0, 0)), some (rR (14, 0, 0)), some (rI (nI (6 * j)))] [] D Q := by
  obtain ⟨r, X1, M1, g1, g2, g3⟩ := law_call hR (s_content K d (ek_x K (6 * j + 1)) (ek_x K (6 * j + 2)))
  refine RD.aload_n (pc := 670) dL_law_670 rfl ?_
  refine RD.aload_n (pc := 671) dL_law_671 rfl ?_
  refine RD.iload_n (pc := 672) dL_law_672 rfl ?_
  refine RD.iconst (pc := 673) (v := 1) dL_law_673 (by decide) ?_
  refine RD.iadd (pc := 674) dL_law_674 ?_
  refine RD.eqI (nI_add (6 * j) 1) ?_
  refine RD.sald (pc := 675) ((6 * j) + 1) dL_law_675 rfl (by omega) hLL ?_
  refine RD.aload_n (pc := 676) dL_law_676 rfl ?_
  refine RD.iload_n (pc := 677) dL_law_677 rfl ?_
  refine RD.iconst (pc := 678) (v := 2) dL_law_678 (by decide) ?_
  refine RD.iadd (pc := 679) dL_law_679 ?_
  refine RD.eqI (nI_add (6 * j) 2) ?_
  refine RD.sald (pc := 680) ((6 * j) + 2) dL_law_680 rfl (by omega) hLL ?_
  refine RD.cV2 (pc := 681) dL_law_681 mlL_75 rfl ok0 rfl g1 (leb rfl) ?_
  refine RD.aload_n (pc := 684) dL_law_684 rfl ?_
  refine RD.aload_n (pc := 685) dL_law_685 rfl ?_
  refine RD.iload_n (pc := 686) dL_law_686 rfl ?_
  refine RD.iconst (pc := 687) (v := 1) dL_law_687 (by decide) ?_
  refine RD.iadd (pc := 688) dL_law_688 ?_
  refine RD.eqI (nI_add (6 * j) 1) ?_
  refine RD.sald (pc := 689) ((6 * j) + 1) dL_law_689 rfl (by omega) hLL ?_
  refine RD.aload_n (pc := 690) dL_law_690 rfl ?_
  refine RD.iload_n (pc := 691) dL_law_691 rfl ?_
  refine RD.iconst (pc := 692) (v := 2) dL_law_692 (by decide) ?_
  refine RD.iadd (pc := 693) dL_law_693 ?_
  refine RD.eqI (nI_add (6 * j) 2) ?_
  refine RD.sald (pc := 694) ((6 * j) + 2) dL_law_694 rfl (by omega) hLL ?_
  refine RD.cV2 (pc := 695) dL_law_695 mlL_78 rfl ok14 rfl g2 (leb rfl) ?_
  refine RD.icmp_eq (pc := 698) 759 dL_law_698 (by decide) (fun c698 => ?_) (fun c698 => absurd rfl c698)
  exact ih T M1 (by omega) g3

set_option maxRecDepth 20000 in
set_option maxHeartbeats 2000000 in
theorem law_fileTags (K : EK) (d : Nat) {j T : Nat} {D : DT} (hLL : ek_L K < 2 ^ 31) (hj : 6 * j + 6 ≤ ek_L K) (hT : T + 5000 < 2 ^ 31) (hR : Rel (T, T) D D) (Q : Option AV → DT → Prop) (ih : ∀ (T' : Nat) (D' : DT), T' ≤ T + 5000 → Rel (T', T') D' D' → RD K mL_law (d + 8) 759 [some (rR (16, 0, 0)), some (rR (0, 0, 0)), some (rR (14, 0, 0)), some (rI (nI (6 * j)))] [] D' Q) : RD K mL_law (d + 8) 703 [some (rR (16, 0, 0)), some (rR (0, 0, 0)), some (rR (14, 0, 0)), some (rI (nI (6 * j)))] [] D Q := by
  obtain ⟨r, X1, M1, g1, g2, g3⟩ := law_call hR (s_fileTags K d (ek_x K (6 * j + 1)))
  refine RD.aload_n (pc := 703) dL_law_703 rfl ?_
  refine RD.aload_n (pc := 704) dL_law_704 rfl ?_
  refine RD.iload_n (pc := 705) dL_law_705 rfl ?_
  refine RD.iconst (pc := 706) (v := 1) dL_law_706 (by decide) ?_
  refine RD.iadd (pc := 707) dL_law_707 ?_
  refine RD.eqI (nI_add (6 * j) 1) ?_
  refine RD.sald (pc := 708) ((6 * j) + 1) dL_law_708 rfl (by omega) hLL ?_
  refine RD.cV1 (pc := 709) dL_law_709 mlL_79 rfl ok0 rfl g1 (leb rfl) ?_
  refine RD.aload_n (pc := 712) dL_law_712 rfl ?_
  refine RD.aload_n (pc := 713) dL_law_713 rfl ?_
  refine RD.iload_n (pc := 714) dL_law_714 rfl ?_
  refine RD.iconst (pc := 715) (v := 1) dL_law_715 (by decide) ?_
  refine RD.iadd (pc := 716) dL_law_716 ?_
  refine RD.eqI (nI_add (6 * j) 1) ?_
  refine RD.sald (pc := 717) ((6 * j) + 1) dL_law_717 rfl (by omega) hLL ?_
  refine RD.cV1 (pc := 718) dL_law_718 mlL_82 rfl ok14 rfl g2 (leb rfl) ?_
  refine RD.icmp_eq (pc := 721) 759 dL_law_721 (by decide) (fun c721 => ?_) (fun c721 => absurd rfl c721)
  exact ih T M1 (by omega) g3

set_option maxRecDepth 20000 in
set_option maxHeartbeats 2000000 in
theorem law_mayFlow (K : EK) (d : Nat) {j T : Nat} {D : DT} (hLL : ek_L K < 2 ^ 31) (hj : 6 * j + 6 ≤ ek_L K) (hT : T + 5000 < 2 ^ 31) (hR : Rel (T, T) D D) (Q : Option AV → DT → Prop) (ih : ∀ (T' : Nat) (D' : DT), T' ≤ T + 5000 → Rel (T', T') D' D' → RD K mL_law (d + 8) 759 [some (rR (16, 0, 0)), some (rR (0, 0, 0)), some (rR (14, 0, 0)), some (rI (nI (6 * j)))] [] D' Q) : RD K mL_law (d + 8) 726 [some (rR (16, 0, 0)), some (rR (0, 0, 0)), some (rR (14, 0, 0)), some (rI (nI (6 * j)))] [] D Q := by
  obtain ⟨r, X1, M1, g1, g2, g3⟩ := law_call hR (s_mayFlow K d (ek_x K (6 * j + 1)) (ek_x K (6 * j + 2)))
  refine RD.aload_n (pc := 726) dL_law_726 rfl ?_
  refine RD.aload_n (pc := 727) dL_law_727 rfl ?_
  refine RD.iload_n (pc := 728) dL_law_728 rfl ?_
  refine RD.iconst (pc := 729) (v := 1) dL_law_729 (by decide) ?_
  refine RD.iadd (pc := 730) dL_law_730 ?_
  refine RD.eqI (nI_add (6 * j) 1) ?_
  refine RD.sald (pc := 731) ((6 * j) + 1) dL_law_731 rfl (by omega) hLL ?_
  refine RD.aload_n (pc := 732) dL_law_732 rfl ?_
  refine RD.iload_n (pc := 733) dL_law_733 rfl ?_
  refine RD.iconst (pc := 734) (v := 2) dL_law_734 (by decide) ?_
  refine RD.iadd (pc := 735) dL_law_735 ?_
  refine RD.eqI (nI_add (6 * j) 2) ?_
  refine RD.sald (pc := 736) ((6 * j) + 2) dL_law_736 rfl (by omega) hLL ?_
  refine RD.cV2 (pc := 737) dL_law_737 mlL_83 rfl ok0 rfl g1 (leb rfl) ?_
  refine RD.aload_n (pc := 740) dL_law_740 rfl ?_
  refine RD.aload_n (pc := 741) dL_law_741 rfl ?_
  refine RD.iload_n (pc := 742) dL_law_742 rfl ?_
  refine RD.iconst (pc := 743) (v := 1) dL_law_743 (by decide) ?_
  refine RD.iadd (pc := 744) dL_law_744 ?_
  refine RD.eqI (nI_add (6 * j) 1) ?_
  refine RD.sald (pc := 745) ((6 * j) + 1) dL_law_745 rfl (by omega) hLL ?_
  refine RD.aload_n (pc := 746) dL_law_746 rfl ?_
  refine RD.iload_n (pc := 747) dL_law_747 rfl ?_
  refine RD.iconst (pc := 748) (v := 2) dL_law_748 (by decide) ?_
  refine RD.iadd (pc := 749) dL_law_749 ?_
  refine RD.eqI (nI_add (6 * j) 2) ?_
  refine RD.sald (pc := 750) ((6 * j) + 2) dL_law_750 rfl (by omega) hLL ?_
  refine RD.cV2 (pc := 751) dL_law_751 mlL_87 rfl ok14 rfl g2 (leb rfl) ?_
  refine RD.icmp_eq (pc := 754) 759 dL_law_754 (by decide) (fun c754 => ?_) (fun c754 => absurd rfl c754)
  exact ih T M1 (by omega) g3

set_option maxRecDepth 20000 in
set_option maxHeartbeats 4000000 in
theorem law_loop (K : EK) (d : Nat) (hL : ek_L K ≤ 3072) : ∀ (n j T : Nat) (D : DT), 6 * j ≤ ek_L K → ek_L K < 6 * (j + n) → T ≤ 5000 * j → Rel (T, T) D D → RD K mL_law (d + 8) 18 [some (rR (16, 0, 0)), some (rR (0, 0, 0)), some (rR (14, 0, 0)), some (rI (nI (6 * j)))] [] D (fun r0 _ => r0 = some (rI 1)) := by
  intro n
  induction n with
  | zero => intro j T D h1 h2; omega
  | succ n ih =>
    intro j T D h1 h2 hT hR
    have hLL : ek_L K < 2 ^ 31 := by omega
    refine RD.iload_n (pc := 18) dL_law_18 rfl ?_
    refine RD.aload_n (pc := 19) dL_law_19 rfl ?_
    refine RD.slen (pc := 20) dL_law_20 ?_
    refine RD.bipush (pc := 21) (v := 6) dL_law_21 (by decide) ?_
    refine RD.isub (pc := 23) dL_law_23 ?_
    refine RD.icmp_gt (pc := 24) 765 dL_law_24 (by decide) (fun c24 => ?_) (fun c24 => ?_)
    · refine RD.iconst (pc := 765) (v := 1) dL_law_765 (by decide) ?_
      refine RD.ireturn (pc := 766) dL_law_766 rfl rfl ?_
      rfl
    · have hj : 6 * j + 6 ≤ ek_L K := by
        rw [show (6 : Int32) = nI 6 from rfl, Int32.lt_iff_toInt_lt, pk_sub_toInt (by omega) (by decide), nI_toInt (by omega)] at c24
        omega
      have hnext : ∀ (T' : Nat) (D' : DT), T' ≤ T + 5000 → Rel (T', T') D' D' → RD K mL_law (d + 8) 759 [some (rR (16, 0, 0)), some (rR (0, 0, 0)), some (rR (14, 0, 0)), some (rI (nI (6 * j)))] [] D' (fun r0 _ => r0 = some (rI 1)) := by
        intro T' D' hT' hR'
        refine RD.iinc (pc := 759) (ls' := [some (rR (16, 0, 0)), some (rR (0, 0, 0)), some (rR (14, 0, 0)), some (rI (nI (6 * (j + 1))))]) dL_law_759 rfl (nI_add (6 * j) 6) (by decide) rfl ?_
        refine RD.goto (pc := 762) 18 dL_law_762 (by decide) ?_
        exact ih (j + 1) T' D' (by omega) (by omega) (by omega) hR'
      refine RD.aload_n (pc := 27) dL_law_27 rfl ?_
      refine RD.iload_n (pc := 28) dL_law_28 rfl ?_
      refine RD.sald (pc := 29) (6 * j) dL_law_29 rfl (by omega) hLL ?_
      refine RD.bipush (pc := 30) (v := 31) dL_law_30 (by decide) ?_
      refine RD.iand (pc := 32) dL_law_32 ?_
      obtain ⟨o, ho, hop⟩ := op_lt (ek_x K (6 * j))
      refine RD.eqI hop ?_
      rcases (show o = 0 ∨ o = 1 ∨ o = 2 ∨ o = 3 ∨ o = 4 ∨ o = 5 ∨ o = 6 ∨ o = 7 ∨ o = 8 ∨ o = 9 ∨ o = 10 ∨ o = 11 ∨ o = 12 ∨ o = 13 ∨ o = 14 ∨ o = 15 ∨ o = 16 ∨ 16 < o by omega) with rfl | rfl | rfl | rfl | rfl | rfl | rfl | rfl | rfl | rfl | rfl | rfl | rfl | rfl | rfl | rfl | rfl | ho16
      · refine RD.tableIn (pc := 33) 116 dL_law_33 (by decide) (by decide) rfl (by decide) ?_
        exact law_poke K d hLL hj (by omega) hR _ hnext
      · refine RD.tableIn (pc := 33) 179 dL_law_33 (by decide) (by decide) rfl (by decide) ?_
        exact law_start K d hLL hj (by omega) hR _ hnext
      · refine RD.tableIn (pc := 33) 202 dL_law_33 (by decide) (by decide) rfl (by decide) ?_
        exact law_counter K d hLL hj (by omega) hR _ hnext
      · refine RD.tableIn (pc := 33) 235 dL_law_33 (by decide) (by decide) rfl (by decide) ?_
        exact law_tag K d hLL hj (by omega) hR _ hnext
      · refine RD.tableIn (pc := 33) 294 dL_law_33 (by decide) (by decide) rfl (by decide) ?_
        exact law_capability K d hLL hj (by omega) hR _ hnext
      · refine RD.tableIn (pc := 33) 363 dL_law_33 (by decide) (by decide) rfl (by decide) ?_
        exact law_file K d hLL hj (by omega) hR _ hnext
      · refine RD.tableIn (pc := 33) 396 dL_law_33 (by decide) (by decide) rfl (by decide) ?_
        exact law_fill K d hLL hj (by omega) hR _ hnext
      · refine RD.tableIn (pc := 33) 439 dL_law_33 (by decide) (by decide) rfl (by decide) ?_
        exact law_post K d hLL hj (by omega) hR _ hnext
      · refine RD.tableIn (pc := 33) 482 dL_law_33 (by decide) (by decide) rfl (by decide) ?_
        exact law_run K d hLL hj (by omega) hR _ hnext
      · refine RD.tableIn (pc := 33) 505 dL_law_33 (by decide) (by decide) rfl (by decide) ?_
        exact law_cell K d hLL hj (by omega) hR _ hnext
      · refine RD.tableIn (pc := 33) 538 dL_law_33 (by decide) (by decide) rfl (by decide) ?_
        exact law_slot K d hLL hj (by omega) hR _ hnext
      · refine RD.tableIn (pc := 33) 571 dL_law_33 (by decide) (by decide) rfl (by decide) ?_
        exact law_label K d hLL hj (by omega) hR _ hnext
      · refine RD.tableIn (pc := 33) 604 dL_law_33 (by decide) (by decide) rfl (by decide) ?_
        exact law_output K d hLL hj (by omega) hR _ hnext
      · refine RD.tableIn (pc := 33) 637 dL_law_33 (by decide) (by decide) rfl (by decide) ?_
        exact law_outputTags K d hLL hj (by omega) hR _ hnext
      · refine RD.tableIn (pc := 33) 670 dL_law_33 (by decide) (by decide) rfl (by decide) ?_
        exact law_content K d hLL hj (by omega) hR _ hnext
      · refine RD.tableIn (pc := 33) 703 dL_law_33 (by decide) (by decide) rfl (by decide) ?_
        exact law_fileTags K d hLL hj (by omega) hR _ hnext
      · refine RD.tableIn (pc := 33) 726 dL_law_33 (by decide) (by decide) rfl (by decide) ?_
        exact law_mayFlow K d hLL hj (by omega) hR _ hnext
      · refine RD.tableOut (pc := 33) 759 dL_law_33 (Or.inr (by rw [nI_toInt (by omega)]; omega)) (by decide) ?_
        exact hnext T D (by omega) hR

set_option maxRecDepth 100000 in
set_option maxHeartbeats 4000000 in
theorem la_start {E : zxE} {b0 b Ln c : Nat} {xs : Nat → Int32} {B : zB} {H : Nat → zG} {D : zMd} (hL : Ln ≤ 3584) (hc : 7 * c + 7 ≤ Ln) (hR : RR c B H D) (K : ∀ B H D, RR (c + 1) B H D → zx_X E mi_La_law (zl_Y E b0 Ln xs) 733 [some (.ref b0), some (.ref b), some (.ref (b + 71)), some (.int (nI (7 * c)))] [] (zs b (B, hF H, D)) (b + 103) 103 1700) : zx_X E mi_La_law (zl_Y E b0 Ln xs) 128 [some (.ref b0), some (.ref b), some (.ref (b + 71)), some (.int (nI (7 * c)))] [] (zs b (B, hF H, D)) (b + 103) 103 1700 := by
  obtain ⟨t, fr, lo, I, J⟩ := D
  refine zx_aload_n (q := 129) dd_La_law_128 rfl rfl ?_
  refine zx_aload_n (q := 130) dd_La_law_129 rfl rfl ?_
  refine zx_iload_n (q := 131) dd_La_law_130 rfl rfl ?_
  refine zx_iconst (nI 1) (q := 132) dd_La_law_131 rfl (by decide) ?_
  refine zx_iadd (q := 133) dd_La_law_132 rfl ?_
  refine zl_sld (q := 134) dd_La_law_133 rfl (nI_add (7 * c) 1) (by omega) hL ?_
  refine zx_aload_n (q := 135) dd_La_law_134 rfl rfl ?_
  refine zx_iload_n (q := 136) dd_La_law_135 rfl rfl ?_
  refine zx_iconst (nI 2) (q := 137) dd_La_law_136 rfl (by decide) ?_
  refine zx_iadd (q := 138) dd_La_law_137 rfl ?_
  refine zl_sld (q := 139) dd_La_law_138 rfl (nI_add (7 * c) 2) (by omega) hL ?_
  refine zx_i2l (q := 140) dd_La_law_139 rfl ?_
  refine zx_bipush (nI 32) (q := 142) dd_La_law_140 rfl (by decide) ?_
  refine zx_lshl (q := 143) dd_La_law_142 rfl ?_
  refine zx_aload_n (q := 144) dd_La_law_143 rfl rfl ?_
  refine zx_iload_n (q := 145) dd_La_law_144 rfl rfl ?_
  refine zx_iconst (nI 3) (q := 146) dd_La_law_145 rfl (by decide) ?_
  refine zx_iadd (q := 147) dd_La_law_146 rfl ?_
  refine zl_sld (q := 148) dd_La_law_147 rfl (nI_add (7 * c) 3) (by omega) hL ?_
  refine zx_i2l (q := 149) dd_La_law_148 rfl ?_
  refine zx_ldc2 _ (q := 152) dd_La_law_149 rfl kk_La_13 ?_
  refine zx_land (q := 153) dd_La_law_152 rfl ?_
  refine zx_lor (q := 154) dd_La_law_153 rfl ?_
  refine zx_aload_n (q := 155) dd_La_law_154 rfl rfl ?_
  refine zx_iload_n (q := 156) dd_La_law_155 rfl rfl ?_
  refine zx_iconst (nI 4) (q := 157) dd_La_law_156 rfl (by decide) ?_
  refine zx_iadd (q := 158) dd_La_law_157 rfl ?_
  refine zl_sld (q := 159) dd_La_law_158 rfl (nI_add (7 * c) 4) (by omega) hL ?_
  refine zx_cV3i (q := 162) dd_La_law_159 rfl cv_La_law_15 ⟨rfl, rfl⟩ at_ab rfl rfl (Nat.le_of_ble_eq_true rfl) ⟨by decide, by decide⟩ (ok_Ab_start (rr_w1 hR) (fun r1 B1 H1 he1 => ⟨_, rfl, ?_⟩))
  refine zx_aload_n (q := 163) dd_La_law_162 rfl rfl ?_
  refine zx_aload_n (q := 164) dd_La_law_163 rfl rfl ?_
  refine zx_iload_n (q := 165) dd_La_law_164 rfl rfl ?_
  refine zx_iconst (nI 1) (q := 166) dd_La_law_165 rfl (by decide) ?_
  refine zx_iadd (q := 167) dd_La_law_166 rfl ?_
  refine zl_sld (q := 168) dd_La_law_167 rfl (nI_add (7 * c) 1) (by omega) hL ?_
  refine zx_aload_n (q := 169) dd_La_law_168 rfl rfl ?_
  refine zx_iload_n (q := 170) dd_La_law_169 rfl rfl ?_
  refine zx_iconst (nI 2) (q := 171) dd_La_law_170 rfl (by decide) ?_
  refine zx_iadd (q := 172) dd_La_law_171 rfl ?_
  refine zl_sld (q := 173) dd_La_law_172 rfl (nI_add (7 * c) 2) (by omega) hL ?_
  refine zx_i2l (q := 174) dd_La_law_173 rfl ?_
  refine zx_bipush (nI 32) (q := 176) dd_La_law_174 rfl (by decide) ?_
  refine zx_lshl (q := 177) dd_La_law_176 rfl ?_
  refine zx_aload_n (q := 178) dd_La_law_177 rfl rfl ?_
  refine zx_iload_n (q := 179) dd_La_law_178 rfl rfl ?_
  refine zx_iconst (nI 3) (q := 180) dd_La_law_179 rfl (by decide) ?_
  refine zx_iadd (q := 181) dd_La_law_180 rfl ?_
  refine zl_sld (q := 182) dd_La_law_181 rfl (nI_add (7 * c) 3) (by omega) hL ?_
  refine zx_i2l (q := 183) dd_La_law_182 rfl ?_
  refine zx_ldc2 _ (q := 186) dd_La_law_183 rfl kk_La_13 ?_
  refine zx_land (q := 187) dd_La_law_186 rfl ?_
  refine zx_lor (q := 188) dd_La_law_187 rfl ?_
  refine zx_aload_n (q := 189) dd_La_law_188 rfl rfl ?_
  refine zx_iload_n (q := 190) dd_La_law_189 rfl rfl ?_
  refine zx_iconst (nI 4) (q := 191) dd_La_law_190 rfl (by decide) ?_
  refine zx_iadd (q := 192) dd_La_law_191 rfl ?_
  refine zl_sld (q := 193) dd_La_law_192 rfl (nI_add (7 * c) 4) (by omega) hL ?_
  refine zx_cV3i (q := 196) dd_La_law_193 rfl cv_La_law_19 ⟨rfl, rfl⟩ at_m rfl rfl (Nat.le_of_ble_eq_true rfl) ⟨by decide, by decide⟩ (ok_Md_start (rr_w2 hR) (fun r2 D1 he2 => ⟨_, rfl, ?_⟩))
  refine zx_icmp_eq 733 (q := 199) dd_La_law_196 rfl (by decide) (fun _ => K _ _ _ (rr_start hR he1 he2).2) (fun h => absurd (congrArg zb (rr_start hR he1 he2).1) h)
set_option maxRecDepth 100000 in
set_option maxHeartbeats 4000000 in
theorem la_stop {E : zxE} {b0 b Ln c : Nat} {xs : Nat → Int32} {B : zB} {H : Nat → zG} {D : zMd} (hL : Ln ≤ 3584) (hc : 7 * c + 7 ≤ Ln) (hR : RR c B H D) (K : ∀ B H D, RR (c + 1) B H D → zx_X E mi_La_law (zl_Y E b0 Ln xs) 733 [some (.ref b0), some (.ref b), some (.ref (b + 71)), some (.int (nI (7 * c)))] [] (zs b (B, hF H, D)) (b + 103) 103 1700) : zx_X E mi_La_law (zl_Y E b0 Ln xs) 201 [some (.ref b0), some (.ref b), some (.ref (b + 71)), some (.int (nI (7 * c)))] [] (zs b (B, hF H, D)) (b + 103) 103 1700 := by
  obtain ⟨t, fr, lo, I, J⟩ := D
  refine zx_aload_n (q := 202) dd_La_law_201 rfl rfl ?_
  refine zx_aload_n (q := 203) dd_La_law_202 rfl rfl ?_
  refine zx_iload_n (q := 204) dd_La_law_203 rfl rfl ?_
  refine zx_iconst (nI 1) (q := 205) dd_La_law_204 rfl (by decide) ?_
  refine zx_iadd (q := 206) dd_La_law_205 rfl ?_
  refine zl_sld (q := 207) dd_La_law_206 rfl (nI_add (7 * c) 1) (by omega) hL ?_
  refine zx_cV1i (q := 210) dd_La_law_207 rfl cv_La_law_20 ⟨rfl, rfl⟩ at_ab rfl rfl (Nat.le_of_ble_eq_true rfl) ⟨by decide, by decide⟩ (ok_Ab_stop (rr_w1 hR) (rr_o hR) (fun r1 B1 H1 he1 => ⟨_, rfl, ?_⟩))
  refine zx_aload_n (q := 211) dd_La_law_210 rfl rfl ?_
  refine zx_aload_n (q := 212) dd_La_law_211 rfl rfl ?_
  refine zx_iload_n (q := 213) dd_La_law_212 rfl rfl ?_
  refine zx_iconst (nI 1) (q := 214) dd_La_law_213 rfl (by decide) ?_
  refine zx_iadd (q := 215) dd_La_law_214 rfl ?_
  refine zl_sld (q := 216) dd_La_law_215 rfl (nI_add (7 * c) 1) (by omega) hL ?_
  refine zx_cV1i (q := 219) dd_La_law_216 rfl cv_La_law_24 ⟨rfl, rfl⟩ at_m rfl rfl (Nat.le_of_ble_eq_true rfl) ⟨by decide, by decide⟩ (ok_Md_stop (rr_w2 hR) (fun r2 D1 he2 => ⟨_, rfl, ?_⟩))
  refine zx_icmp_eq 733 (q := 222) dd_La_law_219 rfl (by decide) (fun _ => K _ _ _ (rr_stop hR he1 he2).2) (fun h => absurd (congrArg zb (rr_stop hR he1 he2).1) h)
set_option maxRecDepth 100000 in
set_option maxHeartbeats 4000000 in
theorem la_busy {E : zxE} {b0 b Ln c : Nat} {xs : Nat → Int32} {B : zB} {H : Nat → zG} {D : zMd} (hL : Ln ≤ 3584) (hc : 7 * c + 7 ≤ Ln) (hR : RR c B H D) (K : ∀ B H D, RR (c + 1) B H D → zx_X E mi_La_law (zl_Y E b0 Ln xs) 733 [some (.ref b0), some (.ref b), some (.ref (b + 71)), some (.int (nI (7 * c)))] [] (zs b (B, hF H, D)) (b + 103) 103 1700) : zx_X E mi_La_law (zl_Y E b0 Ln xs) 224 [some (.ref b0), some (.ref b), some (.ref (b + 71)), some (.int (nI (7 * c)))] [] (zs b (B, hF H, D)) (b + 103) 103 1700 := by
  obtain ⟨t, fr, lo, I, J⟩ := D
  by_cases hz : xs (7 * c + 2) = 0
  · skip
    refine zx_aload_n (q := 225) dd_La_law_224 rfl rfl ?_
    refine zx_aload_n (q := 226) dd_La_law_225 rfl rfl ?_
    refine zx_iload_n (q := 227) dd_La_law_226 rfl rfl ?_
    refine zx_iconst (nI 1) (q := 228) dd_La_law_227 rfl (by decide) ?_
    refine zx_iadd (q := 229) dd_La_law_228 rfl ?_
    refine zl_sld (q := 230) dd_La_law_229 rfl (nI_add (7 * c) 1) (by omega) hL ?_
    refine zx_aload_n (q := 231) dd_La_law_230 rfl rfl ?_
    refine zx_iload_n (q := 232) dd_La_law_231 rfl rfl ?_
    refine zx_iconst (nI 2) (q := 233) dd_La_law_232 rfl (by decide) ?_
    refine zx_iadd (q := 234) dd_La_law_233 rfl ?_
    refine zl_sld (q := 235) dd_La_law_234 rfl (nI_add (7 * c) 2) (by omega) hL ?_
    refine zx_if_eq 242 (q := 238) dd_La_law_235 rfl (by decide) (fun _ => ?_) (fun h => absurd hz h)
    refine zx_iconst (nI 0) (q := 243) dd_La_law_242 rfl (by decide) ?_
    refine zx_topi zb_f ?_
    refine zx_cV2i (q := 246) dd_La_law_243 rfl cv_La_law_25 ⟨rfl, rfl⟩ at_ab rfl rfl (Nat.le_of_ble_eq_true rfl) ⟨by decide, by decide⟩ (ok_Ab_busy (fun r1 H1 he1 => ⟨_, rfl, ?_⟩))
    refine zx_aload_n (q := 247) dd_La_law_246 rfl rfl ?_
    refine zx_aload_n (q := 248) dd_La_law_247 rfl rfl ?_
    refine zx_iload_n (q := 249) dd_La_law_248 rfl rfl ?_
    refine zx_iconst (nI 1) (q := 250) dd_La_law_249 rfl (by decide) ?_
    refine zx_iadd (q := 251) dd_La_law_250 rfl ?_
    refine zl_sld (q := 252) dd_La_law_251 rfl (nI_add (7 * c) 1) (by omega) hL ?_
    refine zx_aload_n (q := 253) dd_La_law_252 rfl rfl ?_
    refine zx_iload_n (q := 254) dd_La_law_253 rfl rfl ?_
    refine zx_iconst (nI 2) (q := 255) dd_La_law_254 rfl (by decide) ?_
    refine zx_iadd (q := 256) dd_La_law_255 rfl ?_
    refine zl_sld (q := 257) dd_La_law_256 rfl (nI_add (7 * c) 2) (by omega) hL ?_
    refine zx_if_eq 264 (q := 260) dd_La_law_257 rfl (by decide) (fun _ => ?_) (fun h => absurd hz h)
    refine zx_iconst (nI 0) (q := 265) dd_La_law_264 rfl (by decide) ?_
    refine zx_topi zb_f ?_
    refine zx_cV2i (q := 268) dd_La_law_265 rfl cv_La_law_29 ⟨rfl, rfl⟩ at_m rfl rfl (Nat.le_of_ble_eq_true rfl) ⟨by decide, by decide⟩ (ok_Md_busy (fun r2 D1 he2 => ⟨_, rfl, ?_⟩))
    refine zx_icmp_eq 733 (q := 271) dd_La_law_268 rfl (by decide) (fun _ => K _ _ _ (rr_busy hR he1 he2).2) (fun h => absurd (congrArg zb (rr_busy hR he1 he2).1) h)
  · skip
    refine zx_aload_n (q := 225) dd_La_law_224 rfl rfl ?_
    refine zx_aload_n (q := 226) dd_La_law_225 rfl rfl ?_
    refine zx_iload_n (q := 227) dd_La_law_226 rfl rfl ?_
    refine zx_iconst (nI 1) (q := 228) dd_La_law_227 rfl (by decide) ?_
    refine zx_iadd (q := 229) dd_La_law_228 rfl ?_
    refine zl_sld (q := 230) dd_La_law_229 rfl (nI_add (7 * c) 1) (by omega) hL ?_
    refine zx_aload_n (q := 231) dd_La_law_230 rfl rfl ?_
    refine zx_iload_n (q := 232) dd_La_law_231 rfl rfl ?_
    refine zx_iconst (nI 2) (q := 233) dd_La_law_232 rfl (by decide) ?_
    refine zx_iadd (q := 234) dd_La_law_233 rfl ?_
    refine zl_sld (q := 235) dd_La_law_234 rfl (nI_add (7 * c) 2) (by omega) hL ?_
    refine zx_if_eq 242 (q := 238) dd_La_law_235 rfl (by decide) (fun h => absurd h hz) (fun _ => ?_)
    refine zx_iconst (nI 1) (q := 239) dd_La_law_238 rfl (by decide) ?_
    refine zx_goto 243 dd_La_law_239 (by decide) ?_
    refine zx_topi zb_1 ?_
    refine zx_cV2i (q := 246) dd_La_law_243 rfl cv_La_law_25 ⟨rfl, rfl⟩ at_ab rfl rfl (Nat.le_of_ble_eq_true rfl) ⟨by decide, by decide⟩ (ok_Ab_busy (fun r1 H1 he1 => ⟨_, rfl, ?_⟩))
    refine zx_aload_n (q := 247) dd_La_law_246 rfl rfl ?_
    refine zx_aload_n (q := 248) dd_La_law_247 rfl rfl ?_
    refine zx_iload_n (q := 249) dd_La_law_248 rfl rfl ?_
    refine zx_iconst (nI 1) (q := 250) dd_La_law_249 rfl (by decide) ?_
    refine zx_iadd (q := 251) dd_La_law_250 rfl ?_
    refine zl_sld (q := 252) dd_La_law_251 rfl (nI_add (7 * c) 1) (by omega) hL ?_
    refine zx_aload_n (q := 253) dd_La_law_252 rfl rfl ?_
    refine zx_iload_n (q := 254) dd_La_law_253 rfl rfl ?_
    refine zx_iconst (nI 2) (q := 255) dd_La_law_254 rfl (by decide) ?_
    refine zx_iadd (q := 256) dd_La_law_255 rfl ?_
    refine zl_sld (q := 257) dd_La_law_256 rfl (nI_add (7 * c) 2) (by omega) hL ?_
    refine zx_if_eq 264 (q := 260) dd_La_law_257 rfl (by decide) (fun h => absurd h hz) (fun _ => ?_)
    refine zx_iconst (nI 1) (q := 261) dd_La_law_260 rfl (by decide) ?_
    refine zx_goto 265 dd_La_law_261 (by decide) ?_
    refine zx_topi zb_1 ?_
    refine zx_cV2i (q := 268) dd_La_law_265 rfl cv_La_law_29 ⟨rfl, rfl⟩ at_m rfl rfl (Nat.le_of_ble_eq_true rfl) ⟨by decide, by decide⟩ (ok_Md_busy (fun r2 D1 he2 => ⟨_, rfl, ?_⟩))
    refine zx_icmp_eq 733 (q := 271) dd_La_law_268 rfl (by decide) (fun _ => K _ _ _ (rr_busy hR he1 he2).2) (fun h => absurd (congrArg zb (rr_busy hR he1 he2).1) h)
set_option maxRecDepth 100000 in
set_option maxHeartbeats 4000000 in
theorem la_state {E : zxE} {b0 b Ln c : Nat} {xs : Nat → Int32} {B : zB} {H : Nat → zG} {D : zMd} (hL : Ln ≤ 3584) (hc : 7 * c + 7 ≤ Ln) (hR : RR c B H D) (K : ∀ B H D, RR (c + 1) B H D → zx_X E mi_La_law (zl_Y E b0 Ln xs) 733 [some (.ref b0), some (.ref b), some (.ref (b + 71)), some (.int (nI (7 * c)))] [] (zs b (B, hF H, D)) (b + 103) 103 1700) : zx_X E mi_La_law (zl_Y E b0 Ln xs) 273 [some (.ref b0), some (.ref b), some (.ref (b + 71)), some (.int (nI (7 * c)))] [] (zs b (B, hF H, D)) (b + 103) 103 1700 := by
  obtain ⟨t, fr, lo, I, J⟩ := D
  refine zx_aload_n (q := 274) dd_La_law_273 rfl rfl ?_
  refine zx_aload_n (q := 275) dd_La_law_274 rfl rfl ?_
  refine zx_iload_n (q := 276) dd_La_law_275 rfl rfl ?_
  refine zx_iconst (nI 1) (q := 277) dd_La_law_276 rfl (by decide) ?_
  refine zx_iadd (q := 278) dd_La_law_277 rfl ?_
  refine zl_sld (q := 279) dd_La_law_278 rfl (nI_add (7 * c) 1) (by omega) hL ?_
  refine zx_cV1i (q := 282) dd_La_law_279 rfl cv_La_law_30 ⟨rfl, rfl⟩ at_ab rfl rfl (Nat.le_of_ble_eq_true rfl) ⟨by decide, by decide⟩ (ok_Ab_state (fun r1 he1 => ⟨_, rfl, ?_⟩))
  refine zx_aload_n (q := 283) dd_La_law_282 rfl rfl ?_
  refine zx_aload_n (q := 284) dd_La_law_283 rfl rfl ?_
  refine zx_iload_n (q := 285) dd_La_law_284 rfl rfl ?_
  refine zx_iconst (nI 1) (q := 286) dd_La_law_285 rfl (by decide) ?_
  refine zx_iadd (q := 287) dd_La_law_286 rfl ?_
  refine zl_sld (q := 288) dd_La_law_287 rfl (nI_add (7 * c) 1) (by omega) hL ?_
  refine zx_cV1i (q := 291) dd_La_law_288 rfl cv_La_law_34 ⟨rfl, rfl⟩ at_m rfl rfl (Nat.le_of_ble_eq_true rfl) ⟨by decide, by decide⟩ (ok_Md_state (fun r2 he2 => ⟨_, rfl, ?_⟩))
  refine zx_icmp_eq 733 (q := 294) dd_La_law_291 rfl (by decide) (fun _ => K _ _ _ (rr_keep hR)) (fun h => absurd (he1.symm.trans ((rr_state hR _).trans he2)) h)
set_option maxRecDepth 100000 in
set_option maxHeartbeats 4000000 in
theorem la_address {E : zxE} {b0 b Ln c : Nat} {xs : Nat → Int32} {B : zB} {H : Nat → zG} {D : zMd} (hL : Ln ≤ 3584) (hc : 7 * c + 7 ≤ Ln) (hR : RR c B H D) (K : ∀ B H D, RR (c + 1) B H D → zx_X E mi_La_law (zl_Y E b0 Ln xs) 733 [some (.ref b0), some (.ref b), some (.ref (b + 71)), some (.int (nI (7 * c)))] [] (zs b (B, hF H, D)) (b + 103) 103 1700) : zx_X E mi_La_law (zl_Y E b0 Ln xs) 296 [some (.ref b0), some (.ref b), some (.ref (b + 71)), some (.int (nI (7 * c)))] [] (zs b (B, hF H, D)) (b + 103) 103 1700 := by
  obtain ⟨t, fr, lo, I, J⟩ := D
  refine zx_aload_n (q := 297) dd_La_law_296 rfl rfl ?_
  refine zx_aload_n (q := 298) dd_La_law_297 rfl rfl ?_
  refine zx_iload_n (q := 299) dd_La_law_298 rfl rfl ?_
  refine zx_iconst (nI 1) (q := 300) dd_La_law_299 rfl (by decide) ?_
  refine zx_iadd (q := 301) dd_La_law_300 rfl ?_
  refine zl_sld (q := 302) dd_La_law_301 rfl (nI_add (7 * c) 1) (by omega) hL ?_
  refine zx_cV1i (q := 305) dd_La_law_302 rfl cv_La_law_35 ⟨rfl, rfl⟩ at_ab rfl rfl (Nat.le_of_ble_eq_true rfl) ⟨by decide, by decide⟩ (ok_Ab_address (fun r1 he1 => ⟨_, rfl, ?_⟩))
  refine zx_aload_n (q := 306) dd_La_law_305 rfl rfl ?_
  refine zx_aload_n (q := 307) dd_La_law_306 rfl rfl ?_
  refine zx_iload_n (q := 308) dd_La_law_307 rfl rfl ?_
  refine zx_iconst (nI 1) (q := 309) dd_La_law_308 rfl (by decide) ?_
  refine zx_iadd (q := 310) dd_La_law_309 rfl ?_
  refine zl_sld (q := 311) dd_La_law_310 rfl (nI_add (7 * c) 1) (by omega) hL ?_
  refine zx_cV1i (q := 314) dd_La_law_311 rfl cv_La_law_38 ⟨rfl, rfl⟩ at_m rfl rfl (Nat.le_of_ble_eq_true rfl) ⟨by decide, by decide⟩ (ok_Md_address (fun r2 he2 => ⟨_, rfl, ?_⟩))
  refine zx_icmp_eq 733 (q := 317) dd_La_law_314 rfl (by decide) (fun _ => K _ _ _ (rr_keep hR)) (fun h => absurd (he1.symm.trans ((rr_address hR _).trans he2)) h)
set_option maxRecDepth 100000 in
set_option maxHeartbeats 4000000 in
theorem la_noted {E : zxE} {b0 b Ln c : Nat} {xs : Nat → Int32} {B : zB} {H : Nat → zG} {D : zMd} (hL : Ln ≤ 3584) (hc : 7 * c + 7 ≤ Ln) (hR : RR c B H D) (K : ∀ B H D, RR (c + 1) B H D → zx_X E mi_La_law (zl_Y E b0 Ln xs) 733 [some (.ref b0), some (.ref b), some (.ref (b + 71)), some (.int (nI (7 * c)))] [] (zs b (B, hF H, D)) (b + 103) 103 1700) : zx_X E mi_La_law (zl_Y E b0 Ln xs) 319 [some (.ref b0), some (.ref b), some (.ref (b + 71)), some (.int (nI (7 * c)))] [] (zs b (B, hF H, D)) (b + 103) 103 1700 := by
  obtain ⟨t, fr, lo, I, J⟩ := D
  refine zx_aload_n (q := 320) dd_La_law_319 rfl rfl ?_
  refine zx_aload_n (q := 321) dd_La_law_320 rfl rfl ?_
  refine zx_iload_n (q := 322) dd_La_law_321 rfl rfl ?_
  refine zx_iconst (nI 1) (q := 323) dd_La_law_322 rfl (by decide) ?_
  refine zx_iadd (q := 324) dd_La_law_323 rfl ?_
  refine zl_sld (q := 325) dd_La_law_324 rfl (nI_add (7 * c) 1) (by omega) hL ?_
  refine zx_aload_n (q := 326) dd_La_law_325 rfl rfl ?_
  refine zx_iload_n (q := 327) dd_La_law_326 rfl rfl ?_
  refine zx_iconst (nI 2) (q := 328) dd_La_law_327 rfl (by decide) ?_
  refine zx_iadd (q := 329) dd_La_law_328 rfl ?_
  refine zl_sld (q := 330) dd_La_law_329 rfl (nI_add (7 * c) 2) (by omega) hL ?_
  refine zx_cV2i (q := 333) dd_La_law_330 rfl cv_La_law_39 ⟨rfl, rfl⟩ at_ab rfl rfl (Nat.le_of_ble_eq_true rfl) ⟨by decide, by decide⟩ (ok_Ab_noted (fun r1 he1 => ⟨_, rfl, ?_⟩))
  refine zx_aload_n (q := 334) dd_La_law_333 rfl rfl ?_
  refine zx_aload_n (q := 335) dd_La_law_334 rfl rfl ?_
  refine zx_iload_n (q := 336) dd_La_law_335 rfl rfl ?_
  refine zx_iconst (nI 1) (q := 337) dd_La_law_336 rfl (by decide) ?_
  refine zx_iadd (q := 338) dd_La_law_337 rfl ?_
  refine zl_sld (q := 339) dd_La_law_338 rfl (nI_add (7 * c) 1) (by omega) hL ?_
  refine zx_aload_n (q := 340) dd_La_law_339 rfl rfl ?_
  refine zx_iload_n (q := 341) dd_La_law_340 rfl rfl ?_
  refine zx_iconst (nI 2) (q := 342) dd_La_law_341 rfl (by decide) ?_
  refine zx_iadd (q := 343) dd_La_law_342 rfl ?_
  refine zl_sld (q := 344) dd_La_law_343 rfl (nI_add (7 * c) 2) (by omega) hL ?_
  refine zx_cV2i (q := 347) dd_La_law_344 rfl cv_La_law_43 ⟨rfl, rfl⟩ at_m rfl rfl (Nat.le_of_ble_eq_true rfl) ⟨by decide, by decide⟩ (ok_Md_noted (fun r2 he2 => ⟨_, rfl, ?_⟩))
  refine zx_icmp_eq 733 (q := 350) dd_La_law_347 rfl (by decide) (fun _ => K _ _ _ (rr_keep hR)) (fun h => absurd (he1.symm.trans ((rr_noted hR _ _).trans he2)) h)
set_option maxRecDepth 100000 in
set_option maxHeartbeats 4000000 in
theorem la_request {E : zxE} {b0 b Ln c : Nat} {xs : Nat → Int32} {B : zB} {H : Nat → zG} {D : zMd} (hL : Ln ≤ 3584) (hc : 7 * c + 7 ≤ Ln) (hR : RR c B H D) (K : ∀ B H D, RR (c + 1) B H D → zx_X E mi_La_law (zl_Y E b0 Ln xs) 733 [some (.ref b0), some (.ref b), some (.ref (b + 71)), some (.int (nI (7 * c)))] [] (zs b (B, hF H, D)) (b + 103) 103 1700) : zx_X E mi_La_law (zl_Y E b0 Ln xs) 352 [some (.ref b0), some (.ref b), some (.ref (b + 71)), some (.int (nI (7 * c)))] [] (zs b (B, hF H, D)) (b + 103) 103 1700 := by
  obtain ⟨t, fr, lo, I, J⟩ := D
  refine zx_aload_n (q := 353) dd_La_law_352 rfl rfl ?_
  refine zx_aload_n (q := 354) dd_La_law_353 rfl rfl ?_
  refine zx_iload_n (q := 355) dd_La_law_354 rfl rfl ?_
  refine zx_iconst (nI 1) (q := 356) dd_La_law_355 rfl (by decide) ?_
  refine zx_iadd (q := 357) dd_La_law_356 rfl ?_
  refine zl_sld (q := 358) dd_La_law_357 rfl (nI_add (7 * c) 1) (by omega) hL ?_
  refine zx_cV1i (q := 361) dd_La_law_358 rfl cv_La_law_44 ⟨rfl, rfl⟩ at_ab rfl rfl (Nat.le_of_ble_eq_true rfl) ⟨by decide, by decide⟩ (ok_Ab_request (rr_w1 hR) (fun r1 B1 he1 => ⟨_, rfl, ?_⟩))
  refine zx_aload_n (q := 362) dd_La_law_361 rfl rfl ?_
  refine zx_aload_n (q := 363) dd_La_law_362 rfl rfl ?_
  refine zx_iload_n (q := 364) dd_La_law_363 rfl rfl ?_
  refine zx_iconst (nI 1) (q := 365) dd_La_law_364 rfl (by decide) ?_
  refine zx_iadd (q := 366) dd_La_law_365 rfl ?_
  refine zl_sld (q := 367) dd_La_law_366 rfl (nI_add (7 * c) 1) (by omega) hL ?_
  refine zx_cV1i (q := 370) dd_La_law_367 rfl cv_La_law_47 ⟨rfl, rfl⟩ at_m rfl rfl (Nat.le_of_ble_eq_true rfl) ⟨by decide, by decide⟩ (ok_Md_request (rr_w2 hR) (fun r2 D1 he2 => ⟨_, rfl, ?_⟩))
  refine zx_icmp_eq 733 (q := 373) dd_La_law_370 rfl (by decide) (fun _ => K _ _ _ (rr_request hR he1 he2).2) (fun h => absurd (congrArg zb (rr_request hR he1 he2).1) h)
set_option maxRecDepth 100000 in
set_option maxHeartbeats 4000000 in
theorem la_send {E : zxE} {b0 b Ln c : Nat} {xs : Nat → Int32} {B : zB} {H : Nat → zG} {D : zMd} (hL : Ln ≤ 3584) (hc : 7 * c + 7 ≤ Ln) (hR : RR c B H D) (K : ∀ B H D, RR (c + 1) B H D → zx_X E mi_La_law (zl_Y E b0 Ln xs) 733 [some (.ref b0), some (.ref b), some (.ref (b + 71)), some (.int (nI (7 * c)))] [] (zs b (B, hF H, D)) (b + 103) 103 1700) : zx_X E mi_La_law (zl_Y E b0 Ln xs) 375 [some (.ref b0), some (.ref b), some (.ref (b + 71)), some (.int (nI (7 * c)))] [] (zs b (B, hF H, D)) (b + 103) 103 1700 := by
  obtain ⟨t, fr, lo, I, J⟩ := D
  refine zx_aload_n (q := 376) dd_La_law_375 rfl rfl ?_
  refine zx_aload_n (q := 377) dd_La_law_376 rfl rfl ?_
  refine zx_iload_n (q := 378) dd_La_law_377 rfl rfl ?_
  refine zx_iconst (nI 1) (q := 379) dd_La_law_378 rfl (by decide) ?_
  refine zx_iadd (q := 380) dd_La_law_379 rfl ?_
  refine zl_sld (q := 381) dd_La_law_380 rfl (nI_add (7 * c) 1) (by omega) hL ?_
  refine zx_aload_n (q := 382) dd_La_law_381 rfl rfl ?_
  refine zx_iload_n (q := 383) dd_La_law_382 rfl rfl ?_
  refine zx_iconst (nI 2) (q := 384) dd_La_law_383 rfl (by decide) ?_
  refine zx_iadd (q := 385) dd_La_law_384 rfl ?_
  refine zl_sld (q := 386) dd_La_law_385 rfl (nI_add (7 * c) 2) (by omega) hL ?_
  refine zx_aload_n (q := 387) dd_La_law_386 rfl rfl ?_
  refine zx_iload_n (q := 388) dd_La_law_387 rfl rfl ?_
  refine zx_iconst (nI 3) (q := 389) dd_La_law_388 rfl (by decide) ?_
  refine zx_iadd (q := 390) dd_La_law_389 rfl ?_
  refine zl_sld (q := 391) dd_La_law_390 rfl (nI_add (7 * c) 3) (by omega) hL ?_
  refine zx_aload_n (q := 392) dd_La_law_391 rfl rfl ?_
  refine zx_iload_n (q := 393) dd_La_law_392 rfl rfl ?_
  refine zx_iconst (nI 4) (q := 394) dd_La_law_393 rfl (by decide) ?_
  refine zx_iadd (q := 395) dd_La_law_394 rfl ?_
  refine zl_sld (q := 396) dd_La_law_395 rfl (nI_add (7 * c) 4) (by omega) hL ?_
  refine zx_aload_n (q := 397) dd_La_law_396 rfl rfl ?_
  refine zx_iload_n (q := 398) dd_La_law_397 rfl rfl ?_
  refine zx_iconst (nI 5) (q := 399) dd_La_law_398 rfl (by decide) ?_
  refine zx_iadd (q := 400) dd_La_law_399 rfl ?_
  refine zl_sld (q := 401) dd_La_law_400 rfl (nI_add (7 * c) 5) (by omega) hL ?_
  refine zx_i2l (q := 402) dd_La_law_401 rfl ?_
  refine zx_bipush (nI 32) (q := 404) dd_La_law_402 rfl (by decide) ?_
  refine zx_lshl (q := 405) dd_La_law_404 rfl ?_
  refine zx_aload_n (q := 406) dd_La_law_405 rfl rfl ?_
  refine zx_iload_n (q := 407) dd_La_law_406 rfl rfl ?_
  refine zx_bipush (nI 6) (q := 409) dd_La_law_407 rfl (by decide) ?_
  refine zx_iadd (q := 410) dd_La_law_409 rfl ?_
  refine zl_sld (q := 411) dd_La_law_410 rfl (nI_add (7 * c) 6) (by omega) hL ?_
  refine zx_i2l (q := 412) dd_La_law_411 rfl ?_
  refine zx_ldc2 _ (q := 415) dd_La_law_412 rfl kk_La_13 ?_
  refine zx_land (q := 416) dd_La_law_415 rfl ?_
  refine zx_lor (q := 417) dd_La_law_416 rfl ?_
  refine zx_cV5i (q := 420) dd_La_law_417 rfl cv_La_law_48 ⟨rfl, rfl⟩ at_ab rfl rfl (Nat.le_of_ble_eq_true rfl) ⟨by decide, by decide⟩ (ok_Ab_send (rr_w1 hR) (fun r1 B1 H1 he1 => ⟨_, rfl, ?_⟩))
  refine zx_aload_n (q := 421) dd_La_law_420 rfl rfl ?_
  refine zx_aload_n (q := 422) dd_La_law_421 rfl rfl ?_
  refine zx_iload_n (q := 423) dd_La_law_422 rfl rfl ?_
  refine zx_iconst (nI 1) (q := 424) dd_La_law_423 rfl (by decide) ?_
  refine zx_iadd (q := 425) dd_La_law_424 rfl ?_
  refine zl_sld (q := 426) dd_La_law_425 rfl (nI_add (7 * c) 1) (by omega) hL ?_
  refine zx_aload_n (q := 427) dd_La_law_426 rfl rfl ?_
  refine zx_iload_n (q := 428) dd_La_law_427 rfl rfl ?_
  refine zx_iconst (nI 2) (q := 429) dd_La_law_428 rfl (by decide) ?_
  refine zx_iadd (q := 430) dd_La_law_429 rfl ?_
  refine zl_sld (q := 431) dd_La_law_430 rfl (nI_add (7 * c) 2) (by omega) hL ?_
  refine zx_aload_n (q := 432) dd_La_law_431 rfl rfl ?_
  refine zx_iload_n (q := 433) dd_La_law_432 rfl rfl ?_
  refine zx_iconst (nI 3) (q := 434) dd_La_law_433 rfl (by decide) ?_
  refine zx_iadd (q := 435) dd_La_law_434 rfl ?_
  refine zl_sld (q := 436) dd_La_law_435 rfl (nI_add (7 * c) 3) (by omega) hL ?_
  refine zx_aload_n (q := 437) dd_La_law_436 rfl rfl ?_
  refine zx_iload_n (q := 438) dd_La_law_437 rfl rfl ?_
  refine zx_iconst (nI 4) (q := 439) dd_La_law_438 rfl (by decide) ?_
  refine zx_iadd (q := 440) dd_La_law_439 rfl ?_
  refine zl_sld (q := 441) dd_La_law_440 rfl (nI_add (7 * c) 4) (by omega) hL ?_
  refine zx_aload_n (q := 442) dd_La_law_441 rfl rfl ?_
  refine zx_iload_n (q := 443) dd_La_law_442 rfl rfl ?_
  refine zx_iconst (nI 5) (q := 444) dd_La_law_443 rfl (by decide) ?_
  refine zx_iadd (q := 445) dd_La_law_444 rfl ?_
  refine zl_sld (q := 446) dd_La_law_445 rfl (nI_add (7 * c) 5) (by omega) hL ?_
  refine zx_i2l (q := 447) dd_La_law_446 rfl ?_
  refine zx_bipush (nI 32) (q := 449) dd_La_law_447 rfl (by decide) ?_
  refine zx_lshl (q := 450) dd_La_law_449 rfl ?_
  refine zx_aload_n (q := 451) dd_La_law_450 rfl rfl ?_
  refine zx_iload_n (q := 452) dd_La_law_451 rfl rfl ?_
  refine zx_bipush (nI 6) (q := 454) dd_La_law_452 rfl (by decide) ?_
  refine zx_iadd (q := 455) dd_La_law_454 rfl ?_
  refine zl_sld (q := 456) dd_La_law_455 rfl (nI_add (7 * c) 6) (by omega) hL ?_
  refine zx_i2l (q := 457) dd_La_law_456 rfl ?_
  refine zx_ldc2 _ (q := 460) dd_La_law_457 rfl kk_La_13 ?_
  refine zx_land (q := 461) dd_La_law_460 rfl ?_
  refine zx_lor (q := 462) dd_La_law_461 rfl ?_
  refine zx_cV5i (q := 465) dd_La_law_462 rfl cv_La_law_52 ⟨rfl, rfl⟩ at_m rfl rfl (Nat.le_of_ble_eq_true rfl) ⟨by decide, by decide⟩ (ok_Md_send (rr_w2 hR) (fun r2 D1 he2 => ⟨_, rfl, ?_⟩))
  refine zx_icmp_eq 733 (q := 468) dd_La_law_465 rfl (by decide) (fun _ => K _ _ _ (rr_send hR he1 he2).2) (fun h => absurd (congrArg zb (rr_send hR he1 he2).1) h)
set_option maxRecDepth 100000 in
set_option maxHeartbeats 4000000 in
theorem la_waiting {E : zxE} {b0 b Ln c : Nat} {xs : Nat → Int32} {B : zB} {H : Nat → zG} {D : zMd} (hL : Ln ≤ 3584) (hc : 7 * c + 7 ≤ Ln) (hR : RR c B H D) (K : ∀ B H D, RR (c + 1) B H D → zx_X E mi_La_law (zl_Y E b0 Ln xs) 733 [some (.ref b0), some (.ref b), some (.ref (b + 71)), some (.int (nI (7 * c)))] [] (zs b (B, hF H, D)) (b + 103) 103 1700) : zx_X E mi_La_law (zl_Y E b0 Ln xs) 470 [some (.ref b0), some (.ref b), some (.ref (b + 71)), some (.int (nI (7 * c)))] [] (zs b (B, hF H, D)) (b + 103) 103 1700 := by
  obtain ⟨t, fr, lo, I, J⟩ := D
  refine zx_aload_n (q := 471) dd_La_law_470 rfl rfl ?_
  refine zx_cV0i (q := 474) dd_La_law_471 rfl cv_La_law_53 ⟨rfl, rfl⟩ at_ab rfl rfl (Nat.le_of_ble_eq_true rfl) ⟨by decide, by decide⟩ (ok_Ab_waiting ⟨_, rfl, ?_⟩)
  refine zx_aload_n (q := 475) dd_La_law_474 rfl rfl ?_
  refine zx_cV0i (q := 478) dd_La_law_475 rfl cv_La_law_57 ⟨rfl, rfl⟩ at_m rfl rfl (Nat.le_of_ble_eq_true rfl) ⟨by decide, by decide⟩ (ok_Md_waiting ⟨_, rfl, ?_⟩)
  refine zx_icmp_eq 733 (q := 481) dd_La_law_478 rfl (by decide) (fun _ => K _ _ _ (rr_keep hR)) (fun h => absurd (rr_waiting hR) h)
set_option maxRecDepth 100000 in
set_option maxHeartbeats 4000000 in
theorem la_identifier {E : zxE} {b0 b Ln c : Nat} {xs : Nat → Int32} {B : zB} {H : Nat → zG} {D : zMd} (hL : Ln ≤ 3584) (hc : 7 * c + 7 ≤ Ln) (hR : RR c B H D) (K : ∀ B H D, RR (c + 1) B H D → zx_X E mi_La_law (zl_Y E b0 Ln xs) 733 [some (.ref b0), some (.ref b), some (.ref (b + 71)), some (.int (nI (7 * c)))] [] (zs b (B, hF H, D)) (b + 103) 103 1700) : zx_X E mi_La_law (zl_Y E b0 Ln xs) 483 [some (.ref b0), some (.ref b), some (.ref (b + 71)), some (.int (nI (7 * c)))] [] (zs b (B, hF H, D)) (b + 103) 103 1700 := by
  obtain ⟨t, fr, lo, I, J⟩ := D
  refine zx_aload_n (q := 484) dd_La_law_483 rfl rfl ?_
  refine zx_cV0i (q := 487) dd_La_law_484 rfl cv_La_law_58 ⟨rfl, rfl⟩ at_ab rfl rfl (Nat.le_of_ble_eq_true rfl) ⟨by decide, by decide⟩ (ok_Ab_identifier (rr_w1 hR) (fun r1 he1 => ⟨_, rfl, ?_⟩))
  refine zx_aload_n (q := 488) dd_La_law_487 rfl rfl ?_
  refine zx_cV0i (q := 491) dd_La_law_488 rfl cv_La_law_61 ⟨rfl, rfl⟩ at_m rfl rfl (Nat.le_of_ble_eq_true rfl) ⟨by decide, by decide⟩ (ok_Md_identifier (rr_w2 hR) (fun r2 he2 => ⟨_, rfl, ?_⟩))
  refine zx_icmp_eq 733 (q := 494) dd_La_law_491 rfl (by decide) (fun _ => K _ _ _ (rr_keep hR)) (fun h => absurd (he1.symm.trans ((rr_identifier hR).trans he2)) h)
set_option maxRecDepth 100000 in
set_option maxHeartbeats 4000000 in
theorem la_data {E : zxE} {b0 b Ln c : Nat} {xs : Nat → Int32} {B : zB} {H : Nat → zG} {D : zMd} (hL : Ln ≤ 3584) (hc : 7 * c + 7 ≤ Ln) (hR : RR c B H D) (K : ∀ B H D, RR (c + 1) B H D → zx_X E mi_La_law (zl_Y E b0 Ln xs) 733 [some (.ref b0), some (.ref b), some (.ref (b + 71)), some (.int (nI (7 * c)))] [] (zs b (B, hF H, D)) (b + 103) 103 1700) : zx_X E mi_La_law (zl_Y E b0 Ln xs) 496 [some (.ref b0), some (.ref b), some (.ref (b + 71)), some (.int (nI (7 * c)))] [] (zs b (B, hF H, D)) (b + 103) 103 1700 := by
  obtain ⟨t, fr, lo, I, J⟩ := D
  refine zx_aload_n (q := 497) dd_La_law_496 rfl rfl ?_
  refine zx_cV0l (q := 500) dd_La_law_497 rfl cv_La_law_62 ⟨rfl, rfl⟩ at_ab rfl rfl (Nat.le_of_ble_eq_true rfl) ⟨by decide, by decide⟩ (ok_Ab_data (rr_w1 hR) (fun r1 he1 => ⟨_, rfl, ?_⟩))
  refine zx_aload_n (q := 501) dd_La_law_500 rfl rfl ?_
  refine zx_cV0l (q := 504) dd_La_law_501 rfl cv_La_law_66 ⟨rfl, rfl⟩ at_m rfl rfl (Nat.le_of_ble_eq_true rfl) ⟨by decide, by decide⟩ (ok_Md_data (rr_w2 hR) (fun r2 he2 => ⟨_, rfl, ?_⟩))
  refine zx_lcmp (q := 505) dd_La_law_504 rfl ?_
  refine zx_if_eq 733 (q := 508) dd_La_law_505 rfl (by decide) (fun _ => K _ _ _ (rr_keep hR)) (fun h => absurd (lcmp_0.mpr (he1.symm.trans ((rr_data hR).trans he2))) h)
set_option maxRecDepth 100000 in
set_option maxHeartbeats 4000000 in
theorem la_deliver {E : zxE} {b0 b Ln c : Nat} {xs : Nat → Int32} {B : zB} {H : Nat → zG} {D : zMd} (hL : Ln ≤ 3584) (hc : 7 * c + 7 ≤ Ln) (hR : RR c B H D) (K : ∀ B H D, RR (c + 1) B H D → zx_X E mi_La_law (zl_Y E b0 Ln xs) 733 [some (.ref b0), some (.ref b), some (.ref (b + 71)), some (.int (nI (7 * c)))] [] (zs b (B, hF H, D)) (b + 103) 103 1700) : zx_X E mi_La_law (zl_Y E b0 Ln xs) 510 [some (.ref b0), some (.ref b), some (.ref (b + 71)), some (.int (nI (7 * c)))] [] (zs b (B, hF H, D)) (b + 103) 103 1700 := by
  obtain ⟨t, fr, lo, I, J⟩ := D
  by_cases hz : xs (7 * c + 1) = 0
  · skip
    obtain ⟨s, hs5, hs1, hs2, hs3, hs4⟩ := rr_deliver hR false
    refine zx_aload_n (q := 511) dd_La_law_510 rfl rfl ?_
    refine zx_aload_n (q := 512) dd_La_law_511 rfl rfl ?_
    refine zx_iload_n (q := 513) dd_La_law_512 rfl rfl ?_
    refine zx_iconst (nI 1) (q := 514) dd_La_law_513 rfl (by decide) ?_
    refine zx_iadd (q := 515) dd_La_law_514 rfl ?_
    refine zl_sld (q := 516) dd_La_law_515 rfl (nI_add (7 * c) 1) (by omega) hL ?_
    refine zx_if_eq 523 (q := 519) dd_La_law_516 rfl (by decide) (fun _ => ?_) (fun h => absurd hz h)
    refine zx_iconst (nI 0) (q := 524) dd_La_law_523 rfl (by decide) ?_
    refine zx_topi zb_f ?_
    refine zx_cV1i (q := 527) dd_La_law_524 rfl cv_La_law_67 ⟨rfl, rfl⟩ at_ab rfl rfl (Nat.le_of_ble_eq_true rfl) ⟨by decide, by decide⟩ (ok_Ab_deliver (s := s) (rr_w1 hR) (rr_zi hR) hs5 hs1 (fun r1 B1 H1 he1 => ⟨_, rfl, ?_⟩))
    refine zx_aload_n (q := 528) dd_La_law_527 rfl rfl ?_
    refine zx_aload_n (q := 529) dd_La_law_528 rfl rfl ?_
    refine zx_iload_n (q := 530) dd_La_law_529 rfl rfl ?_
    refine zx_iconst (nI 1) (q := 531) dd_La_law_530 rfl (by decide) ?_
    refine zx_iadd (q := 532) dd_La_law_531 rfl ?_
    refine zl_sld (q := 533) dd_La_law_532 rfl (nI_add (7 * c) 1) (by omega) hL ?_
    refine zx_if_eq 540 (q := 536) dd_La_law_533 rfl (by decide) (fun _ => ?_) (fun h => absurd hz h)
    refine zx_iconst (nI 0) (q := 541) dd_La_law_540 rfl (by decide) ?_
    refine zx_topi zb_f ?_
    refine zx_cV1i (q := 544) dd_La_law_541 rfl cv_La_law_71 ⟨rfl, rfl⟩ at_m rfl rfl (Nat.le_of_ble_eq_true rfl) ⟨by decide, by decide⟩ (ok_Md_deliver (s := s) (rr_w2 hR) hs5 hs2 hs3 (fun r2 D1 he2 => ⟨_, rfl, ?_⟩))
    refine zx_icmp_eq 733 (q := 547) dd_La_law_544 rfl (by decide) (fun _ => K _ _ _ (hs4 he1 he2).2) (fun h => absurd (congrArg zb (hs4 he1 he2).1) h)
  · skip
    obtain ⟨s, hs5, hs1, hs2, hs3, hs4⟩ := rr_deliver hR true
    refine zx_aload_n (q := 511) dd_La_law_510 rfl rfl ?_
    refine zx_aload_n (q := 512) dd_La_law_511 rfl rfl ?_
    refine zx_iload_n (q := 513) dd_La_law_512 rfl rfl ?_
    refine zx_iconst (nI 1) (q := 514) dd_La_law_513 rfl (by decide) ?_
    refine zx_iadd (q := 515) dd_La_law_514 rfl ?_
    refine zl_sld (q := 516) dd_La_law_515 rfl (nI_add (7 * c) 1) (by omega) hL ?_
    refine zx_if_eq 523 (q := 519) dd_La_law_516 rfl (by decide) (fun h => absurd h hz) (fun _ => ?_)
    refine zx_iconst (nI 1) (q := 520) dd_La_law_519 rfl (by decide) ?_
    refine zx_goto 524 dd_La_law_520 (by decide) ?_
    refine zx_topi zb_1 ?_
    refine zx_cV1i (q := 527) dd_La_law_524 rfl cv_La_law_67 ⟨rfl, rfl⟩ at_ab rfl rfl (Nat.le_of_ble_eq_true rfl) ⟨by decide, by decide⟩ (ok_Ab_deliver (s := s) (rr_w1 hR) (rr_zi hR) hs5 hs1 (fun r1 B1 H1 he1 => ⟨_, rfl, ?_⟩))
    refine zx_aload_n (q := 528) dd_La_law_527 rfl rfl ?_
    refine zx_aload_n (q := 529) dd_La_law_528 rfl rfl ?_
    refine zx_iload_n (q := 530) dd_La_law_529 rfl rfl ?_
    refine zx_iconst (nI 1) (q := 531) dd_La_law_530 rfl (by decide) ?_
    refine zx_iadd (q := 532) dd_La_law_531 rfl ?_
    refine zl_sld (q := 533) dd_La_law_532 rfl (nI_add (7 * c) 1) (by omega) hL ?_
    refine zx_if_eq 540 (q := 536) dd_La_law_533 rfl (by decide) (fun h => absurd h hz) (fun _ => ?_)
    refine zx_iconst (nI 1) (q := 537) dd_La_law_536 rfl (by decide) ?_
    refine zx_goto 541 dd_La_law_537 (by decide) ?_
    refine zx_topi zb_1 ?_
    refine zx_cV1i (q := 544) dd_La_law_541 rfl cv_La_law_71 ⟨rfl, rfl⟩ at_m rfl rfl (Nat.le_of_ble_eq_true rfl) ⟨by decide, by decide⟩ (ok_Md_deliver (s := s) (rr_w2 hR) hs5 hs2 hs3 (fun r2 D1 he2 => ⟨_, rfl, ?_⟩))
    refine zx_icmp_eq 733 (q := 547) dd_La_law_544 rfl (by decide) (fun _ => K _ _ _ (hs4 he1 he2).2) (fun h => absurd (congrArg zb (hs4 he1 he2).1) h)
set_option maxRecDepth 100000 in
set_option maxHeartbeats 4000000 in
theorem la_lose {E : zxE} {b0 b Ln c : Nat} {xs : Nat → Int32} {B : zB} {H : Nat → zG} {D : zMd} (hL : Ln ≤ 3584) (hc : 7 * c + 7 ≤ Ln) (hR : RR c B H D) (K : ∀ B H D, RR (c + 1) B H D → zx_X E mi_La_law (zl_Y E b0 Ln xs) 733 [some (.ref b0), some (.ref b), some (.ref (b + 71)), some (.int (nI (7 * c)))] [] (zs b (B, hF H, D)) (b + 103) 103 1700) : zx_X E mi_La_law (zl_Y E b0 Ln xs) 549 [some (.ref b0), some (.ref b), some (.ref (b + 71)), some (.int (nI (7 * c)))] [] (zs b (B, hF H, D)) (b + 103) 103 1700 := by
  obtain ⟨t, fr, lo, I, J⟩ := D
  refine zx_aload_n (q := 550) dd_La_law_549 rfl rfl ?_
  refine zx_cV0i (q := 553) dd_La_law_550 rfl cv_La_law_72 ⟨rfl, rfl⟩ at_ab rfl rfl (Nat.le_of_ble_eq_true rfl) ⟨by decide, by decide⟩ (ok_Ab_lose (rr_w1 hR) (fun r1 B1 he1 => ⟨_, rfl, ?_⟩))
  refine zx_aload_n (q := 554) dd_La_law_553 rfl rfl ?_
  refine zx_cV0i (q := 557) dd_La_law_554 rfl cv_La_law_76 ⟨rfl, rfl⟩ at_m rfl rfl (Nat.le_of_ble_eq_true rfl) ⟨by decide, by decide⟩ (ok_Md_lose (rr_w2 hR) (fun r2 D1 he2 => ⟨_, rfl, ?_⟩))
  refine zx_icmp_eq 733 (q := 560) dd_La_law_557 rfl (by decide) (fun _ => K _ _ _ (rr_lose hR he1 he2).2) (fun h => absurd (congrArg zb (rr_lose hR he1 he2).1) h)
set_option maxRecDepth 100000 in
set_option maxHeartbeats 4000000 in
theorem la_overflowed {E : zxE} {b0 b Ln c : Nat} {xs : Nat → Int32} {B : zB} {H : Nat → zG} {D : zMd} (hL : Ln ≤ 3584) (hc : 7 * c + 7 ≤ Ln) (hR : RR c B H D) (K : ∀ B H D, RR (c + 1) B H D → zx_X E mi_La_law (zl_Y E b0 Ln xs) 733 [some (.ref b0), some (.ref b), some (.ref (b + 71)), some (.int (nI (7 * c)))] [] (zs b (B, hF H, D)) (b + 103) 103 1700) : zx_X E mi_La_law (zl_Y E b0 Ln xs) 562 [some (.ref b0), some (.ref b), some (.ref (b + 71)), some (.int (nI (7 * c)))] [] (zs b (B, hF H, D)) (b + 103) 103 1700 := by
  obtain ⟨t, fr, lo, I, J⟩ := D
  refine zx_aload_n (q := 563) dd_La_law_562 rfl rfl ?_
  refine zx_cV0i (q := 566) dd_La_law_563 rfl cv_La_law_77 ⟨rfl, rfl⟩ at_ab rfl rfl (Nat.le_of_ble_eq_true rfl) ⟨by decide, by decide⟩ (ok_Ab_overflowed ⟨_, rfl, ?_⟩)
  refine zx_aload_n (q := 567) dd_La_law_566 rfl rfl ?_
  refine zx_cV0i (q := 570) dd_La_law_567 rfl cv_La_law_80 ⟨rfl, rfl⟩ at_m rfl rfl (Nat.le_of_ble_eq_true rfl) ⟨by decide, by decide⟩ (ok_Md_overflowed ⟨_, rfl, ?_⟩)
  refine zx_icmp_eq 733 (q := 573) dd_La_law_570 rfl (by decide) (fun _ => K _ _ _ (rr_keep hR)) (fun h => absurd (rr_overflowed hR) h)
set_option maxRecDepth 100000 in
set_option maxHeartbeats 4000000 in
theorem la_tick {E : zxE} {b0 b Ln c : Nat} {xs : Nat → Int32} {B : zB} {H : Nat → zG} {D : zMd} (hL : Ln ≤ 3584) (hc : 7 * c + 7 ≤ Ln) (hR : RR c B H D) (K : ∀ B H D, RR (c + 1) B H D → zx_X E mi_La_law (zl_Y E b0 Ln xs) 733 [some (.ref b0), some (.ref b), some (.ref (b + 71)), some (.int (nI (7 * c)))] [] (zs b (B, hF H, D)) (b + 103) 103 1700) : zx_X E mi_La_law (zl_Y E b0 Ln xs) 575 [some (.ref b0), some (.ref b), some (.ref (b + 71)), some (.int (nI (7 * c)))] [] (zs b (B, hF H, D)) (b + 103) 103 1700 := by
  obtain ⟨t, fr, lo, I, J⟩ := D
  refine zx_aload_n (q := 576) dd_La_law_575 rfl rfl ?_
  refine zx_aload_n (q := 577) dd_La_law_576 rfl rfl ?_
  refine zx_iload_n (q := 578) dd_La_law_577 rfl rfl ?_
  refine zx_iconst (nI 1) (q := 579) dd_La_law_578 rfl (by decide) ?_
  refine zx_iadd (q := 580) dd_La_law_579 rfl ?_
  refine zl_sld (q := 581) dd_La_law_580 rfl (nI_add (7 * c) 1) (by omega) hL ?_
  refine zx_cV1i (q := 584) dd_La_law_581 rfl cv_La_law_81 ⟨rfl, rfl⟩ at_ab rfl rfl (Nat.le_of_ble_eq_true rfl) ⟨by decide, by decide⟩ (ok_Ab_tick (rr_w1 hR) (rr_o hR) (fun r1 B1 H1 he1 => ⟨_, rfl, ?_⟩))
  refine zx_aload_n (q := 585) dd_La_law_584 rfl rfl ?_
  refine zx_aload_n (q := 586) dd_La_law_585 rfl rfl ?_
  refine zx_iload_n (q := 587) dd_La_law_586 rfl rfl ?_
  refine zx_iconst (nI 1) (q := 588) dd_La_law_587 rfl (by decide) ?_
  refine zx_iadd (q := 589) dd_La_law_588 rfl ?_
  refine zl_sld (q := 590) dd_La_law_589 rfl (nI_add (7 * c) 1) (by omega) hL ?_
  refine zx_cV1i (q := 593) dd_La_law_590 rfl cv_La_law_84 ⟨rfl, rfl⟩ at_m rfl rfl (Nat.le_of_ble_eq_true rfl) ⟨by decide, by decide⟩ (ok_Md_tick (rr_w2 hR) (fun hz => ⟨_, rfl, ?_⟩) (fun hz1 hz2 => ?_))
  · have hk := (rr_tick hR (by omega) (xs (7 * c + 1))).1 hz
    rw [he1] at hk
    simp only [Prod.mk.injEq] at hk
    obtain ⟨rfl, rfl, rfl⟩ := hk
    refine zx_icmp_eq 733 (q := 596) dd_La_law_593 rfl (by decide) (fun _ => K _ _ _ (rr_keep hR)) (fun h => absurd rfl h)
  · obtain ⟨N, c', D', h1, h2, h3⟩ := (rr_tick hR (by omega) (xs (7 * c + 1))).2 hz1 hz2
    rw [he1] at h2 h3
    refine ⟨N, c', D', h1, _, rfl, ?_⟩
    refine zx_icmp_eq 733 (q := 596) dd_La_law_593 rfl (by decide) (fun _ => K _ _ _ h3) (fun h => absurd h2 h)
set_option maxRecDepth 100000 in
set_option maxHeartbeats 4000000 in
theorem la_outgoing {E : zxE} {b0 b Ln c : Nat} {xs : Nat → Int32} {B : zB} {H : Nat → zG} {D : zMd} (hL : Ln ≤ 3584) (hc : 7 * c + 7 ≤ Ln) (hR : RR c B H D) (K : ∀ B H D, RR (c + 1) B H D → zx_X E mi_La_law (zl_Y E b0 Ln xs) 733 [some (.ref b0), some (.ref b), some (.ref (b + 71)), some (.int (nI (7 * c)))] [] (zs b (B, hF H, D)) (b + 103) 103 1700) : zx_X E mi_La_law (zl_Y E b0 Ln xs) 598 [some (.ref b0), some (.ref b), some (.ref (b + 71)), some (.int (nI (7 * c)))] [] (zs b (B, hF H, D)) (b + 103) 103 1700 := by
  obtain ⟨t, fr, lo, I, J⟩ := D
  refine zx_aload_n (q := 599) dd_La_law_598 rfl rfl ?_
  refine zx_aload_n (q := 600) dd_La_law_599 rfl rfl ?_
  refine zx_iload_n (q := 601) dd_La_law_600 rfl rfl ?_
  refine zx_iconst (nI 1) (q := 602) dd_La_law_601 rfl (by decide) ?_
  refine zx_iadd (q := 603) dd_La_law_602 rfl ?_
  refine zl_sld (q := 604) dd_La_law_603 rfl (nI_add (7 * c) 1) (by omega) hL ?_
  refine zx_cV1i (q := 607) dd_La_law_604 rfl cv_La_law_85 ⟨rfl, rfl⟩ at_ab rfl rfl (Nat.le_of_ble_eq_true rfl) ⟨by decide, by decide⟩ (ok_Ab_outgoing (fun r1 he1 => ⟨_, rfl, ?_⟩))
  refine zx_aload_n (q := 608) dd_La_law_607 rfl rfl ?_
  refine zx_aload_n (q := 609) dd_La_law_608 rfl rfl ?_
  refine zx_iload_n (q := 610) dd_La_law_609 rfl rfl ?_
  refine zx_iconst (nI 1) (q := 611) dd_La_law_610 rfl (by decide) ?_
  refine zx_iadd (q := 612) dd_La_law_611 rfl ?_
  refine zl_sld (q := 613) dd_La_law_612 rfl (nI_add (7 * c) 1) (by omega) hL ?_
  refine zx_cV1i (q := 616) dd_La_law_613 rfl cv_La_law_88 ⟨rfl, rfl⟩ at_m rfl rfl (Nat.le_of_ble_eq_true rfl) ⟨by decide, by decide⟩ (ok_Md_outgoing (fun r2 he2 => ⟨_, rfl, ?_⟩))
  refine zx_icmp_eq 733 (q := 619) dd_La_law_616 rfl (by decide) (fun _ => K _ _ _ (rr_keep hR)) (fun h => absurd (he1.symm.trans ((rr_outgoing hR _).trans he2)) h)
set_option maxRecDepth 100000 in
set_option maxHeartbeats 4000000 in
theorem la_incoming {E : zxE} {b0 b Ln c : Nat} {xs : Nat → Int32} {B : zB} {H : Nat → zG} {D : zMd} (hL : Ln ≤ 3584) (hc : 7 * c + 7 ≤ Ln) (hR : RR c B H D) (K : ∀ B H D, RR (c + 1) B H D → zx_X E mi_La_law (zl_Y E b0 Ln xs) 733 [some (.ref b0), some (.ref b), some (.ref (b + 71)), some (.int (nI (7 * c)))] [] (zs b (B, hF H, D)) (b + 103) 103 1700) : zx_X E mi_La_law (zl_Y E b0 Ln xs) 621 [some (.ref b0), some (.ref b), some (.ref (b + 71)), some (.int (nI (7 * c)))] [] (zs b (B, hF H, D)) (b + 103) 103 1700 := by
  obtain ⟨t, fr, lo, I, J⟩ := D
  refine zx_aload_n (q := 622) dd_La_law_621 rfl rfl ?_
  refine zx_aload_n (q := 623) dd_La_law_622 rfl rfl ?_
  refine zx_iload_n (q := 624) dd_La_law_623 rfl rfl ?_
  refine zx_iconst (nI 1) (q := 625) dd_La_law_624 rfl (by decide) ?_
  refine zx_iadd (q := 626) dd_La_law_625 rfl ?_
  refine zl_sld (q := 627) dd_La_law_626 rfl (nI_add (7 * c) 1) (by omega) hL ?_
  refine zx_cV1i (q := 630) dd_La_law_627 rfl cv_La_law_89 ⟨rfl, rfl⟩ at_ab rfl rfl (Nat.le_of_ble_eq_true rfl) ⟨by decide, by decide⟩ (ok_Ab_incoming (rr_o hR) (fun r1 he1 => ⟨_, rfl, ?_⟩))
  refine zx_aload_n (q := 631) dd_La_law_630 rfl rfl ?_
  refine zx_aload_n (q := 632) dd_La_law_631 rfl rfl ?_
  refine zx_iload_n (q := 633) dd_La_law_632 rfl rfl ?_
  refine zx_iconst (nI 1) (q := 634) dd_La_law_633 rfl (by decide) ?_
  refine zx_iadd (q := 635) dd_La_law_634 rfl ?_
  refine zl_sld (q := 636) dd_La_law_635 rfl (nI_add (7 * c) 1) (by omega) hL ?_
  refine zx_cV1i (q := 639) dd_La_law_636 rfl cv_La_law_92 ⟨rfl, rfl⟩ at_m rfl rfl (Nat.le_of_ble_eq_true rfl) ⟨by decide, by decide⟩ (ok_Md_incoming (fun r2 he2 => ⟨_, rfl, ?_⟩))
  refine zx_icmp_eq 733 (q := 642) dd_La_law_639 rfl (by decide) (fun _ => K _ _ _ (rr_keep hR)) (fun h => absurd (he1.symm.trans ((rr_incoming hR _).trans he2)) h)
set_option maxRecDepth 100000 in
set_option maxHeartbeats 4000000 in
theorem la_delivered {E : zxE} {b0 b Ln c : Nat} {xs : Nat → Int32} {B : zB} {H : Nat → zG} {D : zMd} (hL : Ln ≤ 3584) (hc : 7 * c + 7 ≤ Ln) (hR : RR c B H D) (K : ∀ B H D, RR (c + 1) B H D → zx_X E mi_La_law (zl_Y E b0 Ln xs) 733 [some (.ref b0), some (.ref b), some (.ref (b + 71)), some (.int (nI (7 * c)))] [] (zs b (B, hF H, D)) (b + 103) 103 1700) : zx_X E mi_La_law (zl_Y E b0 Ln xs) 644 [some (.ref b0), some (.ref b), some (.ref (b + 71)), some (.int (nI (7 * c)))] [] (zs b (B, hF H, D)) (b + 103) 103 1700 := by
  obtain ⟨t, fr, lo, I, J⟩ := D
  refine zx_aload_n (q := 645) dd_La_law_644 rfl rfl ?_
  refine zx_aload_n (q := 646) dd_La_law_645 rfl rfl ?_
  refine zx_iload_n (q := 647) dd_La_law_646 rfl rfl ?_
  refine zx_iconst (nI 1) (q := 648) dd_La_law_647 rfl (by decide) ?_
  refine zx_iadd (q := 649) dd_La_law_648 rfl ?_
  refine zl_sld (q := 650) dd_La_law_649 rfl (nI_add (7 * c) 1) (by omega) hL ?_
  refine zx_cV1i (q := 653) dd_La_law_650 rfl cv_La_law_93 ⟨rfl, rfl⟩ at_ab rfl rfl (Nat.le_of_ble_eq_true rfl) ⟨by decide, by decide⟩ (ok_Ab_delivered (fun r1 he1 => ⟨_, rfl, ?_⟩))
  refine zx_aload_n (q := 654) dd_La_law_653 rfl rfl ?_
  refine zx_aload_n (q := 655) dd_La_law_654 rfl rfl ?_
  refine zx_iload_n (q := 656) dd_La_law_655 rfl rfl ?_
  refine zx_iconst (nI 1) (q := 657) dd_La_law_656 rfl (by decide) ?_
  refine zx_iadd (q := 658) dd_La_law_657 rfl ?_
  refine zl_sld (q := 659) dd_La_law_658 rfl (nI_add (7 * c) 1) (by omega) hL ?_
  refine zx_cV1i (q := 662) dd_La_law_659 rfl cv_La_law_96 ⟨rfl, rfl⟩ at_m rfl rfl (Nat.le_of_ble_eq_true rfl) ⟨by decide, by decide⟩ (ok_Md_delivered (fun r2 he2 => ⟨_, rfl, ?_⟩))
  refine zx_icmp_eq 733 (q := 665) dd_La_law_662 rfl (by decide) (fun _ => K _ _ _ (rr_keep hR)) (fun h => absurd (he1.symm.trans ((rr_delivered hR _).trans he2)) h)
set_option maxRecDepth 100000 in
set_option maxHeartbeats 4000000 in
theorem la_message {E : zxE} {b0 b Ln c : Nat} {xs : Nat → Int32} {B : zB} {H : Nat → zG} {D : zMd} (hL : Ln ≤ 3584) (hc : 7 * c + 7 ≤ Ln) (hR : RR c B H D) (K : ∀ B H D, RR (c + 1) B H D → zx_X E mi_La_law (zl_Y E b0 Ln xs) 733 [some (.ref b0), some (.ref b), some (.ref (b + 71)), some (.int (nI (7 * c)))] [] (zs b (B, hF H, D)) (b + 103) 103 1700) : zx_X E mi_La_law (zl_Y E b0 Ln xs) 667 [some (.ref b0), some (.ref b), some (.ref (b + 71)), some (.int (nI (7 * c)))] [] (zs b (B, hF H, D)) (b + 103) 103 1700 := by
  obtain ⟨t, fr, lo, I, J⟩ := D
  refine zx_aload_n (q := 668) dd_La_law_667 rfl rfl ?_
  refine zx_aload_n (q := 669) dd_La_law_668 rfl rfl ?_
  refine zx_iload_n (q := 670) dd_La_law_669 rfl rfl ?_
  refine zx_iconst (nI 1) (q := 671) dd_La_law_670 rfl (by decide) ?_
  refine zx_iadd (q := 672) dd_La_law_671 rfl ?_
  refine zl_sld (q := 673) dd_La_law_672 rfl (nI_add (7 * c) 1) (by omega) hL ?_
  refine zx_aload_n (q := 674) dd_La_law_673 rfl rfl ?_
  refine zx_iload_n (q := 675) dd_La_law_674 rfl rfl ?_
  refine zx_iconst (nI 2) (q := 676) dd_La_law_675 rfl (by decide) ?_
  refine zx_iadd (q := 677) dd_La_law_676 rfl ?_
  refine zl_sld (q := 678) dd_La_law_677 rfl (nI_add (7 * c) 2) (by omega) hL ?_
  refine zx_cV2i (q := 681) dd_La_law_678 rfl cv_La_law_97 ⟨rfl, rfl⟩ at_ab rfl rfl (Nat.le_of_ble_eq_true rfl) ⟨by decide, by decide⟩ (ok_Ab_message (fun r1 he1 => ⟨_, rfl, ?_⟩))
  refine zx_aload_n (q := 682) dd_La_law_681 rfl rfl ?_
  refine zx_aload_n (q := 683) dd_La_law_682 rfl rfl ?_
  refine zx_iload_n (q := 684) dd_La_law_683 rfl rfl ?_
  refine zx_iconst (nI 1) (q := 685) dd_La_law_684 rfl (by decide) ?_
  refine zx_iadd (q := 686) dd_La_law_685 rfl ?_
  refine zl_sld (q := 687) dd_La_law_686 rfl (nI_add (7 * c) 1) (by omega) hL ?_
  refine zx_aload_n (q := 688) dd_La_law_687 rfl rfl ?_
  refine zx_iload_n (q := 689) dd_La_law_688 rfl rfl ?_
  refine zx_iconst (nI 2) (q := 690) dd_La_law_689 rfl (by decide) ?_
  refine zx_iadd (q := 691) dd_La_law_690 rfl ?_
  refine zl_sld (q := 692) dd_La_law_691 rfl (nI_add (7 * c) 2) (by omega) hL ?_
  refine zx_cV2i (q := 695) dd_La_law_692 rfl cv_La_law_100 ⟨rfl, rfl⟩ at_m rfl rfl (Nat.le_of_ble_eq_true rfl) ⟨by decide, by decide⟩ (ok_Md_message (fun r2 he2 => ⟨_, rfl, ?_⟩))
  refine zx_icmp_eq 733 (q := 698) dd_La_law_695 rfl (by decide) (fun _ => K _ _ _ (rr_keep hR)) (fun h => absurd (he1.symm.trans ((rr_message hR _ _).trans he2)) h)
set_option maxRecDepth 100000 in
set_option maxHeartbeats 4000000 in
theorem la_byteOf {E : zxE} {b0 b Ln c : Nat} {xs : Nat → Int32} {B : zB} {H : Nat → zG} {D : zMd} (hL : Ln ≤ 3584) (hc : 7 * c + 7 ≤ Ln) (hR : RR c B H D) (K : ∀ B H D, RR (c + 1) B H D → zx_X E mi_La_law (zl_Y E b0 Ln xs) 733 [some (.ref b0), some (.ref b), some (.ref (b + 71)), some (.int (nI (7 * c)))] [] (zs b (B, hF H, D)) (b + 103) 103 1700) : zx_X E mi_La_law (zl_Y E b0 Ln xs) 700 [some (.ref b0), some (.ref b), some (.ref (b + 71)), some (.int (nI (7 * c)))] [] (zs b (B, hF H, D)) (b + 103) 103 1700 := by
  obtain ⟨t, fr, lo, I, J⟩ := D
  refine zx_aload_n (q := 701) dd_La_law_700 rfl rfl ?_
  refine zx_aload_n (q := 702) dd_La_law_701 rfl rfl ?_
  refine zx_iload_n (q := 703) dd_La_law_702 rfl rfl ?_
  refine zx_iconst (nI 1) (q := 704) dd_La_law_703 rfl (by decide) ?_
  refine zx_iadd (q := 705) dd_La_law_704 rfl ?_
  refine zl_sld (q := 706) dd_La_law_705 rfl (nI_add (7 * c) 1) (by omega) hL ?_
  refine zx_aload_n (q := 707) dd_La_law_706 rfl rfl ?_
  refine zx_iload_n (q := 708) dd_La_law_707 rfl rfl ?_
  refine zx_iconst (nI 2) (q := 709) dd_La_law_708 rfl (by decide) ?_
  refine zx_iadd (q := 710) dd_La_law_709 rfl ?_
  refine zl_sld (q := 711) dd_La_law_710 rfl (nI_add (7 * c) 2) (by omega) hL ?_
  refine zx_cV2i (q := 714) dd_La_law_711 rfl cv_La_law_101 ⟨rfl, rfl⟩ at_ab rfl rfl (Nat.le_of_ble_eq_true rfl) ⟨by decide, by decide⟩ (ok_Ab_byteOf (fun r1 he1 => ⟨_, rfl, ?_⟩))
  refine zx_aload_n (q := 715) dd_La_law_714 rfl rfl ?_
  refine zx_aload_n (q := 716) dd_La_law_715 rfl rfl ?_
  refine zx_iload_n (q := 717) dd_La_law_716 rfl rfl ?_
  refine zx_iconst (nI 1) (q := 718) dd_La_law_717 rfl (by decide) ?_
  refine zx_iadd (q := 719) dd_La_law_718 rfl ?_
  refine zl_sld (q := 720) dd_La_law_719 rfl (nI_add (7 * c) 1) (by omega) hL ?_
  refine zx_aload_n (q := 721) dd_La_law_720 rfl rfl ?_
  refine zx_iload_n (q := 722) dd_La_law_721 rfl rfl ?_
  refine zx_iconst (nI 2) (q := 723) dd_La_law_722 rfl (by decide) ?_
  refine zx_iadd (q := 724) dd_La_law_723 rfl ?_
  refine zl_sld (q := 725) dd_La_law_724 rfl (nI_add (7 * c) 2) (by omega) hL ?_
  refine zx_cV2i (q := 728) dd_La_law_725 rfl cv_La_law_104 ⟨rfl, rfl⟩ at_m rfl rfl (Nat.le_of_ble_eq_true rfl) ⟨by decide, by decide⟩ (ok_Md_byteOf (rr_len hR) (fun r2 he2 => ⟨_, rfl, ?_⟩))
  refine zx_icmp_eq 733 (q := 731) dd_La_law_728 rfl (by decide) (fun _ => K _ _ _ (rr_keep hR)) (fun h => absurd (he1.symm.trans ((rr_byteOf hR _ _).trans he2)) h)

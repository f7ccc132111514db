def lp_L_law_364 (E398 : (Nat → Int32) → Prop) : Nat → Int32 → (Nat → Int32) → Prop
  | 0, _, _ => False
  | n + 1, v14, w =>
    vp_in (nI 30) 61 ∧
    (((w (nI 30).toNatClampNeg) - (nI 1)) ≤ v14 →
      E398 w) ∧
    (¬ ((w (nI 30).toNatClampNeg) - (nI 1)) ≤ v14 →
      vp_in ((nI 32) + v14) 61 ∧
      ∀ t_270 : Int32, t_270 = w ((nI 32) + v14).toNatClampNeg →
      vp_in ((nI 31) + v14) 61 ∧
      ∀ w_271 : Nat → Int32, w_271 = upd w ((nI 31) + v14).toNatClampNeg t_270 →
      ∀ v14_272 : Int32, v14_272 = v14 + (nI 1) →
      lp_L_law_364 E398 n v14_272 w_271)
def lp_L_law_254 (q13 : Int32) (E283 : (Nat → Int32) → Prop) : Nat → Int32 → (Nat → Int32) → Prop
  | 0, _, _ => False
  | n + 1, v15, w =>
    (v15 ≤ q13 →
      E283 w) ∧
    (¬ v15 ≤ q13 →
      vp_in ((nI 30) + v15) 61 ∧
      ∀ t_297 : Int32, t_297 = w ((nI 30) + v15).toNatClampNeg →
      vp_in ((nI 31) + v15) 61 ∧
      ∀ w_298 : Nat → Int32, w_298 = upd w ((nI 31) + v15).toNatClampNeg t_297 →
      ∀ v15_299 : Int32, v15_299 = v15 + (-1) →
      lp_L_law_254 q13 E283 n v15_299 w_298)
def lp_L_law_156 (x_now_length : Int32) (x_now_line : Nat → Int32) (E186 : (Nat → Int32) → Prop) : Nat → Int32 → (Nat → Int32) → Prop
  | 0, _, _ => False
  | n + 1, v9, w =>
    vp_in (nI 30) 61 ∧
    ((w (nI 30).toNatClampNeg) ≤ v9 →
      E186 w) ∧
    (¬ (w (nI 30).toNatClampNeg) ≤ v9 →
      wp_X9_letter x_now_length x_now_line v9 (fun r_305 =>
      vp_in ((nI 31) + v9) 61 ∧
      ∀ w_306 : Nat → Int32, w_306 = upd w ((nI 31) + v9).toNatClampNeg r_305 →
      ∀ v9_307 : Int32, v9_307 = v9 + (nI 1) →
      lp_L_law_156 x_now_length x_now_line E186 n v9_307 w_306))
def lp_L_law_114 (x_rules_number : Int32) (x_rules_places : Nat → Int32) (x_rules_firsts : Nat → Int32) (x_rules_wholes : Nat → Int32) (x_now_kinds : Nat → Int32) (y : Nat → Int32) (E143 : (Nat → Int32) → Prop) : Nat → Int32 → (Nat → Int32) → Prop
  | 0, _, _ => False
  | n + 1, v9, w =>
    vp_in (nI 0) 38 ∧
    ((y (nI 0).toNatClampNeg) ≤ v9 →
      E143 w) ∧
    (¬ (y (nI 0).toNatClampNeg) ≤ v9 →
      wp_X9_rule x_rules_number x_rules_places x_rules_firsts x_rules_wholes x_now_kinds v9 (nI 0) (fun r_313 =>
      vp_in ((nI 26) + v9) 61 ∧
      ∀ w_314 : Nat → Int32, w_314 = upd w ((nI 26) + v9).toNatClampNeg r_313 →
      ∀ v9_315 : Int32, v9_315 = v9 + (nI 1) →
      lp_L_law_114 x_rules_number x_rules_places x_rules_firsts x_rules_wholes x_now_kinds y E143 n v9_315 w_314))
def lp_L_law_87 (x_now_classes : Nat → Int32) (E111 : (Nat → Int32) → Prop) : Nat → Int32 → (Nat → Int32) → Prop
  | 0, _, _ => False
  | n + 1, v9, w =>
    ((nI 26) ≤ v9 →
      E111 w) ∧
    (¬ (nI 26) ≤ v9 →
      wp_X9_kind x_now_classes v9 (fun r_321 =>
      vp_in v9 61 ∧
      ∀ w_322 : Nat → Int32, w_322 = upd w v9.toNatClampNeg r_321 →
      ∀ v9_323 : Int32, v9_323 = v9 + (nI 1) →
      lp_L_law_87 x_now_classes E111 n v9_323 w_322))
def lp_L_law_57 (L : Nat) (xs : Nat → Int32) (x_keptNumber : Int32) (x_text_length : Int32) (x_rules_number : Int32) (x_rules_placeNumber : Int32) (x_rules_places : Nat → Int32) (x_rules_firsts : Nat → Int32) (x_rules_wholes : Nat → Int32) (x_rules_taken : Nat → Int32) (x_rules_behinds : Nat → Int32) (y : Nat → Int32) (E635 : Int32 → (Nat → Int32) → (Nat → Int32) → (Nat → Int32) → Int32 → (Nat → Int32) → (Nat → Int32) → (Nat → Int32) → Int32 → Int32 → (Nat → Int32) → (Nat → Int32) → Int32 → Int32 → (Nat → Int32) → Int32 → (Nat → Int32) → (Nat → Int32) → Prop) (E675 : Int32 → (Nat → Int32) → (Nat → Int32) → (Nat → Int32) → Int32 → (Nat → Int32) → (Nat → Int32) → (Nat → Int32) → Int32 → Int32 → (Nat → Int32) → (Nat → Int32) → Int32 → Int32 → (Nat → Int32) → Int32 → (Nat → Int32) → (Nat → Int32) → Prop) (E683 : Int32 → (Nat → Int32) → (Nat → Int32) → (Nat → Int32) → Int32 → (Nat → Int32) → (Nat → Int32) → (Nat → Int32) → Int32 → Int32 → (Nat → Int32) → (Nat → Int32) → Int32 → Int32 → (Nat → Int32) → Int32 → (Nat → Int32) → (Nat → Int32) → Prop) : Nat → Int32 → Int32 → (Nat → Int32) → (Nat → Int32) → (Nat → Int32) → Int32 → (Nat → Int32) → (Nat → Int32) → (Nat → Int32) → Int32 → Int32 → (Nat → Int32) → (Nat → Int32) → Int32 → Int32 → (Nat → Int32) → Int32 → (Nat → Int32) → (Nat → Int32) → Prop
  | 0, _, _, _, _, _, _, _, _, _, _, _, _, _, _, _, _, _, _, _ => False
  | n + 1, v6, x_now_length, x_now_classes, x_now_kinds, x_now_line, x_acts_number, x_acts_acts, x_acts_wheres, x_acts_befores, x_steps_firsts, x_steps_loose, x_steps_onward, x_steps_takers, x_pieces_length, x_pieces_bounds, x_pieces_stands, x_ways_areFound, w, u =>
    ((nI 36) ≤ v6 →
      E683 x_now_length x_now_classes x_now_kinds x_now_line x_acts_number x_acts_acts x_acts_wheres x_acts_befores x_steps_firsts x_steps_loose x_steps_onward x_steps_takers x_pieces_length x_pieces_bounds x_pieces_stands x_ways_areFound w u) ∧
    (¬ (nI 36) ≤ v6 →
      wp_L_cell L xs ((nI 14) + v6) (fun r_158 =>
      wp_L_low r_158 (nI 8) (fun r_159 =>
      ∀ E111_161 : (Nat → Int32) → Prop,
      (∀ (w_160 : Nat → Int32), 
        (∀ E143_163 : (Nat → Int32) → Prop,
        (∀ (w_162 : Nat → Int32), 
          (wp_X9_count x_keptNumber x_text_length x_rules_number x_rules_placeNumber x_now_length x_acts_number x_pieces_bounds (nI 2) (fun r_164 =>
          vp_in (nI 30) 61 ∧
          ∀ w_165 : Nat → Int32, w_165 = upd w_162 (nI 30).toNatClampNeg r_164 →
          ∀ E186_167 : (Nat → Int32) → Prop,
          (∀ (w_166 : Nat → Int32), 
            (wp_X9_count x_keptNumber x_text_length x_rules_number x_rules_placeNumber x_now_length x_acts_number x_pieces_bounds (nI 4) (fun r_168 =>
            wp_L_into 61 61 w_166 u (fun u_169 =>
            ∀ J585_190 : Int32 → Int32 → Int32 → Int32 → (Nat → Int32) → (Nat → Int32) → (Nat → Int32) → Int32 → (Nat → Int32) → (Nat → Int32) → (Nat → Int32) → Int32 → Int32 → (Nat → Int32) → (Nat → Int32) → Int32 → Int32 → (Nat → Int32) → Int32 → (Nat → Int32) → Prop,
            (∀ (v10_170 : Int32) (v11_171 : Int32) (v12_172 : Int32) (x_now_length_173 : Int32) (x_now_classes_174 : Nat → Int32) (x_now_kinds_175 : Nat → Int32) (x_now_line_176 : Nat → Int32) (x_acts_number_177 : Int32) (x_acts_acts_178 : Nat → Int32) (x_acts_wheres_179 : Nat → Int32) (x_acts_befores_180 : Nat → Int32) (x_steps_firsts_181 : Int32) (x_steps_loose_182 : Int32) (x_steps_onward_183 : Nat → Int32) (x_steps_takers_184 : Nat → Int32) (x_pieces_length_185 : Int32) (x_pieces_bounds_186 : Int32) (x_pieces_stands_187 : Nat → Int32) (x_ways_areFound_188 : Int32) (w_189 : Nat → Int32), 
              (∀ J606_192 : Int32 → Prop,
              (∀ (s0_191 : Int32), 
                ((¬ v12_172 = v11_171 →
                  E635 x_now_length_173 x_now_classes_174 x_now_kinds_175 x_now_line_176 x_acts_number_177 x_acts_acts_178 x_acts_wheres_179 x_acts_befores_180 x_steps_firsts_181 x_steps_loose_182 x_steps_onward_183 x_steps_takers_184 x_pieces_length_185 x_pieces_bounds_186 x_pieces_stands_187 x_ways_areFound_188 w_189 u_169) ∧
                (v12_172 = v11_171 →
                  wp_L_same 38 61 x_keptNumber x_text_length x_rules_number x_rules_placeNumber x_rules_places x_rules_firsts x_rules_wholes x_now_length_173 x_now_classes_174 x_now_kinds_175 x_now_line_176 x_acts_number_177 x_pieces_length_185 x_pieces_bounds_186 x_pieces_stands_187 y w_189 (fun r_193 =>
                  (r_193 = 0 →
                    E635 x_now_length_173 x_now_classes_174 x_now_kinds_175 x_now_line_176 x_acts_number_177 x_acts_acts_178 x_acts_wheres_179 x_acts_befores_180 x_steps_firsts_181 x_steps_loose_182 x_steps_onward_183 x_steps_takers_184 x_pieces_length_185 x_pieces_bounds_186 x_pieces_stands_187 x_ways_areFound_188 w_189 u_169) ∧
                  (¬ r_193 = 0 →
                    wp_X9_count x_keptNumber x_text_length x_rules_number x_rules_placeNumber x_now_length_173 x_acts_number_177 x_pieces_bounds_186 (nI 4) (fun r_194 =>
                    (r_194 = s0_191 →
                      wp_L_low (r_158 >>> ((nI 14) &&& 31)) (nI 5) (fun r_195 =>
                      (¬ r_195 = 0 →
                        ∀ v6_196 : Int32, v6_196 = v6 + (nI 1) →
                        lp_L_law_57 L xs x_keptNumber x_text_length x_rules_number x_rules_placeNumber x_rules_places x_rules_firsts x_rules_wholes x_rules_taken x_rules_behinds y E635 E675 E683 n v6_196 x_now_length_173 x_now_classes_174 x_now_kinds_175 x_now_line_176 x_acts_number_177 x_acts_acts_178 x_acts_wheres_179 x_acts_befores_180 x_steps_firsts_181 x_steps_loose_182 x_steps_onward_183 x_steps_takers_184 x_pieces_length_185 x_pieces_bounds_186 x_pieces_stands_187 x_ways_areFound_188 w_189 u_169) ∧
                      (r_195 = 0 →
                        (v10_170 = 0 →
                          ∀ v6_197 : Int32, v6_197 = v6 + (nI 1) →
                          lp_L_law_57 L xs x_keptNumber x_text_length x_rules_number x_rules_placeNumber x_rules_places x_rules_firsts x_rules_wholes x_rules_taken x_rules_behinds y E635 E675 E683 n v6_197 x_now_length_173 x_now_classes_174 x_now_kinds_175 x_now_line_176 x_acts_number_177 x_acts_acts_178 x_acts_wheres_179 x_acts_befores_180 x_steps_firsts_181 x_steps_loose_182 x_steps_onward_183 x_steps_takers_184 x_pieces_length_185 x_pieces_bounds_186 x_pieces_stands_187 x_ways_areFound_188 w_189 u_169) ∧
                        (¬ v10_170 = 0 →
                          wp_X9_undo x_rules_number x_rules_placeNumber x_rules_places x_rules_firsts x_rules_wholes x_rules_taken x_rules_behinds x_now_length_173 x_now_classes_174 x_now_kinds_175 x_now_line_176 x_acts_number_177 x_acts_acts_178 x_acts_wheres_179 x_acts_befores_180 x_steps_firsts_181 x_steps_loose_182 x_steps_onward_183 x_steps_takers_184 x_pieces_length_185 x_pieces_bounds_186 x_pieces_stands_187 x_ways_areFound_188 (fun r_211 x_now_length_198 x_now_classes_199 x_now_kinds_200 x_now_line_201 x_acts_number_202 x_steps_firsts_203 x_steps_loose_204 x_steps_onward_205 x_steps_takers_206 x_pieces_length_207 x_pieces_bounds_208 x_pieces_stands_209 x_ways_areFound_210 =>
                          (¬ r_211 = (s0_191 - (nI 1)) →
                            E675 x_now_length_198 x_now_classes_199 x_now_kinds_200 x_now_line_201 x_acts_number_202 x_acts_acts_178 x_acts_wheres_179 x_acts_befores_180 x_steps_firsts_203 x_steps_loose_204 x_steps_onward_205 x_steps_takers_206 x_pieces_length_207 x_pieces_bounds_208 x_pieces_stands_209 x_ways_areFound_210 w_189 u_169) ∧
                          (r_211 = (s0_191 - (nI 1)) →
                            wp_L_same 38 61 x_keptNumber x_text_length x_rules_number x_rules_placeNumber x_rules_places x_rules_firsts x_rules_wholes x_now_length_198 x_now_classes_199 x_now_kinds_200 x_now_line_201 x_acts_number_202 x_pieces_length_207 x_pieces_bounds_208 x_pieces_stands_209 y u_169 (fun r_212 =>
                            (¬ r_212 = 0 →
                              ∀ v6_213 : Int32, v6_213 = v6 + (nI 1) →
                              lp_L_law_57 L xs x_keptNumber x_text_length x_rules_number x_rules_placeNumber x_rules_places x_rules_firsts x_rules_wholes x_rules_taken x_rules_behinds y E635 E675 E683 n v6_213 x_now_length_198 x_now_classes_199 x_now_kinds_200 x_now_line_201 x_acts_number_202 x_acts_acts_178 x_acts_wheres_179 x_acts_befores_180 x_steps_firsts_203 x_steps_loose_204 x_steps_onward_205 x_steps_takers_206 x_pieces_length_207 x_pieces_bounds_208 x_pieces_stands_209 x_ways_areFound_210 w_189 u_169) ∧
                            (r_212 = 0 →
                              E675 x_now_length_198 x_now_classes_199 x_now_kinds_200 x_now_line_201 x_acts_number_202 x_acts_acts_178 x_acts_wheres_179 x_acts_befores_180 x_steps_firsts_203 x_steps_loose_204 x_steps_onward_205 x_steps_takers_206 x_pieces_length_207 x_pieces_bounds_208 x_pieces_stands_209 x_ways_areFound_210 w_189 u_169)))))))) ∧
                    (¬ r_194 = s0_191 →
                      E635 x_now_length_173 x_now_classes_174 x_now_kinds_175 x_now_line_176 x_acts_number_177 x_acts_acts_178 x_acts_wheres_179 x_acts_befores_180 x_steps_firsts_181 x_steps_loose_182 x_steps_onward_183 x_steps_takers_184 x_pieces_length_185 x_pieces_bounds_186 x_pieces_stands_187 x_ways_areFound_188 w_189 u_169)))))) →
               J606_192 s0_191) →
              ∀ J604_214 : Prop,
                (
                  (J606_192 r_168) →
                 J604_214) →
                (v10_170 = 0 →
                    J604_214) ∧
                  (¬ v10_170 = 0 →
                    ((nI 8) ≤ r_168 →
                      J604_214) ∧
                    (¬ (nI 8) ≤ r_168 →
                      J606_192 (r_168 + (nI 1))))) →
             J585_190 v10_170 v11_171 v12_172 x_now_length_173 x_now_classes_174 x_now_kinds_175 x_now_line_176 x_acts_number_177 x_acts_acts_178 x_acts_wheres_179 x_acts_befores_180 x_steps_firsts_181 x_steps_loose_182 x_steps_onward_183 x_steps_takers_184 x_pieces_length_185 x_pieces_bounds_186 x_pieces_stands_187 x_ways_areFound_188 w_189) →
            ∀ J322_215 : Prop,
              (
                (∀ J418_216 : Prop,
                (
                  (((nI 7) ≤ r_159 →
                    vp_in (nI 0) 38 ∧
                    wp_L_low (r_158 >>> ((nI 3) &&& 31)) (y (nI 0).toNatClampNeg) (fun r_217 =>
                    wp_L_low (r_158 >>> ((nI 9) &&& 31)) (nI 4) (fun r_218 =>
                    vp_in ((nI 26) + r_217) 61 ∧
                    ∀ J543_220 : Int32 → Prop,
                    (∀ (s0_219 : Int32), 
                      (∀ J563_222 : Int32 → Prop,
                      (∀ (s0_221 : Int32), 
                        (vp_in ((nI 26) + r_217) 61 ∧
                        ∀ w_223 : Nat → Int32, w_223 = upd w_166 ((nI 26) + r_217).toNatClampNeg r_218 →
                        wp_X9_rename x_rules_number x_rules_placeNumber x_rules_places x_rules_firsts x_rules_wholes x_rules_taken x_rules_behinds x_now_length x_now_classes x_now_kinds x_now_line x_acts_number x_acts_acts x_acts_wheres x_acts_befores x_steps_firsts x_steps_loose x_steps_onward x_steps_takers x_pieces_length x_pieces_bounds x_pieces_stands x_ways_areFound r_217 r_218 (fun r_237 x_now_kinds_224 x_acts_number_225 x_acts_acts_226 x_acts_wheres_227 x_acts_befores_228 x_steps_firsts_229 x_steps_loose_230 x_steps_onward_231 x_steps_takers_232 x_pieces_length_233 x_pieces_bounds_234 x_pieces_stands_235 x_ways_areFound_236 =>
                        J585_190 s0_219 s0_221 r_237 x_now_length x_now_classes x_now_kinds_224 x_now_line x_acts_number_225 x_acts_acts_226 x_acts_wheres_227 x_acts_befores_228 x_steps_firsts_229 x_steps_loose_230 x_steps_onward_231 x_steps_takers_232 x_pieces_length_233 x_pieces_bounds_234 x_pieces_stands_235 x_ways_areFound_236 w_223)) →
                       J563_222 s0_221) →
                      (s0_219 = 0 →
                          J563_222 (-2)) ∧
                        (¬ s0_219 = 0 →
                          vp_in ((nI 26) + r_217) 61 ∧
                          J563_222 (w_166 ((nI 26) + r_217).toNatClampNeg))) →
                     J543_220 s0_219) →
                    ((w_166 ((nI 26) + r_217).toNatClampNeg) = r_218 →
                        J543_220 (nI 0)) ∧
                      (¬ (w_166 ((nI 26) + r_217).toNatClampNeg) = r_218 →
                        J543_220 (nI 1))))) ∧
                  (¬ (nI 7) ≤ r_159 →
                    wp_L_low (r_158 >>> ((nI 3) &&& 31)) (nI 26) (fun r_238 =>
                    wp_L_low (r_158 >>> ((nI 9) &&& 31)) (nI 6) (fun r_239 =>
                    vp_in r_238 61 ∧
                    ∀ J463_241 : Int32 → Prop,
                    (∀ (s0_240 : Int32), 
                      (∀ J480_243 : Int32 → Prop,
                      (∀ (s0_242 : Int32), 
                        (vp_in r_238 61 ∧
                        ∀ w_244 : Nat → Int32, w_244 = upd w_166 r_238.toNatClampNeg r_239 →
                        wp_X9_tell x_now_length x_now_classes x_now_line x_acts_number x_acts_acts x_acts_wheres x_acts_befores x_steps_firsts x_steps_loose x_steps_onward x_steps_takers x_pieces_length x_pieces_bounds x_pieces_stands r_238 r_239 (fun r_253 x_now_classes_245 x_acts_number_246 x_acts_acts_247 x_acts_wheres_248 x_acts_befores_249 x_pieces_length_250 x_pieces_bounds_251 x_pieces_stands_252 =>
                        J585_190 s0_240 s0_242 r_253 x_now_length x_now_classes_245 x_now_kinds x_now_line x_acts_number_246 x_acts_acts_247 x_acts_wheres_248 x_acts_befores_249 x_steps_firsts x_steps_loose x_steps_onward x_steps_takers x_pieces_length_250 x_pieces_bounds_251 x_pieces_stands_252 x_ways_areFound w_244)) →
                       J480_243 s0_242) →
                      (s0_240 = 0 →
                          J480_243 (-2)) ∧
                        (¬ s0_240 = 0 →
                          vp_in r_238 61 ∧
                          J480_243 (w_166 r_238.toNatClampNeg))) →
                     J463_241 s0_240) →
                    ((w_166 r_238.toNatClampNeg) = r_239 →
                        J463_241 (nI 0)) ∧
                      (¬ (w_166 r_238.toNatClampNeg) = r_239 →
                        J463_241 (nI 1)))))) →
                 J418_216) →
                (¬ r_159 = (nI 4) →
                    J418_216) ∧
                  (r_159 = (nI 4) →
                    vp_in (nI 30) 61 ∧
                    ((w_166 (nI 30).toNatClampNeg) ≤ 0 →
                      J418_216) ∧
                    (¬ (w_166 (nI 30).toNatClampNeg) ≤ 0 →
                      vp_in (nI 30) 61 ∧
                      wp_L_low (r_158 >>> ((nI 3) &&& 31)) (w_166 (nI 30).toNatClampNeg) (fun r_254 =>
                      vp_in ((nI 31) + r_254) 61 ∧
                      ∀ v11_255 : Int32, v11_255 = w_166 ((nI 31) + r_254).toNatClampNeg →
                      ∀ E398_257 : (Nat → Int32) → Prop,
                      (∀ (w_256 : Nat → Int32), 
                        (vp_in (nI 30) 61 ∧
                        ∀ t_258 : Int32, t_258 = (w_256 (nI 30).toNatClampNeg) - (nI 1) →
                        vp_in (nI 30) 61 ∧
                        ∀ w_259 : Nat → Int32, w_259 = upd w_256 (nI 30).toNatClampNeg t_258 →
                        wp_X9_erase x_now_length x_now_classes x_now_line x_acts_number x_acts_acts x_acts_wheres x_acts_befores x_steps_firsts x_steps_loose x_steps_onward x_steps_takers x_pieces_length x_pieces_bounds x_pieces_stands r_254 (fun r_269 x_now_length_260 x_now_line_261 x_acts_number_262 x_acts_acts_263 x_acts_wheres_264 x_acts_befores_265 x_pieces_length_266 x_pieces_bounds_267 x_pieces_stands_268 =>
                        J585_190 (nI 1) v11_255 r_269 x_now_length_260 x_now_classes x_now_kinds x_now_line_261 x_acts_number_262 x_acts_acts_263 x_acts_wheres_264 x_acts_befores_265 x_steps_firsts x_steps_loose x_steps_onward x_steps_takers x_pieces_length_266 x_pieces_bounds_267 x_pieces_stands_268 x_ways_areFound w_259)) →
                       E398_257 w_256) →
                      ∃ n : Nat, lp_L_law_364 E398_257 n r_254 w_166)))) →
               J322_215) →
              ((nI 4) ≤ r_159 →
                  J322_215) ∧
                (¬ (nI 4) ≤ r_159 →
                  vp_in (nI 30) 61 ∧
                  ((nI 30) ≤ (w_166 (nI 30).toNatClampNeg) →
                    J322_215) ∧
                  (¬ (nI 30) ≤ (w_166 (nI 30).toNatClampNeg) →
                    vp_in (nI 30) 61 ∧
                    wp_L_low (r_158 >>> ((nI 3) &&& 31)) ((w_166 (nI 30).toNatClampNeg) + (nI 1)) (fun r_278 =>
                    wp_L_low (r_158 >>> ((nI 9) &&& 31)) (nI 26) (fun r_279 =>
                    vp_in (nI 30) 61 ∧
                    ∀ v15_280 : Int32, v15_280 = w_166 (nI 30).toNatClampNeg →
                    ∀ E283_282 : (Nat → Int32) → Prop,
                    (∀ (w_281 : Nat → Int32), 
                      (vp_in ((nI 31) + r_278) 61 ∧
                      ∀ w_283 : Nat → Int32, w_283 = upd w_281 ((nI 31) + r_278).toNatClampNeg r_279 →
                      vp_in (nI 30) 61 ∧
                      ∀ t_284 : Int32, t_284 = (w_283 (nI 30).toNatClampNeg) + (nI 1) →
                      vp_in (nI 30) 61 ∧
                      ∀ w_285 : Nat → Int32, w_285 = upd w_283 (nI 30).toNatClampNeg t_284 →
                      vp_in (nI 30) 61 ∧
                      ∀ v11_286 : Int32, v11_286 = w_285 (nI 30).toNatClampNeg →
                      wp_X9_insert x_now_length x_now_classes x_now_line x_acts_number x_acts_acts x_acts_wheres x_acts_befores x_steps_firsts x_steps_loose x_steps_onward x_steps_takers x_pieces_length x_pieces_bounds x_pieces_stands r_278 r_279 (fun r_296 x_now_length_287 x_now_line_288 x_acts_number_289 x_acts_acts_290 x_acts_wheres_291 x_acts_befores_292 x_pieces_length_293 x_pieces_bounds_294 x_pieces_stands_295 =>
                      J585_190 (nI 1) v11_286 r_296 x_now_length_287 x_now_classes x_now_kinds x_now_line_288 x_acts_number_289 x_acts_acts_290 x_acts_wheres_291 x_acts_befores_292 x_steps_firsts x_steps_loose x_steps_onward x_steps_takers x_pieces_length_293 x_pieces_bounds_294 x_pieces_stands_295 x_ways_areFound w_285)) →
                     E283_282 w_281) →
                    ∃ n : Nat, lp_L_law_254 r_278 E283_282 n v15_280 w_166))))))) →
           E186_167 w_166) →
          ∃ n : Nat, lp_L_law_156 x_now_length x_now_line E186_167 n (nI 0) w_165)) →
         E143_163 w_162) →
        ∃ n : Nat, lp_L_law_114 x_rules_number x_rules_places x_rules_firsts x_rules_wholes x_now_kinds y E143_163 n (nI 0) w_160) →
       E111_161 w_160) →
      ∃ n : Nat, lp_L_law_87 x_now_classes E111_161 n (nI 0) w)))
def wp_L_law (L : Nat) (xs : Nat → Int32) : Prop :=
    wp_X9_init (fun x_keptNumber_3 x_text_length_4 x_text_rulesSeen_5 x_text_placesSeen_6 x_text_signs_7 x_rules_number_8 x_rules_placeNumber_9 x_rules_places_10 x_rules_firsts_11 x_rules_wholes_12 x_rules_taken_13 x_rules_behinds_14 x_rules_parts_height_15 x_rules_parts_firsts_16 x_rules_parts_lasts_17 x_rules_parts_lacking_18 x_now_length_19 x_now_classes_20 x_now_kinds_21 x_now_line_22 x_lowerKept_length_23 x_lowerKept_classes_24 x_lowerKept_kinds_25 x_lowerKept_line_26 x_upperKept_length_27 x_upperKept_classes_28 x_upperKept_kinds_29 x_upperKept_line_30 x_acts_number_31 x_acts_acts_32 x_acts_wheres_33 x_acts_befores_34 x_steps_firsts_35 x_steps_loose_36 x_steps_onward_37 x_steps_takers_38 x_pieces_length_39 x_pieces_bounds_40 x_pieces_stands_41 x_ways_number_42 x_ways_unlikeNumber_43 x_ways_knownNumber_44 x_ways_areFound_45 x_ways_stands_46 x_ways_fewest_47 x_ways_numberOf_48 x_ways_nexts_49 x_ways_begun_50 x_ways_known_51 x_ways_groups_groups_52 x_ways_groups_finer_53 x_ways_groups_buckets_54 x_ways_groups_chains_55 x_triedStock_length_56 x_triedStock_classes_57 x_triedStock_kinds_58 x_triedStock_line_59 x_triedPieces_length_60 x_triedPieces_bounds_61 x_triedPieces_stands_62 =>
    wp_L_draws L xs 38 64 61 ((fun _ => 0)) ((fun _ => 0)) ((fun _ => 0)) (fun y_66 z_67 w_68 =>
    wp_L_lays 38 64 61 x_keptNumber_3 x_text_length_4 x_text_rulesSeen_5 x_text_placesSeen_6 x_text_signs_7 x_rules_number_8 x_rules_placeNumber_9 x_rules_places_10 x_rules_firsts_11 x_rules_wholes_12 x_rules_taken_13 x_rules_behinds_14 x_rules_parts_height_15 x_rules_parts_firsts_16 x_rules_parts_lasts_17 x_rules_parts_lacking_18 x_now_length_19 x_now_classes_20 x_now_kinds_21 x_now_line_22 x_acts_number_31 x_steps_firsts_35 x_steps_loose_36 x_steps_onward_37 x_steps_takers_38 x_pieces_length_39 x_pieces_bounds_40 x_pieces_stands_41 x_ways_areFound_45 y_66 z_67 w_68 (fun r_98 x_keptNumber_69 x_text_length_70 x_text_rulesSeen_71 x_text_placesSeen_72 x_text_signs_73 x_rules_number_74 x_rules_placeNumber_75 x_rules_places_76 x_rules_firsts_77 x_rules_wholes_78 x_rules_taken_79 x_rules_behinds_80 x_rules_parts_height_81 x_rules_parts_firsts_82 x_rules_parts_lasts_83 x_rules_parts_lacking_84 x_now_length_85 x_now_classes_86 x_now_kinds_87 x_now_line_88 x_acts_number_89 x_steps_firsts_90 x_steps_loose_91 x_steps_onward_92 x_steps_takers_93 x_pieces_length_94 x_pieces_bounds_95 x_pieces_stands_96 x_ways_areFound_97 =>
    vp_in (nI 0) 38 ∧
    (r_98 = (y_66 (nI 0).toNatClampNeg) →
      ∀ E635_118 : Int32 → (Nat → Int32) → (Nat → Int32) → (Nat → Int32) → Int32 → (Nat → Int32) → (Nat → Int32) → (Nat → Int32) → Int32 → Int32 → (Nat → Int32) → (Nat → Int32) → Int32 → Int32 → (Nat → Int32) → Int32 → (Nat → Int32) → (Nat → Int32) → Prop,
      (∀ (x_now_length_100 : Int32) (x_now_classes_101 : Nat → Int32) (x_now_kinds_102 : Nat → Int32) (x_now_line_103 : Nat → Int32) (x_acts_number_104 : Int32) (x_acts_acts_105 : Nat → Int32) (x_acts_wheres_106 : Nat → Int32) (x_acts_befores_107 : Nat → Int32) (x_steps_firsts_108 : Int32) (x_steps_loose_109 : Int32) (x_steps_onward_110 : Nat → Int32) (x_steps_takers_111 : Nat → Int32) (x_pieces_length_112 : Int32) (x_pieces_bounds_113 : Int32) (x_pieces_stands_114 : Nat → Int32) (x_ways_areFound_115 : Int32) (w_116 : Nat → Int32) (u_117 : Nat → Int32), 
        ((nI 0) = nI 1) →
       E635_118 x_now_length_100 x_now_classes_101 x_now_kinds_102 x_now_line_103 x_acts_number_104 x_acts_acts_105 x_acts_wheres_106 x_acts_befores_107 x_steps_firsts_108 x_steps_loose_109 x_steps_onward_110 x_steps_takers_111 x_pieces_length_112 x_pieces_bounds_113 x_pieces_stands_114 x_ways_areFound_115 w_116 u_117) →
      ∀ E675_137 : Int32 → (Nat → Int32) → (Nat → Int32) → (Nat → Int32) → Int32 → (Nat → Int32) → (Nat → Int32) → (Nat → Int32) → Int32 → Int32 → (Nat → Int32) → (Nat → Int32) → Int32 → Int32 → (Nat → Int32) → Int32 → (Nat → Int32) → (Nat → Int32) → Prop,
        (∀ (x_now_length_119 : Int32) (x_now_classes_120 : Nat → Int32) (x_now_kinds_121 : Nat → Int32) (x_now_line_122 : Nat → Int32) (x_acts_number_123 : Int32) (x_acts_acts_124 : Nat → Int32) (x_acts_wheres_125 : Nat → Int32) (x_acts_befores_126 : Nat → Int32) (x_steps_firsts_127 : Int32) (x_steps_loose_128 : Int32) (x_steps_onward_129 : Nat → Int32) (x_steps_takers_130 : Nat → Int32) (x_pieces_length_131 : Int32) (x_pieces_bounds_132 : Int32) (x_pieces_stands_133 : Nat → Int32) (x_ways_areFound_134 : Int32) (w_135 : Nat → Int32) (u_136 : Nat → Int32), 
          ((nI 0) = nI 1) →
         E675_137 x_now_length_119 x_now_classes_120 x_now_kinds_121 x_now_line_122 x_acts_number_123 x_acts_acts_124 x_acts_wheres_125 x_acts_befores_126 x_steps_firsts_127 x_steps_loose_128 x_steps_onward_129 x_steps_takers_130 x_pieces_length_131 x_pieces_bounds_132 x_pieces_stands_133 x_ways_areFound_134 w_135 u_136) →
        ∀ E683_156 : Int32 → (Nat → Int32) → (Nat → Int32) → (Nat → Int32) → Int32 → (Nat → Int32) → (Nat → Int32) → (Nat → Int32) → Int32 → Int32 → (Nat → Int32) → (Nat → Int32) → Int32 → Int32 → (Nat → Int32) → Int32 → (Nat → Int32) → (Nat → Int32) → Prop,
          (∀ (x_now_length_138 : Int32) (x_now_classes_139 : Nat → Int32) (x_now_kinds_140 : Nat → Int32) (x_now_line_141 : Nat → Int32) (x_acts_number_142 : Int32) (x_acts_acts_143 : Nat → Int32) (x_acts_wheres_144 : Nat → Int32) (x_acts_befores_145 : Nat → Int32) (x_steps_firsts_146 : Int32) (x_steps_loose_147 : Int32) (x_steps_onward_148 : Nat → Int32) (x_steps_takers_149 : Nat → Int32) (x_pieces_length_150 : Int32) (x_pieces_bounds_151 : Int32) (x_pieces_stands_152 : Nat → Int32) (x_ways_areFound_153 : Int32) (w_154 : Nat → Int32) (u_155 : Nat → Int32), 
            (wp_X9_count x_keptNumber_69 x_text_length_70 x_rules_number_74 x_rules_placeNumber_75 x_now_length_138 x_acts_number_142 x_pieces_bounds_151 (nI 5) (fun r_157 =>
            (¬ r_157 = 0 →
              (nI 0) = nI 1) ∧
            (r_157 = 0 →
              (nI 1) = nI 1))) →
           E683_156 x_now_length_138 x_now_classes_139 x_now_kinds_140 x_now_line_141 x_acts_number_142 x_acts_acts_143 x_acts_wheres_144 x_acts_befores_145 x_steps_firsts_146 x_steps_loose_147 x_steps_onward_148 x_steps_takers_149 x_pieces_length_150 x_pieces_bounds_151 x_pieces_stands_152 x_ways_areFound_153 w_154 u_155) →
          ∃ n : Nat, n ≤ 37 ∧ lp_L_law_57 L xs x_keptNumber_69 x_text_length_70 x_rules_number_74 x_rules_placeNumber_75 x_rules_places_76 x_rules_firsts_77 x_rules_wholes_78 x_rules_taken_79 x_rules_behinds_80 y_66 E635_118 E675_137 E683_156 n (nI 0) x_now_length_85 x_now_classes_86 x_now_kinds_87 x_now_line_88 x_acts_number_89 x_acts_acts_32 x_acts_wheres_33 x_acts_befores_34 x_steps_firsts_90 x_steps_loose_91 x_steps_onward_92 x_steps_takers_93 x_pieces_length_94 x_pieces_bounds_95 x_pieces_stands_96 x_ways_areFound_97 w_68 ((fun _ => 0))) ∧
    (¬ r_98 = (y_66 (nI 0).toNatClampNeg) →
      (nI 0) = nI 1))))

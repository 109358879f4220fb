/-! which words are names -/
def kyH : List Int64 := [6451064, 2002874989, 1684106608, 1918986606, 2003398244, 2053468783, 29807, 495740481637, 7102823, 1953067621, 7300710, 470021465444, 440005915496, 28526]
def kyR : List Int64 := [108243635103086, 29395908993245561, 1835099237, 26982, 7561593, 7824756, 6582905, 1818325876, 6578553, 6385252, 28530, 7237492]
abbrev isNm (μ : Mem) : Prop := μ.1 0 6 = 1 ∧ ¬ μ.2.1 0 9 ∈ kyH ∧ ¬ μ.2.1 0 9 ∈ kyR
set_option maxHeartbeats 4000000 in
set_option maxRecDepth 100000 in
theorem L_X12_isName_169 {l : Launch} {G : Wd} {μ : Mem} {z : Int32} {x1 : Option Value} (h6 : μ.1 0 6 = 1) (hz : (z = 1 ∧ μ.2.1 0 9 ∈ kyH) ∨ (z = 0 ∧ ¬ μ.2.1 0 9 ∈ kyH)) : AW l G KM RX12 cX12_isName 2 1 (some .boolean) (Qi (fun v μ' => v = bz (isNm μ) ∧ μ' = μ)) 169 [some (.ref (gA G 0)), x1] [.int z] μ := by
  refine A_istore1 dX12_isName_169 rfl (by decide) ?_
  refine A_iload1 dX12_isName_170 ?_
  refine A_if_ne (tgt := 310) dX12_isName_171 (by decide) (fun c_171 => ?_) (fun c_171 => ?_)
  · refine A_iconst (v := 0) dX12_isName_310 (by decide) ?_
    refine A_zret dX12_isName_311 (by decide) ?_
    refine ⟨_, rfl, ?_, rfl⟩
    exact (bz_f (fun z => by rcases hz with q | q; exact z.2.1 q.2; exact c_171 q.1)).symm
  · refine A_aload0 dX12_isName_174 ?_
    refine A_getL gf_X12_190 rfl dX12_isName_175 ?_
    refine A_ldc2 dX12_isName_178 kc_X12_244 ?_
    refine A_lcmp dX12_isName_181 ?_
    refine A_if_eq (tgt := 310) dX12_isName_182 (by decide) (fun c_182 => ?_) (fun c_182 => ?_)
    · refine A_iconst (v := 0) dX12_isName_310 (by decide) ?_
      refine A_zret dX12_isName_311 (by decide) ?_
      refine ⟨_, rfl, ?_, rfl⟩
      exact (bz_f (fun z => z.2.2 (by rw [lg_0.mp c_182]; unfold kyR; decide))).symm
    · refine A_aload0 dX12_isName_185 ?_
      refine A_getL gf_X12_190 rfl dX12_isName_186 ?_
      refine A_ldc2 dX12_isName_189 kc_X12_246 ?_
      refine A_lcmp dX12_isName_192 ?_
      refine A_if_eq (tgt := 310) dX12_isName_193 (by decide) (fun c_193 => ?_) (fun c_193 => ?_)
      · refine A_iconst (v := 0) dX12_isName_310 (by decide) ?_
        refine A_zret dX12_isName_311 (by decide) ?_
        refine ⟨_, rfl, ?_, rfl⟩
        exact (bz_f (fun z => z.2.2 (by rw [lg_0.mp c_193]; unfold kyR; decide))).symm
      · refine A_aload0 dX12_isName_196 ?_
        refine A_getL gf_X12_190 rfl dX12_isName_197 ?_
        refine A_ldc2 dX12_isName_200 kc_X12_248 ?_
        refine A_lcmp dX12_isName_203 ?_
        refine A_if_eq (tgt := 310) dX12_isName_204 (by decide) (fun c_204 => ?_) (fun c_204 => ?_)
        · refine A_iconst (v := 0) dX12_isName_310 (by decide) ?_
          refine A_zret dX12_isName_311 (by decide) ?_
          refine ⟨_, rfl, ?_, rfl⟩
          exact (bz_f (fun z => z.2.2 (by rw [lg_0.mp c_204]; unfold kyR; decide))).symm
        · refine A_aload0 dX12_isName_207 ?_
          refine A_getL gf_X12_190 rfl dX12_isName_208 ?_
          refine A_ldc2 dX12_isName_211 kc_X12_250 ?_
          refine A_lcmp dX12_isName_214 ?_
          refine A_if_eq (tgt := 310) dX12_isName_215 (by decide) (fun c_215 => ?_) (fun c_215 => ?_)
          · refine A_iconst (v := 0) dX12_isName_310 (by decide) ?_
            refine A_zret dX12_isName_311 (by decide) ?_
            refine ⟨_, rfl, ?_, rfl⟩
            exact (bz_f (fun z => z.2.2 (by rw [lg_0.mp c_215]; unfold kyR; decide))).symm
          · refine A_aload0 dX12_isName_218 ?_
            refine A_getL gf_X12_190 rfl dX12_isName_219 ?_
            refine A_ldc2 dX12_isName_222 kc_X12_252 ?_
            refine A_lcmp dX12_isName_225 ?_
            refine A_if_eq (tgt := 310) dX12_isName_226 (by decide) (fun c_226 => ?_) (fun c_226 => ?_)
            · refine A_iconst (v := 0) dX12_isName_310 (by decide) ?_
              refine A_zret dX12_isName_311 (by decide) ?_
              refine ⟨_, rfl, ?_, rfl⟩
              exact (bz_f (fun z => z.2.2 (by rw [lg_0.mp c_226]; unfold kyR; decide))).symm
            · refine A_aload0 dX12_isName_229 ?_
              refine A_getL gf_X12_190 rfl dX12_isName_230 ?_
              refine A_ldc2 dX12_isName_233 kc_X12_254 ?_
              refine A_lcmp dX12_isName_236 ?_
              refine A_if_eq (tgt := 310) dX12_isName_237 (by decide) (fun c_237 => ?_) (fun c_237 => ?_)
              · refine A_iconst (v := 0) dX12_isName_310 (by decide) ?_
                refine A_zret dX12_isName_311 (by decide) ?_
                refine ⟨_, rfl, ?_, rfl⟩
                exact (bz_f (fun z => z.2.2 (by rw [lg_0.mp c_237]; unfold kyR; decide))).symm
              · refine A_aload0 dX12_isName_240 ?_
                refine A_getL gf_X12_190 rfl dX12_isName_241 ?_
                refine A_ldc2 dX12_isName_244 kc_X12_256 ?_
                refine A_lcmp dX12_isName_247 ?_
                refine A_if_eq (tgt := 310) dX12_isName_248 (by decide) (fun c_248 => ?_) (fun c_248 => ?_)
                · refine A_iconst (v := 0) dX12_isName_310 (by decide) ?_
                  refine A_zret dX12_isName_311 (by decide) ?_
                  refine ⟨_, rfl, ?_, rfl⟩
                  exact (bz_f (fun z => z.2.2 (by rw [lg_0.mp c_248]; unfold kyR; decide))).symm
                · refine A_aload0 dX12_isName_251 ?_
                  refine A_getL gf_X12_190 rfl dX12_isName_252 ?_
                  refine A_ldc2 dX12_isName_255 kc_X12_258 ?_
                  refine A_lcmp dX12_isName_258 ?_
                  refine A_if_eq (tgt := 310) dX12_isName_259 (by decide) (fun c_259 => ?_) (fun c_259 => ?_)
                  · refine A_iconst (v := 0) dX12_isName_310 (by decide) ?_
                    refine A_zret dX12_isName_311 (by decide) ?_
                    refine ⟨_, rfl, ?_, rfl⟩
                    exact (bz_f (fun z => z.2.2 (by rw [lg_0.mp c_259]; unfold kyR; decide))).symm
                  · refine A_aload0 dX12_isName_262 ?_
                    refine A_getL gf_X12_190 rfl dX12_isName_263 ?_
                    refine A_ldc2 dX12_isName_266 kc_X12_260 ?_
                    refine A_lcmp dX12_isName_269 ?_
                    refine A_if_eq (tgt := 310) dX12_isName_270 (by decide) (fun c_270 => ?_) (fun c_270 => ?_)
                    · refine A_iconst (v := 0) dX12_isName_310 (by decide) ?_
                      refine A_zret dX12_isName_311 (by decide) ?_
                      refine ⟨_, rfl, ?_, rfl⟩
                      exact (bz_f (fun z => z.2.2 (by rw [lg_0.mp c_270]; unfold kyR; decide))).symm
                    · refine A_aload0 dX12_isName_273 ?_
                      refine A_getL gf_X12_190 rfl dX12_isName_274 ?_
                      refine A_ldc2 dX12_isName_277 kc_X12_262 ?_
                      refine A_lcmp dX12_isName_280 ?_
                      refine A_if_eq (tgt := 310) dX12_isName_281 (by decide) (fun c_281 => ?_) (fun c_281 => ?_)
                      · refine A_iconst (v := 0) dX12_isName_310 (by decide) ?_
                        refine A_zret dX12_isName_311 (by decide) ?_
                        refine ⟨_, rfl, ?_, rfl⟩
                        exact (bz_f (fun z => z.2.2 (by rw [lg_0.mp c_281]; unfold kyR; decide))).symm
                      · refine A_aload0 dX12_isName_284 ?_
                        refine A_getL gf_X12_190 rfl dX12_isName_285 ?_
                        refine A_ldc2 dX12_isName_288 kc_X12_264 ?_
                        refine A_lcmp dX12_isName_291 ?_
                        refine A_if_eq (tgt := 310) dX12_isName_292 (by decide) (fun c_292 => ?_) (fun c_292 => ?_)
                        · refine A_iconst (v := 0) dX12_isName_310 (by decide) ?_
                          refine A_zret dX12_isName_311 (by decide) ?_
                          refine ⟨_, rfl, ?_, rfl⟩
                          exact (bz_f (fun z => z.2.2 (by rw [lg_0.mp c_292]; unfold kyR; decide))).symm
                        · refine A_aload0 dX12_isName_295 ?_
                          refine A_getL gf_X12_190 rfl dX12_isName_296 ?_
                          refine A_ldc2 dX12_isName_299 kc_X12_266 ?_
                          refine A_lcmp dX12_isName_302 ?_
                          refine A_if_eq (tgt := 310) dX12_isName_303 (by decide) (fun c_303 => ?_) (fun c_303 => ?_)
                          · refine A_iconst (v := 0) dX12_isName_310 (by decide) ?_
                            refine A_zret dX12_isName_311 (by decide) ?_
                            refine ⟨_, rfl, ?_, rfl⟩
                            exact (bz_f (fun z => z.2.2 (by rw [lg_0.mp c_303]; unfold kyR; decide))).symm
                          · refine A_iconst (v := 1) dX12_isName_306 (by decide) ?_
                            refine A_goto (tgt := 311) dX12_isName_307 (by decide) ?_
                            refine A_zret dX12_isName_311 (by decide) ?_
                            refine ⟨_, rfl, ?_, rfl⟩
                            refine (bz_t ⟨h6, ?_, fun h => by simp only [kyR, List.mem_cons, List.not_mem_nil, or_false] at h; rcases h with h | h | h | h | h | h | h | h | h | h | h | h; exact c_182 (lg_0.mpr h); exact c_193 (lg_0.mpr h); exact c_204 (lg_0.mpr h); exact c_215 (lg_0.mpr h); exact c_226 (lg_0.mpr h); exact c_237 (lg_0.mpr h); exact c_248 (lg_0.mpr h); exact c_259 (lg_0.mpr h); exact c_270 (lg_0.mpr h); exact c_281 (lg_0.mpr h); exact c_292 (lg_0.mpr h); exact c_303 (lg_0.mpr h)⟩).symm
                            rcases hz with q | q
                            · exact absurd (q.1.symm.trans c_171) (by decide)
                            · exact q.2
set_option maxHeartbeats 4000000 in
set_option maxRecDepth 100000 in
theorem T_X12_isName {l : Launch} {G : Wd} {μ : Mem}  : Mt l G KM yX12_isName cX12_isName 2 (some .boolean) 1 [.ref (gA G 0)] μ (Qi (fun v μ' => v = bz (isNm μ) ∧ μ' = μ)) := by
  refine Mt.of (own := RX12) (n := 1) (by decide) rfl [some (.ref (gA G 0)), none] rfl (Nat.le_of_ble_eq_true rfl) ?_
  refine A_aload0 dX12_isName_0 ?_
  refine A_getI gf_X12_197 rfl dX12_isName_1 ?_
  refine A_iconst (v := 1) dX12_isName_4 (by decide) ?_
  refine A_icmp_eq (tgt := 10) dX12_isName_5 (by decide) (fun c_5 => ?_) (fun c_5 => ?_)
  · refine A_aload0 dX12_isName_10 ?_
    refine A_getL gf_X12_190 rfl dX12_isName_11 ?_
    refine A_ldc2 dX12_isName_14 kc_X12_216 ?_
    refine A_lcmp dX12_isName_17 ?_
    refine A_if_eq (tgt := 164) dX12_isName_18 (by decide) (fun c_18 => ?_) (fun c_18 => ?_)
    · refine A_iconst (v := 1) dX12_isName_164 (by decide) ?_
      refine A_goto (tgt := 169) dX12_isName_165 (by decide) ?_
      exact L_X12_isName_169 c_5 (Or.inl ⟨rfl, by rw [lg_0.mp c_18]; unfold kyH; decide⟩)
    · refine A_aload0 dX12_isName_21 ?_
      refine A_getL gf_X12_190 rfl dX12_isName_22 ?_
      refine A_ldc2 dX12_isName_25 kc_X12_218 ?_
      refine A_lcmp dX12_isName_28 ?_
      refine A_if_eq (tgt := 164) dX12_isName_29 (by decide) (fun c_29 => ?_) (fun c_29 => ?_)
      · refine A_iconst (v := 1) dX12_isName_164 (by decide) ?_
        refine A_goto (tgt := 169) dX12_isName_165 (by decide) ?_
        exact L_X12_isName_169 c_5 (Or.inl ⟨rfl, by rw [lg_0.mp c_29]; unfold kyH; decide⟩)
      · refine A_aload0 dX12_isName_32 ?_
        refine A_getL gf_X12_190 rfl dX12_isName_33 ?_
        refine A_ldc2 dX12_isName_36 kc_X12_220 ?_
        refine A_lcmp dX12_isName_39 ?_
        refine A_if_eq (tgt := 164) dX12_isName_40 (by decide) (fun c_40 => ?_) (fun c_40 => ?_)
        · refine A_iconst (v := 1) dX12_isName_164 (by decide) ?_
          refine A_goto (tgt := 169) dX12_isName_165 (by decide) ?_
          exact L_X12_isName_169 c_5 (Or.inl ⟨rfl, by rw [lg_0.mp c_40]; unfold kyH; decide⟩)
        · refine A_aload0 dX12_isName_43 ?_
          refine A_getL gf_X12_190 rfl dX12_isName_44 ?_
          refine A_ldc2 dX12_isName_47 kc_X12_222 ?_
          refine A_lcmp dX12_isName_50 ?_
          refine A_if_eq (tgt := 164) dX12_isName_51 (by decide) (fun c_51 => ?_) (fun c_51 => ?_)
          · refine A_iconst (v := 1) dX12_isName_164 (by decide) ?_
            refine A_goto (tgt := 169) dX12_isName_165 (by decide) ?_
            exact L_X12_isName_169 c_5 (Or.inl ⟨rfl, by rw [lg_0.mp c_51]; unfold kyH; decide⟩)
          · refine A_aload0 dX12_isName_54 ?_
            refine A_getL gf_X12_190 rfl dX12_isName_55 ?_
            refine A_ldc2 dX12_isName_58 kc_X12_224 ?_
            refine A_lcmp dX12_isName_61 ?_
            refine A_if_eq (tgt := 164) dX12_isName_62 (by decide) (fun c_62 => ?_) (fun c_62 => ?_)
            · refine A_iconst (v := 1) dX12_isName_164 (by decide) ?_
              refine A_goto (tgt := 169) dX12_isName_165 (by decide) ?_
              exact L_X12_isName_169 c_5 (Or.inl ⟨rfl, by rw [lg_0.mp c_62]; unfold kyH; decide⟩)
            · refine A_aload0 dX12_isName_65 ?_
              refine A_getL gf_X12_190 rfl dX12_isName_66 ?_
              refine A_ldc2 dX12_isName_69 kc_X12_226 ?_
              refine A_lcmp dX12_isName_72 ?_
              refine A_if_eq (tgt := 164) dX12_isName_73 (by decide) (fun c_73 => ?_) (fun c_73 => ?_)
              · refine A_iconst (v := 1) dX12_isName_164 (by decide) ?_
                refine A_goto (tgt := 169) dX12_isName_165 (by decide) ?_
                exact L_X12_isName_169 c_5 (Or.inl ⟨rfl, by rw [lg_0.mp c_73]; unfold kyH; decide⟩)
              · refine A_aload0 dX12_isName_76 ?_
                refine A_getL gf_X12_190 rfl dX12_isName_77 ?_
                refine A_ldc2 dX12_isName_80 kc_X12_228 ?_
                refine A_lcmp dX12_isName_83 ?_
                refine A_if_eq (tgt := 164) dX12_isName_84 (by decide) (fun c_84 => ?_) (fun c_84 => ?_)
                · refine A_iconst (v := 1) dX12_isName_164 (by decide) ?_
                  refine A_goto (tgt := 169) dX12_isName_165 (by decide) ?_
                  exact L_X12_isName_169 c_5 (Or.inl ⟨rfl, by rw [lg_0.mp c_84]; unfold kyH; decide⟩)
                · refine A_aload0 dX12_isName_87 ?_
                  refine A_getL gf_X12_190 rfl dX12_isName_88 ?_
                  refine A_ldc2 dX12_isName_91 kc_X12_230 ?_
                  refine A_lcmp dX12_isName_94 ?_
                  refine A_if_eq (tgt := 164) dX12_isName_95 (by decide) (fun c_95 => ?_) (fun c_95 => ?_)
                  · refine A_iconst (v := 1) dX12_isName_164 (by decide) ?_
                    refine A_goto (tgt := 169) dX12_isName_165 (by decide) ?_
                    exact L_X12_isName_169 c_5 (Or.inl ⟨rfl, by rw [lg_0.mp c_95]; unfold kyH; decide⟩)
                  · refine A_aload0 dX12_isName_98 ?_
                    refine A_getL gf_X12_190 rfl dX12_isName_99 ?_
                    refine A_ldc2 dX12_isName_102 kc_X12_232 ?_
                    refine A_lcmp dX12_isName_105 ?_
                    refine A_if_eq (tgt := 164) dX12_isName_106 (by decide) (fun c_106 => ?_) (fun c_106 => ?_)
                    · refine A_iconst (v := 1) dX12_isName_164 (by decide) ?_
                      refine A_goto (tgt := 169) dX12_isName_165 (by decide) ?_
                      exact L_X12_isName_169 c_5 (Or.inl ⟨rfl, by rw [lg_0.mp c_106]; unfold kyH; decide⟩)
                    · refine A_aload0 dX12_isName_109 ?_
                      refine A_getL gf_X12_190 rfl dX12_isName_110 ?_
                      refine A_ldc2 dX12_isName_113 kc_X12_234 ?_
                      refine A_lcmp dX12_isName_116 ?_
                      refine A_if_eq (tgt := 164) dX12_isName_117 (by decide) (fun c_117 => ?_) (fun c_117 => ?_)
                      · refine A_iconst (v := 1) dX12_isName_164 (by decide) ?_
                        refine A_goto (tgt := 169) dX12_isName_165 (by decide) ?_
                        exact L_X12_isName_169 c_5 (Or.inl ⟨rfl, by rw [lg_0.mp c_117]; unfold kyH; decide⟩)
                      · refine A_aload0 dX12_isName_120 ?_
                        refine A_getL gf_X12_190 rfl dX12_isName_121 ?_
                        refine A_ldc2 dX12_isName_124 kc_X12_236 ?_
                        refine A_lcmp dX12_isName_127 ?_
                        refine A_if_eq (tgt := 164) dX12_isName_128 (by decide) (fun c_128 => ?_) (fun c_128 => ?_)
                        · refine A_iconst (v := 1) dX12_isName_164 (by decide) ?_
                          refine A_goto (tgt := 169) dX12_isName_165 (by decide) ?_
                          exact L_X12_isName_169 c_5 (Or.inl ⟨rfl, by rw [lg_0.mp c_128]; unfold kyH; decide⟩)
                        · refine A_aload0 dX12_isName_131 ?_
                          refine A_getL gf_X12_190 rfl dX12_isName_132 ?_
                          refine A_ldc2 dX12_isName_135 kc_X12_238 ?_
                          refine A_lcmp dX12_isName_138 ?_
                          refine A_if_eq (tgt := 164) dX12_isName_139 (by decide) (fun c_139 => ?_) (fun c_139 => ?_)
                          · refine A_iconst (v := 1) dX12_isName_164 (by decide) ?_
                            refine A_goto (tgt := 169) dX12_isName_165 (by decide) ?_
                            exact L_X12_isName_169 c_5 (Or.inl ⟨rfl, by rw [lg_0.mp c_139]; unfold kyH; decide⟩)
                          · refine A_aload0 dX12_isName_142 ?_
                            refine A_getL gf_X12_190 rfl dX12_isName_143 ?_
                            refine A_ldc2 dX12_isName_146 kc_X12_240 ?_
                            refine A_lcmp dX12_isName_149 ?_
                            refine A_if_eq (tgt := 164) dX12_isName_150 (by decide) (fun c_150 => ?_) (fun c_150 => ?_)
                            · refine A_iconst (v := 1) dX12_isName_164 (by decide) ?_
                              refine A_goto (tgt := 169) dX12_isName_165 (by decide) ?_
                              exact L_X12_isName_169 c_5 (Or.inl ⟨rfl, by rw [lg_0.mp c_150]; unfold kyH; decide⟩)
                            · refine A_aload0 dX12_isName_153 ?_
                              refine A_getL gf_X12_190 rfl dX12_isName_154 ?_
                              refine A_ldc2 dX12_isName_157 kc_X12_242 ?_
                              refine A_lcmp dX12_isName_160 ?_
                              refine A_if_ne (tgt := 168) dX12_isName_161 (by decide) (fun c_161 => ?_) (fun c_161 => ?_)
                              · refine A_iconst (v := 0) dX12_isName_168 (by decide) ?_
                                exact L_X12_isName_169 c_5 (Or.inr ⟨rfl, fun h => by simp only [kyH, List.mem_cons, List.not_mem_nil, or_false] at h; rcases h with h | h | h | h | h | h | h | h | h | h | h | h | h | h; exact c_18 (lg_0.mpr h); exact c_29 (lg_0.mpr h); exact c_40 (lg_0.mpr h); exact c_51 (lg_0.mpr h); exact c_62 (lg_0.mpr h); exact c_73 (lg_0.mpr h); exact c_84 (lg_0.mpr h); exact c_95 (lg_0.mpr h); exact c_106 (lg_0.mpr h); exact c_117 (lg_0.mpr h); exact c_128 (lg_0.mpr h); exact c_139 (lg_0.mpr h); exact c_150 (lg_0.mpr h); exact c_161 (lg_0.mpr h)⟩)
                              · refine A_iconst (v := 1) dX12_isName_164 (by decide) ?_
                                refine A_goto (tgt := 169) dX12_isName_165 (by decide) ?_
                                exact L_X12_isName_169 c_5 (Or.inl ⟨rfl, by rw [lg_0.mp c_161]; unfold kyH; decide⟩)
  · refine A_iconst (v := 0) dX12_isName_8 (by decide) ?_
    refine A_zret dX12_isName_9 (by decide) ?_
    refine ⟨_, rfl, ?_, rfl⟩
    exact (bz_f (fun z => c_5 z.1)).symm
abbrev isOt (μ : Mem) : Prop := isWd μ 470021465444 ∨ isWd μ 440005915496 ∨ isWd μ 108243635103086 ∨ isWd μ 29395908993245561 ∨ isWd μ 1835099237
set_option maxHeartbeats 4000000 in
set_option maxRecDepth 100000 in
theorem T_X12_isOther {l : Launch} {G : Wd} {μ : Mem}  : Mt l G KM yX12_isOther cX12_isOther 1 (some .boolean) 2 [.ref (gA G 0)] μ (Qi (fun v μ' => v = bz (isOt μ) ∧ μ' = μ)) := by
  refine Mt.of (own := RX12) (n := 0) (by decide) rfl [some (.ref (gA G 0))] rfl (Nat.le_of_ble_eq_true rfl) ?_
  refine A_aload0 dX12_isOther_0 ?_
  refine A_ldc2 dX12_isOther_1 kc_X12_238 ?_
  refine A_vi1 lk_X12_268 yv_X12_isWord dX12_isOther_4 (rfl) (rfl) (T_X12_isWord) (by decide) (Nat.le_of_ble_eq_true rfl) (fun r_4 μ_4 h_4 => ?_)
  obtain ⟨rfl, e_4⟩ := h_4
  replace e_4 := e_4.symm
  subst e_4
  refine A_if_ne (tgt := 50) dX12_isOther_7 (by decide) (fun c_7 => ?_) (fun c_7 => ?_)
  · refine A_iconst (v := 1) dX12_isOther_50 (by decide) ?_
    refine A_goto (tgt := 55) dX12_isOther_51 (by decide) ?_
    refine A_zret dX12_isOther_55 (by decide) ?_
    refine ⟨_, rfl, ?_, rfl⟩
    exact (bz_t (Or.inl (Decidable.not_not.mp (fun z => c_7 (bz_f z))))).symm
  · refine A_aload0 dX12_isOther_10 ?_
    refine A_ldc2 dX12_isOther_11 kc_X12_240 ?_
    refine A_vi1 lk_X12_268 yv_X12_isWord dX12_isOther_14 (rfl) (rfl) (T_X12_isWord) (by decide) (Nat.le_of_ble_eq_true rfl) (fun r_14 μ_14 h_14 => ?_)
    obtain ⟨rfl, e_14⟩ := h_14
    replace e_14 := e_14.symm
    subst e_14
    refine A_if_ne (tgt := 50) dX12_isOther_17 (by decide) (fun c_17 => ?_) (fun c_17 => ?_)
    · refine A_iconst (v := 1) dX12_isOther_50 (by decide) ?_
      refine A_goto (tgt := 55) dX12_isOther_51 (by decide) ?_
      refine A_zret dX12_isOther_55 (by decide) ?_
      refine ⟨_, rfl, ?_, rfl⟩
      exact (bz_t (Or.inr (Or.inl (Decidable.not_not.mp (fun z => c_17 (bz_f z)))))).symm
    · refine A_aload0 dX12_isOther_20 ?_
      refine A_ldc2 dX12_isOther_21 kc_X12_244 ?_
      refine A_vi1 lk_X12_268 yv_X12_isWord dX12_isOther_24 (rfl) (rfl) (T_X12_isWord) (by decide) (Nat.le_of_ble_eq_true rfl) (fun r_24 μ_24 h_24 => ?_)
      obtain ⟨rfl, e_24⟩ := h_24
      replace e_24 := e_24.symm
      subst e_24
      refine A_if_ne (tgt := 50) dX12_isOther_27 (by decide) (fun c_27 => ?_) (fun c_27 => ?_)
      · refine A_iconst (v := 1) dX12_isOther_50 (by decide) ?_
        refine A_goto (tgt := 55) dX12_isOther_51 (by decide) ?_
        refine A_zret dX12_isOther_55 (by decide) ?_
        refine ⟨_, rfl, ?_, rfl⟩
        exact (bz_t (Or.inr (Or.inr (Or.inl (Decidable.not_not.mp (fun z => c_27 (bz_f z))))))).symm
      · refine A_aload0 dX12_isOther_30 ?_
        refine A_ldc2 dX12_isOther_31 kc_X12_246 ?_
        refine A_vi1 lk_X12_268 yv_X12_isWord dX12_isOther_34 (rfl) (rfl) (T_X12_isWord) (by decide) (Nat.le_of_ble_eq_true rfl) (fun r_34 μ_34 h_34 => ?_)
        obtain ⟨rfl, e_34⟩ := h_34
        replace e_34 := e_34.symm
        subst e_34
        refine A_if_ne (tgt := 50) dX12_isOther_37 (by decide) (fun c_37 => ?_) (fun c_37 => ?_)
        · refine A_iconst (v := 1) dX12_isOther_50 (by decide) ?_
          refine A_goto (tgt := 55) dX12_isOther_51 (by decide) ?_
          refine A_zret dX12_isOther_55 (by decide) ?_
          refine ⟨_, rfl, ?_, rfl⟩
          exact (bz_t (Or.inr (Or.inr (Or.inr (Or.inl (Decidable.not_not.mp (fun z => c_37 (bz_f z)))))))).symm
        · refine A_aload0 dX12_isOther_40 ?_
          refine A_ldc2 dX12_isOther_41 kc_X12_248 ?_
          refine A_vi1 lk_X12_268 yv_X12_isWord dX12_isOther_44 (rfl) (rfl) (T_X12_isWord) (by decide) (Nat.le_of_ble_eq_true rfl) (fun r_44 μ_44 h_44 => ?_)
          obtain ⟨rfl, e_44⟩ := h_44
          replace e_44 := e_44.symm
          subst e_44
          refine A_if_eq (tgt := 54) dX12_isOther_47 (by decide) (fun c_47 => ?_) (fun c_47 => ?_)
          · refine A_iconst (v := 0) dX12_isOther_54 (by decide) ?_
            refine A_zret dX12_isOther_55 (by decide) ?_
            refine ⟨_, rfl, ?_, rfl⟩
            exact (bz_f (fun z => by rcases z with z | z | z | z | z; exact bz_0.mp c_7 z; exact bz_0.mp c_17 z; exact bz_0.mp c_27 z; exact bz_0.mp c_37 z; exact bz_0.mp c_47 z)).symm
          · refine A_iconst (v := 1) dX12_isOther_50 (by decide) ?_
            refine A_goto (tgt := 55) dX12_isOther_51 (by decide) ?_
            refine A_zret dX12_isOther_55 (by decide) ?_
            refine ⟨_, rfl, ?_, rfl⟩
            exact (bz_t (Or.inr (Or.inr (Or.inr (Or.inr ((Decidable.not_not.mp (fun z => c_47 (bz_f z))))))))).symm

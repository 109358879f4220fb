/-! an operand -/
abbrev opN (x : Int32) (m : Mem) : Prop := x = 0 ∧ isWd m 7237492
abbrev opU (m : Mem) : Prop := m.1 0 6 = 2 ∨ m.1 0 6 = 40 ∨ isNm m ∨ isWd m 1818325876 ∨ isWd m 6578553
abbrev opE (x : Int32) (m : Mem) : Prop := (¬ opN x m ∧ ¬ opU m) ∨ (opU m ∧ m.1 0 73 = 60) ∨ ((opN x m ∨ m.1 0 6 = 40) ∧ ¬ m.1 0 75 < 7)
def opA (x : Int32) (m : Mem) : Mem := if opE x m then sp_spoil m 2 else if isNm m ∧ sp_named m < 0 then sp_spoil m 5 else m
def opB (m : Mem) : Mem := wI m 0 73 (m.1 0 73 + 1)
def opK (m : Mem) : Mem := if isNm m then (if sp_named m < 0 then sp_spoil m 5 else m) else sp_spoil m 2
def opL (m : Mem) : Mem := sp_note (opK m) 2 (sp_named (opK m))
def opC (m : Mem) : Mem := if isWd (opB m) 1818325876 then opL (tkn (opB m)) else sp_note (opB m) (if isNm m then 1 else if (opB m).1 0 6 = 2 then 0 else 3) (if isNm m then sp_named (opB m) else (opB m).1 0 8)
def opR (m : Mem) : Int32 × Mem := if (opB m).1 0 6 = 40 then (0, tkn (sp_hold (opB m) 30)) else (2, hlT (opC m))
def sp_operand (x : Int32) (m : Mem) : Int32 × Mem := if 0 < (opA x m).1 0 2 then (x, opA x m) else if opN x m then (0, tkn (sp_hold m 22)) else opR m
theorem opA_0 {x : Int32} {m : Mem} (h : (opA x m).1 0 2 ≤ 0) : opA x m = m ∧ ¬ opE x m ∧ ¬ (isNm m ∧ sp_named m < 0) := by
  have hp : ∀ w, 0 < w → ¬ (sp_spoil m w).1 0 2 ≤ 0 := fun w hw z => absurd (sp_spoil_2 (μ := m) hw) (Int32.not_lt.mpr z)
  unfold opA at h ⊢
  split at h
  · exact absurd h (hp 2 (by decide))
  · rename_i q
    split at h
    · exact absurd h (hp 5 (by decide))
    · rename_i q2
      rw [if_neg q, if_neg q2]
      exact ⟨rfl, q, q2⟩
theorem WFx.hA {m : Mem} {a : Int32} (h : WFx m) : WFx (sp_hold m a) := by
  have h1 : WFx (hdA m a) := (h.o (by decide)).w (by decide)
  unfold sp_hold
  split
  · exact h1.w (by decide)
  · exact h1
theorem WFx.nA {m : Mem} {a b : Int32} (h : WFx m) : WFx (sp_note m a b) := ((h.o (by decide)).o (by decide)).w (by decide)
theorem WFx.oB {m : Mem} (h : WFx m) : WFx (opB m) := h.w (by decide)
theorem WFx.oK {m : Mem} (h : WFx m) : WFx (opK m) := by
  unfold opK
  split
  · split
    · exact h.spoil
    · exact h
  · exact h.spoil
theorem Rd.oK {m : Mem} : Rd m (opK m) := by
  unfold opK
  split
  · split
    · exact Rd.rf.sp
    · exact Rd.rf
  · exact Rd.rf.sp
theorem Rd.b {a b : Mem} (h : Rd a b) (hw : WFb a) : WFb b := by
  obtain ⟨t, h1, h2⟩ := hw
  exact ⟨t, h1, (h.1 0 31 (by unfold rdK; omega)).trans h2⟩
theorem WFb.oB {m : Mem} (h : WFb m) : WFb (opB m) := by
  obtain ⟨t, h1, h2⟩ := h
  exact ⟨t, h1, (wI_ne (Or.inr (by decide))).trans h2⟩
theorem opB_o {m : Mem} {j : Nat} (h : j ≠ 73) : (opB m).1 0 j = m.1 0 j := wI_ne (Or.inr h)
set_option maxHeartbeats 100000 in
set_option maxRecDepth 100000 in
theorem L_X12_operand_291 {l : Launch} {G : Wd} {x : Int32} {μ : Mem} {n w : Nat} (hwC : WFx (opC μ)) (h1 : ¬ 0 < (opA x μ).1 0 2) (h2 : ¬ opN x μ) (h3 : ¬ (opB μ).1 0 6 = 40) : AW l G KM RX12 cX12_operand 5 3 (some .int) (Qi (fun v μ' => sp_operand x μ = (v, μ'))) 291 [some (.ref (gA G 0)), some (.int x), some (.int (bz (opN x μ))), some (.int (bz (isNm μ))), some (.int (bz (opU μ)))] [] (opC μ) := by
  refine A_aload0 dX12_operand_291 ?_
  refine A_getI gf_X12_210 rfl dX12_operand_292 ?_
  refine A_if_ne (tgt := 302) dX12_operand_295 (by decide) (fun c_295 => ?_) (fun c_295 => ?_)
  · refine A_iconst (v := 2) dX12_operand_302 (by decide) ?_
    refine A_iret dX12_operand_303 ?_
    have e9 : hlT (opC μ) = opC μ := if_neg c_295
    refine ⟨_, rfl, (if_neg h1).trans ((if_neg h2).trans ((if_neg h3).trans ?_))⟩
    rw [e9]
  · refine A_aload0 dX12_operand_298 ?_
    refine A_vv0 lk_X12_213 yv_X12_token dX12_operand_299 (rfl) (rfl) (T_X12_tkn hwC) (by decide) (Nat.le_of_ble_eq_true rfl) (fun μ_299 h_299 => ?_)
    refine A_iconst (v := 2) dX12_operand_302 (by decide) ?_
    refine A_iret dX12_operand_303 ?_
    have e9 : hlT (opC μ) = tkn (opC μ) := if_pos c_295
    refine ⟨_, rfl, (if_neg h1).trans ((if_neg h2).trans ((if_neg h3).trans ?_))⟩
    rw [e9, h_299]
set_option maxHeartbeats 100000 in
set_option maxRecDepth 100000 in
theorem L_X12_operand_239 {l : Launch} {G : Wd} {x : Int32} {μ : Mem} {n w : Nat} (hw : WFx μ) (hB : WFb μ) (hn : μ.1 0 70 = nI n) (hn6 : n < 600) (hm : μ.1 0 74 = nI w) (hm6 : w < 600) (h1 : ¬ 0 < (opA x μ).1 0 2) (h2 : ¬ opN x μ) (h3 : ¬ (opB μ).1 0 6 = 40) (h4 : isWd (opB μ) 1818325876) : AW l G KM RX12 cX12_operand 5 3 (some .int) (Qi (fun v μ' => sp_operand x μ = (v, μ'))) 239 [some (.ref (gA G 0)), some (.int x), some (.int (bz (opN x μ))), some (.int (bz (isNm μ))), some (.int (bz (opU μ)))] [] (opK (tkn (opB μ))) := by
  refine A_aload0 dX12_operand_239 ?_
  refine A_iconst (v := 2) dX12_operand_240 (by decide) ?_
  refine A_aload0 dX12_operand_241 ?_
  refine A_vi0 lk_X12_443 yv_X12_named dX12_operand_242 (rfl) (rfl) (T_X12_named (Rd.oK.b (Rd.rf.tk.b hB.oB))) (by decide) (Nat.le_of_ble_eq_true rfl) (fun r_242 μ_242 h_242 => ?_)
  obtain ⟨v_242, e_242⟩ := h_242
  replace v_242 := Eq.symm v_242
  subst v_242
  replace e_242 := e_242.symm
  subst e_242
  refine A_vv2 lk_X12_431 yv_X12_note dX12_operand_245 (rfl) (rfl) (T_X12_note (n := n) ((Rd.oK.1 0 70 (by decide)).trans ((Rd.rf.tk.1 0 70 (by decide)).trans ((opB_o (by decide)).trans hn))) hn6) (by decide) (Nat.le_of_ble_eq_true rfl) (fun μ_245 h_245 => ?_)
  refine A_goto (tgt := 291) dX12_operand_248 (by decide) ?_
  have e1 : opC μ = μ_245 := (if_pos h4).trans h_245.symm
  rw [← e1]
  refine L_X12_operand_291 (n := n) (w := w) ?_ h1 h2 h3
  rw [e1, h_245]
  exact hw.oB.tn.oK.nA
set_option maxHeartbeats 100000 in
set_option maxRecDepth 100000 in
theorem L_X12_operand_198 {l : Launch} {G : Wd} {x : Int32} {μ : Mem} {n w : Nat} (hw : WFx μ) (hB : WFb μ) (hn : μ.1 0 70 = nI n) (hn6 : n < 600) (hm : μ.1 0 74 = nI w) (hm6 : w < 600) (h1 : ¬ 0 < (opA x μ).1 0 2) (h2 : ¬ opN x μ) (h3 : ¬ (opB μ).1 0 6 = 40) : AW l G KM RX12 cX12_operand 5 3 (some .int) (Qi (fun v μ' => sp_operand x μ = (v, μ'))) 198 [some (.ref (gA G 0)), some (.int x), some (.int (bz (opN x μ))), some (.int (bz (isNm μ))), some (.int (bz (opU μ)))] [] (opB μ) := by
  refine A_aload0 dX12_operand_198 ?_
  refine A_ldc2 dX12_operand_199 kc_X12_258 ?_
  refine A_vi1 lk_X12_268 yv_X12_isWord dX12_operand_202 (rfl) (rfl) (T_X12_isWord) (by decide) (Nat.le_of_ble_eq_true rfl) (fun r_202 μ_202 h_202 => ?_)
  obtain ⟨v_202, e_202⟩ := h_202
  replace v_202 := Eq.symm v_202
  subst v_202
  replace e_202 := e_202.symm
  subst e_202
  refine A_if_eq (tgt := 251) dX12_operand_205 (by decide) (fun c_205 => ?_) (fun c_205 => ?_)
  · refine A_aload0 dX12_operand_251 ?_
    refine A_iload3 dX12_operand_252 ?_
    refine A_if_eq (tgt := 260) dX12_operand_253 (by decide) (fun c_253 => ?_) (fun c_253 => ?_)
    · have hN : ¬ isNm μ := bz_0.mp c_253
      refine A_aload0 dX12_operand_260 ?_
      refine A_getI gf_X12_197 rfl dX12_operand_261 ?_
      refine A_iconst (v := 2) dX12_operand_264 (by decide) ?_
      refine A_icmp_ne (tgt := 272) dX12_operand_265 (by decide) (fun c_265 => ?_) (fun c_265 => ?_)
      · refine A_iconst (v := 3) dX12_operand_272 (by decide) ?_
        refine A_iload3 dX12_operand_273 ?_
        refine A_if_eq (tgt := 284) dX12_operand_274 (by decide) (fun c_274 => ?_) (fun c_274 => absurd c_274 (fun z => z (bz_f hN)))
        refine A_aload0 dX12_operand_284 ?_
        refine A_getI gf_X12_194 rfl dX12_operand_285 ?_
        refine A_vv2 lk_X12_431 yv_X12_note dX12_operand_288 (rfl) (rfl) (T_X12_note (n := n) ((opB_o (by decide)).trans hn) hn6) (by decide) (Nat.le_of_ble_eq_true rfl) (fun μ_288 h_288 => ?_)
        have hq : ¬ isWd (opB μ) 1818325876 := bz_0.mp c_205
        have e1 : opC μ = μ_288 := by rw [h_288]; unfold opC; rw [if_neg hq, if_neg hN, if_neg c_265, if_neg hN]
        rw [← e1]
        refine L_X12_operand_291 (n := n) (w := w) ?_ h1 h2 h3
        rw [e1, h_288]
        exact hw.oB.nA
      · refine A_iconst (v := 0) dX12_operand_268 (by decide) ?_
        refine A_goto (tgt := 273) dX12_operand_269 (by decide) ?_
        refine A_iload3 dX12_operand_273 ?_
        refine A_if_eq (tgt := 284) dX12_operand_274 (by decide) (fun c_274 => ?_) (fun c_274 => absurd c_274 (fun z => z (bz_f hN)))
        refine A_aload0 dX12_operand_284 ?_
        refine A_getI gf_X12_194 rfl dX12_operand_285 ?_
        refine A_vv2 lk_X12_431 yv_X12_note dX12_operand_288 (rfl) (rfl) (T_X12_note (n := n) ((opB_o (by decide)).trans hn) hn6) (by decide) (Nat.le_of_ble_eq_true rfl) (fun μ_288 h_288 => ?_)
        have hq : ¬ isWd (opB μ) 1818325876 := bz_0.mp c_205
        have e1 : opC μ = μ_288 := by rw [h_288]; unfold opC; rw [if_neg hq, if_neg hN, if_pos c_265, if_neg hN]
        rw [← e1]
        refine L_X12_operand_291 (n := n) (w := w) ?_ h1 h2 h3
        rw [e1, h_288]
        exact hw.oB.nA
    · have hN : isNm μ := bz_y c_253
      refine A_iconst (v := 1) dX12_operand_256 (by decide) ?_
      refine A_goto (tgt := 273) dX12_operand_257 (by decide) ?_
      refine A_iload3 dX12_operand_273 ?_
      refine A_if_eq (tgt := 284) dX12_operand_274 (by decide) (fun c_274 => absurd c_274 (fun z => bz_0.mp z hN)) (fun c_274 => ?_)
      refine A_aload0 dX12_operand_277 ?_
      refine A_vi0 lk_X12_443 yv_X12_named dX12_operand_278 (rfl) (rfl) (T_X12_named hB.oB) (by decide) (Nat.le_of_ble_eq_true rfl) (fun r_278 μ_278 h_278 => ?_)
      obtain ⟨v_278, e_278⟩ := h_278
      replace v_278 := Eq.symm v_278
      subst v_278
      replace e_278 := e_278.symm
      subst e_278
      refine A_goto (tgt := 288) dX12_operand_281 (by decide) ?_
      refine A_vv2 lk_X12_431 yv_X12_note dX12_operand_288 (rfl) (rfl) (T_X12_note (n := n) ((opB_o (by decide)).trans hn) hn6) (by decide) (Nat.le_of_ble_eq_true rfl) (fun μ_288 h_288 => ?_)
      have hq : ¬ isWd (opB μ) 1818325876 := bz_0.mp c_205
      have e1 : opC μ = μ_288 := by rw [h_288]; unfold opC; rw [if_neg hq, if_pos hN, if_pos hN]
      rw [← e1]
      refine L_X12_operand_291 (n := n) (w := w) ?_ h1 h2 h3
      rw [e1, h_288]
      exact hw.oB.nA
  · have h4 : isWd (opB μ) 1818325876 := bz_y c_205
    refine A_aload0 dX12_operand_208 ?_
    refine A_vv0 lk_X12_213 yv_X12_token dX12_operand_209 (rfl) (rfl) (T_X12_tkn hw.oB) (by decide) (Nat.le_of_ble_eq_true rfl) (fun μ_209 h_209 => ?_)
    replace h_209 := Eq.symm h_209
    subst h_209
    refine A_aload0 dX12_operand_212 ?_
    refine A_vi0 lk_X12_289 yv_X12_isName dX12_operand_213 (rfl) (rfl) (T_X12_isName) (by decide) (Nat.le_of_ble_eq_true rfl) (fun r_213 μ_213 h_213 => ?_)
    obtain ⟨v_213, e_213⟩ := h_213
    replace v_213 := Eq.symm v_213
    subst v_213
    replace e_213 := e_213.symm
    subst e_213
    refine A_if_ne (tgt := 227) dX12_operand_216 (by decide) (fun c_216 => ?_) (fun c_216 => ?_)
    · refine A_aload0 dX12_operand_227 ?_
      refine A_vi0 lk_X12_443 yv_X12_named dX12_operand_228 (rfl) (rfl) (T_X12_named (Rd.rf.tk.b hB.oB)) (by decide) (Nat.le_of_ble_eq_true rfl) (fun r_228 μ_228 h_228 => ?_)
      obtain ⟨v_228, e_228⟩ := h_228
      replace v_228 := Eq.symm v_228
      subst v_228
      replace e_228 := e_228.symm
      subst e_228
      refine A_if_ge (tgt := 239) dX12_operand_231 (by decide) (fun c_231 => ?_) (fun c_231 => ?_)
      · have e1 : opK (tkn (opB μ)) = tkn (opB μ) := (if_pos (bz_y c_216)).trans (if_neg (Int32.not_lt.mpr c_231))
        rw [← e1]
        exact L_X12_operand_239 hw hB hn hn6 hm hm6 h1 h2 h3 h4
      · refine A_aload0 dX12_operand_234 ?_
        refine A_iconst (v := 5) dX12_operand_235 (by decide) ?_
        refine A_vv1 lk_X12_272 yv_X12_spoil dX12_operand_236 (rfl) (rfl) (T_X12_spoil) (by decide) (Nat.le_of_ble_eq_true rfl) (fun μ_236 h_236 => ?_)
        have e1 : opK (tkn (opB μ)) = sp_spoil (tkn (opB μ)) 5 := (if_pos (bz_y c_216)).trans (if_pos (Int32.not_le.mp c_231))
        rw [h_236, ← e1]
        exact L_X12_operand_239 hw hB hn hn6 hm hm6 h1 h2 h3 h4
    · refine A_aload0 dX12_operand_219 ?_
      refine A_iconst (v := 2) dX12_operand_220 (by decide) ?_
      refine A_vv1 lk_X12_272 yv_X12_spoil dX12_operand_221 (rfl) (rfl) (T_X12_spoil) (by decide) (Nat.le_of_ble_eq_true rfl) (fun μ_221 h_221 => ?_)
      refine A_goto (tgt := 239) dX12_operand_224 (by decide) ?_
      have e1 : opK (tkn (opB μ)) = sp_spoil (tkn (opB μ)) 2 := if_neg (bz_0.mp c_216)
      rw [h_221, ← e1]
      exact L_X12_operand_239 hw hB hn hn6 hm hm6 h1 h2 h3 h4
set_option maxHeartbeats 100000 in
set_option maxRecDepth 100000 in
theorem L_X12_operand_142 {l : Launch} {G : Wd} {x : Int32} {μ : Mem} {n w : Nat} (hw : WFx μ) (hB : WFb μ) (hn : μ.1 0 70 = nI n) (hn6 : n < 600) (hm : μ.1 0 74 = nI w) (hm6 : w < 600) : AW l G KM RX12 cX12_operand 5 3 (some .int) (Qi (fun v μ' => sp_operand x μ = (v, μ'))) 142 [some (.ref (gA G 0)), some (.int x), some (.int (bz (opN x μ))), some (.int (bz (isNm μ))), some (.int (bz (opU μ)))] [] (opA x μ) := by
  refine A_aload0 dX12_operand_142 ?_
  refine A_getI gf_X12_210 rfl dX12_operand_143 ?_
  refine A_if_le (tgt := 151) dX12_operand_146 (by decide) (fun c_146 => ?_) (fun c_146 => ?_)
  · have hA := (opA_0 c_146).1
    refine A_setm hA ?_
    have h1 : ¬ 0 < (opA x μ).1 0 2 := Int32.not_lt.mpr c_146
    refine A_iload2 dX12_operand_151 ?_
    refine A_if_eq (tgt := 167) dX12_operand_152 (by decide) (fun c_152 => ?_) (fun c_152 => ?_)
    · refine A_aload0 dX12_operand_167 ?_
      refine A_dup dX12_operand_168 rfl ?_
      refine A_getI gf_X12_440 rfl dX12_operand_169 ?_
      refine A_iconst (v := 1) dX12_operand_172 (by decide) ?_
      refine A_iadd dX12_operand_173 ?_
      refine A_putI gf_X12_440 rfl dX12_operand_174 ?_
      refine A_setm (μ' := opB μ) rfl ?_
      refine A_aload0 dX12_operand_177 ?_
      refine A_getI gf_X12_197 rfl dX12_operand_178 ?_
      refine A_bipush (v := 40) dX12_operand_181 (by decide) ?_
      refine A_icmp_ne (tgt := 198) dX12_operand_183 (by decide) (fun c_183 => ?_) (fun c_183 => ?_)
      · exact L_X12_operand_198 hw hB hn hn6 hm hm6 h1 (bz_0.mp c_152) c_183
      · refine A_aload0 dX12_operand_186 ?_
        refine A_bipush (v := 30) dX12_operand_187 (by decide) ?_
        refine A_vv1 lk_X12_446 yv_X12_hold dX12_operand_189 (rfl) (rfl) (T_X12_hold ((opB_o (by decide)).trans hm) hm6) (by decide) (Nat.le_of_ble_eq_true rfl) (fun μ_189 h_189 => ?_)
        replace h_189 := Eq.symm h_189
        subst h_189
        refine A_aload0 dX12_operand_192 ?_
        refine A_vv0 lk_X12_213 yv_X12_token dX12_operand_193 (rfl) (rfl) (T_X12_tkn hw.oB.hA) (by decide) (Nat.le_of_ble_eq_true rfl) (fun μ_193 h_193 => ?_)
        refine A_iconst (v := 0) dX12_operand_196 (by decide) ?_
        refine A_iret dX12_operand_197 ?_
        rw [h_193]
        exact ⟨_, rfl, (if_neg h1).trans ((if_neg (bz_0.mp c_152)).trans (if_pos c_183))⟩
    · refine A_aload0 dX12_operand_155 ?_
      refine A_bipush (v := 22) dX12_operand_156 (by decide) ?_
      refine A_vv1 lk_X12_446 yv_X12_hold dX12_operand_158 (rfl) (rfl) (T_X12_hold hm hm6) (by decide) (Nat.le_of_ble_eq_true rfl) (fun μ_158 h_158 => ?_)
      replace h_158 := Eq.symm h_158
      subst h_158
      refine A_aload0 dX12_operand_161 ?_
      refine A_vv0 lk_X12_213 yv_X12_token dX12_operand_162 (rfl) (rfl) (T_X12_tkn hw.hA) (by decide) (Nat.le_of_ble_eq_true rfl) (fun μ_162 h_162 => ?_)
      refine A_iconst (v := 0) dX12_operand_165 (by decide) ?_
      refine A_iret dX12_operand_166 ?_
      rw [h_162]
      exact ⟨_, rfl, (if_neg h1).trans (if_pos (bz_y c_152))⟩
  · refine A_iload1 dX12_operand_149 ?_
    refine A_iret dX12_operand_150 ?_
    exact ⟨_, rfl, if_pos (Int32.not_le.mp c_146)⟩
set_option maxHeartbeats 100000 in
set_option maxRecDepth 100000 in
theorem L_X12_operand_118 {l : Launch} {G : Wd} {x : Int32} {μ : Mem} {n w : Nat} (hw : WFx μ) (hB : WFb μ) (hn : μ.1 0 70 = nI n) (hn6 : n < 600) (hm : μ.1 0 74 = nI w) (hm6 : w < 600) (hE : opE x μ) : AW l G KM RX12 cX12_operand 5 3 (some .int) (Qi (fun v μ' => sp_operand x μ = (v, μ'))) 118 [some (.ref (gA G 0)), some (.int x), some (.int (bz (opN x μ))), some (.int (bz (isNm μ))), some (.int (bz (opU μ)))] [] μ := by
  refine A_aload0 dX12_operand_118 ?_
  refine A_iconst (v := 2) dX12_operand_119 (by decide) ?_
  refine A_vv1 lk_X12_272 yv_X12_spoil dX12_operand_120 (rfl) (rfl) (T_X12_spoil) (by decide) (Nat.le_of_ble_eq_true rfl) (fun μ_120 h_120 => ?_)
  refine A_goto (tgt := 142) dX12_operand_123 (by decide) ?_
  have e1 : opA x μ = sp_spoil μ 2 := if_pos hE
  rw [h_120, ← e1]
  exact L_X12_operand_142 hw hB hn hn6 hm hm6
set_option maxHeartbeats 100000 in
set_option maxRecDepth 100000 in
theorem L_X12_operand_126 {l : Launch} {G : Wd} {x : Int32} {μ : Mem} {n w : Nat} (hw : WFx μ) (hB : WFb μ) (hn : μ.1 0 70 = nI n) (hn6 : n < 600) (hm : μ.1 0 74 = nI w) (hm6 : w < 600) (hE : ¬ opE x μ) : AW l G KM RX12 cX12_operand 5 3 (some .int) (Qi (fun v μ' => sp_operand x μ = (v, μ'))) 126 [some (.ref (gA G 0)), some (.int x), some (.int (bz (opN x μ))), some (.int (bz (isNm μ))), some (.int (bz (opU μ)))] [] μ := by
  refine A_iload3 dX12_operand_126 ?_
  refine A_if_eq (tgt := 142) dX12_operand_127 (by decide) (fun c_127 => ?_) (fun c_127 => ?_)
  · have e1 : opA x μ = μ := (if_neg hE).trans (if_neg (fun z => bz_0.mp c_127 z.1))
    refine A_setm e1.symm ?_
    exact L_X12_operand_142 hw hB hn hn6 hm hm6
  · refine A_aload0 dX12_operand_130 ?_
    refine A_vi0 lk_X12_443 yv_X12_named dX12_operand_131 (rfl) (rfl) (T_X12_named hB) (by decide) (Nat.le_of_ble_eq_true rfl) (fun r_131 μ_131 h_131 => ?_)
    obtain ⟨v_131, e_131⟩ := h_131
    replace v_131 := Eq.symm v_131
    subst v_131
    replace e_131 := e_131.symm
    subst e_131
    refine A_if_ge (tgt := 142) dX12_operand_134 (by decide) (fun c_134 => ?_) (fun c_134 => ?_)
    · have e1 : opA x μ = μ := (if_neg hE).trans (if_neg (fun z => absurd z.2 (Int32.not_lt.mpr c_134)))
      refine A_setm e1.symm ?_
      exact L_X12_operand_142 hw hB hn hn6 hm hm6
    · refine A_aload0 dX12_operand_137 ?_
      refine A_iconst (v := 5) dX12_operand_138 (by decide) ?_
      refine A_vv1 lk_X12_272 yv_X12_spoil dX12_operand_139 (rfl) (rfl) (T_X12_spoil) (by decide) (Nat.le_of_ble_eq_true rfl) (fun μ_139 h_139 => ?_)
      have e1 : opA x μ = sp_spoil μ 5 := (if_neg hE).trans (if_pos ⟨bz_y c_127, Int32.not_le.mp c_134⟩)
      rw [h_139, ← e1]
      exact L_X12_operand_142 hw hB hn hn6 hm hm6
set_option maxHeartbeats 100000 in
set_option maxRecDepth 100000 in
theorem L_X12_operand_71 {l : Launch} {G : Wd} {x : Int32} {μ : Mem} {n w : Nat} {x4 : Option Value} (hw : WFx μ) (hB : WFb μ) (hn : μ.1 0 70 = nI n) (hn6 : n < 600) (hm : μ.1 0 74 = nI w) (hm6 : w < 600) : AW l G KM RX12 cX12_operand 5 3 (some .int) (Qi (fun v μ' => sp_operand x μ = (v, μ'))) 71 [some (.ref (gA G 0)), some (.int x), some (.int (bz (opN x μ))), some (.int (bz (isNm μ))), x4] [.int (bz (opU μ))] μ := by
  by_cases hN : opN x μ <;> by_cases hU : opU μ
  · skip
    refine A_istore4 dX12_operand_71 rfl (by decide) ?_
    refine A_iload2 dX12_operand_73 ?_
    refine A_if_ne (tgt := 82) dX12_operand_74 (by decide) (fun c_74 => ?_) (fun c_74 => absurd c_74 (fun z => bz_0.mp z hN))
    refine A_iload4 dX12_operand_82 ?_
    refine A_if_eq (tgt := 96) dX12_operand_84 (by decide) (fun c_84 => absurd c_84 (fun z => bz_0.mp z hU)) (fun c_84 => ?_)
    refine A_aload0 dX12_operand_87 ?_
    refine A_getI gf_X12_440 rfl dX12_operand_88 ?_
    refine A_bipush (v := 60) dX12_operand_91 (by decide) ?_
    refine A_icmp_eq (tgt := 118) dX12_operand_93 (by decide) (fun c_93 => ?_) (fun c_93 => ?_)
    · exact L_X12_operand_118 hw hB hn hn6 hm hm6 (Or.inr (Or.inl ⟨hU, c_93⟩))
    · refine A_iload2 dX12_operand_96 ?_
      refine A_if_ne (tgt := 109) dX12_operand_97 (by decide) (fun c_97 => ?_) (fun c_97 => absurd c_97 (fun z => bz_0.mp z hN))
      refine A_aload0 dX12_operand_109 ?_
      refine A_getI gf_X12_428 rfl dX12_operand_110 ?_
      refine A_bipush (v := 7) dX12_operand_113 (by decide) ?_
      refine A_icmp_lt (tgt := 126) dX12_operand_115 (by decide) (fun c_115 => ?_) (fun c_115 => ?_)
      · exact L_X12_operand_126 hw hB hn hn6 hm hm6 (fun z => by rcases z with z | z | z; exact z.1 hN; exact c_93 z.2; exact z.2 c_115)
      · exact L_X12_operand_118 hw hB hn hn6 hm hm6 (Or.inr (Or.inr ⟨Or.inl hN, c_115⟩))
  · skip
    refine A_istore4 dX12_operand_71 rfl (by decide) ?_
    refine A_iload2 dX12_operand_73 ?_
    refine A_if_ne (tgt := 82) dX12_operand_74 (by decide) (fun c_74 => ?_) (fun c_74 => absurd c_74 (fun z => bz_0.mp z hN))
    refine A_iload4 dX12_operand_82 ?_
    refine A_if_eq (tgt := 96) dX12_operand_84 (by decide) (fun c_84 => ?_) (fun c_84 => absurd c_84 (fun z => z (bz_f hU)))
    refine A_iload2 dX12_operand_96 ?_
    refine A_if_ne (tgt := 109) dX12_operand_97 (by decide) (fun c_97 => ?_) (fun c_97 => absurd c_97 (fun z => bz_0.mp z hN))
    refine A_aload0 dX12_operand_109 ?_
    refine A_getI gf_X12_428 rfl dX12_operand_110 ?_
    refine A_bipush (v := 7) dX12_operand_113 (by decide) ?_
    refine A_icmp_lt (tgt := 126) dX12_operand_115 (by decide) (fun c_115 => ?_) (fun c_115 => ?_)
    · exact L_X12_operand_126 hw hB hn hn6 hm hm6 (fun z => by rcases z with z | z | z; exact z.1 hN; exact hU z.1; exact z.2 c_115)
    · exact L_X12_operand_118 hw hB hn hn6 hm hm6 (Or.inr (Or.inr ⟨Or.inl hN, c_115⟩))
  · skip
    refine A_istore4 dX12_operand_71 rfl (by decide) ?_
    refine A_iload2 dX12_operand_73 ?_
    refine A_if_ne (tgt := 82) dX12_operand_74 (by decide) (fun c_74 => absurd c_74 (fun z => z (bz_f hN))) (fun c_74 => ?_)
    refine A_iload4 dX12_operand_77 ?_
    refine A_if_eq (tgt := 118) dX12_operand_79 (by decide) (fun c_79 => absurd c_79 (fun z => bz_0.mp z hU)) (fun c_79 => ?_)
    refine A_iload4 dX12_operand_82 ?_
    refine A_if_eq (tgt := 96) dX12_operand_84 (by decide) (fun c_84 => absurd c_84 (fun z => bz_0.mp z hU)) (fun c_84 => ?_)
    refine A_aload0 dX12_operand_87 ?_
    refine A_getI gf_X12_440 rfl dX12_operand_88 ?_
    refine A_bipush (v := 60) dX12_operand_91 (by decide) ?_
    refine A_icmp_eq (tgt := 118) dX12_operand_93 (by decide) (fun c_93 => ?_) (fun c_93 => ?_)
    · exact L_X12_operand_118 hw hB hn hn6 hm hm6 (Or.inr (Or.inl ⟨hU, c_93⟩))
    · refine A_iload2 dX12_operand_96 ?_
      refine A_if_ne (tgt := 109) dX12_operand_97 (by decide) (fun c_97 => absurd c_97 (fun z => z (bz_f hN))) (fun c_97 => ?_)
      refine A_aload0 dX12_operand_100 ?_
      refine A_getI gf_X12_197 rfl dX12_operand_101 ?_
      refine A_bipush (v := 40) dX12_operand_104 (by decide) ?_
      refine A_icmp_ne (tgt := 126) dX12_operand_106 (by decide) (fun c_106 => ?_) (fun c_106 => ?_)
      · exact L_X12_operand_126 hw hB hn hn6 hm hm6 (fun z => by rcases z with z | z | z; exact z.2 hU; exact c_93 z.2; rcases z.1 with y | y; exact hN y; exact c_106 y)
      · refine A_aload0 dX12_operand_109 ?_
        refine A_getI gf_X12_428 rfl dX12_operand_110 ?_
        refine A_bipush (v := 7) dX12_operand_113 (by decide) ?_
        refine A_icmp_lt (tgt := 126) dX12_operand_115 (by decide) (fun c_115 => ?_) (fun c_115 => ?_)
        · exact L_X12_operand_126 hw hB hn hn6 hm hm6 (fun z => by rcases z with z | z | z; exact z.2 hU; exact c_93 z.2; exact z.2 c_115)
        · exact L_X12_operand_118 hw hB hn hn6 hm hm6 (Or.inr (Or.inr ⟨Or.inr c_106, c_115⟩))
  · skip
    refine A_istore4 dX12_operand_71 rfl (by decide) ?_
    refine A_iload2 dX12_operand_73 ?_
    refine A_if_ne (tgt := 82) dX12_operand_74 (by decide) (fun c_74 => absurd c_74 (fun z => z (bz_f hN))) (fun c_74 => ?_)
    refine A_iload4 dX12_operand_77 ?_
    refine A_if_eq (tgt := 118) dX12_operand_79 (by decide) (fun c_79 => ?_) (fun c_79 => absurd c_79 (fun z => z (bz_f hU)))
    exact L_X12_operand_118 hw hB hn hn6 hm hm6 (Or.inl ⟨hN, hU⟩)
set_option maxHeartbeats 100000 in
set_option maxRecDepth 100000 in
theorem L_X12_operand_19 {l : Launch} {G : Wd} {x : Int32} {μ : Mem} {n w : Nat} {x2 x3 x4 : Option Value} (hw : WFx μ) (hB : WFb μ) (hn : μ.1 0 70 = nI n) (hn6 : n < 600) (hm : μ.1 0 74 = nI w) (hm6 : w < 600) : AW l G KM RX12 cX12_operand 5 3 (some .int) (Qi (fun v μ' => sp_operand x μ = (v, μ'))) 19 [some (.ref (gA G 0)), some (.int x), x2, x3, x4] [.int (bz (opN x μ))] μ := by
  refine A_istore2 dX12_operand_19 rfl (by decide) ?_
  refine A_aload0 dX12_operand_20 ?_
  refine A_vi0 lk_X12_289 yv_X12_isName dX12_operand_21 (rfl) (rfl) (T_X12_isName) (by decide) (Nat.le_of_ble_eq_true rfl) (fun r_21 μ_21 h_21 => ?_)
  obtain ⟨v_21, e_21⟩ := h_21
  replace v_21 := Eq.symm v_21
  subst v_21
  replace e_21 := e_21.symm
  subst e_21
  refine A_istore3 dX12_operand_24 rfl (by decide) ?_
  refine A_aload0 dX12_operand_25 ?_
  refine A_getI gf_X12_197 rfl dX12_operand_26 ?_
  refine A_iconst (v := 2) dX12_operand_29 (by decide) ?_
  refine A_icmp_eq (tgt := 66) dX12_operand_30 (by decide) (fun c_30 => ?_) (fun c_30 => ?_)
  · refine A_iconst (v := 1) dX12_operand_66 (by decide) ?_
    refine A_goto (tgt := 71) dX12_operand_67 (by decide) ?_
    have e1 : bz (opU μ) = 1 := bz_t (Or.inl c_30)
    refine A_val e1.symm ?_
    exact L_X12_operand_71 hw hB hn hn6 hm hm6
  · refine A_aload0 dX12_operand_33 ?_
    refine A_getI gf_X12_197 rfl dX12_operand_34 ?_
    refine A_bipush (v := 40) dX12_operand_37 (by decide) ?_
    refine A_icmp_eq (tgt := 66) dX12_operand_39 (by decide) (fun c_39 => ?_) (fun c_39 => ?_)
    · refine A_iconst (v := 1) dX12_operand_66 (by decide) ?_
      refine A_goto (tgt := 71) dX12_operand_67 (by decide) ?_
      have e1 : bz (opU μ) = 1 := bz_t (Or.inr (Or.inl c_39))
      refine A_val e1.symm ?_
      exact L_X12_operand_71 hw hB hn hn6 hm hm6
    · refine A_iload3 dX12_operand_42 ?_
      refine A_if_ne (tgt := 66) dX12_operand_43 (by decide) (fun c_43 => ?_) (fun c_43 => ?_)
      · refine A_iconst (v := 1) dX12_operand_66 (by decide) ?_
        refine A_goto (tgt := 71) dX12_operand_67 (by decide) ?_
        have e1 : bz (opU μ) = 1 := bz_t (Or.inr (Or.inr (Or.inl (bz_y c_43))))
        refine A_val e1.symm ?_
        exact L_X12_operand_71 hw hB hn hn6 hm hm6
      · refine A_aload0 dX12_operand_46 ?_
        refine A_ldc2 dX12_operand_47 kc_X12_258 ?_
        refine A_vi1 lk_X12_268 yv_X12_isWord dX12_operand_50 (rfl) (rfl) (T_X12_isWord) (by decide) (Nat.le_of_ble_eq_true rfl) (fun r_50 μ_50 h_50 => ?_)
        obtain ⟨v_50, e_50⟩ := h_50
        replace v_50 := Eq.symm v_50
        subst v_50
        replace e_50 := e_50.symm
        subst e_50
        refine A_if_ne (tgt := 66) dX12_operand_53 (by decide) (fun c_53 => ?_) (fun c_53 => ?_)
        · refine A_iconst (v := 1) dX12_operand_66 (by decide) ?_
          refine A_goto (tgt := 71) dX12_operand_67 (by decide) ?_
          have e1 : bz (opU μ) = 1 := bz_t (Or.inr (Or.inr (Or.inr (Or.inl (bz_y c_53)))))
          refine A_val e1.symm ?_
          exact L_X12_operand_71 hw hB hn hn6 hm hm6
        · refine A_aload0 dX12_operand_56 ?_
          refine A_ldc2 dX12_operand_57 kc_X12_260 ?_
          refine A_vi1 lk_X12_268 yv_X12_isWord dX12_operand_60 (rfl) (rfl) (T_X12_isWord) (by decide) (Nat.le_of_ble_eq_true rfl) (fun r_60 μ_60 h_60 => ?_)
          obtain ⟨v_60, e_60⟩ := h_60
          replace v_60 := Eq.symm v_60
          subst v_60
          replace e_60 := e_60.symm
          subst e_60
          refine A_if_eq (tgt := 70) dX12_operand_63 (by decide) (fun c_63 => ?_) (fun c_63 => ?_)
          · refine A_iconst (v := 0) dX12_operand_70 (by decide) ?_
            have e1 : bz (opU μ) = 0 := bz_f (fun z => by rcases z with z | z | z | z | z; exact c_30 z; exact c_39 z; exact bz_0.mp c_43 z; exact bz_0.mp c_53 z; exact bz_0.mp c_63 z)
            refine A_val e1.symm ?_
            exact L_X12_operand_71 hw hB hn hn6 hm hm6
          · refine A_iconst (v := 1) dX12_operand_66 (by decide) ?_
            refine A_goto (tgt := 71) dX12_operand_67 (by decide) ?_
            have e1 : bz (opU μ) = 1 := bz_t (Or.inr (Or.inr (Or.inr (Or.inr (bz_y c_63)))))
            refine A_val e1.symm ?_
            exact L_X12_operand_71 hw hB hn hn6 hm hm6
set_option maxHeartbeats 100000 in
set_option maxRecDepth 100000 in
theorem T_X12_operand {l : Launch} {G : Wd} {x : Int32} {n w : Nat} {μ : Mem} (hw : WFx μ) (hB : WFb μ) (hn : μ.1 0 70 = nI n) (hn6 : n < 600) (hm : μ.1 0 74 = nI w) (hm6 : w < 600) : Mt l G KM yX12_operand cX12_operand 5 (some .int) 3 [.ref (gA G 0), .int x] μ (Qi (fun v μ' => sp_operand x μ = (v, μ'))) := by
  refine Mt.of (own := RX12) (n := 3) (by decide) rfl [some (.ref (gA G 0)), some (.int x), none, none, none] rfl (Nat.le_of_ble_eq_true rfl) ?_
  refine A_iload1 dX12_operand_0 ?_
  refine A_if_ne (tgt := 18) dX12_operand_1 (by decide) (fun c_1 => ?_) (fun c_1 => ?_)
  · refine A_iconst (v := 0) dX12_operand_18 (by decide) ?_
    have e1 : bz (opN x μ) = 0 := bz_f (fun z => c_1 z.1)
    refine A_val e1.symm ?_
    exact L_X12_operand_19 hw hB hn hn6 hm hm6
  · refine A_aload0 dX12_operand_4 ?_
    refine A_ldc2 dX12_operand_5 kc_X12_266 ?_
    refine A_vi1 lk_X12_268 yv_X12_isWord dX12_operand_8 (rfl) (rfl) (T_X12_isWord) (by decide) (Nat.le_of_ble_eq_true rfl) (fun r_8 μ_8 h_8 => ?_)
    obtain ⟨v_8, e_8⟩ := h_8
    replace v_8 := Eq.symm v_8
    subst v_8
    replace e_8 := e_8.symm
    subst e_8
    refine A_if_eq (tgt := 18) dX12_operand_11 (by decide) (fun c_11 => ?_) (fun c_11 => ?_)
    · refine A_iconst (v := 0) dX12_operand_18 (by decide) ?_
      have e1 : bz (opN x μ) = 0 := bz_f (fun z => bz_0.mp c_11 z.2)
      refine A_val e1.symm ?_
      exact L_X12_operand_19 hw hB hn hn6 hm hm6
    · refine A_iconst (v := 1) dX12_operand_14 (by decide) ?_
      refine A_goto (tgt := 19) dX12_operand_15 (by decide) ?_
      have e1 : bz (opN x μ) = 1 := bz_t ⟨c_1, bz_y c_11⟩
      refine A_val e1.symm ?_
      exact L_X12_operand_19 hw hB hn hn6 hm hm6

/-! a box's line -/
theorem WFx.o {μ : Mem} {i k : Nat} {v : Int32} (h : WFx μ) (hi : 2 ≤ i) : WFx (wI μ i k v) := by
  obtain ⟨n, a, h⟩ := h
  refine ⟨n, a, ?_⟩
  rw [wI_row (by omega)]
  exact ⟨wI_row (by omega), h.n8, h.a8, (wI_ne (Or.inl (by omega))).trans h.n, (wI_ne (Or.inl (by omega))).trans h.a⟩
theorem WFx.l {μ : Mem} {i k : Nat} {v : Int64} (h : WFx μ) : WFx (wL μ i k v) := by
  obtain ⟨n, a, h⟩ := h
  exact ⟨n, a, h⟩
theorem WFx.rr {μ : Mem} {b q : Nat} {w : Int64} {lo hi z : Int32} (h : WFx μ) : WFx (sp_readRange μ b q w lo hi z) := by
  unfold sp_readRange
  exact (h.want.rn.want.rn.o (by decide)).o (by decide)
/-- what reading a range or a box leaves as it was: cells from 7 on and the hill that stands -/
def Rh (μ μ' : Mem) : Prop := (∀ i j, ¬ rdK i j → i ≠ 4 → i ≠ 5 → i ≠ 6 → μ'.1 i j = μ.1 i j) ∧ (∀ i j, ¬ (i = 0 ∧ j = 9) → i ≠ 2 → μ'.2.1 i j = μ.2.1 i j) ∧ μ'.2.2 = μ.2.2
theorem Rh.rf {μ : Mem} : Rh μ μ := ⟨fun _ _ _ _ _ _ => rfl, fun _ _ _ _ => rfl, rfl⟩
theorem Rh.r {a b c : Mem} (h : Rh a b) (g : Rd b c) : Rh a c := ⟨fun i j q q1 q2 q3 => (g.1 i j q).trans (h.1 i j q q1 q2 q3), fun i j q q1 => (g.2.1 i j q).trans (h.2.1 i j q q1), g.2.2.trans h.2.2⟩
theorem Rh.w {a b : Mem} {i k : Nat} {v : Int32} (h : Rh a b) (hi : i = 4 ∨ i = 5 ∨ i = 6) : Rh a (wI b i k v) := ⟨fun x j q q1 q2 q3 => (wI_ne (by omega)).trans (h.1 x j q q1 q2 q3), h.2.1, h.2.2⟩
theorem Rh.l {a b : Mem} {k : Nat} {v : Int64} (h : Rh a b) : Rh a (wL b 2 k v) := ⟨h.1, fun x j q q1 => (w2_ne (by omega)).trans (h.2.1 x j q q1), h.2.2⟩
theorem Rh.rr {a μ : Mem} {b q : Nat} {w : Int64} {lo hi z : Int32} (h : Rh a μ) : Rh a (sp_readRange μ b q w lo hi z) := by
  unfold sp_readRange
  exact ((h.r (Rd.rf.wa.rg.wa.rg)).w (by decide)).w (by decide)
def rbA (μ : Mem) : Mem := if isNm (tkn μ) then (if sp_boxOf (tkn μ) ((tkn μ).2.1 0 9) < 0 then tkn μ else sp_spoil (tkn μ) 3) else sp_spoil (tkn μ) 2
def rbB (μ : Mem) : Mem := wL (rbA μ) 2 (nbN μ) ((rbA μ).2.1 0 9)
def kdO (μ : Mem) : Int32 := if isWd μ 2002874989 then 0 else if isWd μ 1684106608 then 1 else if isWd μ 1918986606 then 2 else if isWd μ 2003398244 then 3 else -1
def rbC (μ : Mem) : Mem := wI (tkn (rbB μ)) 4 (nbN μ) (kdO (tkn (rbB μ)))
def rbD (μ : Mem) : Mem := if kdO (tkn (rbB μ)) < 0 then sp_spoil (rbC μ) 2 else rbC μ
def rbE (μ : Mem) : Mem := sp_readRange (tkn (rbD μ)) (nbN μ) 0 2053468783 (-5) 5 1
def rbF (μ : Mem) : Mem := sp_readRange (rbE μ) (nbN μ) 1 495740481637 (if (rbE μ).1 4 (nbN μ) = 3 then 10 else 8) (if (rbE μ).1 4 (nbN μ) = 3 then 10 else 12) 0
def rbH (μ : Mem) : Mem := sp_want (sp_readRange (sp_readRange (rbF μ) (nbN μ) 2 7102823 0 2 0) (nbN μ) 3 1953067621 0 3 0) 7300710
def rbJ (μ : Mem) : Mem := wI (sp_told (rbH μ) 0 9).2 6 (nbN μ) (sp_told (rbH μ) 0 9).1
def sp_readBox (μ : Mem) : Mem := if 0 < (rbB μ).1 0 2 then rbB μ else if 0 < (rbD μ).1 0 2 then rbD μ else if (rbJ μ).1 0 2 = 0 then wI (rbJ μ) 0 29 ((rbJ μ).1 0 29 + 1) else rbJ μ
theorem WFx.bA {μ : Mem} (h : WFx μ) : WFx (rbA μ) := by
  unfold rbA
  split
  · split
    · exact h.tn
    · exact h.tn.spoil
  · exact h.tn.spoil
theorem WFx.bB {μ : Mem} (h : WFx μ) : WFx (rbB μ) := h.bA.l
theorem WFx.bC {μ : Mem} (h : WFx μ) : WFx (rbC μ) := h.bB.tn.o (by decide)
theorem WFx.bD {μ : Mem} (h : WFx μ) : WFx (rbD μ) := by
  unfold rbD
  split
  · exact h.bC.spoil
  · exact h.bC
theorem WFx.bE {μ : Mem} (h : WFx μ) : WFx (rbE μ) := h.bD.tn.rr
theorem WFx.bF {μ : Mem} (h : WFx μ) : WFx (rbF μ) := h.bE.rr
theorem WFx.bH {μ : Mem} (h : WFx μ) : WFx (rbH μ) := h.bF.rr.rr.want
theorem WFx.bJ {μ : Mem} (h : WFx μ) : WFx (rbJ μ) := h.bH.told.o (by decide)
theorem WFx.readBox {μ : Mem} (h : WFx μ) : WFx (sp_readBox μ) := by
  unfold sp_readBox
  split
  · exact h.bB
  · split
    · exact h.bD
    · split
      · exact h.bJ.w (by decide)
      · exact h.bJ
theorem Rd.bA {a b : Mem} (h : Rd a b) : Rd a (rbA b) := by
  unfold rbA
  split
  · split
    · exact h.tk
    · exact h.tk.sp
  · exact h.tk.sp
theorem Rh.bB {μ : Mem} : Rh μ (rbB μ) := (Rh.rf.r Rd.rf.bA).l
theorem Rh.bC {μ : Mem} : Rh μ (rbC μ) := (Rh.bB.r Rd.rf.tk).w (by decide)
theorem Rh.bD {μ : Mem} : Rh μ (rbD μ) := by
  unfold rbD
  split
  · exact Rh.bC.r Rd.rf.sp
  · exact Rh.bC
theorem Rh.bH {μ : Mem} : Rh μ (rbH μ) := by
  have h1 : Rh μ (rbE μ) := (Rh.bD.r Rd.rf.tk).rr
  have h2 : Rh μ (rbF μ) := h1.rr
  exact h2.rr.rr.r Rd.rf.wa
theorem Rh.bJ {μ : Mem} : Rh μ (rbJ μ) := (Rh.bH.r Rd.rf.td).w (by decide)
set_option maxHeartbeats 4000000 in
set_option maxRecDepth 100000 in
theorem L_X12_readBox_232 {l : Launch} {G : Wd} {μ : Mem} (hw : WFx μ) (hb5 : nbN μ < 5) (hf1 : (rbB μ).1 0 2 ≤ 0) (hf2 : (rbD μ).1 0 2 ≤ 0) : AW l G KM RX12 cX12_readBox 2 5 none (Qv (fun μ' => μ' = sp_readBox μ)) 232 [some (.ref (gA G 0)), some (.int (nI (nbN μ)))] [] (sp_readRange (sp_readRange (rbF μ) (nbN μ) 2 7102823 0 2 0) (nbN μ) 3 1953067621 0 3 0) := by
  refine A_aload0 dX12_readBox_232 ?_
  refine A_ldc2 dX12_readBox_233 kc_X12_236 ?_
  refine A_vv1 lk_X12_278 yv_X12_want dX12_readBox_236 (rfl) (rfl) (T_X12_want hw.bF.rr.rr) (by decide) (Nat.le_of_ble_eq_true rfl) (fun μ_236 h_236 => ?_)
  replace h_236 := Eq.symm h_236
  subst h_236
  refine A_setm (μ' := rbH μ) rfl ?_
  refine A_aload0 dX12_readBox_239 ?_
  refine A_getR gf_X12_30 rfl dX12_readBox_240 ?_
  refine A_iload1 dX12_readBox_243 ?_
  refine A_aload0 dX12_readBox_244 ?_
  refine A_iconst (v := 0) dX12_readBox_245 (by decide) ?_
  refine A_bipush (v := 9) dX12_readBox_246 (by decide) ?_
  refine A_vi2 lk_X12_286 yv_X12_told dX12_readBox_248 (rfl) (rfl) (T_X12_told hw.bH) (by decide) (Nat.le_of_ble_eq_true rfl) (fun r_248 μ_248 h_248 => ?_)
  refine A_iast (rfl) (vp_in_nI (by omega) (by omega)) dX12_readBox_251 ?_
  rw [nI_c (by omega)]
  have e51 : wI μ_248 6 (nbN μ) r_248 = rbJ μ := by unfold rbJ; rw [h_248]
  rw [e51]
  refine A_aload0 dX12_readBox_252 ?_
  refine A_getI gf_X12_210 rfl dX12_readBox_253 ?_
  refine A_if_ne (tgt := 269) dX12_readBox_256 (by decide) (fun c_256 => ?_) (fun c_256 => ?_)
  · refine A_vret dX12_readBox_269 ?_
    exact ⟨rfl, ((if_neg (Int32.not_lt.mpr hf1)).trans ((if_neg (Int32.not_lt.mpr hf2)).trans (if_neg c_256))).symm⟩
  · refine A_aload0 dX12_readBox_259 ?_
    refine A_dup dX12_readBox_260 rfl ?_
    refine A_getI gf_X12_275 rfl dX12_readBox_261 ?_
    refine A_iconst (v := 1) dX12_readBox_264 (by decide) ?_
    refine A_iadd dX12_readBox_265 ?_
    refine A_putI gf_X12_275 rfl dX12_readBox_266 ?_
    refine A_vret dX12_readBox_269 ?_
    exact ⟨rfl, ((if_neg (Int32.not_lt.mpr hf1)).trans ((if_neg (Int32.not_lt.mpr hf2)).trans (if_pos c_256))).symm⟩
set_option maxHeartbeats 4000000 in
set_option maxRecDepth 100000 in
theorem L_X12_readBox_208 {l : Launch} {G : Wd} {μ : Mem} (hw : WFx μ) (hb5 : nbN μ < 5) (hf1 : (rbB μ).1 0 2 ≤ 0) (hf2 : (rbD μ).1 0 2 ≤ 0) : AW l G KM RX12 cX12_readBox 2 5 none (Qv (fun μ' => μ' = sp_readBox μ)) 208 [some (.ref (gA G 0)), some (.int (nI (nbN μ)))] [] (rbF μ) := by
  refine A_aload0 dX12_readBox_208 ?_
  refine A_iload1 dX12_readBox_209 ?_
  refine A_iconst (v := 2) dX12_readBox_210 (by decide) ?_
  refine A_ldc2 dX12_readBox_211 kc_X12_232 ?_
  refine A_iconst (v := 0) dX12_readBox_214 (by decide) ?_
  refine A_iconst (v := 2) dX12_readBox_215 (by decide) ?_
  refine A_iconst (v := 0) dX12_readBox_216 (by decide) ?_
  refine A_vv6 lk_X12_297 yv_X12_readRange dX12_readBox_217 (rfl) (rfl) (T_X12_readRange (q := 2) hw.bF hb5 (by decide)) (by decide) (Nat.le_of_ble_eq_true rfl) (fun μ_217 h_217 => ?_)
  replace h_217 := Eq.symm h_217
  subst h_217
  refine A_aload0 dX12_readBox_220 ?_
  refine A_iload1 dX12_readBox_221 ?_
  refine A_iconst (v := 3) dX12_readBox_222 (by decide) ?_
  refine A_ldc2 dX12_readBox_223 kc_X12_234 ?_
  refine A_iconst (v := 0) dX12_readBox_226 (by decide) ?_
  refine A_iconst (v := 3) dX12_readBox_227 (by decide) ?_
  refine A_iconst (v := 0) dX12_readBox_228 (by decide) ?_
  refine A_vv6 lk_X12_297 yv_X12_readRange dX12_readBox_229 (rfl) (rfl) (T_X12_readRange (q := 3) hw.bF.rr hb5 (by decide)) (by decide) (Nat.le_of_ble_eq_true rfl) (fun μ_229 h_229 => ?_)
  replace h_229 := Eq.symm h_229
  subst h_229
  exact L_X12_readBox_232 hw hb5 hf1 hf2
set_option maxHeartbeats 4000000 in
set_option maxRecDepth 100000 in
theorem L_X12_readBox_164 {l : Launch} {G : Wd} {μ : Mem} (hw : WFx μ) (hb5 : nbN μ < 5) (hf1 : (rbB μ).1 0 2 ≤ 0) (hf2 : (rbD μ).1 0 2 ≤ 0) : AW l G KM RX12 cX12_readBox 2 5 none (Qv (fun μ' => μ' = sp_readBox μ)) 164 [some (.ref (gA G 0)), some (.int (nI (nbN μ)))] [] (rbE μ) := by
  refine A_aload0 dX12_readBox_164 ?_
  refine A_iload1 dX12_readBox_165 ?_
  refine A_iconst (v := 1) dX12_readBox_166 (by decide) ?_
  refine A_ldc2 dX12_readBox_167 kc_X12_230 ?_
  refine A_aload0 dX12_readBox_170 ?_
  refine A_getR gf_X12_24 rfl dX12_readBox_171 ?_
  refine A_iload1 dX12_readBox_174 ?_
  refine A_iald (rfl) (vp_in_nI (by omega) (by omega)) dX12_readBox_175 ?_
  rw [nI_c (by omega)]
  refine A_iconst (v := 3) dX12_readBox_176 (by decide) ?_
  refine A_icmp_ne (tgt := 185) dX12_readBox_177 (by decide) (fun c_177 => ?_) (fun c_177 => ?_)
  · have hc : ¬ (rbE μ).1 4 (nbN μ) = 3 := c_177
    refine A_bipush (v := 8) dX12_readBox_185 (by decide) ?_
    refine A_aload0 dX12_readBox_187 ?_
    refine A_getR gf_X12_24 rfl dX12_readBox_188 ?_
    refine A_iload1 dX12_readBox_191 ?_
    refine A_iald (rfl) (vp_in_nI (by omega) (by omega)) dX12_readBox_192 ?_
    rw [nI_c (by omega)]
    refine A_iconst (v := 3) dX12_readBox_193 (by decide) ?_
    refine A_icmp_ne (tgt := 202) dX12_readBox_194 (by decide) (fun c_194 => ?_) (fun c_194 => absurd c_194 (fun q => hc q))
    refine A_bipush (v := 12) dX12_readBox_202 (by decide) ?_
    refine A_iconst (v := 0) dX12_readBox_204 (by decide) ?_
    refine A_vv6 lk_X12_297 yv_X12_readRange dX12_readBox_205 (rfl) (rfl) (T_X12_readRange (q := 1) hw.bE hb5 (by decide)) (by decide) (Nat.le_of_ble_eq_true rfl) (fun μ_205 h_205 => ?_)
    have e5 : sp_readRange (rbE μ) (nbN μ) 1 495740481637 8 12 0 = rbF μ := by unfold rbF; rw [if_neg hc, if_neg hc]
    rw [h_205, e5]
    exact L_X12_readBox_208 hw hb5 hf1 hf2
  · have hc : (rbE μ).1 4 (nbN μ) = 3 := c_177
    refine A_bipush (v := 10) dX12_readBox_180 (by decide) ?_
    refine A_goto (tgt := 187) dX12_readBox_182 (by decide) ?_
    refine A_aload0 dX12_readBox_187 ?_
    refine A_getR gf_X12_24 rfl dX12_readBox_188 ?_
    refine A_iload1 dX12_readBox_191 ?_
    refine A_iald (rfl) (vp_in_nI (by omega) (by omega)) dX12_readBox_192 ?_
    rw [nI_c (by omega)]
    refine A_iconst (v := 3) dX12_readBox_193 (by decide) ?_
    refine A_icmp_ne (tgt := 202) dX12_readBox_194 (by decide) (fun c_194 => absurd c_194 (fun q => q hc)) (fun c_194 => ?_)
    refine A_bipush (v := 10) dX12_readBox_197 (by decide) ?_
    refine A_goto (tgt := 204) dX12_readBox_199 (by decide) ?_
    refine A_iconst (v := 0) dX12_readBox_204 (by decide) ?_
    refine A_vv6 lk_X12_297 yv_X12_readRange dX12_readBox_205 (rfl) (rfl) (T_X12_readRange (q := 1) hw.bE hb5 (by decide)) (by decide) (Nat.le_of_ble_eq_true rfl) (fun μ_205 h_205 => ?_)
    have e5 : sp_readRange (rbE μ) (nbN μ) 1 495740481637 10 10 0 = rbF μ := by unfold rbF; rw [if_pos hc, if_pos hc]
    rw [h_205, e5]
    exact L_X12_readBox_208 hw hb5 hf1 hf2
set_option maxHeartbeats 4000000 in
set_option maxRecDepth 100000 in
theorem L_X12_readBox_139 {l : Launch} {G : Wd} {μ : Mem} (hw : WFx μ) (hb5 : nbN μ < 5) (hf1 : (rbB μ).1 0 2 ≤ 0) : AW l G KM RX12 cX12_readBox 2 5 none (Qv (fun μ' => μ' = sp_readBox μ)) 139 [some (.ref (gA G 0)), some (.int (nI (nbN μ)))] [] (rbD μ) := by
  refine A_aload0 dX12_readBox_139 ?_
  refine A_getI gf_X12_210 rfl dX12_readBox_140 ?_
  refine A_if_le (tgt := 147) dX12_readBox_143 (by decide) (fun c_143 => ?_) (fun c_143 => ?_)
  · refine A_aload0 dX12_readBox_147 ?_
    refine A_vv0 lk_X12_213 yv_X12_token dX12_readBox_148 (rfl) (rfl) (T_X12_tkn hw.bD) (by decide) (Nat.le_of_ble_eq_true rfl) (fun μ_148 h_148 => ?_)
    replace h_148 := Eq.symm h_148
    subst h_148
    refine A_aload0 dX12_readBox_151 ?_
    refine A_iload1 dX12_readBox_152 ?_
    refine A_iconst (v := 0) dX12_readBox_153 (by decide) ?_
    refine A_ldc2 dX12_readBox_154 kc_X12_226 ?_
    refine A_bipush (v := -5) dX12_readBox_157 (by decide) ?_
    refine A_iconst (v := 5) dX12_readBox_159 (by decide) ?_
    refine A_iconst (v := 1) dX12_readBox_160 (by decide) ?_
    refine A_vv6 lk_X12_297 yv_X12_readRange dX12_readBox_161 (rfl) (rfl) (T_X12_readRange (q := 0) hw.bD.tn hb5 (by decide)) (by decide) (Nat.le_of_ble_eq_true rfl) (fun μ_161 h_161 => ?_)
    replace h_161 := Eq.symm h_161
    subst h_161
    exact L_X12_readBox_164 hw hb5 hf1 c_143
  · refine A_vret dX12_readBox_146 ?_
    exact ⟨rfl, ((if_neg (Int32.not_lt.mpr hf1)).trans (if_pos (Int32.not_le.mp c_143))).symm⟩
set_option maxHeartbeats 4000000 in
set_option maxRecDepth 100000 in
theorem L_X12_readBox_124 {l : Launch} {G : Wd} {μ : Mem} (hw : WFx μ) (hb5 : nbN μ < 5) (hf1 : (rbB μ).1 0 2 ≤ 0) : AW l G KM RX12 cX12_readBox 2 5 none (Qv (fun μ' => μ' = sp_readBox μ)) 124 [some (.ref (gA G 0)), some (.int (nI (nbN μ)))] [.int (kdO (tkn (rbB μ))), .int (nI (nbN μ)), .ref (gA G 4)] (tkn (rbB μ)) := by
  refine A_iast (rfl) (vp_in_nI (by omega) (by omega)) dX12_readBox_124 ?_
  rw [nI_c (by omega)]
  refine A_setm (μ' := rbC μ) rfl ?_
  refine A_aload0 dX12_readBox_125 ?_
  refine A_getR gf_X12_24 rfl dX12_readBox_126 ?_
  refine A_iload1 dX12_readBox_129 ?_
  refine A_iald (rfl) (vp_in_nI (by omega) (by omega)) dX12_readBox_130 ?_
  rw [nI_c (by omega), show (rbC μ).1 4 (nbN μ) = kdO (tkn (rbB μ)) from wI_same]
  refine A_if_ge (tgt := 139) dX12_readBox_131 (by decide) (fun c_131 => ?_) (fun c_131 => ?_)
  · have e1 : rbD μ = rbC μ := if_neg (Int32.not_lt.mpr c_131)
    rw [← e1]
    exact L_X12_readBox_139 hw hb5 hf1
  · refine A_aload0 dX12_readBox_134 ?_
    refine A_iconst (v := 2) dX12_readBox_135 (by decide) ?_
    refine A_vv1 lk_X12_272 yv_X12_spoil dX12_readBox_136 (rfl) (rfl) (T_X12_spoil) (by decide) (Nat.le_of_ble_eq_true rfl) (fun μ_136 h_136 => ?_)
    have e1 : rbD μ = sp_spoil (rbC μ) 2 := if_pos (Int32.not_le.mp c_131)
    rw [h_136, ← e1]
    exact L_X12_readBox_139 hw hb5 hf1
set_option maxHeartbeats 4000000 in
set_option maxRecDepth 100000 in
theorem L_X12_readBox_40 {l : Launch} {G : Wd} {μ : Mem} (hw : WFx μ) (hb5 : nbN μ < 5) : AW l G KM RX12 cX12_readBox 2 5 none (Qv (fun μ' => μ' = sp_readBox μ)) 40 [some (.ref (gA G 0)), some (.int (nI (nbN μ)))] [] (rbA μ) := by
  refine A_aload0 dX12_readBox_40 ?_
  refine A_getR gf_X12_17 rfl dX12_readBox_41 ?_
  refine A_iload1 dX12_readBox_44 ?_
  refine A_aload0 dX12_readBox_45 ?_
  refine A_getL gf_X12_190 rfl dX12_readBox_46 ?_
  refine A_last (rfl) (vp_in_nI (by omega) (by omega)) dX12_readBox_49 ?_
  rw [nI_c (by omega)]
  refine A_setm (μ' := rbB μ) rfl ?_
  refine A_aload0 dX12_readBox_50 ?_
  refine A_getI gf_X12_210 rfl dX12_readBox_51 ?_
  refine A_if_le (tgt := 58) dX12_readBox_54 (by decide) (fun c_54 => ?_) (fun c_54 => ?_)
  · refine A_aload0 dX12_readBox_58 ?_
    refine A_vv0 lk_X12_213 yv_X12_token dX12_readBox_59 (rfl) (rfl) (T_X12_tkn hw.bB) (by decide) (Nat.le_of_ble_eq_true rfl) (fun μ_59 h_59 => ?_)
    replace h_59 := Eq.symm h_59
    subst h_59
    refine A_aload0 dX12_readBox_62 ?_
    refine A_getR gf_X12_24 rfl dX12_readBox_63 ?_
    refine A_iload1 dX12_readBox_66 ?_
    refine A_aload0 dX12_readBox_67 ?_
    refine A_ldc2 dX12_readBox_68 kc_X12_218 ?_
    refine A_vi1 lk_X12_268 yv_X12_isWord dX12_readBox_71 (rfl) (rfl) (T_X12_isWord) (by decide) (Nat.le_of_ble_eq_true rfl) (fun r_71 μ_71 h_71 => ?_)
    obtain ⟨v_71, e_71⟩ := h_71
    replace v_71 := Eq.symm v_71
    subst v_71
    replace e_71 := e_71.symm
    subst e_71
    refine A_if_eq (tgt := 81) dX12_readBox_74 (by decide) (fun c_74 => ?_) (fun c_74 => ?_)
    · refine A_aload0 dX12_readBox_81 ?_
      refine A_ldc2 dX12_readBox_82 kc_X12_220 ?_
      refine A_vi1 lk_X12_268 yv_X12_isWord dX12_readBox_85 (rfl) (rfl) (T_X12_isWord) (by decide) (Nat.le_of_ble_eq_true rfl) (fun r_85 μ_85 h_85 => ?_)
      obtain ⟨v_85, e_85⟩ := h_85
      replace v_85 := Eq.symm v_85
      subst v_85
      replace e_85 := e_85.symm
      subst e_85
      refine A_if_eq (tgt := 95) dX12_readBox_88 (by decide) (fun c_88 => ?_) (fun c_88 => ?_)
      · refine A_aload0 dX12_readBox_95 ?_
        refine A_ldc2 dX12_readBox_96 kc_X12_222 ?_
        refine A_vi1 lk_X12_268 yv_X12_isWord dX12_readBox_99 (rfl) (rfl) (T_X12_isWord) (by decide) (Nat.le_of_ble_eq_true rfl) (fun r_99 μ_99 h_99 => ?_)
        obtain ⟨v_99, e_99⟩ := h_99
        replace v_99 := Eq.symm v_99
        subst v_99
        replace e_99 := e_99.symm
        subst e_99
        refine A_if_eq (tgt := 109) dX12_readBox_102 (by decide) (fun c_102 => ?_) (fun c_102 => ?_)
        · refine A_aload0 dX12_readBox_109 ?_
          refine A_ldc2 dX12_readBox_110 kc_X12_224 ?_
          refine A_vi1 lk_X12_268 yv_X12_isWord dX12_readBox_113 (rfl) (rfl) (T_X12_isWord) (by decide) (Nat.le_of_ble_eq_true rfl) (fun r_113 μ_113 h_113 => ?_)
          obtain ⟨v_113, e_113⟩ := h_113
          replace v_113 := Eq.symm v_113
          subst v_113
          replace e_113 := e_113.symm
          subst e_113
          refine A_if_eq (tgt := 123) dX12_readBox_116 (by decide) (fun c_116 => ?_) (fun c_116 => ?_)
          · refine A_iconst (v := -1) dX12_readBox_123 (by decide) ?_
            have e1 : kdO (tkn (rbB μ)) = -1 := by unfold kdO; rw [if_neg (bz_0.mp c_74), if_neg (bz_0.mp c_88), if_neg (bz_0.mp c_102), if_neg (bz_0.mp c_116)]
            rw [← e1]
            exact L_X12_readBox_124 hw hb5 c_54
          · refine A_iconst (v := 3) dX12_readBox_119 (by decide) ?_
            refine A_goto (tgt := 124) dX12_readBox_120 (by decide) ?_
            have e1 : kdO (tkn (rbB μ)) = 3 := by unfold kdO; rw [if_neg (bz_0.mp c_74), if_neg (bz_0.mp c_88), if_neg (bz_0.mp c_102), if_pos (Decidable.not_not.mp (fun z => c_116 (bz_f z)))]
            rw [← e1]
            exact L_X12_readBox_124 hw hb5 c_54
        · refine A_iconst (v := 2) dX12_readBox_105 (by decide) ?_
          refine A_goto (tgt := 124) dX12_readBox_106 (by decide) ?_
          have e1 : kdO (tkn (rbB μ)) = 2 := by unfold kdO; rw [if_neg (bz_0.mp c_74), if_neg (bz_0.mp c_88), if_pos (Decidable.not_not.mp (fun z => c_102 (bz_f z)))]
          rw [← e1]
          exact L_X12_readBox_124 hw hb5 c_54
      · refine A_iconst (v := 1) dX12_readBox_91 (by decide) ?_
        refine A_goto (tgt := 124) dX12_readBox_92 (by decide) ?_
        have e1 : kdO (tkn (rbB μ)) = 1 := by unfold kdO; rw [if_neg (bz_0.mp c_74), if_pos (Decidable.not_not.mp (fun z => c_88 (bz_f z)))]
        rw [← e1]
        exact L_X12_readBox_124 hw hb5 c_54
    · refine A_iconst (v := 0) dX12_readBox_77 (by decide) ?_
      refine A_goto (tgt := 124) dX12_readBox_78 (by decide) ?_
      have e1 : kdO (tkn (rbB μ)) = 0 := by unfold kdO; rw [if_pos (Decidable.not_not.mp (fun z => c_74 (bz_f z)))]
      rw [← e1]
      exact L_X12_readBox_124 hw hb5 c_54
  · refine A_vret dX12_readBox_57 ?_
    exact ⟨rfl, (if_pos (Int32.not_le.mp c_54)).symm⟩
set_option maxHeartbeats 4000000 in
set_option maxRecDepth 100000 in
theorem T_X12_readBox {l : Launch} {G : Wd} {μ : Mem} (hw : WFx μ) (hn0 : WFn μ) (hb5 : nbN μ < 5) : Mt l G KM yX12_readBox cX12_readBox 2 none 5 [.ref (gA G 0)] μ (Qv (fun μ' => μ' = sp_readBox μ)) := by
  refine Mt.of (own := RX12) (n := 1) (by decide) rfl [some (.ref (gA G 0)), none] rfl (Nat.le_of_ble_eq_true rfl) ?_
  refine A_aload0 dX12_readBox_0 ?_
  refine A_vv0 lk_X12_213 yv_X12_token dX12_readBox_1 (rfl) (rfl) (T_X12_tkn hw) (by decide) (Nat.le_of_ble_eq_true rfl) (fun μ_1 h_1 => ?_)
  replace h_1 := Eq.symm h_1
  subst h_1
  refine A_aload0 dX12_readBox_4 ?_
  refine A_getI gf_X12_275 rfl dX12_readBox_5 ?_
  rw [show (tkn μ).1 0 29 = nI (nbN μ) from (Rd.rf.tk.1 0 29 (by decide)).trans hn0.t.2]
  refine A_istore1 dX12_readBox_8 rfl (by decide) ?_
  refine A_aload0 dX12_readBox_9 ?_
  refine A_vi0 lk_X12_289 yv_X12_isName dX12_readBox_10 (rfl) (rfl) (T_X12_isName) (by decide) (Nat.le_of_ble_eq_true rfl) (fun r_10 μ_10 h_10 => ?_)
  obtain ⟨v_10, e_10⟩ := h_10
  replace v_10 := Eq.symm v_10
  subst v_10
  replace e_10 := e_10.symm
  subst e_10
  refine A_if_ne (tgt := 24) dX12_readBox_13 (by decide) (fun c_13 => ?_) (fun c_13 => ?_)
  · refine A_aload0 dX12_readBox_24 ?_
    refine A_aload0 dX12_readBox_25 ?_
    refine A_getL gf_X12_190 rfl dX12_readBox_26 ?_
    refine A_vi1 lk_X12_293 yv_X12_boxOf dX12_readBox_29 (rfl) (rfl) (T_X12_boxOf (Rd.rf.tk.n hn0)) (by decide) (Nat.le_of_ble_eq_true rfl) (fun r_29 μ_29 h_29 => ?_)
    obtain ⟨v_29, e_29⟩ := h_29
    replace v_29 := Eq.symm v_29
    subst v_29
    replace e_29 := e_29.symm
    subst e_29
    refine A_if_lt (tgt := 40) dX12_readBox_32 (by decide) (fun c_32 => ?_) (fun c_32 => ?_)
    · have hn : isNm (tkn μ) := Decidable.not_not.mp (fun z => c_13 (bz_f z))
      have e1 : rbA μ = tkn μ := (if_pos hn).trans (if_pos c_32)
      rw [← e1]
      exact L_X12_readBox_40 hw hb5
    · refine A_aload0 dX12_readBox_35 ?_
      refine A_iconst (v := 3) dX12_readBox_36 (by decide) ?_
      refine A_vv1 lk_X12_272 yv_X12_spoil dX12_readBox_37 (rfl) (rfl) (T_X12_spoil) (by decide) (Nat.le_of_ble_eq_true rfl) (fun μ_37 h_37 => ?_)
      have hn : isNm (tkn μ) := Decidable.not_not.mp (fun z => c_13 (bz_f z))
      have e1 : rbA μ = sp_spoil (tkn μ) 3 := (if_pos hn).trans (if_neg c_32)
      rw [h_37, ← e1]
      exact L_X12_readBox_40 hw hb5
  · refine A_aload0 dX12_readBox_16 ?_
    refine A_iconst (v := 2) dX12_readBox_17 (by decide) ?_
    refine A_vv1 lk_X12_272 yv_X12_spoil dX12_readBox_18 (rfl) (rfl) (T_X12_spoil) (by decide) (Nat.le_of_ble_eq_true rfl) (fun μ_18 h_18 => ?_)
    refine A_goto (tgt := 40) dX12_readBox_21 (by decide) ?_
    have e1 : rbA μ = sp_spoil (tkn μ) 2 := if_neg (bz_0.mp c_13)
    rw [h_18, ← e1]
    exact L_X12_readBox_40 hw hb5

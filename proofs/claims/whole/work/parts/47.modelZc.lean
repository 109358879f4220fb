/-! a sign behind an operand -/
def sgW (m : Mem) : Int32 := if m.1 0 6 = 43 then 26 else if m.1 0 6 = 45 then 27 else if m.1 0 6 = 42 then 28 else if m.1 0 6 = 61 then 23 else if m.1 0 6 = 60 then 24 else if m.1 0 6 = 62 then 25 else if isWd m 6385252 then 21 else if isWd m 28530 then 20 else -1
def sgD (a : Mem) : Mem := wI (wI a 0 74 (a.1 0 74 - 1)) 0 75 ((wI a 0 74 (a.1 0 74 - 1)).1 0 75 - 1)
def sgF (a : Mem) : Mem := if rkO (sp_upper a) = 23 then sp_spoil a 2 else a
def sgE (m : Mem) (v : Int32) : Mem := if rkO v = 23 then sgF (sp_settle m 26) else sp_settle m (rkO v)
def sgN (v : Int32) : Int32 := if v = 21 ∨ v = 20 then 0 else 1
def sgG (m : Mem) (v : Int32) : Int32 × Mem := if 0 < (sgE m v).1 0 2 then (2, sgE m v) else (sgN v, tkn (sp_hold (sgE m v) v))
def sp_sign (m : Mem) : Int32 × Mem := if m.1 0 6 = 41 ∧ ¬ opQ (m.1 46) (wtN m) = 0 then (2, tkn (sgD (sp_settle m 0))) else if sgW m < 0 then (2, sp_spoil m 2) else sgG m (sgW m)
theorem WFx.of {m m' : Mem} (h : WFx m) (h1 : m'.1 1 = m.1 1) (h5 : m'.1 0 5 = m.1 0 5) (h4 : m'.1 0 4 = m.1 0 4) : WFx m' := by
  obtain ⟨n, a, h⟩ := h
  exact ⟨n, a, rfl, h.n8, h.a8, h5.trans h.n, h4.trans h.a⟩
/-- what settling leaves: w' wait yet; those above have gone to the notes, the last first -/
def Stl (a : Int32) (w n : Nat) (m R : Mem) (w' : Nat) : Prop := w' ≤ w ∧ R.1 0 74 = nI w' ∧ R.1 0 70 = nI (n + (w - w')) ∧ R.2 = m.2 ∧ (∀ i j, i ≠ 40 → i ≠ 41 → ¬ (i = 0 ∧ (j = 70 ∨ j = 74 ∨ j = 75)) → R.1 i j = m.1 i j) ∧ (∀ j, j < n → R.1 40 j = m.1 40 j ∧ R.1 41 j = m.1 41 j) ∧ (∀ j, j < w - w' → R.1 40 (n + j) = m.1 46 (w - 1 - j) ∧ R.1 41 (n + j) = 0) ∧ (w' = 0 ∨ m.1 46 (w' - 1) = 30 ∨ m.1 46 (w' - 1) < a) ∧ (∀ j, w' ≤ j → j < w → ¬ (m.1 46 j = 30 ∨ m.1 46 j < a))
theorem stQ_r (a : Int32) : ∀ (w n : Nat) (m : Mem), m.1 0 74 = nI w → m.1 0 70 = nI n → n + w ≤ 600 → ∃ w', Stl a w n m (stQ a w m) w' := by
  intro w
  induction w with
  | zero => intro n m h1 h2 h3; exact ⟨0, Nat.le_refl _, h1, by rw [stQ]; exact h2, rfl, fun _ _ _ _ _ => rfl, fun _ _ => ⟨rfl, rfl⟩, fun j hj => absurd hj (by omega), Or.inl rfl, fun j _ hj => absurd hj (by omega)⟩
  | succ w ih =>
    intro n m h1 h2 h3
    unfold stQ
    split
    · rename_i q
      refine ⟨w + 1, Nat.le_refl _, h1, by rw [Nat.sub_self]; exact h2, rfl, fun _ _ _ _ _ => rfl, fun _ _ => ⟨rfl, rfl⟩, fun j hj => absurd hj (by omega), Or.inr q, fun j _ hj => absurd hj (by omega)⟩
    · rename_i q
      obtain ⟨p1, p2, p3, p4, p5, p6, p7⟩ := popAt_r (w := w) h2 (by omega)
      obtain ⟨w', q1, q2, q3, q4, q5, q6, q7, q8, q9⟩ := ih (n + 1) (popAt w m) p1 p2 (by omega)
      refine ⟨w', by omega, q2, ?_, q4.trans p3, fun i j a1 a2 a3 => (q5 i j a1 a2 a3).trans (p7 i j a1 a2 a3), fun j hj => ?_, fun j hj => ?_, ?_, fun j j1 j2 => ?_⟩
      · rw [q3]; congr 1; omega
      · obtain ⟨b1, b2⟩ := q6 j (by omega)
        rw [b1, b2, p5, p6]
        unfold upd
        rw [if_neg (by omega), if_neg (by omega)]
        exact ⟨rfl, rfl⟩
      · cases j with
        | zero =>
          obtain ⟨b1, b2⟩ := q6 n (by omega)
          rw [Nat.add_zero, b1, b2, p5, p6]
          unfold upd
          rw [if_pos rfl, if_pos rfl]
          exact ⟨rfl, rfl⟩
        | succ j =>
          obtain ⟨b1, b2⟩ := q7 j (by omega)
          rw [show n + (j + 1) = n + 1 + j by omega, b1, b2, p4]
          exact ⟨congrArg (m.1 46) (by omega), rfl⟩
      · rcases q8 with b | b | b
        · exact Or.inl b
        · exact Or.inr (Or.inl ((p4 _).symm.trans b))
        · exact Or.inr (Or.inr (by rw [← p4]; exact b))
      · by_cases e : j = w
        · rw [e]; exact q
        · have := q9 j j1 (by omega)
          rw [p4] at this
          exact this
theorem settle_r {a : Int32} {w n : Nat} {m : Mem} (h1 : m.1 0 74 = nI w) (h2 : m.1 0 70 = nI n) (h3 : n + w ≤ 600) : ∃ w', Stl a w n m (sp_settle m a) w' := by
  unfold sp_settle
  rw [wtN_e h1 (by omega)]
  exact stQ_r a w n m h1 h2 h3
theorem Stl.x {a : Int32} {w n w' : Nat} {m R : Mem} (h : Stl a w n m R w') (hx : WFx m) : WFx R := by
  obtain ⟨-, -, -, -, q, -⟩ := h
  exact hx.of (funext fun j => q 1 j (by decide) (by decide) (by omega)) (q 0 5 (by decide) (by decide) (by decide)) (q 0 4 (by decide) (by decide) (by decide))
theorem WFx.sD {m : Mem} (h : WFx m) : WFx (sgD m) := (h.w (by decide)).w (by decide)
theorem WFx.sF {m : Mem} (h : WFx m) : WFx (sgF m) := by
  unfold sgF
  split
  · exact h.spoil
  · exact h
theorem Rd.sF {m : Mem} : Rd m (sgF m) := by
  unfold sgF
  split
  · exact Rd.rf.sp
  · exact Rd.rf
theorem sgE_w {v : Int32} {w n : Nat} {m : Mem} (hx : WFx m) (h1 : m.1 0 74 = nI w) (h2 : m.1 0 70 = nI n) (h3 : n + w ≤ 600) : WFx (sgE m v) ∧ ∃ w', w' ≤ w ∧ (sgE m v).1 0 74 = nI w' ∧ (sgE m v).1 0 70 = nI (n + (w - w')) := by
  unfold sgE
  split
  · obtain ⟨w', hs⟩ := settle_r (a := 26) h1 h2 h3
    refine ⟨(hs.x hx).sF, w', hs.1, ?_, ?_⟩
    · rw [Rd.sF.1 0 74 (by decide)]; exact hs.2.1
    · rw [Rd.sF.1 0 70 (by decide)]; exact hs.2.2.1
  · obtain ⟨w', hs⟩ := settle_r (a := rkO v) h1 h2 h3
    exact ⟨hs.x hx, w', hs.1, hs.2.1, hs.2.2.1⟩
set_option maxHeartbeats 100000 in
set_option maxRecDepth 100000 in
theorem L_X12_sign_217 {l : Launch} {G : Wd} {μ : Mem} {n w : Nat} {m : Mem} {v : Int32} {w2 : Nat} (h1 : ¬ (μ.1 0 6 = 41 ∧ ¬ opQ (μ.1 46) (wtN μ) = 0)) (h2 : ¬ sgW μ < 0) (ev : v = sgW μ) (em : m = sgE μ (sgW μ)) (hwm : WFx m) (hm2 : m.1 0 74 = nI w2) (hm6 : w2 < 600) : AW l G KM RX12 cX12_sign 2 4 (some .int) (Qi (fun v μ' => sp_sign μ = (v, μ'))) 217 [some (.ref (gA G 0)), some (.int v)] [] m := by
  refine A_aload0 dX12_sign_217 ?_
  refine A_getI gf_X12_210 rfl dX12_sign_218 ?_
  refine A_if_le (tgt := 226) dX12_sign_221 (by decide) (fun c_221 => ?_) (fun c_221 => ?_)
  · refine A_aload0 dX12_sign_226 ?_
    refine A_iload1 dX12_sign_227 ?_
    refine A_vv1 lk_X12_446 yv_X12_hold dX12_sign_228 (rfl) (rfl) (T_X12_hold hm2 hm6) (by decide) (Nat.le_of_ble_eq_true rfl) (fun μ_228 h_228 => ?_)
    replace h_228 := Eq.symm h_228
    subst h_228
    refine A_aload0 dX12_sign_231 ?_
    refine A_vv0 lk_X12_213 yv_X12_token dX12_sign_232 (rfl) (rfl) (T_X12_tkn hwm.hA) (by decide) (Nat.le_of_ble_eq_true rfl) (fun μ_232 h_232 => ?_)
    refine A_iload1 dX12_sign_235 ?_
    refine A_bipush (v := 21) dX12_sign_236 (by decide) ?_
    refine A_icmp_eq (tgt := 247) dX12_sign_238 (by decide) (fun c_238 => ?_) (fun c_238 => ?_)
    · refine A_iconst (v := 0) dX12_sign_247 (by decide) ?_
      refine A_goto (tgt := 252) dX12_sign_248 (by decide) ?_
      refine A_iret dX12_sign_252 ?_
      refine ⟨_, rfl, (if_neg h1).trans ((if_neg h2).trans ((if_neg (Int32.not_lt.mpr (em ▸ c_221))).trans ?_))⟩
      rw [h_232, ← em, ev]
      rw [show sgN (sgW μ) = 0 from if_pos (Or.inl (ev ▸ c_238))]
    · refine A_iload1 dX12_sign_241 ?_
      refine A_bipush (v := 20) dX12_sign_242 (by decide) ?_
      refine A_icmp_ne (tgt := 251) dX12_sign_244 (by decide) (fun c_244 => ?_) (fun c_244 => ?_)
      · refine A_iconst (v := 1) dX12_sign_251 (by decide) ?_
        refine A_iret dX12_sign_252 ?_
        refine ⟨_, rfl, (if_neg h1).trans ((if_neg h2).trans ((if_neg (Int32.not_lt.mpr (em ▸ c_221))).trans ?_))⟩
        rw [h_232, ← em, ev]
        rw [show sgN (sgW μ) = 1 from if_neg (fun z => by rcases z with z | z; exact c_238 (ev.trans z); exact c_244 (ev.trans z))]
      · refine A_iconst (v := 0) dX12_sign_247 (by decide) ?_
        refine A_goto (tgt := 252) dX12_sign_248 (by decide) ?_
        refine A_iret dX12_sign_252 ?_
        refine ⟨_, rfl, (if_neg h1).trans ((if_neg h2).trans ((if_neg (Int32.not_lt.mpr (em ▸ c_221))).trans ?_))⟩
        rw [h_232, ← em, ev]
        rw [show sgN (sgW μ) = 0 from if_pos (Or.inr (ev ▸ c_244))]
  · refine A_iconst (v := 2) dX12_sign_224 (by decide) ?_
    refine A_iret dX12_sign_225 ?_
    exact ⟨_, rfl, (if_neg h1).trans ((if_neg h2).trans ((if_pos (Int32.not_le.mp (em ▸ c_221))).trans (by rw [em])))⟩
set_option maxHeartbeats 100000 in
set_option maxRecDepth 100000 in
theorem L_X12_sign_163 {l : Launch} {G : Wd} {μ : Mem} {n w : Nat} {v : Int32} (hw : WFx μ) (hn : μ.1 0 70 = nI n) (hm : μ.1 0 74 = nI w) (h6 : n + w < 600) (h1 : ¬ (μ.1 0 6 = 41 ∧ ¬ opQ (μ.1 46) (wtN μ) = 0)) (ev : v = sgW μ) : AW l G KM RX12 cX12_sign 2 4 (some .int) (Qi (fun v μ' => sp_sign μ = (v, μ'))) 163 [some (.ref (gA G 0)), some (.int v)] [] μ := by
  refine A_iload1 dX12_sign_163 ?_
  refine A_if_ge (tgt := 174) dX12_sign_164 (by decide) (fun c_164 => ?_) (fun c_164 => ?_)
  · have h2 : ¬ sgW μ < 0 := ev ▸ (Int32.not_lt.mpr c_164)
    refine A_iload1 dX12_sign_174 ?_
    refine A_si1 lk_X12_455 ys_X12_rank dX12_sign_175 (T_X12_rank) (by decide) (Nat.le_of_ble_eq_true rfl) (fun r_175 μ_175 h_175 => ?_)
    obtain ⟨v_175, e_175⟩ := h_175
    replace v_175 := Eq.symm v_175
    subst v_175
    replace e_175 := e_175.symm
    subst e_175
    refine A_bipush (v := 23) dX12_sign_178 (by decide) ?_
    refine A_icmp_ne (tgt := 209) dX12_sign_180 (by decide) (fun c_180 => ?_) (fun c_180 => ?_)
    · refine A_aload0 dX12_sign_209 ?_
      refine A_iload1 dX12_sign_210 ?_
      refine A_si1 lk_X12_455 ys_X12_rank dX12_sign_211 (T_X12_rank) (by decide) (Nat.le_of_ble_eq_true rfl) (fun r_211 μ_211 h_211 => ?_)
      obtain ⟨v_211, e_211⟩ := h_211
      replace v_211 := Eq.symm v_211
      subst v_211
      replace e_211 := e_211.symm
      subst e_211
      refine A_vv1 lk_X12_452 yv_X12_settle dX12_sign_214 (rfl) (rfl) (T_X12_settle hm hn (by omega)) (by decide) (Nat.le_of_ble_eq_true rfl) (fun μ_214 h_214 => ?_)
      obtain ⟨g1, w2, g2, g3, g4⟩ := sgE_w (v := sgW μ) hw hm hn (by omega)
      have e1 : μ_214 = sgE μ (sgW μ) := by rw [← h_214, ev]; exact (if_neg (ev ▸ c_180)).symm
      exact L_X12_sign_217 (n := n) (w := w) h1 h2 ev e1 (e1 ▸ g1) (by rw [e1]; exact g3) (by omega)
    · refine A_aload0 dX12_sign_183 ?_
      refine A_bipush (v := 26) dX12_sign_184 (by decide) ?_
      refine A_vv1 lk_X12_452 yv_X12_settle dX12_sign_186 (rfl) (rfl) (T_X12_settle hm hn (by omega)) (by decide) (Nat.le_of_ble_eq_true rfl) (fun μ_186 h_186 => ?_)
      subst h_186
      obtain ⟨w1, hs⟩ := settle_r (a := 26) hm hn (by omega)
      refine A_aload0 dX12_sign_189 ?_
      refine A_vi0 lk_X12_434 yv_X12_upper dX12_sign_190 (rfl) (rfl) (T_X12_upper hs.2.1 (by have := hs.1; omega)) (by decide) (Nat.le_of_ble_eq_true rfl) (fun r_190 μ_190 h_190 => ?_)
      obtain ⟨v_190, e_190⟩ := h_190
      replace v_190 := Eq.symm v_190
      subst v_190
      replace e_190 := e_190.symm
      subst e_190
      refine A_si1 lk_X12_455 ys_X12_rank dX12_sign_193 (T_X12_rank) (by decide) (Nat.le_of_ble_eq_true rfl) (fun r_193 μ_193 h_193 => ?_)
      obtain ⟨v_193, e_193⟩ := h_193
      replace v_193 := Eq.symm v_193
      subst v_193
      replace e_193 := e_193.symm
      subst e_193
      refine A_bipush (v := 23) dX12_sign_196 (by decide) ?_
      refine A_icmp_ne (tgt := 217) dX12_sign_198 (by decide) (fun c_198 => ?_) (fun c_198 => ?_)
      · obtain ⟨g1, w2, g2, g3, g4⟩ := sgE_w (v := sgW μ) hw hm hn (by omega)
        have e0 : sgE μ (sgW μ) = sgF (sp_settle μ 26) := if_pos (ev ▸ c_180)
        have e1 : sp_settle μ 26 = sgE μ (sgW μ) := by rw [e0]; exact (if_neg c_198).symm
        exact L_X12_sign_217 (n := n) (w := w) h1 h2 ev e1 (e1 ▸ g1) (by rw [e1]; exact g3) (by omega)
      · refine A_aload0 dX12_sign_201 ?_
        refine A_iconst (v := 2) dX12_sign_202 (by decide) ?_
        refine A_vv1 lk_X12_272 yv_X12_spoil dX12_sign_203 (rfl) (rfl) (T_X12_spoil) (by decide) (Nat.le_of_ble_eq_true rfl) (fun μ_203 h_203 => ?_)
        refine A_goto (tgt := 217) dX12_sign_206 (by decide) ?_
        obtain ⟨g1, w2, g2, g3, g4⟩ := sgE_w (v := sgW μ) hw hm hn (by omega)
        have e0 : sgE μ (sgW μ) = sgF (sp_settle μ 26) := if_pos (ev ▸ c_180)
        have e1 : μ_203 = sgE μ (sgW μ) := by rw [e0, h_203]; exact (if_pos c_198).symm
        exact L_X12_sign_217 (n := n) (w := w) h1 h2 ev e1 (e1 ▸ g1) (by rw [e1]; exact g3) (by omega)
  · refine A_aload0 dX12_sign_167 ?_
    refine A_iconst (v := 2) dX12_sign_168 (by decide) ?_
    refine A_vv1 lk_X12_272 yv_X12_spoil dX12_sign_169 (rfl) (rfl) (T_X12_spoil) (by decide) (Nat.le_of_ble_eq_true rfl) (fun μ_169 h_169 => ?_)
    refine A_iconst (v := 2) dX12_sign_172 (by decide) ?_
    refine A_iret dX12_sign_173 ?_
    rw [h_169]
    exact ⟨_, rfl, (if_neg h1).trans (if_pos (ev ▸ Int32.not_le.mp c_164))⟩
set_option maxHeartbeats 100000 in
set_option maxRecDepth 100000 in
theorem L_X12_sign_115 {l : Launch} {G : Wd} {μ : Mem} {n w : Nat} {v : Int32} {x1 : Option Value} (hw : WFx μ) (hn : μ.1 0 70 = nI n) (hm : μ.1 0 74 = nI w) (h6 : n + w < 600) (ev : v = sgW μ) : AW l G KM RX12 cX12_sign 2 4 (some .int) (Qi (fun v μ' => sp_sign μ = (v, μ'))) 115 [some (.ref (gA G 0)), x1] [.int v] μ := by
  refine A_istore1 dX12_sign_115 rfl (by decide) ?_
  have eW : wtN μ = w := wtN_e hm (by omega)
  refine A_aload0 dX12_sign_116 ?_
  refine A_getI gf_X12_197 rfl dX12_sign_117 ?_
  refine A_bipush (v := 41) dX12_sign_120 (by decide) ?_
  refine A_icmp_ne (tgt := 163) dX12_sign_122 (by decide) (fun c_122 => ?_) (fun c_122 => ?_)
  · exact L_X12_sign_163 hw hn hm h6 (fun z => c_122 z.1) ev
  · refine A_aload0 dX12_sign_125 ?_
    refine A_vi0 lk_X12_449 yv_X12_isOpen dX12_sign_126 (rfl) (rfl) (T_X12_isOpen (n := w) (by omega) hm) (by decide) (Nat.le_of_ble_eq_true rfl) (fun r_126 μ_126 h_126 => ?_)
    obtain ⟨v_126, e_126⟩ := h_126
    replace v_126 := Eq.symm v_126
    subst v_126
    replace e_126 := e_126.symm
    subst e_126
    refine A_if_eq (tgt := 163) dX12_sign_129 (by decide) (fun c_129 => ?_) (fun c_129 => ?_)
    · exact L_X12_sign_163 hw hn hm h6 (fun z => by rw [eW] at z; exact z.2 c_129) ev
    · refine A_aload0 dX12_sign_132 ?_
      refine A_iconst (v := 0) dX12_sign_133 (by decide) ?_
      refine A_vv1 lk_X12_452 yv_X12_settle dX12_sign_134 (rfl) (rfl) (T_X12_settle hm hn (by omega)) (by decide) (Nat.le_of_ble_eq_true rfl) (fun μ_134 h_134 => ?_)
      subst h_134
      obtain ⟨w1, hs⟩ := settle_r (a := 0) hm hn (by omega)
      have hwS := hs.x hw
      refine A_aload0 dX12_sign_137 ?_
      refine A_dup dX12_sign_138 rfl ?_
      refine A_getI gf_X12_425 rfl dX12_sign_139 ?_
      refine A_iconst (v := 1) dX12_sign_142 (by decide) ?_
      refine A_isub dX12_sign_143 ?_
      refine A_putI gf_X12_425 rfl dX12_sign_144 ?_
      refine A_aload0 dX12_sign_147 ?_
      refine A_dup dX12_sign_148 rfl ?_
      refine A_getI gf_X12_428 rfl dX12_sign_149 ?_
      refine A_iconst (v := 1) dX12_sign_152 (by decide) ?_
      refine A_isub dX12_sign_153 ?_
      refine A_putI gf_X12_428 rfl dX12_sign_154 ?_
      refine A_setm (μ' := sgD (sp_settle μ 0)) rfl ?_
      refine A_aload0 dX12_sign_157 ?_
      refine A_vv0 lk_X12_213 yv_X12_token dX12_sign_158 (rfl) (rfl) (T_X12_tkn hwS.sD) (by decide) (Nat.le_of_ble_eq_true rfl) (fun μ_158 h_158 => ?_)
      refine A_iconst (v := 2) dX12_sign_161 (by decide) ?_
      refine A_iret dX12_sign_162 ?_
      rw [h_158]
      exact ⟨_, rfl, if_pos ⟨c_122, by rw [eW]; exact c_129⟩⟩
set_option maxHeartbeats 100000 in
set_option maxRecDepth 100000 in
theorem T_X12_sign {l : Launch} {G : Wd} {n w : Nat} {μ : Mem} (hw : WFx μ) (hn : μ.1 0 70 = nI n) (hm : μ.1 0 74 = nI w) (h6 : n + w < 600) : Mt l G KM yX12_sign cX12_sign 2 (some .int) 4 [.ref (gA G 0)] μ (Qi (fun v μ' => sp_sign μ = (v, μ'))) := by
  refine Mt.of (own := RX12) (n := 1) (by decide) rfl [some (.ref (gA G 0)), none] rfl (Nat.le_of_ble_eq_true rfl) ?_
  refine A_aload0 dX12_sign_0 ?_
  refine A_getI gf_X12_197 rfl dX12_sign_1 ?_
  refine A_bipush (v := 43) dX12_sign_4 (by decide) ?_
  refine A_icmp_ne (tgt := 14) dX12_sign_6 (by decide) (fun c_6 => ?_) (fun c_6 => ?_)
  · refine A_aload0 dX12_sign_14 ?_
    refine A_getI gf_X12_197 rfl dX12_sign_15 ?_
    refine A_bipush (v := 45) dX12_sign_18 (by decide) ?_
    refine A_icmp_ne (tgt := 28) dX12_sign_20 (by decide) (fun c_20 => ?_) (fun c_20 => ?_)
    · refine A_aload0 dX12_sign_28 ?_
      refine A_getI gf_X12_197 rfl dX12_sign_29 ?_
      refine A_bipush (v := 42) dX12_sign_32 (by decide) ?_
      refine A_icmp_ne (tgt := 42) dX12_sign_34 (by decide) (fun c_34 => ?_) (fun c_34 => ?_)
      · refine A_aload0 dX12_sign_42 ?_
        refine A_getI gf_X12_197 rfl dX12_sign_43 ?_
        refine A_bipush (v := 61) dX12_sign_46 (by decide) ?_
        refine A_icmp_ne (tgt := 56) dX12_sign_48 (by decide) (fun c_48 => ?_) (fun c_48 => ?_)
        · refine A_aload0 dX12_sign_56 ?_
          refine A_getI gf_X12_197 rfl dX12_sign_57 ?_
          refine A_bipush (v := 60) dX12_sign_60 (by decide) ?_
          refine A_icmp_ne (tgt := 70) dX12_sign_62 (by decide) (fun c_62 => ?_) (fun c_62 => ?_)
          · refine A_aload0 dX12_sign_70 ?_
            refine A_getI gf_X12_197 rfl dX12_sign_71 ?_
            refine A_bipush (v := 62) dX12_sign_74 (by decide) ?_
            refine A_icmp_ne (tgt := 84) dX12_sign_76 (by decide) (fun c_76 => ?_) (fun c_76 => ?_)
            · refine A_aload0 dX12_sign_84 ?_
              refine A_ldc2 dX12_sign_85 kc_X12_262 ?_
              refine A_vi1 lk_X12_268 yv_X12_isWord dX12_sign_88 (rfl) (rfl) (T_X12_isWord) (by decide) (Nat.le_of_ble_eq_true rfl) (fun r_88 μ_88 h_88 => ?_)
              obtain ⟨v_88, e_88⟩ := h_88
              replace v_88 := Eq.symm v_88
              subst v_88
              replace e_88 := e_88.symm
              subst e_88
              refine A_if_eq (tgt := 99) dX12_sign_91 (by decide) (fun c_91 => ?_) (fun c_91 => ?_)
              · refine A_aload0 dX12_sign_99 ?_
                refine A_ldc2 dX12_sign_100 kc_X12_264 ?_
                refine A_vi1 lk_X12_268 yv_X12_isWord dX12_sign_103 (rfl) (rfl) (T_X12_isWord) (by decide) (Nat.le_of_ble_eq_true rfl) (fun r_103 μ_103 h_103 => ?_)
                obtain ⟨v_103, e_103⟩ := h_103
                replace v_103 := Eq.symm v_103
                subst v_103
                replace e_103 := e_103.symm
                subst e_103
                refine A_if_eq (tgt := 114) dX12_sign_106 (by decide) (fun c_106 => ?_) (fun c_106 => ?_)
                · refine A_iconst (v := -1) dX12_sign_114 (by decide) ?_
                  exact L_X12_sign_115 hw hn hm h6 ((if_neg c_6).trans ((if_neg c_20).trans ((if_neg c_34).trans ((if_neg c_48).trans ((if_neg c_62).trans ((if_neg c_76).trans ((if_neg (bz_0.mp c_91)).trans (if_neg (bz_0.mp c_106))))))))).symm
                · refine A_bipush (v := 20) dX12_sign_109 (by decide) ?_
                  refine A_goto (tgt := 115) dX12_sign_111 (by decide) ?_
                  exact L_X12_sign_115 hw hn hm h6 ((if_neg c_6).trans ((if_neg c_20).trans ((if_neg c_34).trans ((if_neg c_48).trans ((if_neg c_62).trans ((if_neg c_76).trans ((if_neg (bz_0.mp c_91)).trans (if_pos (bz_y c_106))))))))).symm
              · refine A_bipush (v := 21) dX12_sign_94 (by decide) ?_
                refine A_goto (tgt := 115) dX12_sign_96 (by decide) ?_
                exact L_X12_sign_115 hw hn hm h6 ((if_neg c_6).trans ((if_neg c_20).trans ((if_neg c_34).trans ((if_neg c_48).trans ((if_neg c_62).trans ((if_neg c_76).trans (if_pos (bz_y c_91)))))))).symm
            · refine A_bipush (v := 25) dX12_sign_79 (by decide) ?_
              refine A_goto (tgt := 115) dX12_sign_81 (by decide) ?_
              exact L_X12_sign_115 hw hn hm h6 ((if_neg c_6).trans ((if_neg c_20).trans ((if_neg c_34).trans ((if_neg c_48).trans ((if_neg c_62).trans (if_pos c_76)))))).symm
          · refine A_bipush (v := 24) dX12_sign_65 (by decide) ?_
            refine A_goto (tgt := 115) dX12_sign_67 (by decide) ?_
            exact L_X12_sign_115 hw hn hm h6 ((if_neg c_6).trans ((if_neg c_20).trans ((if_neg c_34).trans ((if_neg c_48).trans (if_pos c_62))))).symm
        · refine A_bipush (v := 23) dX12_sign_51 (by decide) ?_
          refine A_goto (tgt := 115) dX12_sign_53 (by decide) ?_
          exact L_X12_sign_115 hw hn hm h6 ((if_neg c_6).trans ((if_neg c_20).trans ((if_neg c_34).trans (if_pos c_48)))).symm
      · refine A_bipush (v := 28) dX12_sign_37 (by decide) ?_
        refine A_goto (tgt := 115) dX12_sign_39 (by decide) ?_
        exact L_X12_sign_115 hw hn hm h6 ((if_neg c_6).trans ((if_neg c_20).trans (if_pos c_34))).symm
    · refine A_bipush (v := 27) dX12_sign_23 (by decide) ?_
      refine A_goto (tgt := 115) dX12_sign_25 (by decide) ?_
      exact L_X12_sign_115 hw hn hm h6 ((if_neg c_6).trans (if_pos c_20)).symm
  · refine A_bipush (v := 26) dX12_sign_9 (by decide) ?_
    refine A_goto (tgt := 115) dX12_sign_11 (by decide) ?_
    exact L_X12_sign_115 hw hn hm h6 (if_pos c_6).symm

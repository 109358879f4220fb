/-! a rule -/
def rrA (m : Mem) : Mem := sp_want (if m.1 0 71 = 6 then sp_spoil m 2 else m) 26982
def rrB (m : Mem) : Mem := wI (wI (wI m 42 (m.1 0 71).toNatClampNeg (m.1 0 70)) 0 74 0) 0 75 0
def rrS (x : Int32) (m : Mem) : Int32 × Mem := if x = 2 then sp_sign m else sp_operand x m
abbrev rrE (x : Int32) (m : Mem) : Prop := x = 2 ∧ isWd m 7561593 ∧ opQ (m.1 46) (wtN m) = 0
def rrL : Nat → Int32 → Mem → Mem
  | 0, _, m => m
  | q + 1, x, m => if m.1 0 2 = 0 ∧ ¬ rrE x m then rrL q (rrS x m).1 (rrS x m).2 else m
def rrC (m : Mem) : Mem := rrL 502 0 (rrB (rrA m))
def rrW (m : Mem) : Mem := wI m 48 (m.1 0 71).toNatClampNeg (bz (isWd m 7824756))
def rrF (m : Mem) : Mem := if isWd m 7824756 ∨ isWd m 6582905 then m else sp_spoil m 2
def rrG (m : Mem) : Mem := hlS (hlT (rrF (rrW (tkn (sp_settle (rrC m) 0)))))
def rrZ (m : Mem) : Mem := wI (wI (tkn m) 0 71 ((tkn m).1 0 71 + 1)) 42 ((tkn m).1 0 71 + 1).toNatClampNeg ((tkn m).1 0 70)
def sp_readRule (m : Mem) : Mem := if 0 < (rrA m).1 0 2 then rrA m else if 0 < (rrC m).1 0 2 then rrC m else if 0 < (rrG m).1 0 2 then rrG m else rrZ (rrG m)
def okQ (m : Mem) (n r : Nat) : Prop := ∃ b e : Nat, m.1 42 r = nI b ∧ m.1 42 (r + 1) = nI e ∧ b ≤ e ∧ e ≤ n ∧ (∀ j, b + j < e → okF (m.1 40) (m.1 41) b j) ∧ (m.1 48 r = 0 ∨ m.1 48 r = 1) ∧ 1 ≤ dpF (m.1 40) b (e - b)
def PrI (r : Nat) (m : Mem) : Prop := TkI m ∧ szN m ≤ 500 ∧ WFb m ∧ m.1 0 2 = 0 ∧ m.1 0 71 = nI r ∧ r ≤ 6 ∧ ∃ n u : Nat, m.1 0 70 = nI n ∧ m.1 0 73 = nI u ∧ u ≤ 60 ∧ n ≤ plN m ∧ (∀ i, i < r → okQ m n i) ∧ (0 < r → m.1 42 r = nI n)
theorem okQ.of {m m' : Mem} {n n' r : Nat} (h : okQ m n r) (hn : n ≤ n') (h0 : ∀ j, j < n → m'.1 40 j = m.1 40 j) (h1 : ∀ j, j < n → m'.1 41 j = m.1 41 j) (h2 : m'.1 42 r = m.1 42 r) (h3 : m'.1 42 (r + 1) = m.1 42 (r + 1)) (h8 : m'.1 48 r = m.1 48 r) : okQ m' n' r := by
  obtain ⟨b, e, a1, a2, a3, a4, a5, a6, a7⟩ := h
  refine ⟨b, e, h2.trans a1, h3.trans a2, a3, by omega, fun j hj => ?_, by rw [h8]; exact a6, ?_⟩
  · exact okF_c (fun i hi => (h0 _ (by omega)).symm) ((h1 _ (by omega)).symm) (a5 j hj)
  · rw [dpF_c (V := m.1 40) (e - b) (fun j hj => h0 _ (by omega))]; exact a7
/-- a state in the midst of a rule: a fault, or as it can be with fuel left -/
def LpI (β q : Nat) (x : Int32) (m : Mem) : Prop := 0 ≤ m.1 0 2 ∧ (m.1 0 2 = 0 → RuI β x m ∧ 502 ≤ plN m + q)
theorem rrS_s {β : Nat} {x : Int32} {m : Mem} (h : RuI β x m) : RuS β m (rrS x m) := by
  unfold rrS
  split
  · rename_i q; subst q; exact sign_s h
  · rename_i q; exact operand_s h q
theorem LpI.s {β q : Nat} {x : Int32} {m : Mem} (h : LpI β (q + 1) x m) (h0 : m.1 0 2 = 0) : LpI β q (rrS x m).1 (rrS x m).2 := by
  obtain ⟨h1, h2⟩ := h.2 h0
  obtain ⟨s1, s2, s3⟩ := rrS_s h1
  exact ⟨s1, fun z => ⟨(s3 z).1, by have := (s3 z).2; omega⟩⟩
theorem rrL_s {β : Nat} : ∀ (q : Nat) (x : Int32) (m : Mem), LpI β q x m → 0 ≤ (rrL q x m).1 0 2 ∧ Rq β m (rrL q x m) ∧ ((rrL q x m).1 0 2 = 0 → RuI β 2 (rrL q x m) ∧ rrE 2 (rrL q x m) ∧ plN m ≤ plN (rrL q x m)) := by
  intro q
  induction q with
  | zero =>
    intro x m h
    refine ⟨h.1, Rq.rf, fun z => ?_⟩
    obtain ⟨h1, h2⟩ := h.2 z
    have := h1.1.2.2.2.2.1
    have := h1.2.1
    omega
  | succ q ih =>
    intro x m h
    unfold rrL
    split
    · rename_i c
      obtain ⟨h1, h2⟩ := h.2 c.1
      obtain ⟨s1, s2, s3⟩ := rrS_s h1
      obtain ⟨i1, i2, i3⟩ := ih _ _ (h.s c.1)
      refine ⟨i1, s2.tr i2, fun z => ?_⟩
      obtain ⟨j1, j2, j3⟩ := i3 z
      refine ⟨j1, j2, ?_⟩
      by_cases e : (rrS x m).2.1 0 2 = 0
      · have := (s3 e).2; omega
      · exfalso
        have : rrL q (rrS x m).1 (rrS x m).2 = (rrS x m).2 := by
          cases q with
          | zero => rfl
          | succ q => exact if_neg (fun z => e z.1)
        rw [this] at z
        exact e z
    · rename_i c
      refine ⟨h.1, Rq.rf, fun z => ?_⟩
      have hE : rrE x m := Decidable.not_not.mp (fun y => c ⟨z, y⟩)
      obtain ⟨h1, h2⟩ := h.2 z
      have e := hE.1
      subst e
      exact ⟨h1, hE, Nat.le_refl _⟩
theorem rrA_0 {m : Mem} (h : (rrA m).1 0 2 = 0) : ¬ m.1 0 71 = 6 ∧ isWd m 26982 ∧ rrA m = tkn m := by
  unfold rrA at h ⊢
  obtain ⟨h1, h2, h3⟩ := want_F0 h
  split at h1
  · exact absurd h1 (ps_0 (sp_spoil_2 (by decide)))
  · rename_i q
    rw [if_neg q] at h2 h3 ⊢
    exact ⟨q, h2, h3⟩
theorem Fg.rA {m : Mem} (h : 0 ≤ m.1 0 2) : 0 ≤ (rrA m).1 0 2 := by
  unfold rrA
  split
  · exact Fg.wa (Fg.sp (by decide))
  · exact Fg.wa h
theorem WFx.rA {m : Mem} (h : WFx m) : WFx (if m.1 0 71 = 6 then sp_spoil m 2 else m) := by
  split
  · exact h.spoil
  · exact h
/-- the beginning of a rule -/
theorem rrB_s {r : Nat} {m : Mem} (h : PrI r m) (h0 : (rrA m).1 0 2 = 0) : r < 6 ∧ ∃ n u : Nat, m.1 0 70 = nI n ∧ n ≤ plN m ∧ RuI n 0 (rrB (rrA m)) ∧ plN m < plN (rrB (rrA m)) ∧ (rrB (rrA m)).1 42 r = nI n ∧ (∀ i j, ¬ rdK i j → ¬ (i = 42 ∧ j = r) → ¬ (i = 0 ∧ (j = 74 ∨ j = 75)) → (rrB (rrA m)).1 i j = m.1 i j) ∧ (∀ i j, ¬ (i = 0 ∧ j = 9) → (rrB (rrA m)).2.1 i j = m.2.1 i j) ∧ (rrB (rrA m)).2.2 = m.2.2 := by
  obtain ⟨t, hs, hb, hf, hr, hr6, n, u, h1, h2, h3, h4, h5⟩ := h
  obtain ⟨a1, a2, a3⟩ := rrA_0 h0
  rw [a3]
  have hr5 : r < 6 := by
    rcases Nat.lt_or_ge r 6 with z | z
    · exact z
    · have : r = 6 := by omega
      exact absurd (by rw [hr, this]; rfl) a1
  have R := (Rd.rf (μ := m)).tk
  obtain ⟨t1, t2, t3⟩ := t.n
  have hv := t.2.2.2.2.2 (isWd_v a2).1 (isWd_v a2).2
  have e71 : (tkn m).1 0 71 = nI r := (R.1 0 71 (by decide)).trans hr
  have e70 : (tkn m).1 0 70 = nI n := (R.1 0 70 (by decide)).trans h1
  have B : ∀ i j, ¬ (i = 42 ∧ j = r) → ¬ (i = 0 ∧ (j = 74 ∨ j = 75)) → (rrB (tkn m)).1 i j = (tkn m).1 i j := by
    intro i j q1 q2
    unfold rrB
    rw [e71, nI_c (by omega), wI_ne (by omega), wI_ne (by omega), wI_ne (by omega)]
  obtain ⟨t4, t5, t6, t7⟩ := t1.of (m' := rrB (tkn m)) (funext fun j => B 1 j (by omega) (by omega)) (B 0 4 (by omega) (by omega)) (B 0 5 (by omega) (by omega)) (B 0 6 (by omega) (by omega)) (B 0 7 (by omega) (by omega))
  have b74 : (rrB (tkn m)).1 0 74 = nI 0 := by unfold rrB; rw [wI_ne (by omega), wI_same]; rfl
  have b42 : (rrB (tkn m)).1 42 r = nI n := by unfold rrB; rw [wI_ne (by omega), wI_ne (by omega), e71, nI_c (by omega), wI_same, e70]
  refine ⟨hr5, n, u, h1, h4, ⟨t4, by omega, ?_, ?_, Or.inl rfl, n, 0, u, ?_, b74, ?_, by omega, ?_⟩, by omega, b42, fun i j q1 q2 q3 => (B i j q2 q3).trans (R.1 i j q1), R.2.1, R.2.2⟩
  · exact (R.b hb).of (B 0 31 (by omega) (by omega))
  · rw [B 0 2 (by omega) (by omega), tkn_2]; exact hf
  · exact (B 0 70 (by omega) (by omega)).trans e70
  · exact (B 0 73 (by omega) (by omega)).trans ((R.1 0 73 (by decide)).trans h2)
  · rw [if_neg (by decide)]
    refine ⟨Nat.le_refl _, fun k hk => absurd hk (by omega), fun j hj => absurd hj (by omega), ?_, ?_, h3⟩
    · rw [Nat.sub_self]; rfl
    · rw [Nat.sub_self]; exact Nat.zero_le _
theorem LpI.b {r : Nat} {m : Mem} (h : PrI r m) (h0 : (rrA m).1 0 2 = 0) : ∃ n, LpI n 502 0 (rrB (rrA m)) := by
  obtain ⟨-, n, u, -, -, h1, -⟩ := rrB_s h h0
  exact ⟨n, by rw [h1.2.2.2.1]; decide, fun _ => ⟨h1, by omega⟩⟩
theorem opQ_0 {U : Nat → Int32} : ∀ w, opQ U w = 0 → ∀ j, j < w → ¬ U j = 30 := by
  intro w
  induction w with
  | zero => intro _ j hj; omega
  | succ w ih =>
    intro h j hj z
    unfold opQ at h
    split at h
    · exact absurd h (by decide)
    · rename_i q
      by_cases e : j = w
      · subst e; exact q (Or.inr z)
      · exact ih (Decidable.not_not.mp (fun y => q (Or.inl y))) j (by omega) z
theorem hlS_0 {m : Mem} (h : (hlS m).1 0 2 = 0) : hlS m = m ∧ m.1 0 6 = 59 := by
  unfold hlS at h ⊢
  split at h
  · exact absurd h (ps_0 (sp_spoil_2 (by decide)))
  · rename_i q
    rw [if_neg q]
    exact ⟨rfl, Decidable.not_not.mp (fun z => q ⟨h, z⟩)⟩
theorem rrF_0 {m : Mem} (h : (rrF m).1 0 2 = 0) : rrF m = m ∧ (isWd m 7824756 ∨ isWd m 6582905) := by
  unfold rrF at h ⊢
  split at h
  · rename_i q; rw [if_pos q]; exact ⟨rfl, q⟩
  · exact absurd h (ps_0 (sp_spoil_2 (by decide)))
theorem Rd.rF {m : Mem} : Rd m (rrF m) := by
  unfold rrF
  split
  · exact Rd.rf
  · exact Rd.rf.sp
theorem Rd.hS {m : Mem} : Rd m (hlS m) := by
  unfold hlS
  split
  · exact Rd.rf.sp
  · exact Rd.rf
theorem Fg.rF {m : Mem} (h : 0 ≤ m.1 0 2) : 0 ≤ (rrF m).1 0 2 := by
  unfold rrF
  split
  · exact h
  · exact Fg.sp (by decide)
theorem Fg.hS {m : Mem} (h : 0 ≤ m.1 0 2) : 0 ≤ (hlS m).1 0 2 := by
  unfold hlS
  split
  · exact Fg.sp (by decide)
  · exact h
theorem WFx.rF {m : Mem} (h : WFx m) : WFx (rrF m) := by
  unfold rrF
  split
  · exact h
  · exact h.spoil
theorem WFx.hT {m : Mem} (h : WFx m) : WFx (hlT m) := by
  unfold hlT
  split
  · exact h.tn
  · exact h
theorem WFx.hS {m : Mem} (h : WFx m) : WFx (hlS m) := by
  unfold hlS
  split
  · exact h.spoil
  · exact h
set_option maxHeartbeats 200000 in
set_option maxRecDepth 100000 in
theorem L_X12_readRule_194 {l : Launch} {G : Wd} {μ m : Mem} {r : Nat} {x1 : Option Value} (hA : ¬ 0 < (rrA μ).1 0 2) (hC : ¬ 0 < (rrC μ).1 0 2) (em : m = rrG μ) (hw : WFx m) (hr : m.1 0 71 = nI r) (hr6 : r < 6) : AW l G KM RX12 cX12_readRule 2 5 none (Qv (fun μ' => μ' = sp_readRule μ)) 194 [some (.ref (gA G 0)), x1] [] m := by
  refine A_aload0 dX12_readRule_194 ?_
  refine A_getI gf_X12_210 rfl dX12_readRule_195 ?_
  refine A_if_le (tgt := 202) dX12_readRule_198 (by decide) (fun c_198 => ?_) (fun c_198 => ?_)
  · refine A_aload0 dX12_readRule_202 ?_
    refine A_vv0 lk_X12_213 yv_X12_token dX12_readRule_203 (rfl) (rfl) (T_X12_tkn hw) (by decide) (Nat.le_of_ble_eq_true rfl) (fun μ_203 h_203 => ?_)
    replace h_203 := Eq.symm h_203
    subst h_203
    refine A_aload0 dX12_readRule_206 ?_
    refine A_dup dX12_readRule_207 rfl ?_
    refine A_getI gf_X12_458 rfl dX12_readRule_208 ?_
    refine A_iconst (v := 1) dX12_readRule_211 (by decide) ?_
    refine A_iadd dX12_readRule_212 ?_
    refine A_putI gf_X12_458 rfl dX12_readRule_213 ?_
    refine A_aload0 dX12_readRule_216 ?_
    refine A_getR gf_X12_139 rfl dX12_readRule_217 ?_
    refine A_aload0 dX12_readRule_220 ?_
    refine A_getI gf_X12_458 rfl dX12_readRule_221 ?_
    rw [wI_same]
    refine A_aload0 dX12_readRule_224 ?_
    refine A_getI gf_X12_422 rfl dX12_readRule_225 ?_
    rw [wI_ne (by omega)]
    refine A_iast (rfl) (by rw [(Rd.rf (μ := m)).tk.1 0 71 (by decide), hr, nI_1]; exact vp_in_nI (by omega) (by omega)) dX12_readRule_228 ?_
    refine A_vret dX12_readRule_229 ?_
    have hG : ¬ 0 < (rrG μ).1 0 2 := em ▸ (Int32.not_lt.mpr c_198)
    have e9 : sp_readRule μ = rrZ (rrG μ) := (if_neg hA).trans ((if_neg hC).trans (if_neg hG))
    rw [← em] at e9
    exact ⟨rfl, e9.symm⟩
  · refine A_vret dX12_readRule_201 ?_
    rw [em]
    exact ⟨rfl, ((if_neg hA).trans ((if_neg hC).trans (if_pos (em ▸ Int32.not_le.mp c_198)))).symm⟩
set_option maxHeartbeats 200000 in
set_option maxRecDepth 100000 in
theorem L_X12_readRule_173 {l : Launch} {G : Wd} {μ m : Mem} {r : Nat} {x1 : Option Value} (hA : ¬ 0 < (rrA μ).1 0 2) (hC : ¬ 0 < (rrC μ).1 0 2) (em : m = hlT (rrF (rrW (tkn (sp_settle (rrC μ) 0))))) (hw : WFx m) (hr : m.1 0 71 = nI r) (hr6 : r < 6) : AW l G KM RX12 cX12_readRule 2 5 none (Qv (fun μ' => μ' = sp_readRule μ)) 173 [some (.ref (gA G 0)), x1] [] m := by
  refine A_aload0 dX12_readRule_173 ?_
  refine A_getI gf_X12_210 rfl dX12_readRule_174 ?_
  refine A_if_ne (tgt := 194) dX12_readRule_177 (by decide) (fun c_177 => ?_) (fun c_177 => ?_)
  · have e1 : rrG μ = m := by show hlS _ = m; rw [← em]; exact if_neg (fun z => c_177 z.1)
    exact L_X12_readRule_194 hA hC e1.symm hw hr hr6
  · refine A_aload0 dX12_readRule_180 ?_
    refine A_getI gf_X12_197 rfl dX12_readRule_181 ?_
    refine A_bipush (v := 59) dX12_readRule_184 (by decide) ?_
    refine A_icmp_eq (tgt := 194) dX12_readRule_186 (by decide) (fun c_186 => ?_) (fun c_186 => ?_)
    · have e1 : rrG μ = m := by show hlS _ = m; rw [← em]; exact if_neg (fun z => z.2 c_186)
      exact L_X12_readRule_194 hA hC e1.symm hw hr hr6
    · refine A_aload0 dX12_readRule_189 ?_
      refine A_iconst (v := 2) dX12_readRule_190 (by decide) ?_
      refine A_vv1 lk_X12_272 yv_X12_spoil dX12_readRule_191 (rfl) (rfl) (T_X12_spoil) (by decide) (Nat.le_of_ble_eq_true rfl) (fun μ_191 h_191 => ?_)
      have e1 : rrG μ = sp_spoil m 2 := by show hlS _ = _; rw [← em]; exact if_pos ⟨c_177, c_186⟩
      exact L_X12_readRule_194 hA hC (h_191.trans e1.symm) (by rw [h_191]; exact hw.spoil) (by rw [h_191, (Rd.rf (μ := m)).sp.1 0 71 (by decide)]; exact hr) hr6
set_option maxHeartbeats 200000 in
set_option maxRecDepth 100000 in
theorem L_X12_readRule_162 {l : Launch} {G : Wd} {μ m : Mem} {r : Nat} {x1 : Option Value} (hA : ¬ 0 < (rrA μ).1 0 2) (hC : ¬ 0 < (rrC μ).1 0 2) (em : m = rrF (rrW (tkn (sp_settle (rrC μ) 0)))) (hw : WFx m) (hr : m.1 0 71 = nI r) (hr6 : r < 6) : AW l G KM RX12 cX12_readRule 2 5 none (Qv (fun μ' => μ' = sp_readRule μ)) 162 [some (.ref (gA G 0)), x1] [] m := by
  refine A_aload0 dX12_readRule_162 ?_
  refine A_getI gf_X12_210 rfl dX12_readRule_163 ?_
  refine A_if_ne (tgt := 173) dX12_readRule_166 (by decide) (fun c_166 => ?_) (fun c_166 => ?_)
  · exact L_X12_readRule_173 hA hC (by rw [← em]; exact (hlT_1 c_166).symm) hw hr hr6
  · refine A_aload0 dX12_readRule_169 ?_
    refine A_vv0 lk_X12_213 yv_X12_token dX12_readRule_170 (rfl) (rfl) (T_X12_tkn hw) (by decide) (Nat.le_of_ble_eq_true rfl) (fun μ_170 h_170 => ?_)
    exact L_X12_readRule_173 hA hC (by rw [← em, hlT_0 c_166]; exact h_170) (by rw [h_170]; exact hw.tn) (by rw [h_170, (Rd.rf (μ := m)).tk.1 0 71 (by decide)]; exact hr) hr6
set_option maxHeartbeats 200000 in
set_option maxRecDepth 100000 in
theorem L_X12_readRule_121 {l : Launch} {G : Wd} {μ m : Mem} {r : Nat} {x1 : Option Value} (hA : ¬ 0 < (rrA μ).1 0 2) (hC : ¬ 0 < (rrC μ).1 0 2) (em : m = tkn (sp_settle (rrC μ) 0)) (hw : WFx m) (hr : m.1 0 71 = nI r) (hr6 : r < 6) : AW l G KM RX12 cX12_readRule 2 5 none (Qv (fun μ' => μ' = sp_readRule μ)) 121 [some (.ref (gA G 0)), x1] [] m := by
  refine A_aload0 dX12_readRule_121 ?_
  refine A_getR gf_X12_157 rfl dX12_readRule_122 ?_
  refine A_aload0 dX12_readRule_125 ?_
  refine A_getI gf_X12_458 rfl dX12_readRule_126 ?_
  refine A_aload0 dX12_readRule_129 ?_
  refine A_ldc2 dX12_readRule_130 kc_X12_254 ?_
  refine A_vi1 lk_X12_268 yv_X12_isWord dX12_readRule_133 (rfl) (rfl) (T_X12_isWord) (by decide) (Nat.le_of_ble_eq_true rfl) (fun r_133 μ_133 h_133 => ?_)
  obtain ⟨v_133, e_133⟩ := h_133
  replace v_133 := Eq.symm v_133
  subst v_133
  replace e_133 := e_133.symm
  subst e_133
  refine A_zast (rfl) (by rw [hr]; exact vp_in_nI (by omega) (by omega)) dX12_readRule_136 ?_
  rw [vz_bz]
  refine A_setm (μ' := rrW m) rfl ?_
  have hwW : WFx (rrW m) := hw.o (by decide)
  have hrW : (rrW m).1 0 71 = nI r := by unfold rrW; rw [wI_ne (by omega)]; exact hr
  refine A_aload0 dX12_readRule_137 ?_
  refine A_ldc2 dX12_readRule_138 kc_X12_254 ?_
  refine A_vi1 lk_X12_268 yv_X12_isWord dX12_readRule_141 (rfl) (rfl) (T_X12_isWord) (by decide) (Nat.le_of_ble_eq_true rfl) (fun r_141 μ_141 h_141 => ?_)
  obtain ⟨v_141, e_141⟩ := h_141
  replace v_141 := Eq.symm v_141
  subst v_141
  replace e_141 := e_141.symm
  subst e_141
  refine A_if_ne (tgt := 162) dX12_readRule_144 (by decide) (fun c_144 => ?_) (fun c_144 => ?_)
  · exact L_X12_readRule_162 hA hC (by rw [← em]; exact (if_pos (Or.inl (bz_y c_144))).symm) hwW hrW hr6
  · refine A_aload0 dX12_readRule_147 ?_
    refine A_ldc2 dX12_readRule_148 kc_X12_256 ?_
    refine A_vi1 lk_X12_268 yv_X12_isWord dX12_readRule_151 (rfl) (rfl) (T_X12_isWord) (by decide) (Nat.le_of_ble_eq_true rfl) (fun r_151 μ_151 h_151 => ?_)
    obtain ⟨v_151, e_151⟩ := h_151
    replace v_151 := Eq.symm v_151
    subst v_151
    replace e_151 := e_151.symm
    subst e_151
    refine A_if_ne (tgt := 162) dX12_readRule_154 (by decide) (fun c_154 => ?_) (fun c_154 => ?_)
    · exact L_X12_readRule_162 hA hC (by rw [← em]; exact (if_pos (Or.inr (bz_y c_154))).symm) hwW hrW hr6
    · refine A_aload0 dX12_readRule_157 ?_
      refine A_iconst (v := 2) dX12_readRule_158 (by decide) ?_
      refine A_vv1 lk_X12_272 yv_X12_spoil dX12_readRule_159 (rfl) (rfl) (T_X12_spoil) (by decide) (Nat.le_of_ble_eq_true rfl) (fun μ_159 h_159 => ?_)
      have e1 : rrF (rrW m) = sp_spoil (rrW m) 2 := if_neg (fun z => by rcases z with z | z; exact bz_0.mp c_144 z; exact bz_0.mp c_154 z)
      exact L_X12_readRule_162 hA hC (by rw [← em, e1]; exact h_159) (by rw [h_159]; exact hwW.spoil) (by rw [h_159, (Rd.rf (μ := rrW m)).sp.1 0 71 (by decide)]; exact hrW) hr6
set_option maxHeartbeats 200000 in
set_option maxRecDepth 100000 in
theorem L_X12_readRule_104 {l : Launch} {G : Wd} {μ m : Mem} {r : Nat} {x1 : Option Value} {β : Nat} (hA : ¬ 0 < (rrA μ).1 0 2) (em : m = rrC μ) (h0 : 0 ≤ m.1 0 2) (hI : m.1 0 2 = 0 → RuI β 2 m) (hr : m.1 0 71 = nI r) (hr6 : r < 6) : AW l G KM RX12 cX12_readRule 2 5 none (Qv (fun μ' => μ' = sp_readRule μ)) 104 [some (.ref (gA G 0)), x1] [] m := by
  refine A_aload0 dX12_readRule_104 ?_
  refine A_getI gf_X12_210 rfl dX12_readRule_105 ?_
  refine A_if_le (tgt := 112) dX12_readRule_108 (by decide) (fun c_108 => ?_) (fun c_108 => ?_)
  · have hC : ¬ 0 < (rrC μ).1 0 2 := em ▸ (Int32.not_lt.mpr c_108)
    have hR := hI (Fg.z h0 c_108)
    obtain ⟨ns, ws, us, hs1, hs2, hs3, hs4, hs5⟩ := hR.2.2.2.2.2
    have hp5 := hR.1.2.2.2.2.1
    have hz5 := hR.2.1
    refine A_aload0 dX12_readRule_112 ?_
    refine A_iconst (v := 0) dX12_readRule_113 (by decide) ?_
    refine A_vv1 lk_X12_452 yv_X12_settle dX12_readRule_114 (rfl) (rfl) (T_X12_settle hs2 hs1 (by omega)) (by decide) (Nat.le_of_ble_eq_true rfl) (fun μ_114 h_114 => ?_)
    subst h_114
    obtain ⟨w1, hst⟩ := settle_r (a := 0) hs2 hs1 (by omega)
    refine A_aload0 dX12_readRule_117 ?_
    refine A_vv0 lk_X12_213 yv_X12_token dX12_readRule_118 (rfl) (rfl) (T_X12_tkn (hst.x hR.1.1)) (by decide) (Nat.le_of_ble_eq_true rfl) (fun μ_118 h_118 => ?_)
    have e18 : μ_118 = tkn (sp_settle (rrC μ) 0) := by rw [← em]; exact h_118
    exact L_X12_readRule_121 hA hC e18 (by rw [h_118]; exact (hst.x hR.1.1).tn) (by rw [h_118, (Rd.rf (μ := sp_settle m 0)).tk.1 0 71 (by decide), hst.2.2.2.2.1 0 71 (by omega) (by omega) (by omega)]; exact hr) hr6
  · refine A_vret dX12_readRule_111 ?_
    rw [em]
    exact ⟨rfl, ((if_neg hA).trans (if_pos (em ▸ Int32.not_le.mp c_108))).symm⟩
set_option maxHeartbeats 200000 in
set_option maxRecDepth 100000 in
theorem L_X12_readRule_54 {l : Launch} {G : Wd} {μ : Mem} {r β : Nat} (hA : ¬ 0 < (rrA μ).1 0 2) (hr6 : r < 6) : ∀ (q : Nat) (x : Int32) (m : Mem), LpI β q x m → m.1 0 71 = nI r → rrL q x m = rrC μ → AW l G KM RX12 cX12_readRule 2 5 none (Qv (fun μ' => μ' = sp_readRule μ)) 54 [some (.ref (gA G 0)), some (.int x)] [] m := by
  intro q
  induction q with
  | zero =>
    intro x m h hr he
    have hn : ¬ m.1 0 2 = 0 := fun z => by have h1 := h.2 z; have := h1.1.1.2.2.2.2.1; have := h1.1.2.1; omega
    have he2 : m = rrC μ := he
    refine A_aload0 dX12_readRule_54 ?_
    refine A_getI gf_X12_210 rfl dX12_readRule_55 ?_
    refine A_if_ne (tgt := 104) dX12_readRule_58 (by decide) (fun c_58 => ?_) (fun c_58 => absurd c_58 (fun z => hn z))
    exact L_X12_readRule_104 (β := β) hA he2 h.1 (fun z => absurd z hn) hr hr6
  | succ q ih =>
    intro x m h hr he
    refine A_aload0 dX12_readRule_54 ?_
    refine A_getI gf_X12_210 rfl dX12_readRule_55 ?_
    refine A_if_ne (tgt := 104) dX12_readRule_58 (by decide) (fun c_58 => ?_) (fun c_58 => ?_)
    · have he2 : m = rrC μ := by rw [← he]; exact (if_neg (fun z => c_58 z.1)).symm
      exact L_X12_readRule_104 (β := β) hA he2 h.1 (fun z => absurd z c_58) hr hr6
    · have hR := (h.2 c_58).1
      obtain ⟨ns, ws, us, hs1, hs2, hs3, hs4, hs5⟩ := hR.2.2.2.2.2
      have hp5 := hR.1.2.2.2.2.1
      have hz5 := hR.2.1
      refine A_iload1 dX12_readRule_61 ?_
      refine A_iconst (v := 2) dX12_readRule_62 (by decide) ?_
      refine A_icmp_ne (tgt := 83) dX12_readRule_63 (by decide) (fun c_63 => ?_) (fun c_63 => ?_)
      · refine A_iload1 dX12_readRule_83 ?_
        refine A_iconst (v := 2) dX12_readRule_84 (by decide) ?_
        refine A_icmp_ne (tgt := 95) dX12_readRule_85 (by decide) (fun c_85 => ?_) (fun c_85 => absurd c_85 (fun z => c_63 z))
        refine A_aload0 dX12_readRule_95 ?_
        refine A_iload1 dX12_readRule_96 ?_
        refine A_vi1 lk_X12_464 yv_X12_operand dX12_readRule_97 (rfl) (rfl) (T_X12_operand hR.1.1 hR.2.2.1 hs1 (by omega) hs2 (by omega)) (by decide) (Nat.le_of_ble_eq_true rfl) (fun r_97 μ_97 h_97 => ?_)
        refine A_istore1 dX12_readRule_100 rfl (by decide) ?_
        refine A_goto (tgt := 54) dX12_readRule_101 (by decide) ?_
        have hS := h.s c_58
        have hq2 := (rrS_s hR).2.1
        have eS : rrS x m = (r_97, μ_97) := (if_neg c_63).trans h_97
        rw [eS] at hS hq2
        refine ih r_97 μ_97 hS ((hq2.1 0 71 (by decide) (by decide) (by decide) (by omega)).trans hr) ?_
        rw [← he, rrL, if_pos ⟨c_58, fun z => c_63 z.1⟩, eS]
      · refine A_aload0 dX12_readRule_66 ?_
        refine A_ldc2 dX12_readRule_67 kc_X12_252 ?_
        refine A_vi1 lk_X12_268 yv_X12_isWord dX12_readRule_70 (rfl) (rfl) (T_X12_isWord) (by decide) (Nat.le_of_ble_eq_true rfl) (fun r_70 μ_70 h_70 => ?_)
        obtain ⟨v_70, e_70⟩ := h_70
        replace v_70 := Eq.symm v_70
        subst v_70
        replace e_70 := e_70.symm
        subst e_70
        refine A_if_eq (tgt := 83) dX12_readRule_73 (by decide) (fun c_73 => ?_) (fun c_73 => ?_)
        · refine A_iload1 dX12_readRule_83 ?_
          refine A_iconst (v := 2) dX12_readRule_84 (by decide) ?_
          refine A_icmp_ne (tgt := 95) dX12_readRule_85 (by decide) (fun c_85 => absurd c_85 (fun z => z c_63)) (fun c_85 => ?_)
          refine A_aload0 dX12_readRule_88 ?_
          refine A_vi0 lk_X12_461 yv_X12_sign dX12_readRule_89 (rfl) (rfl) (T_X12_sign hR.1.1 hs1 hs2 (by omega)) (by decide) (Nat.le_of_ble_eq_true rfl) (fun r_89 μ_89 h_89 => ?_)
          refine A_goto (tgt := 100) dX12_readRule_92 (by decide) ?_
          refine A_istore1 dX12_readRule_100 rfl (by decide) ?_
          refine A_goto (tgt := 54) dX12_readRule_101 (by decide) ?_
          have hS := h.s c_58
          have hq2 := (rrS_s hR).2.1
          have eS : rrS x m = (r_89, μ_89) := (if_pos c_63).trans h_89
          rw [eS] at hS hq2
          refine ih r_89 μ_89 hS ((hq2.1 0 71 (by decide) (by decide) (by decide) (by omega)).trans hr) ?_
          rw [← he, rrL, if_pos ⟨c_58, fun z => bz_0.mp c_73 z.2.1⟩, eS]
        · refine A_aload0 dX12_readRule_76 ?_
          refine A_vi0 lk_X12_449 yv_X12_isOpen dX12_readRule_77 (rfl) (rfl) (T_X12_isOpen (n := ws) (by omega) hs2) (by decide) (Nat.le_of_ble_eq_true rfl) (fun r_77 μ_77 h_77 => ?_)
          obtain ⟨v_77, e_77⟩ := h_77
          replace v_77 := Eq.symm v_77
          subst v_77
          replace e_77 := e_77.symm
          subst e_77
          refine A_if_eq (tgt := 104) dX12_readRule_80 (by decide) (fun c_80 => ?_) (fun c_80 => ?_)
          · have eW : wtN m = ws := wtN_e hs2 (by omega)
            have he2 : m = rrC μ := by rw [← he]; exact (if_neg (fun z => z.2 ⟨c_63, bz_y c_73, by rw [eW]; exact c_80⟩)).symm
            have hx := c_63
            rw [hx] at hR
            exact L_X12_readRule_104 (β := β) hA he2 h.1 (fun _ => hR) hr hr6
          · refine A_iload1 dX12_readRule_83 ?_
            refine A_iconst (v := 2) dX12_readRule_84 (by decide) ?_
            refine A_icmp_ne (tgt := 95) dX12_readRule_85 (by decide) (fun c_85 => absurd c_85 (fun z => z c_63)) (fun c_85 => ?_)
            refine A_aload0 dX12_readRule_88 ?_
            refine A_vi0 lk_X12_461 yv_X12_sign dX12_readRule_89 (rfl) (rfl) (T_X12_sign hR.1.1 hs1 hs2 (by omega)) (by decide) (Nat.le_of_ble_eq_true rfl) (fun r_89 μ_89 h_89 => ?_)
            refine A_goto (tgt := 100) dX12_readRule_92 (by decide) ?_
            refine A_istore1 dX12_readRule_100 rfl (by decide) ?_
            refine A_goto (tgt := 54) dX12_readRule_101 (by decide) ?_
            have eW : wtN m = ws := wtN_e hs2 (by omega)
            have hS := h.s c_58
            have hq2 := (rrS_s hR).2.1
            have eS : rrS x m = (r_89, μ_89) := (if_pos c_63).trans h_89
            rw [eS] at hS hq2
            refine ih r_89 μ_89 hS ((hq2.1 0 71 (by decide) (by decide) (by decide) (by omega)).trans hr) ?_
            rw [← he, rrL, if_pos ⟨c_58, fun z => c_80 (by have e9 := z.2.2; rw [eW] at e9; exact e9)⟩, eS]
set_option maxHeartbeats 200000 in
set_option maxRecDepth 100000 in
theorem L_X12_readRule_14 {l : Launch} {G : Wd} {μ m : Mem} {r : Nat} {x1 : Option Value} (hP : PrI r μ) (em : m = if μ.1 0 71 = 6 then sp_spoil μ 2 else μ) (hw : WFx m) : AW l G KM RX12 cX12_readRule 2 5 none (Qv (fun μ' => μ' = sp_readRule μ)) 14 [some (.ref (gA G 0)), x1] [] m := by
  refine A_aload0 dX12_readRule_14 ?_
  refine A_ldc2 dX12_readRule_15 kc_X12_250 ?_
  refine A_vv1 lk_X12_278 yv_X12_want dX12_readRule_18 (rfl) (rfl) (T_X12_want hw) (by decide) (Nat.le_of_ble_eq_true rfl) (fun μ_18 h_18 => ?_)
  have e18 : μ_18 = rrA μ := by rw [h_18, em]; rfl
  refine A_aload0 dX12_readRule_21 ?_
  refine A_getI gf_X12_210 rfl dX12_readRule_22 ?_
  refine A_if_le (tgt := 29) dX12_readRule_25 (by decide) (fun c_25 => ?_) (fun c_25 => ?_)
  · have hA : ¬ 0 < (rrA μ).1 0 2 := e18 ▸ (Int32.not_lt.mpr c_25)
    have hA0 : (rrA μ).1 0 2 = 0 := Fg.z (Fg.rA (by rw [hP.2.2.2.1]; decide)) (e18 ▸ c_25)
    obtain ⟨hr6, nn, uu, b1, b2, b3, b4, b5, b6, -⟩ := rrB_s hP hA0
    have e71 : μ_18.1 0 71 = nI r := by rw [e18, (rrA_0 hA0).2.2, (Rd.rf (μ := μ)).tk.1 0 71 (by decide)]; exact hP.2.2.2.2.1
    refine A_aload0 dX12_readRule_29 ?_
    refine A_getR gf_X12_139 rfl dX12_readRule_30 ?_
    refine A_aload0 dX12_readRule_33 ?_
    refine A_getI gf_X12_458 rfl dX12_readRule_34 ?_
    refine A_aload0 dX12_readRule_37 ?_
    refine A_getI gf_X12_422 rfl dX12_readRule_38 ?_
    refine A_iast (rfl) (by rw [e71]; exact vp_in_nI (by omega) (by omega)) dX12_readRule_41 ?_
    refine A_aload0 dX12_readRule_42 ?_
    refine A_iconst (v := 0) dX12_readRule_43 (by decide) ?_
    refine A_putI gf_X12_425 rfl dX12_readRule_44 ?_
    refine A_aload0 dX12_readRule_47 ?_
    refine A_iconst (v := 0) dX12_readRule_48 (by decide) ?_
    refine A_putI gf_X12_428 rfl dX12_readRule_49 ?_
    refine A_iconst (v := 0) dX12_readRule_52 (by decide) ?_
    refine A_istore1 dX12_readRule_53 rfl (by decide) ?_
    have eB : wI (wI (wI μ_18 42 (μ_18.1 0 71).toNatClampNeg (μ_18.1 0 70)) 0 74 0) 0 75 0 = rrB (rrA μ) := by rw [← e18]; rfl
    rw [eB]
    exact L_X12_readRule_54 (β := nn) hA hr6 502 0 _ ⟨by rw [b3.2.2.2.1]; decide, fun _ => ⟨b3, by omega⟩⟩ ((b6 0 71 (by decide) (by omega) (by decide)).trans hP.2.2.2.2.1) rfl
  · refine A_vret dX12_readRule_28 ?_
    exact ⟨rfl, e18.trans (if_pos (e18 ▸ Int32.not_le.mp c_25)).symm⟩
set_option maxHeartbeats 100000 in
set_option maxRecDepth 100000 in
theorem T_X12_readRule {l : Launch} {G : Wd} {r : Nat} {μ : Mem} (hP : PrI r μ) : Mt l G KM yX12_readRule cX12_readRule 2 none 5 [.ref (gA G 0)] μ (Qv (fun μ' => μ' = sp_readRule μ)) := by
  refine Mt.of (own := RX12) (n := 1) (by decide) rfl [some (.ref (gA G 0)), none] rfl (Nat.le_of_ble_eq_true rfl) ?_
  refine A_aload0 dX12_readRule_0 ?_
  refine A_getI gf_X12_458 rfl dX12_readRule_1 ?_
  refine A_bipush (v := 6) dX12_readRule_4 (by decide) ?_
  refine A_icmp_ne (tgt := 14) dX12_readRule_6 (by decide) (fun c_6 => ?_) (fun c_6 => ?_)
  · exact L_X12_readRule_14 hP (if_neg c_6).symm hP.1.1
  · refine A_aload0 dX12_readRule_9 ?_
    refine A_iconst (v := 2) dX12_readRule_10 (by decide) ?_
    refine A_vv1 lk_X12_272 yv_X12_spoil dX12_readRule_11 (rfl) (rfl) (T_X12_spoil) (by decide) (Nat.le_of_ble_eq_true rfl) (fun μ_11 h_11 => ?_)
    exact L_X12_readRule_14 hP (h_11.trans (if_pos c_6).symm) (by rw [h_11]; exact hP.1.1.spoil)

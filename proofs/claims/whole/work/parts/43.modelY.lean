/-! what a step without a fault has found -/
theorem bz_y {p : Prop} [Decidable p] (h : ¬ bz p = 0) : p := Decidable.not_not.mp (fun z => h (bz_f z))
theorem tkM_o (μ : Mem) (p : Nat) (t : Nat × Int32 × Int64 × Int32) {j : Nat} (h : j < 4) : (tkM μ p t).1 0 j = μ.1 0 j := by
  unfold tkM tkB
  split
  · rw [wI_ne (by omega), wI_ne (by omega), wL_i, wI_ne (by omega), wI_ne (by omega)]
  · rw [wI_ne (by omega), wI_ne (by omega), wI_ne (by omega), wL_i, wI_ne (by omega), wI_ne (by omega)]
theorem tkn_2 (μ : Mem) : (tkn μ).1 0 2 = μ.1 0 2 := tkM_o _ _ _ (by omega)
theorem tkn_3 (μ : Mem) : (tkn μ).1 0 3 = μ.1 0 3 := tkM_o _ _ _ (by omega)
theorem sp_spoil_2 {μ : Mem} {w : Int32} (hw : 0 < w) : 0 < (sp_spoil μ w).1 0 2 := by
  unfold sp_spoil
  split
  · assumption
  · rw [wI_ne (Or.inr (by decide)), wI_same]
    split
    · decide
    · exact hw
theorem ps_0 {x : Int32} (h : 0 < x) : ¬ x = 0 := fun z => by subst z; exact absurd h (by decide)
theorem want_F0 {μ : Mem} {w : Int64} (h : (sp_want μ w).1 0 2 = 0) : μ.1 0 2 = 0 ∧ isWd μ w ∧ sp_want μ w = tkn μ := by
  unfold sp_want at h ⊢
  split at h
  · rename_i q; exact absurd h (ps_0 q)
  · rename_i q
    split at h
    · rename_i q2
      rw [tkn_2] at h
      rw [if_neg q, if_pos q2]
      exact ⟨h, q2, rfl⟩
    · exact absurd h (ps_0 (sp_spoil_2 (by decide)))
theorem told_F0 {μ : Mem} {a b : Int32} (h : (sp_told μ a b).2.1 0 2 = 0) : μ.1 0 2 = 0 ∧ μ.1 0 6 = 2 ∧ a ≤ μ.1 0 8 ∧ μ.1 0 8 ≤ b ∧ sp_told μ a b = (μ.1 0 8, tkn μ) := by
  unfold sp_told at h ⊢
  split at h
  · rename_i q; exact absurd h (ps_0 q)
  · rename_i q
    dsimp only at h
    have hA : (tdA μ a b).1 0 2 = 0 := by
      split at h
      · rename_i z; exact z
      · exact h
    rw [if_neg q, if_pos hA]
    unfold tdA at hA ⊢
    split at hA
    · rename_i q2
      split at hA
      · exact absurd hA (ps_0 (sp_spoil_2 (by decide)))
      · rename_i q3
        rw [if_pos q2, if_neg q3]
        exact ⟨hA, q2, Int32.not_lt.mp (fun z => q3 (Or.inl z)), Int32.not_lt.mp (fun z => q3 (Or.inr z)), rfl⟩
    · exact absurd hA (ps_0 (sp_spoil_2 (by decide)))
theorem signed_F0 {μ : Mem} {a b : Int32} (h : (sp_signed μ a b).2.1 0 2 = 0) : μ.1 0 2 = 0 ∧ (sgM μ).1 0 6 = 2 ∧ a ≤ sgV μ ∧ sgV μ ≤ b ∧ sp_signed μ a b = (sgV μ, tkn (sgM μ)) := by
  unfold sp_signed at h ⊢
  split at h
  · rename_i q; exact absurd h (ps_0 q)
  · rename_i q
    split at h
    · rename_i q2
      dsimp only at h
      split at h
      · rw [wI_ne (Or.inr (by decide)), wI_same] at h; exact absurd h (by decide)
      · rename_i q3
        rw [if_neg q, if_pos q2, if_neg q3]
        refine ⟨?_, q2, Int32.not_lt.mp (fun z => q3 (Or.inl z)), Int32.not_lt.mp (fun z => q3 (Or.inr z)), rfl⟩
        rw [tkn_2] at h
        unfold sgM at h
        split at h
        · rw [tkn_2] at h; exact h
        · exact h
    · exact absurd h (ps_0 (sp_spoil_2 (by decide)))
theorem oldBox_F0 {μ : Mem} (h : (sp_oldBox μ).2.1 0 2 = 0) : μ.1 0 2 = 0 ∧ isNm (tkn μ) ∧ ¬ obB μ < 0 ∧ sp_oldBox μ = (obB μ, tkn (tkn μ)) := by
  unfold sp_oldBox at h ⊢
  dsimp only at h ⊢
  have hA : (obM μ).1 0 2 = 0 := by
    split at h
    · rename_i z; exact z
    · exact h
  rw [if_pos hA]
  unfold obM at hA ⊢
  split at hA
  · rename_i q
    split at hA
    · exact absurd hA (ps_0 (sp_spoil_2 (by decide)))
    · rename_i q2
      rw [if_pos q, if_neg q2]
      rw [tkn_2] at hA
      exact ⟨hA, q, q2, rfl⟩
  · exact absurd hA (ps_0 (sp_spoil_2 (by decide)))
theorem bxO_c (N : Nat → Int64) (w : Int64) (n : Nat) : bxO N w n = -1 ∨ ∃ j, j < n ∧ bxO N w n = nI j ∧ N j = w := by
  induction n with
  | zero => exact Or.inl rfl
  | succ n ih =>
    unfold bxO
    split
    · rename_i q; exact Or.inr ⟨n, by omega, rfl, q⟩
    · rcases ih with ih | ⟨j, h1, h2, h3⟩
      · exact Or.inl ih
      · exact Or.inr ⟨j, by omega, h2, h3⟩
theorem Fg.sp {μ : Mem} {w : Int32} (hw : 0 < w) : 0 ≤ (sp_spoil μ w).1 0 2 := Int32.le_of_lt (sp_spoil_2 hw)
theorem Fg.tk {μ : Mem} (h : 0 ≤ μ.1 0 2) : 0 ≤ (tkn μ).1 0 2 := by rw [tkn_2]; exact h
theorem Fg.wa {μ : Mem} {w : Int64} (h : 0 ≤ μ.1 0 2) : 0 ≤ (sp_want μ w).1 0 2 := by
  unfold sp_want
  split
  · exact h
  · split
    · exact Fg.tk h
    · exact Fg.sp (by decide)
theorem Fg.tA {μ : Mem} {a b : Int32} (h : 0 ≤ μ.1 0 2) : 0 ≤ (tdA μ a b).1 0 2 := by
  unfold tdA
  split
  · split
    · exact Fg.sp (by decide)
    · exact h
  · exact Fg.sp (by decide)
theorem Fg.td {μ : Mem} {a b : Int32} (h : 0 ≤ μ.1 0 2) : 0 ≤ (sp_told μ a b).2.1 0 2 := by
  unfold sp_told
  split
  · exact h
  · dsimp only
    split
    · exact Fg.tk (Fg.tA h)
    · exact Fg.tA h
theorem Fg.gM {μ : Mem} (h : 0 ≤ μ.1 0 2) : 0 ≤ (sgM μ).1 0 2 := by
  unfold sgM
  split
  · exact Fg.tk h
  · exact h
theorem Fg.sg {μ : Mem} {a b : Int32} (h : 0 ≤ μ.1 0 2) : 0 ≤ (sp_signed μ a b).2.1 0 2 := by
  unfold sp_signed
  split
  · exact h
  · split
    · dsimp only
      split
      · rw [wI_ne (Or.inr (by decide)), wI_same]; decide
      · exact Fg.tk (Fg.gM h)
    · exact Fg.sp (by decide)
theorem Fg.oM {μ : Mem} (h : 0 ≤ μ.1 0 2) : 0 ≤ (obM μ).1 0 2 := by
  unfold obM
  split
  · split
    · exact Fg.sp (by decide)
    · exact Fg.tk h
  · exact Fg.sp (by decide)
theorem Fg.oB {μ : Mem} (h : 0 ≤ μ.1 0 2) : 0 ≤ (sp_oldBox μ).2.1 0 2 := by
  unfold sp_oldBox
  dsimp only
  split
  · exact Fg.tk (Fg.oM h)
  · exact Fg.oM h
theorem Fg.rn {μ : Mem} {z a b : Int32} (h : 0 ≤ μ.1 0 2) : 0 ≤ (rng z μ a b).2.1 0 2 := by
  unfold rng
  split
  · exact Fg.td h
  · exact Fg.sg h
theorem Fg.rr {μ : Mem} {b q : Nat} {w : Int64} {lo hi z : Int32} (h : 0 ≤ μ.1 0 2) : 0 ≤ (sp_readRange μ b q w lo hi z).1 0 2 := by
  unfold sp_readRange
  rw [wI_ne (Or.inl (by decide)), wI_ne (Or.inl (by decide))]
  exact Fg.rn (Fg.wa (Fg.rn (Fg.wa h)))
theorem Fg.z {x : Int32} (h : 0 ≤ x) (g : x ≤ 0) : x = 0 := by
  have h1 := i_le.mp h
  have h2 := i_le.mp g
  rw [i_eq]
  have h3 : (0 : Int32).toInt = 0 := rfl
  omega
/-! another line -/
abbrev onc (μ : Mem) : Prop := isWd μ 470021465444 ∨ isWd μ 440005915496
def roA (μ : Mem) : Int32 × Mem := if isWd μ 470021465444 ∨ isWd μ 440005915496 ∨ isWd μ 108243635103086 then sp_oldBox μ else (0, tkn μ)
def roB (μ : Mem) : Mem := if onc μ then sp_want (roA μ).2 28526 else (roA μ).2
def rz (μ : Mem) : Int32 := if onc μ then 1 else 0
def roC (μ : Mem) : Int32 × Mem := sp_told (roB μ) (rz μ) 59
def roP (μ : Mem) : Nat := 60 * (roA μ).1.toNatClampNeg + (roC μ).1.toNatClampNeg
def roM (μ : Mem) : Mem := if isWd μ 470021465444 then wI (roC μ).2 10 (roP μ) 1 else (roC μ).2
def roN (μ : Mem) : Mem := if isWd μ 440005915496 then wI (roM μ) 11 (roP μ) 1 else roM μ
def roD (μ : Mem) : Mem := wI (roN μ) 0 30 ((roN μ).1 0 30 + 1)
def flN (μ : Mem) (i a : Nat) : Nat → Mem
  | 0 => μ
  | n + 1 => flN (wI μ i a 1) i (a + 1) n
def roE (μ : Mem) : Int32 × Mem := sp_told (sp_want (roD μ) 29807) (roC μ).1 59
def roI (μ : Mem) : Nat := if isWd μ 108243635103086 then 12 else if isWd μ 29395908993245561 then 13 else 14
def roJ (μ : Mem) : Nat := if isWd μ 108243635103086 then roP μ else (roC μ).1.toNatClampNeg
def roF (μ : Mem) : Mem := if (roE μ).2.1 0 2 = 0 then flN (roE μ).2 (roI μ) (roJ μ) ((roE μ).1.toNatClampNeg + 1 - (roC μ).1.toNatClampNeg) else (roE μ).2
def sp_readOther (μ : Mem) : Mem := if 0 < (roC μ).2.1 0 2 then (roC μ).2 else if onc μ then roD μ else roF μ
theorem WFx.zA {μ : Mem} (h : WFx μ) : WFx (roA μ).2 := by
  unfold roA
  split
  · exact h.oldBox
  · exact h.tn
theorem WFx.zB {μ : Mem} (h : WFx μ) : WFx (roB μ) := by
  unfold roB
  split
  · exact h.zA.want
  · exact h.zA
theorem WFx.zC {μ : Mem} (h : WFx μ) : WFx (roC μ).2 := h.zB.told
theorem WFx.zD {μ : Mem} (h : WFx μ) : WFx (roD μ) := by
  have h1 : WFx (roM μ) := by
    unfold roM
    split
    · exact h.zC.o (by decide)
    · exact h.zC
  have h2 : WFx (roN μ) := by
    unfold roN
    split
    · exact h1.o (by decide)
    · exact h1
  exact h2.w (by decide)
theorem WFx.zE {μ : Mem} (h : WFx μ) : WFx (roE μ).2 := h.zD.want.told
theorem WFx.fl {i : Nat} (hi : 2 ≤ i) : ∀ (n a : Nat) (μ : Mem), WFx μ → WFx (flN μ i a n) := by
  intro n
  induction n with
  | zero => intro a μ h; exact h
  | succ n ih => intro a μ h; exact ih _ _ (h.o hi)
theorem roI_b (μ : Mem) : 12 ≤ roI μ ∧ roI μ ≤ 14 := by
  unfold roI
  split
  · omega
  · split <;> omega
theorem WFx.readOther {μ : Mem} (h : WFx μ) : WFx (sp_readOther μ) := by
  unfold sp_readOther
  split
  · exact h.zC
  · split
    · exact h.zD
    · unfold roF
      split
      · exact WFx.fl (by have := roI_b μ; omega) _ _ _ h.zE
      · exact h.zE
theorem Fg.zA {μ : Mem} (h : 0 ≤ μ.1 0 2) : 0 ≤ (roA μ).2.1 0 2 := by
  unfold roA
  split
  · exact Fg.oB h
  · exact Fg.tk h
theorem Fg.zC {μ : Mem} (h : 0 ≤ μ.1 0 2) : 0 ≤ (roC μ).2.1 0 2 := by
  unfold roC roB
  split
  · exact Fg.td (Fg.wa (Fg.zA h))
  · exact Fg.td (Fg.zA h)
theorem roB_F0 {μ : Mem} (h : (roB μ).1 0 2 = 0) : (roA μ).2.1 0 2 = 0 := by
  unfold roB at h
  split at h
  · exact (want_F0 h).1
  · exact h
theorem roA_F0 {μ : Mem} (hn : WFn μ) (h : (roA μ).2.1 0 2 = 0) : ∃ b : Nat, b < 5 ∧ (roA μ).1 = nI b := by
  unfold roA at h ⊢
  split at h
  · rename_i q
    rw [if_pos q]
    obtain ⟨-, h2, h3, h4⟩ := oldBox_F0 h
    rw [h4]
    show ∃ b : Nat, b < 5 ∧ obB μ = nI b
    unfold obB sp_boxOf at h3 ⊢
    have hb := (Rd.rf (μ := μ)).tk.n hn
    rcases bxO_c ((tkn μ).2.1 2) ((tkn μ).2.1 0 9) (nbN (tkn μ)) with e | ⟨j, j1, j2, -⟩
    · rw [e] at h3; exact absurd (by decide) h3
    · exact ⟨j, by have := hb.t.1; omega, j2⟩
  · rename_i q
    rw [if_neg q]
    exact ⟨0, by decide, rfl⟩
theorem roC_F0 {μ : Mem} (h : (roC μ).2.1 0 2 = 0) : ∃ f : Nat, f < 60 ∧ (roC μ).1 = nI f := by
  unfold roC at h ⊢
  obtain ⟨-, -, h1, h2, h3⟩ := told_F0 h
  rw [h3]
  have h4 : (0 : Int32) ≤ rz μ := by unfold rz; split <;> decide
  have h5 := i_le.mp h4
  have h6 := i_le.mp h1
  have h7 := i_le.mp h2
  have h8 : (59 : Int32).toInt = 59 := rfl
  have h9 : (0 : Int32).toInt = 0 := rfl
  obtain ⟨f, f1, f2, f3, -⟩ := i_nat (x := (roB μ).1 0 8) (i_le.mpr (by omega))
  exact ⟨f, by omega, f2⟩
theorem flN_n (i : Nat) (hi : i ≠ 0) : ∀ (n a : Nat) (μ : Mem) (k : Nat), (flN μ i a n).1 0 k = μ.1 0 k := by
  intro n
  induction n with
  | zero => intro a μ k; rfl
  | succ n ih => intro a μ k; unfold flN; rw [ih, wI_ne (Or.inl (by omega))]
theorem nI_60m {b f : Nat} {x y : Int32} (hx : x = nI b) (hy : y = nI f) : 60 * x + y = nI (60 * b + f) := by subst hx; subst hy; exact nI_60 b f
set_option maxHeartbeats 100000 in
set_option maxRecDepth 100000 in
theorem L_X12_readOther_181 {l : Launch} {G : Wd} {μ Z : Mem} {zm zf vb vf vt zb zh : Int32} {bn tn c p0 : Nat} (hb : vb = nI bn) (hb5 : bn < 5) (ht : vt = nI tn) (ht6 : tn < 60) (hZ : Z = sp_readOther μ) (hs : (¬ zb = 0 ∧ c = 12 ∧ p0 = 60 * bn) ∨ (zb = 0 ∧ ¬ zh = 0 ∧ c = 13 ∧ p0 = 0) ∨ (zb = 0 ∧ zh = 0 ∧ c = 14 ∧ p0 = 0)) : ∀ (q k : Nat) (m : Mem), q + k = tn + 1 → m.1 0 2 = 0 → flN m c (p0 + k) q = Z → AW l G KM RX12 cX12_readOther 9 4 none (Qv (fun μ' => μ' = sp_readOther μ)) 181 [some (.ref (gA G 0)), some (.int zm), some (.int zf), some (.int zb), some (.int zh), some (.int vb), some (.int vf), some (.int vt), some (.int (nI k))] [] m := by
  replace ht := ht.symm
  subst ht
  intro q
  induction q with
  | zero =>
    intro k m hq hm he
    have he2 : m = Z := he
    refine A_iload8 dX12_readOther_181 ?_
    refine A_iload7 dX12_readOther_183 ?_
    refine A_icmp_gt (tgt := 246) dX12_readOther_185 (by decide) (fun c_185 => ?_) (fun c_185 => absurd c_185 (fun z => z (nI_lt (by omega) (by omega))))
    refine A_vret dX12_readOther_246 ?_
    exact ⟨rfl, he2.trans hZ⟩
  | succ q ih =>
    intro k m hq hm he
    have hk6 : k < 60 := by omega
    rw [flN] at he
    rcases hs with ⟨z1, rfl, rfl⟩ | ⟨z1, z2, rfl, rfl⟩ | ⟨z1, z2, rfl, rfl⟩
    · skip
      refine A_iload8 dX12_readOther_181 ?_
      refine A_iload7 dX12_readOther_183 ?_
      refine A_icmp_gt (tgt := 246) dX12_readOther_185 (by decide) (fun c_185 => absurd c_185 (fun z => nI_nlt (by omega) (by omega) z)) (fun c_185 => ?_)
      refine A_aload0 dX12_readOther_188 ?_
      refine A_getI gf_X12_210 rfl dX12_readOther_189 ?_
      refine A_if_ne (tgt := 246) dX12_readOther_192 (by decide) (fun c_192 => absurd c_192 (fun z => z hm)) (fun c_192 => ?_)
      refine A_iload3 dX12_readOther_195 ?_
      refine A_if_eq (tgt := 216) dX12_readOther_196 (by decide) (fun c_196 => absurd c_196 (fun z => z1 z)) (fun c_196 => ?_)
      refine A_aload0 dX12_readOther_199 ?_
      refine A_getR gf_X12_49 rfl dX12_readOther_200 ?_
      refine A_bipush (v := 60) dX12_readOther_203 (by decide) ?_
      refine A_iload5 dX12_readOther_205 ?_
      refine A_imul dX12_readOther_207 ?_
      refine A_iload8 dX12_readOther_208 ?_
      refine A_iadd dX12_readOther_210 ?_
      rw [nI_60m hb rfl]
      refine A_iconst (v := 1) dX12_readOther_211 (by decide) ?_
      refine A_zast (rfl) (vp_in_nI (by omega) (by omega)) dX12_readOther_212 ?_
      rw [nI_c (by omega), vz_1]
      refine A_goto (tgt := 240) dX12_readOther_213 (by decide) ?_
      refine A_iinc8 dX12_readOther_240 rfl rfl (by decide) ?_
      rw [show nI k + Int32.ofInt 1 = nI (k + 1) from nI_1 k]
      refine A_goto (tgt := 181) dX12_readOther_243 (by decide) ?_
      exact ih (k + 1) (wI m 12 (60 * bn + k) 1) (by omega) (by rw [wI_ne (Or.inl (by decide))]; exact hm) (he)
    · skip
      refine A_iload8 dX12_readOther_181 ?_
      refine A_iload7 dX12_readOther_183 ?_
      refine A_icmp_gt (tgt := 246) dX12_readOther_185 (by decide) (fun c_185 => absurd c_185 (fun z => nI_nlt (by omega) (by omega) z)) (fun c_185 => ?_)
      refine A_aload0 dX12_readOther_188 ?_
      refine A_getI gf_X12_210 rfl dX12_readOther_189 ?_
      refine A_if_ne (tgt := 246) dX12_readOther_192 (by decide) (fun c_192 => absurd c_192 (fun z => z hm)) (fun c_192 => ?_)
      refine A_iload3 dX12_readOther_195 ?_
      refine A_if_eq (tgt := 216) dX12_readOther_196 (by decide) (fun c_196 => ?_) (fun c_196 => absurd c_196 (fun z => z z1))
      refine A_iload4 dX12_readOther_216 ?_
      refine A_if_eq (tgt := 232) dX12_readOther_218 (by decide) (fun c_218 => absurd c_218 (fun z => z2 z)) (fun c_218 => ?_)
      refine A_aload0 dX12_readOther_221 ?_
      refine A_getR gf_X12_52 rfl dX12_readOther_222 ?_
      refine A_iload8 dX12_readOther_225 ?_
      refine A_iconst (v := 1) dX12_readOther_227 (by decide) ?_
      refine A_zast (rfl) (vp_in_nI (by omega) (by omega)) dX12_readOther_228 ?_
      rw [nI_c (by omega), vz_1]
      refine A_goto (tgt := 240) dX12_readOther_229 (by decide) ?_
      refine A_iinc8 dX12_readOther_240 rfl rfl (by decide) ?_
      rw [show nI k + Int32.ofInt 1 = nI (k + 1) from nI_1 k]
      refine A_goto (tgt := 181) dX12_readOther_243 (by decide) ?_
      exact ih (k + 1) (wI m 13 (k) 1) (by omega) (by rw [wI_ne (Or.inl (by decide))]; exact hm) (by rw [Nat.zero_add] at he ⊢; exact he)
    · skip
      refine A_iload8 dX12_readOther_181 ?_
      refine A_iload7 dX12_readOther_183 ?_
      refine A_icmp_gt (tgt := 246) dX12_readOther_185 (by decide) (fun c_185 => absurd c_185 (fun z => nI_nlt (by omega) (by omega) z)) (fun c_185 => ?_)
      refine A_aload0 dX12_readOther_188 ?_
      refine A_getI gf_X12_210 rfl dX12_readOther_189 ?_
      refine A_if_ne (tgt := 246) dX12_readOther_192 (by decide) (fun c_192 => absurd c_192 (fun z => z hm)) (fun c_192 => ?_)
      refine A_iload3 dX12_readOther_195 ?_
      refine A_if_eq (tgt := 216) dX12_readOther_196 (by decide) (fun c_196 => ?_) (fun c_196 => absurd c_196 (fun z => z z1))
      refine A_iload4 dX12_readOther_216 ?_
      refine A_if_eq (tgt := 232) dX12_readOther_218 (by decide) (fun c_218 => ?_) (fun c_218 => absurd c_218 (fun z => z z2))
      refine A_aload0 dX12_readOther_232 ?_
      refine A_getR gf_X12_55 rfl dX12_readOther_233 ?_
      refine A_iload8 dX12_readOther_236 ?_
      refine A_iconst (v := 1) dX12_readOther_238 (by decide) ?_
      refine A_zast (rfl) (vp_in_nI (by omega) (by omega)) dX12_readOther_239 ?_
      rw [nI_c (by omega), vz_1]
      refine A_iinc8 dX12_readOther_240 rfl rfl (by decide) ?_
      rw [show nI k + Int32.ofInt 1 = nI (k + 1) from nI_1 k]
      refine A_goto (tgt := 181) dX12_readOther_243 (by decide) ?_
      exact ih (k + 1) (wI m 14 (k) 1) (by omega) (by rw [wI_ne (Or.inl (by decide))]; exact hm) (by rw [Nat.zero_add] at he ⊢; exact he)
set_option maxHeartbeats 100000 in
set_option maxRecDepth 100000 in
theorem L_X12_readOther_k {l : Launch} {G : Wd} {μ m : Mem} {zm zf zb zh vb vf r : Int32} (em0 : zm = bz (isWd μ 470021465444)) (ef0 : zf = bz (isWd μ 440005915496)) (eb0 : zb = bz (isWd μ 108243635103086)) (eh0 : zh = bz (isWd μ 29395908993245561)) {bn fn : Nat} (hb : vb = nI bn) (eb : vb = (roA μ).1) (hb5 : bn < 5) (hf : vf = nI fn) (ef : vf = (roC μ).1) (hf6 : fn < 60) (h1 : ¬ 0 < (roC μ).2.1 0 2) (eE : roE μ = (r, m)) (h2 : ¬ onc μ) : AW l G KM RX12 cX12_readOther 9 4 none (Qv (fun μ' => μ' = sp_readOther μ)) 181 [some (.ref (gA G 0)), some (.int zm), some (.int zf), some (.int zb), some (.int zh), some (.int vb), some (.int vf), some (.int r), some (.int vf)] [] m := by
  have eF : sp_readOther μ = roF μ := (if_neg h1).trans (if_neg h2)
  by_cases hE : m.1 0 2 = 0
  · have hE2 : (roE μ).2.1 0 2 = 0 := by rw [eE]; exact hE
    obtain ⟨-, -, g1, g2, g3⟩ := told_F0 hE2
    have g4 : (sp_want (roD μ) 29807).1 0 8 = r := congrArg Prod.fst (g3.symm.trans eE)
    rw [g4] at g1 g2
    rw [← ef, hf] at g1
    have g5 := i_le.mp g1
    have g6 := i_le.mp g2
    rw [nI_i (by omega)] at g5
    have h8 : (59 : Int32).toInt = 59 := rfl
    obtain ⟨tn, f1, f2, f3, -⟩ := i_nat (x := r) (i_le.mpr (by show (0 : Int) ≤ _; omega))
    have eP : roP μ = 60 * bn + fn := by unfold roP; rw [← eb, ← ef, hb, hf, nI_c (by omega), nI_c (by omega)]
    have eC : (roC μ).1.toNatClampNeg = fn := by rw [← ef, hf, nI_c (by omega)]
    have eR : roF μ = flN m (roI μ) (roJ μ) (tn + 1 - fn) := by
      unfold roF
      rw [eE, eC]
      dsimp only
      rw [if_pos hE, f2, nI_c (by omega)]
    have go : ∀ c p0 : Nat, roI μ = c → roJ μ = p0 + fn → ((¬ zb = 0 ∧ c = 12 ∧ p0 = 60 * bn) ∨ (zb = 0 ∧ ¬ zh = 0 ∧ c = 13 ∧ p0 = 0) ∨ (zb = 0 ∧ zh = 0 ∧ c = 14 ∧ p0 = 0)) → AW l G KM RX12 cX12_readOther 9 4 none (Qv (fun μ' => μ' = sp_readOther μ)) 181 [some (.ref (gA G 0)), some (.int zm), some (.int zf), some (.int zb), some (.int zh), some (.int vb), some (.int vf), some (.int r), some (.int vf)] [] m := by
      intro c p0 e1 e2 hs
      refine A_setl (ls' := [some (Value.ref (gA G 0)), some (Value.int zm), some (Value.int zf), some (Value.int zb), some (Value.int zh), some (Value.int vb), some (Value.int vf), some (Value.int r), some (Value.int (nI fn))]) (by rw [hf]) ?_
      exact L_X12_readOther_181 hb hb5 f2 (by omega) eF.symm hs (tn + 1 - fn) fn m (by omega) hE (by rw [eR, e1, e2])
    by_cases hB : isWd μ 108243635103086
    · exact go 12 (60 * bn) (if_pos hB) ((if_pos hB).trans eP) (Or.inl ⟨by rw [eb0, bz_t hB]; decide, rfl, rfl⟩)
    · by_cases hH : isWd μ 29395908993245561
      · exact go 13 0 ((if_neg hB).trans (if_pos hH)) ((if_neg hB).trans (eC.trans (Nat.zero_add _).symm)) (Or.inr (Or.inl ⟨by rw [eb0, bz_f hB], by rw [eh0, bz_t hH]; decide, rfl, rfl⟩))
      · exact go 14 0 ((if_neg hB).trans (if_neg hH)) ((if_neg hB).trans (eC.trans (Nat.zero_add _).symm)) (Or.inr (Or.inr ⟨by rw [eb0, bz_f hB], by rw [eh0, bz_f hH], rfl, rfl⟩))
  · have eR : roF μ = m := by
      unfold roF
      rw [eE]
      exact if_neg hE
    refine A_iload8 dX12_readOther_181 ?_
    refine A_iload7 dX12_readOther_183 ?_
    refine A_icmp_gt (tgt := 246) dX12_readOther_185 (by decide) (fun c_185 => ?_) (fun c_185 => ?_)
    · refine A_vret dX12_readOther_246 ?_
      exact ⟨rfl, (eF.trans eR).symm⟩
    · refine A_aload0 dX12_readOther_188 ?_
      refine A_getI gf_X12_210 rfl dX12_readOther_189 ?_
      refine A_if_ne (tgt := 246) dX12_readOther_192 (by decide) (fun c_192 => ?_) (fun c_192 => absurd c_192 (fun z => hE z))
      refine A_vret dX12_readOther_246 ?_
      exact ⟨rfl, (eF.trans eR).symm⟩
set_option maxHeartbeats 100000 in
set_option maxRecDepth 100000 in
theorem L_X12_readOther_160 {l : Launch} {G : Wd} {μ m : Mem} {zm zf zb zh vb vf : Int32} {x7 x8 : Option Value} (em0 : zm = bz (isWd μ 470021465444)) (ef0 : zf = bz (isWd μ 440005915496)) (eb0 : zb = bz (isWd μ 108243635103086)) (eh0 : zh = bz (isWd μ 29395908993245561)) {bn fn : Nat} (hb : vb = nI bn) (eb : vb = (roA μ).1) (hb5 : bn < 5) (hf : vf = nI fn) (ef : vf = (roC μ).1) (hf6 : fn < 60) (h1 : ¬ 0 < (roC μ).2.1 0 2) (em : m = roD μ) (hw : WFx m) (h2 : ¬ onc μ) : AW l G KM RX12 cX12_readOther 9 4 none (Qv (fun μ' => μ' = sp_readOther μ)) 160 [some (.ref (gA G 0)), some (.int zm), some (.int zf), some (.int zb), some (.int zh), some (.int vb), some (.int vf), x7, x8] [] m := by
  refine A_aload0 dX12_readOther_160 ?_
  refine A_ldc2 dX12_readOther_161 kc_X12_228 ?_
  refine A_vv1 lk_X12_278 yv_X12_want dX12_readOther_164 (rfl) (rfl) (T_X12_want hw) (by decide) (Nat.le_of_ble_eq_true rfl) (fun μ_164 h_164 => ?_)
  replace h_164 := Eq.symm h_164
  subst h_164
  refine A_aload0 dX12_readOther_167 ?_
  refine A_iload6 dX12_readOther_168 ?_
  refine A_bipush (v := 59) dX12_readOther_170 (by decide) ?_
  refine A_vi2 lk_X12_286 yv_X12_told dX12_readOther_172 (rfl) (rfl) (T_X12_told hw.want) (by decide) (Nat.le_of_ble_eq_true rfl) (fun r_172 μ_172 h_172 => ?_)
  refine A_istore7 dX12_readOther_175 rfl (by decide) ?_
  refine A_iload6 dX12_readOther_177 ?_
  refine A_istore8 dX12_readOther_179 rfl (by decide) ?_
  have eE : roE μ = (r_172, μ_172) := by unfold roE; rw [← em, ← ef]; exact h_172
  exact L_X12_readOther_k em0 ef0 eb0 eh0 hb eb hb5 hf ef hf6 h1 eE h2
set_option maxHeartbeats 100000 in
set_option maxRecDepth 100000 in
theorem L_X12_readOther_141 {l : Launch} {G : Wd} {μ m : Mem} {zm zf zb zh vb vf : Int32} {x7 x8 : Option Value} (em0 : zm = bz (isWd μ 470021465444)) (ef0 : zf = bz (isWd μ 440005915496)) (eb0 : zb = bz (isWd μ 108243635103086)) (eh0 : zh = bz (isWd μ 29395908993245561)) {bn fn : Nat} (hb : vb = nI bn) (eb : vb = (roA μ).1) (hb5 : bn < 5) (hf : vf = nI fn) (ef : vf = (roC μ).1) (hf6 : fn < 60) (h1 : ¬ 0 < (roC μ).2.1 0 2) (em : m = roN μ) (hw : WFx m) : AW l G KM RX12 cX12_readOther 9 4 none (Qv (fun μ' => μ' = sp_readOther μ)) 141 [some (.ref (gA G 0)), some (.int zm), some (.int zf), some (.int zb), some (.int zh), some (.int vb), some (.int vf), x7, x8] [] m := by
  refine A_aload0 dX12_readOther_141 ?_
  refine A_dup dX12_readOther_142 rfl ?_
  refine A_getI gf_X12_305 rfl dX12_readOther_143 ?_
  refine A_iconst (v := 1) dX12_readOther_146 (by decide) ?_
  refine A_iadd dX12_readOther_147 ?_
  refine A_putI gf_X12_305 rfl dX12_readOther_148 ?_
  have eD : wI m 0 30 (m.1 0 30 + 1) = roD μ := by unfold roD; rw [em]
  refine A_iload1 dX12_readOther_151 ?_
  refine A_if_ne (tgt := 159) dX12_readOther_152 (by decide) (fun c_152 => ?_) (fun c_152 => ?_)
  · refine A_vret dX12_readOther_159 ?_
    rw [eD]
    exact ⟨rfl, ((if_neg h1).trans (if_pos (Or.inl (bz_y (em0 ▸ c_152))))).symm⟩
  · refine A_iload2 dX12_readOther_155 ?_
    refine A_if_eq (tgt := 160) dX12_readOther_156 (by decide) (fun c_156 => ?_) (fun c_156 => ?_)
    · exact L_X12_readOther_160 em0 ef0 eb0 eh0 hb eb hb5 hf ef hf6 h1 eD (hw.w (by decide)) (fun z => by rcases z with z | z; exact bz_0.mp (em0 ▸ c_152) z; exact bz_0.mp (ef0 ▸ c_156) z)
    · refine A_vret dX12_readOther_159 ?_
      rw [eD]
      exact ⟨rfl, ((if_neg h1).trans (if_pos (Or.inr (bz_y (ef0 ▸ c_156))))).symm⟩
set_option maxHeartbeats 100000 in
set_option maxRecDepth 100000 in
theorem L_X12_readOther_123 {l : Launch} {G : Wd} {μ m : Mem} {zm zf zb zh vb vf : Int32} {x7 x8 : Option Value} (em0 : zm = bz (isWd μ 470021465444)) (ef0 : zf = bz (isWd μ 440005915496)) (eb0 : zb = bz (isWd μ 108243635103086)) (eh0 : zh = bz (isWd μ 29395908993245561)) {bn fn : Nat} (hb : vb = nI bn) (eb : vb = (roA μ).1) (hb5 : bn < 5) (hf : vf = nI fn) (ef : vf = (roC μ).1) (hf6 : fn < 60) (h1 : ¬ 0 < (roC μ).2.1 0 2) (em : m = roM μ) (hw : WFx m) : AW l G KM RX12 cX12_readOther 9 4 none (Qv (fun μ' => μ' = sp_readOther μ)) 123 [some (.ref (gA G 0)), some (.int zm), some (.int zf), some (.int zb), some (.int zh), some (.int vb), some (.int vf), x7, x8] [] m := by
  have eP : roP μ = 60 * bn + fn := by unfold roP; rw [← eb, ← ef, hb, hf, nI_c (by omega), nI_c (by omega)]
  refine A_iload2 dX12_readOther_123 ?_
  refine A_if_eq (tgt := 141) dX12_readOther_124 (by decide) (fun c_124 => ?_) (fun c_124 => ?_)
  · exact L_X12_readOther_141 em0 ef0 eb0 eh0 hb eb hb5 hf ef hf6 h1 (em.trans (if_neg (bz_0.mp (ef0 ▸ c_124))).symm) hw
  · refine A_aload0 dX12_readOther_127 ?_
    refine A_getR gf_X12_46 rfl dX12_readOther_128 ?_
    refine A_bipush (v := 60) dX12_readOther_131 (by decide) ?_
    refine A_iload5 dX12_readOther_133 ?_
    refine A_imul dX12_readOther_135 ?_
    refine A_iload6 dX12_readOther_136 ?_
    refine A_iadd dX12_readOther_138 ?_
    rw [nI_60m hb hf]
    refine A_iconst (v := 1) dX12_readOther_139 (by decide) ?_
    refine A_zast (rfl) (vp_in_nI (by omega) (by omega)) dX12_readOther_140 ?_
    rw [nI_c (by omega), vz_1]
    have e1 : roN μ = wI (roM μ) 11 (roP μ) 1 := if_pos (bz_y (ef0 ▸ c_124))
    exact L_X12_readOther_141 em0 ef0 eb0 eh0 hb eb hb5 hf ef hf6 h1 (by rw [e1, eP, em]) (hw.o (by decide))
set_option maxHeartbeats 100000 in
set_option maxRecDepth 100000 in
theorem L_X12_readOther_105 {l : Launch} {G : Wd} {μ m : Mem} {zm zf zb zh vb vf : Int32} {x7 x8 : Option Value} (em0 : zm = bz (isWd μ 470021465444)) (ef0 : zf = bz (isWd μ 440005915496)) (eb0 : zb = bz (isWd μ 108243635103086)) (eh0 : zh = bz (isWd μ 29395908993245561)) {bn fn : Nat} (hb : vb = nI bn) (eb : vb = (roA μ).1) (hb5 : bn < 5) (hf : vf = nI fn) (ef : vf = (roC μ).1) (hf6 : fn < 60) (h1 : ¬ 0 < (roC μ).2.1 0 2) (em : m = (roC μ).2) (hw : WFx m) : AW l G KM RX12 cX12_readOther 9 4 none (Qv (fun μ' => μ' = sp_readOther μ)) 105 [some (.ref (gA G 0)), some (.int zm), some (.int zf), some (.int zb), some (.int zh), some (.int vb), some (.int vf), x7, x8] [] m := by
  have eP : roP μ = 60 * bn + fn := by unfold roP; rw [← eb, ← ef, hb, hf, nI_c (by omega), nI_c (by omega)]
  refine A_iload1 dX12_readOther_105 ?_
  refine A_if_eq (tgt := 123) dX12_readOther_106 (by decide) (fun c_106 => ?_) (fun c_106 => ?_)
  · exact L_X12_readOther_123 em0 ef0 eb0 eh0 hb eb hb5 hf ef hf6 h1 (em.trans (if_neg (bz_0.mp (em0 ▸ c_106))).symm) hw
  · refine A_aload0 dX12_readOther_109 ?_
    refine A_getR gf_X12_42 rfl dX12_readOther_110 ?_
    refine A_bipush (v := 60) dX12_readOther_113 (by decide) ?_
    refine A_iload5 dX12_readOther_115 ?_
    refine A_imul dX12_readOther_117 ?_
    refine A_iload6 dX12_readOther_118 ?_
    refine A_iadd dX12_readOther_120 ?_
    rw [nI_60m hb hf]
    refine A_iconst (v := 1) dX12_readOther_121 (by decide) ?_
    refine A_zast (rfl) (vp_in_nI (by omega) (by omega)) dX12_readOther_122 ?_
    rw [nI_c (by omega), vz_1]
    have e1 : roM μ = wI (roC μ).2 10 (roP μ) 1 := if_pos (bz_y (em0 ▸ c_106))
    exact L_X12_readOther_123 em0 ef0 eb0 eh0 hb eb hb5 hf ef hf6 h1 (by rw [e1, eP, em]) (hw.o (by decide))
set_option maxHeartbeats 100000 in
set_option maxRecDepth 100000 in
theorem L_X12_readOther_90 {l : Launch} {G : Wd} {μ m : Mem} {zm zf zb zh vb : Int32} {x6 x7 x8 : Option Value} {z : Int32} (em0 : zm = bz (isWd μ 470021465444)) (ef0 : zf = bz (isWd μ 440005915496)) (eb0 : zb = bz (isWd μ 108243635103086)) (eh0 : zh = bz (isWd μ 29395908993245561)) (hn0 : WFn μ) (h0 : μ.1 0 2 = 0) (eb : vb = (roA μ).1) (ez : z = rz μ) (em : m = roB μ) (hw : WFx m) : AW l G KM RX12 cX12_readOther 9 4 none (Qv (fun μ' => μ' = sp_readOther μ)) 90 [some (.ref (gA G 0)), some (.int zm), some (.int zf), some (.int zb), some (.int zh), some (.int vb), x6, x7, x8] [.int z, .ref (gA G 0)] m := by
  refine A_bipush (v := 59) dX12_readOther_90 (by decide) ?_
  refine A_vi2 lk_X12_286 yv_X12_told dX12_readOther_92 (rfl) (rfl) (T_X12_told hw) (by decide) (Nat.le_of_ble_eq_true rfl) (fun r_92 μ_92 h_92 => ?_)
  have eC : roC μ = (r_92, μ_92) := by unfold roC; rw [← em, ← ez]; exact h_92
  have e1 : r_92 = (roC μ).1 := by rw [eC]
  have e2 : μ_92 = (roC μ).2 := by rw [eC]
  have hwC : WFx μ_92 := by have := hw.told (a := z) (b := 59); rw [h_92] at this; exact this
  refine A_istore6 dX12_readOther_95 rfl (by decide) ?_
  refine A_aload0 dX12_readOther_97 ?_
  refine A_getI gf_X12_210 rfl dX12_readOther_98 ?_
  refine A_if_le (tgt := 105) dX12_readOther_101 (by decide) (fun c_101 => ?_) (fun c_101 => ?_)
  · have hF : (roC μ).2.1 0 2 = 0 := Fg.z (Fg.zC (by rw [h0]; decide)) (e2 ▸ c_101)
    obtain ⟨fn, hf6, hf⟩ := roC_F0 hF
    obtain ⟨bn, hb5, hb⟩ := roA_F0 hn0 (roB_F0 (told_F0 hF).1)
    exact L_X12_readOther_105 em0 ef0 eb0 eh0 (eb.trans hb) eb hb5 (e1.trans hf) e1 hf6 (Int32.not_lt.mpr (e2 ▸ c_101)) e2 hwC
  · refine A_vret dX12_readOther_104 ?_
    exact ⟨rfl, e2.trans (if_pos (Int32.not_le.mp (e2 ▸ c_101))).symm⟩
set_option maxHeartbeats 100000 in
set_option maxRecDepth 100000 in
theorem L_X12_readOther_76 {l : Launch} {G : Wd} {μ m : Mem} {zm zf zb zh vb : Int32} {x6 x7 x8 : Option Value} (em0 : zm = bz (isWd μ 470021465444)) (ef0 : zf = bz (isWd μ 440005915496)) (eb0 : zb = bz (isWd μ 108243635103086)) (eh0 : zh = bz (isWd μ 29395908993245561)) (hn0 : WFn μ) (h0 : μ.1 0 2 = 0) (eb : vb = (roA μ).1) (em : m = roB μ) (hw : WFx m) : AW l G KM RX12 cX12_readOther 9 4 none (Qv (fun μ' => μ' = sp_readOther μ)) 76 [some (.ref (gA G 0)), some (.int zm), some (.int zf), some (.int zb), some (.int zh), some (.int vb), x6, x7, x8] [] m := by
  refine A_aload0 dX12_readOther_76 ?_
  refine A_iload1 dX12_readOther_77 ?_
  refine A_if_ne (tgt := 85) dX12_readOther_78 (by decide) (fun c_78 => ?_) (fun c_78 => ?_)
  · refine A_iconst (v := 1) dX12_readOther_85 (by decide) ?_
    refine A_goto (tgt := 90) dX12_readOther_86 (by decide) ?_
    exact L_X12_readOther_90 em0 ef0 eb0 eh0 hn0 h0 eb ((if_pos (Or.inl (bz_y (em0 ▸ c_78)))).symm) em hw
  · refine A_iload2 dX12_readOther_81 ?_
    refine A_if_eq (tgt := 89) dX12_readOther_82 (by decide) (fun c_82 => ?_) (fun c_82 => ?_)
    · refine A_iconst (v := 0) dX12_readOther_89 (by decide) ?_
      exact L_X12_readOther_90 em0 ef0 eb0 eh0 hn0 h0 eb ((if_neg (fun z => by rcases z with z | z; exact bz_0.mp (em0 ▸ c_78) z; exact bz_0.mp (ef0 ▸ c_82) z)).symm) em hw
    · refine A_iconst (v := 1) dX12_readOther_85 (by decide) ?_
      refine A_goto (tgt := 90) dX12_readOther_86 (by decide) ?_
      exact L_X12_readOther_90 em0 ef0 eb0 eh0 hn0 h0 eb ((if_pos (Or.inr (bz_y (ef0 ▸ c_82)))).symm) em hw
set_option maxHeartbeats 100000 in
set_option maxRecDepth 100000 in
theorem L_X12_readOther_61 {l : Launch} {G : Wd} {μ m : Mem} {zm zf zb zh vb : Int32} {x6 x7 x8 : Option Value} (em0 : zm = bz (isWd μ 470021465444)) (ef0 : zf = bz (isWd μ 440005915496)) (eb0 : zb = bz (isWd μ 108243635103086)) (eh0 : zh = bz (isWd μ 29395908993245561)) (hn0 : WFn μ) (h0 : μ.1 0 2 = 0) (eb : vb = (roA μ).1) (em : m = (roA μ).2) (hw : WFx m) : AW l G KM RX12 cX12_readOther 9 4 none (Qv (fun μ' => μ' = sp_readOther μ)) 61 [some (.ref (gA G 0)), some (.int zm), some (.int zf), some (.int zb), some (.int zh), some (.int vb), x6, x7, x8] [] m := by
  refine A_iload1 dX12_readOther_61 ?_
  refine A_if_ne (tgt := 69) dX12_readOther_62 (by decide) (fun c_62 => ?_) (fun c_62 => ?_)
  · refine A_aload0 dX12_readOther_69 ?_
    refine A_ldc2 dX12_readOther_70 kc_X12_242 ?_
    refine A_vv1 lk_X12_278 yv_X12_want dX12_readOther_73 (rfl) (rfl) (T_X12_want hw) (by decide) (Nat.le_of_ble_eq_true rfl) (fun μ_73 h_73 => ?_)
    have e1 : roB μ = sp_want (roA μ).2 28526 := if_pos (Or.inl (bz_y (em0 ▸ c_62)))
    exact L_X12_readOther_76 em0 ef0 eb0 eh0 hn0 h0 eb (by rw [e1, ← em]; exact h_73) (by rw [h_73]; exact hw.want)
  · refine A_iload2 dX12_readOther_65 ?_
    refine A_if_eq (tgt := 76) dX12_readOther_66 (by decide) (fun c_66 => ?_) (fun c_66 => ?_)
    · exact L_X12_readOther_76 em0 ef0 eb0 eh0 hn0 h0 eb (em.trans (if_neg (fun z => by rcases z with z | z; exact bz_0.mp (em0 ▸ c_62) z; exact bz_0.mp (ef0 ▸ c_66) z)).symm) hw
    · refine A_aload0 dX12_readOther_69 ?_
      refine A_ldc2 dX12_readOther_70 kc_X12_242 ?_
      refine A_vv1 lk_X12_278 yv_X12_want dX12_readOther_73 (rfl) (rfl) (T_X12_want hw) (by decide) (Nat.le_of_ble_eq_true rfl) (fun μ_73 h_73 => ?_)
      have e1 : roB μ = sp_want (roA μ).2 28526 := if_pos (Or.inr (bz_y (ef0 ▸ c_66)))
      exact L_X12_readOther_76 em0 ef0 eb0 eh0 hn0 h0 eb (by rw [e1, ← em]; exact h_73) (by rw [h_73]; exact hw.want)
set_option maxHeartbeats 100000 in
set_option maxRecDepth 100000 in
theorem T_X12_readOther {l : Launch} {G : Wd} {μ : Mem} (hw : WFx μ) (hn0 : WFn μ) (h0 : μ.1 0 2 = 0) : Mt l G KM yX12_readOther cX12_readOther 9 none 4 [.ref (gA G 0)] μ (Qv (fun μ' => μ' = sp_readOther μ)) := by
  refine Mt.of (own := RX12) (n := 8) (by decide) rfl [some (.ref (gA G 0)), none, none, none, none, none, none, none, none] rfl (Nat.le_of_ble_eq_true rfl) ?_
  refine A_aload0 dX12_readOther_0 ?_
  refine A_ldc2 dX12_readOther_1 kc_X12_238 ?_
  refine A_vi1 lk_X12_268 yv_X12_isWord dX12_readOther_4 (rfl) (rfl) (T_X12_isWord) (by decide) (Nat.le_of_ble_eq_true rfl) (fun r_4 μ_4 h_4 => ?_)
  obtain ⟨em0, e_4⟩ := h_4
  replace e_4 := Eq.symm e_4
  subst e_4
  refine A_istore1 dX12_readOther_7 rfl (by decide) ?_
  refine A_aload0 dX12_readOther_8 ?_
  refine A_ldc2 dX12_readOther_9 kc_X12_240 ?_
  refine A_vi1 lk_X12_268 yv_X12_isWord dX12_readOther_12 (rfl) (rfl) (T_X12_isWord) (by decide) (Nat.le_of_ble_eq_true rfl) (fun r_12 μ_12 h_12 => ?_)
  obtain ⟨ef0, e_12⟩ := h_12
  replace e_12 := Eq.symm e_12
  subst e_12
  refine A_istore2 dX12_readOther_15 rfl (by decide) ?_
  refine A_aload0 dX12_readOther_16 ?_
  refine A_ldc2 dX12_readOther_17 kc_X12_244 ?_
  refine A_vi1 lk_X12_268 yv_X12_isWord dX12_readOther_20 (rfl) (rfl) (T_X12_isWord) (by decide) (Nat.le_of_ble_eq_true rfl) (fun r_20 μ_20 h_20 => ?_)
  obtain ⟨eb0, e_20⟩ := h_20
  replace e_20 := Eq.symm e_20
  subst e_20
  refine A_istore3 dX12_readOther_23 rfl (by decide) ?_
  refine A_aload0 dX12_readOther_24 ?_
  refine A_ldc2 dX12_readOther_25 kc_X12_246 ?_
  refine A_vi1 lk_X12_268 yv_X12_isWord dX12_readOther_28 (rfl) (rfl) (T_X12_isWord) (by decide) (Nat.le_of_ble_eq_true rfl) (fun r_28 μ_28 h_28 => ?_)
  obtain ⟨eh0, e_28⟩ := h_28
  replace e_28 := Eq.symm e_28
  subst e_28
  refine A_istore4 dX12_readOther_31 rfl (by decide) ?_
  refine A_iconst (v := 0) dX12_readOther_33 (by decide) ?_
  refine A_istore5 dX12_readOther_34 rfl (by decide) ?_
  refine A_iload1 dX12_readOther_36 ?_
  refine A_if_ne (tgt := 48) dX12_readOther_37 (by decide) (fun c_37 => ?_) (fun c_37 => ?_)
  · refine A_aload0 dX12_readOther_48 ?_
    refine A_vi0 lk_X12_301 yv_X12_oldBox dX12_readOther_49 (rfl) (rfl) (T_X12_oldBox hw hn0) (by decide) (Nat.le_of_ble_eq_true rfl) (fun r_49 μ_49 h_49 => ?_)
    refine A_istore5 dX12_readOther_52 rfl (by decide) ?_
    refine A_goto (tgt := 61) dX12_readOther_54 (by decide) ?_
    have e1 : roA μ = (r_49, μ_49) := (if_pos (Or.inl (bz_y (em0 ▸ c_37)))).trans h_49
    exact L_X12_readOther_61 em0 ef0 eb0 eh0 hn0 h0 (by rw [e1]) (by rw [e1]) (by have := hw.oldBox; rw [h_49] at this; exact this)
  · refine A_iload2 dX12_readOther_40 ?_
    refine A_if_ne (tgt := 48) dX12_readOther_41 (by decide) (fun c_41 => ?_) (fun c_41 => ?_)
    · refine A_aload0 dX12_readOther_48 ?_
      refine A_vi0 lk_X12_301 yv_X12_oldBox dX12_readOther_49 (rfl) (rfl) (T_X12_oldBox hw hn0) (by decide) (Nat.le_of_ble_eq_true rfl) (fun r_49 μ_49 h_49 => ?_)
      refine A_istore5 dX12_readOther_52 rfl (by decide) ?_
      refine A_goto (tgt := 61) dX12_readOther_54 (by decide) ?_
      have e1 : roA μ = (r_49, μ_49) := (if_pos (Or.inr (Or.inl (bz_y (ef0 ▸ c_41))))).trans h_49
      exact L_X12_readOther_61 em0 ef0 eb0 eh0 hn0 h0 (by rw [e1]) (by rw [e1]) (by have := hw.oldBox; rw [h_49] at this; exact this)
    · refine A_iload3 dX12_readOther_44 ?_
      refine A_if_eq (tgt := 57) dX12_readOther_45 (by decide) (fun c_45 => ?_) (fun c_45 => ?_)
      · refine A_aload0 dX12_readOther_57 ?_
        refine A_vv0 lk_X12_213 yv_X12_token dX12_readOther_58 (rfl) (rfl) (T_X12_tkn hw) (by decide) (Nat.le_of_ble_eq_true rfl) (fun μ_58 h_58 => ?_)
        have e1 : roA μ = (0, tkn μ) := if_neg (fun z => by rcases z with z | z | z; exact bz_0.mp (em0 ▸ c_37) z; exact bz_0.mp (ef0 ▸ c_41) z; exact bz_0.mp (eb0 ▸ c_45) z)
        exact L_X12_readOther_61 em0 ef0 eb0 eh0 hn0 h0 (by rw [e1]) (by rw [e1]; exact h_58) (by rw [h_58]; exact hw.tn)
      · refine A_aload0 dX12_readOther_48 ?_
        refine A_vi0 lk_X12_301 yv_X12_oldBox dX12_readOther_49 (rfl) (rfl) (T_X12_oldBox hw hn0) (by decide) (Nat.le_of_ble_eq_true rfl) (fun r_49 μ_49 h_49 => ?_)
        refine A_istore5 dX12_readOther_52 rfl (by decide) ?_
        refine A_goto (tgt := 61) dX12_readOther_54 (by decide) ?_
        have e1 : roA μ = (r_49, μ_49) := (if_pos (Or.inr (Or.inr (bz_y (eb0 ▸ c_45))))).trans h_49
        exact L_X12_readOther_61 em0 ef0 eb0 eh0 hn0 h0 (by rw [e1]) (by rw [e1]) (by have := hw.oldBox; rw [h_49] at this; exact this)

/-! values put right -/
abbrev Sp : Type := Int32 × Int32
def lo1 (v t : Int32) : Int32 := if v = -100000 ∨ t < v then t else v
def hi1 (v t : Int32) : Int32 := if v = -100000 ∨ v < t then t else v
def inc1 (S : Sp) (t : Int32) : Sp := (lo1 S.1 t, hi1 S.2 t)
def rT1 (σ : Mem) (b e : Nat) (x : Lw) (own : Int32) (S : Sp) (t : Int32) : Sp := if fitS σ b (shB σ b e x.1 x.2.1 x.2.2.2 t) own then inc1 S t else S
def nT (q : Int32) : Nat := ((mstOf q).toInt + 1 - (lstOf q).toInt).toNat
def rLw (σ : Mem) (b e lg : Nat) (own : Int32) (S : Sp) (x : Lw) : Sp := if x.2.2.1 = lg then (iv (lstOf (σ.1 7 b)) (nT (σ.1 7 b))).foldl (rT1 σ b e x own) S else S
def rLg (σ : Mem) (k : Int32) (b d : Nat) (S : Sp) (lg : Nat) : Sp := if d + lg < 60 ∧ ¬ rdN σ k b (d + lg) = -100000 then (fnd σ k b (d + lg)).1.foldl (rLw σ b (d + lg) lg (rdN σ k b (d + lg))) S else S
def rgt (σ : Mem) (k : Int32) (b d : Nat) : Sp := [0, 1, 2].foldl (rLg σ k b d) (-100000, -100000)
def FrB (F μ : Mem) : Prop := ∀ i j, frI i j = true → (i ≠ 0 ∨ (j ≠ 56 ∧ j ≠ 57)) → μ.1 i j = F.1 i j
theorem Fr.b {F μ : Mem} (h : Fr F μ) : FrB F μ := fun i j q _ => h i j q
theorem FrB.trans {a b c : Mem} (h1 : FrB a b) (h2 : FrB b c) : FrB a c := fun i j q z => (h2 i j q z).trans (h1 i j q z)
theorem FrB.w {F μ : Mem} {j : Nat} {v : Int32} (h : FrB F μ) (hj : j = 56 ∨ j = 57) : FrB F (wI μ 0 j v) := by
  intro x y hxy hz
  rw [wI_ne]
  · exact h x y hxy hz
  · rcases hz with q | q
    · exact Or.inl q
    · right; rcases hj with rfl | rfl
      · exact q.1
      · exact q.2
/-- the world while values are put right -/
def RI (F σ : Mem) (k : Int32) (S : Sp) (μ : Mem) : Prop := Lay μ σ k μ ∧ FrB F μ ∧ μ.1 0 56 = S.1 ∧ μ.1 0 57 = S.2
theorem RI.w {F σ μ : Mem} {k : Int32} {S : Sp} (h : RI F σ k S μ) (t : Int32) : RI F σ k (inc1 S t) (wI (wI μ 0 56 (lo1 S.1 t)) 0 57 (hi1 S.2 t)) := ⟨Lay.w3 (Lay.w3 h.1 rfl ⟨by decide, by decide, by decide⟩) rfl ⟨by decide, by decide, by decide⟩, (h.2.1.w (Or.inl rfl)).w (Or.inr rfl), rfl, rfl⟩
theorem lo1_a {v t : Int32} (h : v = -100000) : t = lo1 v t := by unfold lo1; rw [if_pos (Or.inl h)]
theorem lo1_b {v t : Int32} (h : ¬ v ≤ t) : t = lo1 v t := by unfold lo1; rw [if_pos (Or.inr (i_nle h))]
theorem lo1_c {v t : Int32} (h : ¬ v = -100000) (h2 : v ≤ t) : v = lo1 v t := by
  unfold lo1
  rw [if_neg (fun q => q.elim h (fun q => by have h8 := i_lt.mp q; have h9 := i_le.mp h2; omega))]
theorem hi1_a {v t : Int32} (h : v = -100000) : t = hi1 v t := by unfold hi1; rw [if_pos (Or.inl h)]
theorem hi1_b {v t : Int32} (h : ¬ t ≤ v) : t = hi1 v t := by unfold hi1; rw [if_pos (Or.inr (i_nle h))]
theorem hi1_c {v t : Int32} (h : ¬ v = -100000) (h2 : t ≤ v) : v = hi1 v t := by
  unfold hi1
  rw [if_neg (fun q => q.elim h (fun q => by have h8 := i_lt.mp q; have h9 := i_le.mp h2; omega))]
theorem lm_r (q : Int32) : -20 ≤ (lstOf q).toInt ∧ (lstOf q).toInt ≤ (mstOf q).toInt ∧ (mstOf q).toInt ≤ 100 ∧ (lstOf q).toInt + nT q = (mstOf q).toInt + 1 := by
  have h : (-20 ≤ (lstOf q).toInt ∧ (lstOf q).toInt ≤ (mstOf q).toInt ∧ (mstOf q).toInt ≤ 100) := by
    unfold lstOf mstOf
    by_cases a : q = 0
    · rw [if_pos a, if_pos a]; decide
    · rw [if_neg a, if_neg a]
      by_cases b : q = 1
      · rw [if_pos b]; decide
      · rw [if_neg b]
        by_cases c : q = 2
        · rw [if_pos c]; decide
        · rw [if_neg c]; decide
  unfold nT
  omega
set_option maxHeartbeats 800000 in
set_option maxRecDepth 100000 in
theorem L_X12_seekRight_86 {l : Launch} {G : Wd} {k own : Int32} {F σ : Mem} {b d lg i : Nat} {y : Lw} {Q : Option Value → Mem → Prop} (hb : b < 5) (hd : d + lg < 60) (hlg : lg ≤ 2) (hi : i < 700) (hyl : y.2.2.1 = lg) : ∀ (q n : Nat) (t : Int32) (S : Sp) (μ : Mem), n < q → t.toInt + n = (mstOf (σ.1 7 b)).toInt + 1 → -20 ≤ t.toInt → RI F σ k S μ → (μ.1 32 i = y.1 ∧ μ.1 33 i = y.2.1 ∧ μ.1 34 i = nI y.2.2.1 ∧ μ.1 35 i = y.2.2.2) → (∀ (x6 : Option Value) (μ : Mem), RI F σ k ((iv t n).foldl (rT1 σ b (d + lg) y own) S) μ → AW l G KM RX12 cX12_seekRight 7 6 none Q 225 [some (.ref (gA G 0)), some (.int (nI b)), some (.int (nI d)), some (.int (nI lg)), some (.int own), some (.int (nI i)), x6] [] μ) → AW l G KM RX12 cX12_seekRight 7 6 none Q 86 [some (.ref (gA G 0)), some (.int (nI b)), some (.int (nI d)), some (.int (nI lg)), some (.int own), some (.int (nI i)), some (.int t)] [] μ := by
  have hm := lm_r (σ.1 7 b)
  intro q
  induction q with
  | zero => intro n t S μ hq; omega
  | succ q ih =>
    intro n t S μ hq h1 h2 hR hA hk
    refine A_iload6 dX12_seekRight_86 ?_
    refine A_aload0 dX12_seekRight_88 ?_
    refine A_getR gf_X12_33 rfl dX12_seekRight_89 ?_
    refine A_iload1 dX12_seekRight_92 ?_
    refine A_iald (rfl) (vp_in_nI hb (by omega)) dX12_seekRight_93 ?_
    rw [nI_c (by omega), hR.1.1.1 7 _ rfl]
    refine A_si1 lk_X12_342 ys_X12_mostOf dX12_seekRight_94 (T_X12_mostOf) (by decide) (Nat.le_of_ble_eq_true rfl) (fun r_94 μ_94 h_94 => ?_)
    obtain ⟨rfl, e_94⟩ := h_94
    replace e_94 := e_94.symm
    subst e_94
    refine A_icmp_gt (tgt := 225) dX12_seekRight_97 (by decide) (fun c_97 => ?_) (fun c_97 => ?_)
    · have e : n = 0 := by have h9 := i_lt.mp c_97; omega
      subst e
      exact hk _ _ hR
    · obtain ⟨n, rfl⟩ : ∃ m, n = m + 1 := ⟨n - 1, by have h9 := c_97; rw [i_lt] at h9; omega⟩
      refine A_aload0 dX12_seekRight_100 ?_
      refine A_getR gf_X12_115 rfl dX12_seekRight_101 ?_
      refine A_iload5 dX12_seekRight_104 ?_
      refine A_iald (rfl) (vp_in_nI hi (by omega)) dX12_seekRight_106 ?_
      rw [nI_c (by omega), hA.2.2.1]
      refine A_iload3 dX12_seekRight_107 ?_
      refine A_icmp_ne (tgt := 225) dX12_seekRight_108 (by decide) (fun c_108 => absurd c_108 (fun q => q (by rw [hyl]))) (fun c_108 => ?_)
      refine A_aload0 dX12_seekRight_111 ?_
      refine A_iload1 dX12_seekRight_112 ?_
      refine A_aload0 dX12_seekRight_113 ?_
      refine A_iload1 dX12_seekRight_114 ?_
      refine A_iload2 dX12_seekRight_115 ?_
      refine A_iload3 dX12_seekRight_116 ?_
      refine A_iadd dX12_seekRight_117 ?_
      rw [nI_add]
      refine A_aload0 dX12_seekRight_118 ?_
      refine A_getR gf_X12_109 rfl dX12_seekRight_119 ?_
      refine A_iload5 dX12_seekRight_122 ?_
      refine A_iald (rfl) (vp_in_nI hi (by omega)) dX12_seekRight_124 ?_
      rw [nI_c (by omega), hA.1]
      refine A_aload0 dX12_seekRight_125 ?_
      refine A_getR gf_X12_112 rfl dX12_seekRight_126 ?_
      refine A_iload5 dX12_seekRight_129 ?_
      refine A_iald (rfl) (vp_in_nI hi (by omega)) dX12_seekRight_131 ?_
      rw [nI_c (by omega), hA.2.1]
      refine A_aload0 dX12_seekRight_132 ?_
      refine A_getR gf_X12_118 rfl dX12_seekRight_133 ?_
      refine A_iload5 dX12_seekRight_136 ?_
      refine A_iald (rfl) (vp_in_nI hi (by omega)) dX12_seekRight_138 ?_
      rw [nI_c (by omega), hA.2.2.2]
      refine A_iload6 dX12_seekRight_139 ?_
      refine A_vi6 lk_X12_373 yv_X12_showsBy dX12_seekRight_141 (rfl) (rfl) (T_X12_showsBy hR.1.1 hb hd) (by decide) (Nat.le_of_ble_eq_true rfl) (fun r_141 μ_141 h_141 => ?_)
      obtain ⟨rfl, e_141⟩ := h_141
      replace e_141 := e_141.symm
      subst e_141
      refine A_iload4 dX12_seekRight_144 ?_
      refine A_vi3 lk_X12_392 yv_X12_fits dX12_seekRight_146 (rfl) (rfl) (T_X12_fits hR.1.1 hb) (by decide) (Nat.le_of_ble_eq_true rfl) (fun r_146 μ_146 h_146 => ?_)
      obtain ⟨rfl, e_146⟩ := h_146
      replace e_146 := e_146.symm
      subst e_146
      refine A_if_ne (tgt := 155) dX12_seekRight_149 (by decide) (fun c_149 => ?_) (fun c_149 => ?_)
      · refine A_aload0 dX12_seekRight_155 ?_
        refine A_aload0 dX12_seekRight_156 ?_
        refine A_getI gf_X12_410 rfl dX12_seekRight_157 ?_
        rw [hR.2.2.1]
        refine A_ldcw dX12_seekRight_160 kc_X12_353 ?_
        refine A_icmp_eq (tgt := 175) dX12_seekRight_163 (by decide) (fun c_163 => ?_) (fun c_163 => ?_)
        · refine A_iload6 dX12_seekRight_175 ?_
          refine A_goto (tgt := 184) dX12_seekRight_177 (by decide) ?_
          refine A_putI gf_X12_410 rfl dX12_seekRight_184 ?_
          refine A_aload0 dX12_seekRight_187 ?_
          refine A_aload0 dX12_seekRight_188 ?_
          refine A_getI gf_X12_413 rfl dX12_seekRight_189 ?_
          refine A_val (y := S.2) hR.2.2.2 ?_
          refine A_ldcw dX12_seekRight_192 kc_X12_353 ?_
          refine A_icmp_eq (tgt := 207) dX12_seekRight_195 (by decide) (fun c_195 => ?_) (fun c_195 => ?_)
          · refine A_iload6 dX12_seekRight_207 ?_
            refine A_goto (tgt := 216) dX12_seekRight_209 (by decide) ?_
            refine A_putI gf_X12_413 rfl dX12_seekRight_216 ?_
            refine A_iinc6 dX12_seekRight_219 rfl rfl (by decide) ?_
            refine A_goto (tgt := 86) dX12_seekRight_222 (by decide) ?_
            have hR2 := hR.w t
            refine A_setm (μ' := wI (wI μ 0 56 (lo1 S.1 t)) 0 57 (hi1 S.2 t)) (by rw [← lo1_a c_163, ← hi1_a c_195]) ?_
            refine ih n _ (inc1 S t) _ (by omega) (by have h9 := i_p1' (a := t) (by omega) (by omega); omega) (by have h9 := i_p1' (a := t) (by omega) (by omega); omega) hR2 hA ?_
            rw [iv, List.foldl_cons] at hk
            rw [show rT1 σ b (d + lg) y own S t = inc1 S t from if_pos (Classical.not_not.mp (fun z => c_149 (bz_0.mpr z)))] at hk
            exact hk
          · refine A_iload6 dX12_seekRight_198 ?_
            refine A_aload0 dX12_seekRight_200 ?_
            refine A_getI gf_X12_413 rfl dX12_seekRight_201 ?_
            refine A_val (y := S.2) hR.2.2.2 ?_
            refine A_icmp_le (tgt := 212) dX12_seekRight_204 (by decide) (fun c_204 => ?_) (fun c_204 => ?_)
            · refine A_aload0 dX12_seekRight_212 ?_
              refine A_getI gf_X12_413 rfl dX12_seekRight_213 ?_
              refine A_val (y := S.2) hR.2.2.2 ?_
              refine A_putI gf_X12_413 rfl dX12_seekRight_216 ?_
              refine A_iinc6 dX12_seekRight_219 rfl rfl (by decide) ?_
              refine A_goto (tgt := 86) dX12_seekRight_222 (by decide) ?_
              have hR2 := hR.w t
              refine A_setm (μ' := wI (wI μ 0 56 (lo1 S.1 t)) 0 57 (hi1 S.2 t)) (by rw [← lo1_a c_163, ← hi1_c c_195 c_204]) ?_
              refine ih n _ (inc1 S t) _ (by omega) (by have h9 := i_p1' (a := t) (by omega) (by omega); omega) (by have h9 := i_p1' (a := t) (by omega) (by omega); omega) hR2 hA ?_
              rw [iv, List.foldl_cons] at hk
              rw [show rT1 σ b (d + lg) y own S t = inc1 S t from if_pos (Classical.not_not.mp (fun z => c_149 (bz_0.mpr z)))] at hk
              exact hk
            · refine A_iload6 dX12_seekRight_207 ?_
              refine A_goto (tgt := 216) dX12_seekRight_209 (by decide) ?_
              refine A_putI gf_X12_413 rfl dX12_seekRight_216 ?_
              refine A_iinc6 dX12_seekRight_219 rfl rfl (by decide) ?_
              refine A_goto (tgt := 86) dX12_seekRight_222 (by decide) ?_
              have hR2 := hR.w t
              refine A_setm (μ' := wI (wI μ 0 56 (lo1 S.1 t)) 0 57 (hi1 S.2 t)) (by rw [← lo1_a c_163, ← hi1_b c_204]) ?_
              refine ih n _ (inc1 S t) _ (by omega) (by have h9 := i_p1' (a := t) (by omega) (by omega); omega) (by have h9 := i_p1' (a := t) (by omega) (by omega); omega) hR2 hA ?_
              rw [iv, List.foldl_cons] at hk
              rw [show rT1 σ b (d + lg) y own S t = inc1 S t from if_pos (Classical.not_not.mp (fun z => c_149 (bz_0.mpr z)))] at hk
              exact hk
        · refine A_iload6 dX12_seekRight_166 ?_
          refine A_aload0 dX12_seekRight_168 ?_
          refine A_getI gf_X12_410 rfl dX12_seekRight_169 ?_
          rw [hR.2.2.1]
          refine A_icmp_ge (tgt := 180) dX12_seekRight_172 (by decide) (fun c_172 => ?_) (fun c_172 => ?_)
          · refine A_aload0 dX12_seekRight_180 ?_
            refine A_getI gf_X12_410 rfl dX12_seekRight_181 ?_
            rw [hR.2.2.1]
            refine A_putI gf_X12_410 rfl dX12_seekRight_184 ?_
            refine A_aload0 dX12_seekRight_187 ?_
            refine A_aload0 dX12_seekRight_188 ?_
            refine A_getI gf_X12_413 rfl dX12_seekRight_189 ?_
            refine A_val (y := S.2) hR.2.2.2 ?_
            refine A_ldcw dX12_seekRight_192 kc_X12_353 ?_
            refine A_icmp_eq (tgt := 207) dX12_seekRight_195 (by decide) (fun c_195 => ?_) (fun c_195 => ?_)
            · refine A_iload6 dX12_seekRight_207 ?_
              refine A_goto (tgt := 216) dX12_seekRight_209 (by decide) ?_
              refine A_putI gf_X12_413 rfl dX12_seekRight_216 ?_
              refine A_iinc6 dX12_seekRight_219 rfl rfl (by decide) ?_
              refine A_goto (tgt := 86) dX12_seekRight_222 (by decide) ?_
              have hR2 := hR.w t
              refine A_setm (μ' := wI (wI μ 0 56 (lo1 S.1 t)) 0 57 (hi1 S.2 t)) (by rw [← lo1_c c_163 c_172, ← hi1_a c_195]) ?_
              refine ih n _ (inc1 S t) _ (by omega) (by have h9 := i_p1' (a := t) (by omega) (by omega); omega) (by have h9 := i_p1' (a := t) (by omega) (by omega); omega) hR2 hA ?_
              rw [iv, List.foldl_cons] at hk
              rw [show rT1 σ b (d + lg) y own S t = inc1 S t from if_pos (Classical.not_not.mp (fun z => c_149 (bz_0.mpr z)))] at hk
              exact hk
            · refine A_iload6 dX12_seekRight_198 ?_
              refine A_aload0 dX12_seekRight_200 ?_
              refine A_getI gf_X12_413 rfl dX12_seekRight_201 ?_
              refine A_val (y := S.2) hR.2.2.2 ?_
              refine A_icmp_le (tgt := 212) dX12_seekRight_204 (by decide) (fun c_204 => ?_) (fun c_204 => ?_)
              · refine A_aload0 dX12_seekRight_212 ?_
                refine A_getI gf_X12_413 rfl dX12_seekRight_213 ?_
                refine A_val (y := S.2) hR.2.2.2 ?_
                refine A_putI gf_X12_413 rfl dX12_seekRight_216 ?_
                refine A_iinc6 dX12_seekRight_219 rfl rfl (by decide) ?_
                refine A_goto (tgt := 86) dX12_seekRight_222 (by decide) ?_
                have hR2 := hR.w t
                refine A_setm (μ' := wI (wI μ 0 56 (lo1 S.1 t)) 0 57 (hi1 S.2 t)) (by rw [← lo1_c c_163 c_172, ← hi1_c c_195 c_204]) ?_
                refine ih n _ (inc1 S t) _ (by omega) (by have h9 := i_p1' (a := t) (by omega) (by omega); omega) (by have h9 := i_p1' (a := t) (by omega) (by omega); omega) hR2 hA ?_
                rw [iv, List.foldl_cons] at hk
                rw [show rT1 σ b (d + lg) y own S t = inc1 S t from if_pos (Classical.not_not.mp (fun z => c_149 (bz_0.mpr z)))] at hk
                exact hk
              · refine A_iload6 dX12_seekRight_207 ?_
                refine A_goto (tgt := 216) dX12_seekRight_209 (by decide) ?_
                refine A_putI gf_X12_413 rfl dX12_seekRight_216 ?_
                refine A_iinc6 dX12_seekRight_219 rfl rfl (by decide) ?_
                refine A_goto (tgt := 86) dX12_seekRight_222 (by decide) ?_
                have hR2 := hR.w t
                refine A_setm (μ' := wI (wI μ 0 56 (lo1 S.1 t)) 0 57 (hi1 S.2 t)) (by rw [← lo1_c c_163 c_172, ← hi1_b c_204]) ?_
                refine ih n _ (inc1 S t) _ (by omega) (by have h9 := i_p1' (a := t) (by omega) (by omega); omega) (by have h9 := i_p1' (a := t) (by omega) (by omega); omega) hR2 hA ?_
                rw [iv, List.foldl_cons] at hk
                rw [show rT1 σ b (d + lg) y own S t = inc1 S t from if_pos (Classical.not_not.mp (fun z => c_149 (bz_0.mpr z)))] at hk
                exact hk
          · refine A_iload6 dX12_seekRight_175 ?_
            refine A_goto (tgt := 184) dX12_seekRight_177 (by decide) ?_
            refine A_putI gf_X12_410 rfl dX12_seekRight_184 ?_
            refine A_aload0 dX12_seekRight_187 ?_
            refine A_aload0 dX12_seekRight_188 ?_
            refine A_getI gf_X12_413 rfl dX12_seekRight_189 ?_
            refine A_val (y := S.2) hR.2.2.2 ?_
            refine A_ldcw dX12_seekRight_192 kc_X12_353 ?_
            refine A_icmp_eq (tgt := 207) dX12_seekRight_195 (by decide) (fun c_195 => ?_) (fun c_195 => ?_)
            · refine A_iload6 dX12_seekRight_207 ?_
              refine A_goto (tgt := 216) dX12_seekRight_209 (by decide) ?_
              refine A_putI gf_X12_413 rfl dX12_seekRight_216 ?_
              refine A_iinc6 dX12_seekRight_219 rfl rfl (by decide) ?_
              refine A_goto (tgt := 86) dX12_seekRight_222 (by decide) ?_
              have hR2 := hR.w t
              refine A_setm (μ' := wI (wI μ 0 56 (lo1 S.1 t)) 0 57 (hi1 S.2 t)) (by rw [← lo1_b c_172, ← hi1_a c_195]) ?_
              refine ih n _ (inc1 S t) _ (by omega) (by have h9 := i_p1' (a := t) (by omega) (by omega); omega) (by have h9 := i_p1' (a := t) (by omega) (by omega); omega) hR2 hA ?_
              rw [iv, List.foldl_cons] at hk
              rw [show rT1 σ b (d + lg) y own S t = inc1 S t from if_pos (Classical.not_not.mp (fun z => c_149 (bz_0.mpr z)))] at hk
              exact hk
            · refine A_iload6 dX12_seekRight_198 ?_
              refine A_aload0 dX12_seekRight_200 ?_
              refine A_getI gf_X12_413 rfl dX12_seekRight_201 ?_
              refine A_val (y := S.2) hR.2.2.2 ?_
              refine A_icmp_le (tgt := 212) dX12_seekRight_204 (by decide) (fun c_204 => ?_) (fun c_204 => ?_)
              · refine A_aload0 dX12_seekRight_212 ?_
                refine A_getI gf_X12_413 rfl dX12_seekRight_213 ?_
                refine A_val (y := S.2) hR.2.2.2 ?_
                refine A_putI gf_X12_413 rfl dX12_seekRight_216 ?_
                refine A_iinc6 dX12_seekRight_219 rfl rfl (by decide) ?_
                refine A_goto (tgt := 86) dX12_seekRight_222 (by decide) ?_
                have hR2 := hR.w t
                refine A_setm (μ' := wI (wI μ 0 56 (lo1 S.1 t)) 0 57 (hi1 S.2 t)) (by rw [← lo1_b c_172, ← hi1_c c_195 c_204]) ?_
                refine ih n _ (inc1 S t) _ (by omega) (by have h9 := i_p1' (a := t) (by omega) (by omega); omega) (by have h9 := i_p1' (a := t) (by omega) (by omega); omega) hR2 hA ?_
                rw [iv, List.foldl_cons] at hk
                rw [show rT1 σ b (d + lg) y own S t = inc1 S t from if_pos (Classical.not_not.mp (fun z => c_149 (bz_0.mpr z)))] at hk
                exact hk
              · refine A_iload6 dX12_seekRight_207 ?_
                refine A_goto (tgt := 216) dX12_seekRight_209 (by decide) ?_
                refine A_putI gf_X12_413 rfl dX12_seekRight_216 ?_
                refine A_iinc6 dX12_seekRight_219 rfl rfl (by decide) ?_
                refine A_goto (tgt := 86) dX12_seekRight_222 (by decide) ?_
                have hR2 := hR.w t
                refine A_setm (μ' := wI (wI μ 0 56 (lo1 S.1 t)) 0 57 (hi1 S.2 t)) (by rw [← lo1_b c_172, ← hi1_b c_204]) ?_
                refine ih n _ (inc1 S t) _ (by omega) (by have h9 := i_p1' (a := t) (by omega) (by omega); omega) (by have h9 := i_p1' (a := t) (by omega) (by omega); omega) hR2 hA ?_
                rw [iv, List.foldl_cons] at hk
                rw [show rT1 σ b (d + lg) y own S t = inc1 S t from if_pos (Classical.not_not.mp (fun z => c_149 (bz_0.mpr z)))] at hk
                exact hk
      · refine A_goto (tgt := 219) dX12_seekRight_152 (by decide) ?_
        refine A_iinc6 dX12_seekRight_219 rfl rfl (by decide) ?_
        refine A_goto (tgt := 86) dX12_seekRight_222 (by decide) ?_
        refine ih n _ S μ (by omega) (by have h9 := i_p1' (a := t) (by omega) (by omega); omega) (by have h9 := i_p1' (a := t) (by omega) (by omega); omega) hR hA ?_
        rw [iv, List.foldl_cons] at hk
        rw [show rT1 σ b (d + lg) y own S t = S from if_neg (bz_0.mp c_149)] at hk
        exact hk

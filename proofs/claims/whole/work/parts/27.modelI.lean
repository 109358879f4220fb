/-! values put right -/
abbrev Sp : Type := Int32 × Int32
def lo1 (v t : Int32) : Int32 := if v = -100000 ∨ t < v then t else v
def hi1 (v t : Int32) : Int32 := if v = -100000 ∨ v < t then t else v
def inc1 (S : Sp) (t : Int32) : Sp := (lo1 S.1 t, hi1 S.2 t)
def rT1 (σ : Mem) (b e : Nat) (x : Lw) (own : Int32) (S : Sp) (t : Int32) : Sp := if fitS σ b (shB σ b e x.1 x.2.1 x.2.2.2 t) own then inc1 S t else S
def nT (q : Int32) : Nat := ((mstOf q).toInt + 1 - (lstOf q).toInt).toNat
def rLw (σ : Mem) (b e lg : Nat) (own : Int32) (S : Sp) (x : Lw) : Sp := if x.2.2.1 = lg then (iv (lstOf (σ.1 7 b)) (nT (σ.1 7 b))).foldl (rT1 σ b e x own) S else S
def rLg (σ : Mem) (k : Int32) (b d : Nat) (S : Sp) (lg : Nat) : Sp := if d + lg < 60 ∧ ¬ rdN σ k b (d + lg) = -100000 then (fnd σ k b (d + lg)).1.foldl (rLw σ b (d + lg) lg (rdN σ k b (d + lg))) S else S
def rgt (σ : Mem) (k : Int32) (b d : Nat) : Sp := [0, 1, 2].foldl (rLg σ k b d) (-100000, -100000)
def FrB (F μ : Mem) : Prop := ∀ i j, frI i j = true → (i ≠ 0 ∨ (j ≠ 56 ∧ j ≠ 57)) → μ.1 i j = F.1 i j
theorem Fr.b {F μ : Mem} (h : Fr F μ) : FrB F μ := fun i j q _ => h i j q
theorem FrB.trans {a b c : Mem} (h1 : FrB a b) (h2 : FrB b c) : FrB a c := fun i j q z => (h2 i j q z).trans (h1 i j q z)
theorem FrB.w {F μ : Mem} {j : Nat} {v : Int32} (h : FrB F μ) (hj : j = 56 ∨ j = 57) : FrB F (wI μ 0 j v) := by
  intro x y hxy hz
  rw [wI_ne]
  · exact h x y hxy hz
  · rcases hz with q | q
    · exact Or.inl q
    · right; rcases hj with rfl | rfl
      · exact q.1
      · exact q.2
/-- the world while values are put right -/
def RI (F σ : Mem) (k : Int32) (S : Sp) (μ : Mem) : Prop := Lay μ σ k μ ∧ FrB F μ ∧ μ.1 0 56 = S.1 ∧ μ.1 0 57 = S.2
theorem RI.w {F σ μ : Mem} {k : Int32} {S : Sp} (h : RI F σ k S μ) (t : Int32) : RI F σ k (inc1 S t) (wI (wI μ 0 56 (lo1 S.1 t)) 0 57 (hi1 S.2 t)) := ⟨Lay.w3 (Lay.w3 h.1 rfl ⟨by decide, by decide, by decide⟩) rfl ⟨by decide, by decide, by decide⟩, (h.2.1.w (Or.inl rfl)).w (Or.inr rfl), rfl, rfl⟩
theorem SLf.r2 {Z : Sc} {μ : Mem} (h : SLf Z μ) (u v : Int32) : SLf Z (wI (wI μ 0 56 u) 0 57 v) := ⟨h.1, h.2.1, h.2.2.1, h.2.2.2⟩
theorem lo1_a {v t : Int32} (h : v = -100000) : t = lo1 v t := by unfold lo1; rw [if_pos (Or.inl h)]
theorem lo1_b {v t : Int32} (h : ¬ v ≤ t) : t = lo1 v t := by unfold lo1; rw [if_pos (Or.inr (i_nle h))]
theorem lo1_c {v t : Int32} (h : ¬ v = -100000) (h2 : v ≤ t) : v = lo1 v t := by
  unfold lo1
  rw [if_neg (fun q => q.elim h (fun q => by have h8 := i_lt.mp q; have h9 := i_le.mp h2; omega))]
theorem hi1_a {v t : Int32} (h : v = -100000) : t = hi1 v t := by unfold hi1; rw [if_pos (Or.inl h)]
theorem hi1_b {v t : Int32} (h : ¬ t ≤ v) : t = hi1 v t := by unfold hi1; rw [if_pos (Or.inr (i_nle h))]
theorem hi1_c {v t : Int32} (h : ¬ v = -100000) (h2 : t ≤ v) : v = hi1 v t := by
  unfold hi1
  rw [if_neg (fun q => q.elim h (fun q => by have h8 := i_lt.mp q; have h9 := i_le.mp h2; omega))]
theorem lm_r (q : Int32) : -20 ≤ (lstOf q).toInt ∧ (lstOf q).toInt ≤ (mstOf q).toInt ∧ (mstOf q).toInt ≤ 100 ∧ (lstOf q).toInt + nT q = (mstOf q).toInt + 1 := by
  have h : (-20 ≤ (lstOf q).toInt ∧ (lstOf q).toInt ≤ (mstOf q).toInt ∧ (mstOf q).toInt ≤ 100) := by
    unfold lstOf mstOf
    by_cases a : q = 0
    · rw [if_pos a, if_pos a]; decide
    · rw [if_neg a, if_neg a]
      by_cases b : q = 1
      · rw [if_pos b]; decide
      · rw [if_neg b]
        by_cases c : q = 2
        · rw [if_pos c]; decide
        · rw [if_neg c]; decide
  unfold nT
  omega
set_option maxHeartbeats 800000 in
set_option maxRecDepth 100000 in
theorem L_X12_seekRight_86 {l : Launch} {G : Wd} {k own : Int32} {F σ : Mem} {b d lg i : Nat} {y : Lw} {Z : Sc} {Q : Option Value → Mem → Prop} (hb : b < 5) (hd : d + lg < 60) (hlg : lg ≤ 2) (hi : i < 700) (hZ : Z.1[i]? = some y) (hyl : y.2.2.1 = lg) : ∀ (q n : Nat) (t : Int32) (S : Sp) (μ : Mem), n < q → t.toInt + n = (mstOf (σ.1 7 b)).toInt + 1 → -20 ≤ t.toInt → RI F σ k S μ → SLf Z μ → (∀ (x6 : Option Value) (μ : Mem), RI F σ k ((iv t n).foldl (rT1 σ b (d + lg) y own) S) μ → SLf Z μ → AW l G KM RX12 cX12_seekRight 7 6 none Q 225 [some (.ref (gA G 0)), some (.int (nI b)), some (.int (nI d)), some (.int (nI lg)), some (.int own), some (.int (nI i)), x6] [] μ) → AW l G KM RX12 cX12_seekRight 7 6 none Q 86 [some (.ref (gA G 0)), some (.int (nI b)), some (.int (nI d)), some (.int (nI lg)), some (.int own), some (.int (nI i)), some (.int t)] [] μ := by
  have hm := lm_r (σ.1 7 b)
  intro q
  induction q with
  | zero => intro n t S μ hq; omega
  | succ q ih =>
    intro n t S μ hq h1 h2 hR hS hk
    have hA := hS.2.2.2 _ _ hZ
    refine A_iload6 dX12_seekRight_86 ?_
    refine A_aload0 dX12_seekRight_88 ?_
    refine A_getR gf_X12_33 rfl dX12_seekRight_89 ?_
    refine A_iload1 dX12_seekRight_92 ?_
    refine A_iald (rfl) (vp_in_nI hb (by omega)) dX12_seekRight_93 ?_
    rw [nI_c (by omega), hR.1.1.1 7 _ rfl]
    refine A_si1 lk_X12_342 ys_X12_mostOf dX12_seekRight_94 (T_X12_mostOf) (by decide) (Nat.le_of_ble_eq_true rfl) (fun r_94 μ_94 h_94 => ?_)
    obtain ⟨rfl, e_94⟩ := h_94
    replace e_94 := e_94.symm
    subst e_94
    refine A_icmp_gt (tgt := 225) dX12_seekRight_97 (by decide) (fun c_97 => ?_) (fun c_97 => ?_)
    · have e : n = 0 := by have h9 := i_lt.mp c_97; omega
      subst e
      exact hk _ _ hR hS
    · obtain ⟨n, rfl⟩ : ∃ m, n = m + 1 := ⟨n - 1, by have h9 := c_97; rw [i_lt] at h9; omega⟩
      refine A_aload0 dX12_seekRight_100 ?_
      refine A_getR gf_X12_115 rfl dX12_seekRight_101 ?_
      refine A_iload5 dX12_seekRight_104 ?_
      refine A_iald (rfl) (vp_in_nI hi (by omega)) dX12_seekRight_106 ?_
      rw [nI_c (by omega), hA.2.2.1]
      refine A_iload3 dX12_seekRight_107 ?_
      refine A_icmp_ne (tgt := 225) dX12_seekRight_108 (by decide) (fun c_108 => absurd c_108 (fun q => q (by rw [hyl]))) (fun c_108 => ?_)
      refine A_aload0 dX12_seekRight_111 ?_
      refine A_iload1 dX12_seekRight_112 ?_
      refine A_aload0 dX12_seekRight_113 ?_
      refine A_iload1 dX12_seekRight_114 ?_
      refine A_iload2 dX12_seekRight_115 ?_
      refine A_iload3 dX12_seekRight_116 ?_
      refine A_iadd dX12_seekRight_117 ?_
      rw [nI_add]
      refine A_aload0 dX12_seekRight_118 ?_
      refine A_getR gf_X12_109 rfl dX12_seekRight_119 ?_
      refine A_iload5 dX12_seekRight_122 ?_
      refine A_iald (rfl) (vp_in_nI hi (by omega)) dX12_seekRight_124 ?_
      rw [nI_c (by omega), hA.1]
      refine A_aload0 dX12_seekRight_125 ?_
      refine A_getR gf_X12_112 rfl dX12_seekRight_126 ?_
      refine A_iload5 dX12_seekRight_129 ?_
      refine A_iald (rfl) (vp_in_nI hi (by omega)) dX12_seekRight_131 ?_
      rw [nI_c (by omega), hA.2.1]
      refine A_aload0 dX12_seekRight_132 ?_
      refine A_getR gf_X12_118 rfl dX12_seekRight_133 ?_
      refine A_iload5 dX12_seekRight_136 ?_
      refine A_iald (rfl) (vp_in_nI hi (by omega)) dX12_seekRight_138 ?_
      rw [nI_c (by omega), hA.2.2.2]
      refine A_iload6 dX12_seekRight_139 ?_
      refine A_vi6 lk_X12_373 yv_X12_showsBy dX12_seekRight_141 (rfl) (rfl) (T_X12_showsBy hR.1.1 hb hd) (by decide) (Nat.le_of_ble_eq_true rfl) (fun r_141 μ_141 h_141 => ?_)
      obtain ⟨rfl, e_141⟩ := h_141
      replace e_141 := e_141.symm
      subst e_141
      refine A_iload4 dX12_seekRight_144 ?_
      refine A_vi3 lk_X12_392 yv_X12_fits dX12_seekRight_146 (rfl) (rfl) (T_X12_fits hR.1.1 hb) (by decide) (Nat.le_of_ble_eq_true rfl) (fun r_146 μ_146 h_146 => ?_)
      obtain ⟨rfl, e_146⟩ := h_146
      replace e_146 := e_146.symm
      subst e_146
      refine A_if_ne (tgt := 155) dX12_seekRight_149 (by decide) (fun c_149 => ?_) (fun c_149 => ?_)
      · refine A_aload0 dX12_seekRight_155 ?_
        refine A_aload0 dX12_seekRight_156 ?_
        refine A_getI gf_X12_410 rfl dX12_seekRight_157 ?_
        rw [hR.2.2.1]
        refine A_ldcw dX12_seekRight_160 kc_X12_353 ?_
        refine A_icmp_eq (tgt := 175) dX12_seekRight_163 (by decide) (fun c_163 => ?_) (fun c_163 => ?_)
        · refine A_iload6 dX12_seekRight_175 ?_
          refine A_goto (tgt := 184) dX12_seekRight_177 (by decide) ?_
          refine A_putI gf_X12_410 rfl dX12_seekRight_184 ?_
          refine A_aload0 dX12_seekRight_187 ?_
          refine A_aload0 dX12_seekRight_188 ?_
          refine A_getI gf_X12_413 rfl dX12_seekRight_189 ?_
          refine A_val (y := S.2) hR.2.2.2 ?_
          refine A_ldcw dX12_seekRight_192 kc_X12_353 ?_
          refine A_icmp_eq (tgt := 207) dX12_seekRight_195 (by decide) (fun c_195 => ?_) (fun c_195 => ?_)
          · refine A_iload6 dX12_seekRight_207 ?_
            refine A_goto (tgt := 216) dX12_seekRight_209 (by decide) ?_
            refine A_putI gf_X12_413 rfl dX12_seekRight_216 ?_
            refine A_iinc6 dX12_seekRight_219 rfl rfl (by decide) ?_
            refine A_goto (tgt := 86) dX12_seekRight_222 (by decide) ?_
            have hR2 := hR.w t
            refine A_setm (μ' := wI (wI μ 0 56 (lo1 S.1 t)) 0 57 (hi1 S.2 t)) (by rw [← lo1_a c_163, ← hi1_a c_195]) ?_
            refine ih n _ (inc1 S t) _ (by omega) (by have h9 := i_p1' (a := t) (by omega) (by omega); omega) (by have h9 := i_p1' (a := t) (by omega) (by omega); omega) hR2 (hS.r2 _ _) ?_
            rw [iv, List.foldl_cons] at hk
            rw [show rT1 σ b (d + lg) y own S t = inc1 S t from if_pos (Classical.not_not.mp (fun z => c_149 (bz_0.mpr z)))] at hk
            exact hk
          · refine A_iload6 dX12_seekRight_198 ?_
            refine A_aload0 dX12_seekRight_200 ?_
            refine A_getI gf_X12_413 rfl dX12_seekRight_201 ?_
            refine A_val (y := S.2) hR.2.2.2 ?_
            refine A_icmp_le (tgt := 212) dX12_seekRight_204 (by decide) (fun c_204 => ?_) (fun c_204 => ?_)
            · refine A_aload0 dX12_seekRight_212 ?_
              refine A_getI gf_X12_413 rfl dX12_seekRight_213 ?_
              refine A_val (y := S.2) hR.2.2.2 ?_
              refine A_putI gf_X12_413 rfl dX12_seekRight_216 ?_
              refine A_iinc6 dX12_seekRight_219 rfl rfl (by decide) ?_
              refine A_goto (tgt := 86) dX12_seekRight_222 (by decide) ?_
              have hR2 := hR.w t
              refine A_setm (μ' := wI (wI μ 0 56 (lo1 S.1 t)) 0 57 (hi1 S.2 t)) (by rw [← lo1_a c_163, ← hi1_c c_195 c_204]) ?_
              refine ih n _ (inc1 S t) _ (by omega) (by have h9 := i_p1' (a := t) (by omega) (by omega); omega) (by have h9 := i_p1' (a := t) (by omega) (by omega); omega) hR2 (hS.r2 _ _) ?_
              rw [iv, List.foldl_cons] at hk
              rw [show rT1 σ b (d + lg) y own S t = inc1 S t from if_pos (Classical.not_not.mp (fun z => c_149 (bz_0.mpr z)))] at hk
              exact hk
            · refine A_iload6 dX12_seekRight_207 ?_
              refine A_goto (tgt := 216) dX12_seekRight_209 (by decide) ?_
              refine A_putI gf_X12_413 rfl dX12_seekRight_216 ?_
              refine A_iinc6 dX12_seekRight_219 rfl rfl (by decide) ?_
              refine A_goto (tgt := 86) dX12_seekRight_222 (by decide) ?_
              have hR2 := hR.w t
              refine A_setm (μ' := wI (wI μ 0 56 (lo1 S.1 t)) 0 57 (hi1 S.2 t)) (by rw [← lo1_a c_163, ← hi1_b c_204]) ?_
              refine ih n _ (inc1 S t) _ (by omega) (by have h9 := i_p1' (a := t) (by omega) (by omega); omega) (by have h9 := i_p1' (a := t) (by omega) (by omega); omega) hR2 (hS.r2 _ _) ?_
              rw [iv, List.foldl_cons] at hk
              rw [show rT1 σ b (d + lg) y own S t = inc1 S t from if_pos (Classical.not_not.mp (fun z => c_149 (bz_0.mpr z)))] at hk
              exact hk
        · refine A_iload6 dX12_seekRight_166 ?_
          refine A_aload0 dX12_seekRight_168 ?_
          refine A_getI gf_X12_410 rfl dX12_seekRight_169 ?_
          rw [hR.2.2.1]
          refine A_icmp_ge (tgt := 180) dX12_seekRight_172 (by decide) (fun c_172 => ?_) (fun c_172 => ?_)
          · refine A_aload0 dX12_seekRight_180 ?_
            refine A_getI gf_X12_410 rfl dX12_seekRight_181 ?_
            rw [hR.2.2.1]
            refine A_putI gf_X12_410 rfl dX12_seekRight_184 ?_
            refine A_aload0 dX12_seekRight_187 ?_
            refine A_aload0 dX12_seekRight_188 ?_
            refine A_getI gf_X12_413 rfl dX12_seekRight_189 ?_
            refine A_val (y := S.2) hR.2.2.2 ?_
            refine A_ldcw dX12_seekRight_192 kc_X12_353 ?_
            refine A_icmp_eq (tgt := 207) dX12_seekRight_195 (by decide) (fun c_195 => ?_) (fun c_195 => ?_)
            · refine A_iload6 dX12_seekRight_207 ?_
              refine A_goto (tgt := 216) dX12_seekRight_209 (by decide) ?_
              refine A_putI gf_X12_413 rfl dX12_seekRight_216 ?_
              refine A_iinc6 dX12_seekRight_219 rfl rfl (by decide) ?_
              refine A_goto (tgt := 86) dX12_seekRight_222 (by decide) ?_
              have hR2 := hR.w t
              refine A_setm (μ' := wI (wI μ 0 56 (lo1 S.1 t)) 0 57 (hi1 S.2 t)) (by rw [← lo1_c c_163 c_172, ← hi1_a c_195]) ?_
              refine ih n _ (inc1 S t) _ (by omega) (by have h9 := i_p1' (a := t) (by omega) (by omega); omega) (by have h9 := i_p1' (a := t) (by omega) (by omega); omega) hR2 (hS.r2 _ _) ?_
              rw [iv, List.foldl_cons] at hk
              rw [show rT1 σ b (d + lg) y own S t = inc1 S t from if_pos (Classical.not_not.mp (fun z => c_149 (bz_0.mpr z)))] at hk
              exact hk
            · refine A_iload6 dX12_seekRight_198 ?_
              refine A_aload0 dX12_seekRight_200 ?_
              refine A_getI gf_X12_413 rfl dX12_seekRight_201 ?_
              refine A_val (y := S.2) hR.2.2.2 ?_
              refine A_icmp_le (tgt := 212) dX12_seekRight_204 (by decide) (fun c_204 => ?_) (fun c_204 => ?_)
              · refine A_aload0 dX12_seekRight_212 ?_
                refine A_getI gf_X12_413 rfl dX12_seekRight_213 ?_
                refine A_val (y := S.2) hR.2.2.2 ?_
                refine A_putI gf_X12_413 rfl dX12_seekRight_216 ?_
                refine A_iinc6 dX12_seekRight_219 rfl rfl (by decide) ?_
                refine A_goto (tgt := 86) dX12_seekRight_222 (by decide) ?_
                have hR2 := hR.w t
                refine A_setm (μ' := wI (wI μ 0 56 (lo1 S.1 t)) 0 57 (hi1 S.2 t)) (by rw [← lo1_c c_163 c_172, ← hi1_c c_195 c_204]) ?_
                refine ih n _ (inc1 S t) _ (by omega) (by have h9 := i_p1' (a := t) (by omega) (by omega); omega) (by have h9 := i_p1' (a := t) (by omega) (by omega); omega) hR2 (hS.r2 _ _) ?_
                rw [iv, List.foldl_cons] at hk
                rw [show rT1 σ b (d + lg) y own S t = inc1 S t from if_pos (Classical.not_not.mp (fun z => c_149 (bz_0.mpr z)))] at hk
                exact hk
              · refine A_iload6 dX12_seekRight_207 ?_
                refine A_goto (tgt := 216) dX12_seekRight_209 (by decide) ?_
                refine A_putI gf_X12_413 rfl dX12_seekRight_216 ?_
                refine A_iinc6 dX12_seekRight_219 rfl rfl (by decide) ?_
                refine A_goto (tgt := 86) dX12_seekRight_222 (by decide) ?_
                have hR2 := hR.w t
                refine A_setm (μ' := wI (wI μ 0 56 (lo1 S.1 t)) 0 57 (hi1 S.2 t)) (by rw [← lo1_c c_163 c_172, ← hi1_b c_204]) ?_
                refine ih n _ (inc1 S t) _ (by omega) (by have h9 := i_p1' (a := t) (by omega) (by omega); omega) (by have h9 := i_p1' (a := t) (by omega) (by omega); omega) hR2 (hS.r2 _ _) ?_
                rw [iv, List.foldl_cons] at hk
                rw [show rT1 σ b (d + lg) y own S t = inc1 S t from if_pos (Classical.not_not.mp (fun z => c_149 (bz_0.mpr z)))] at hk
                exact hk
          · refine A_iload6 dX12_seekRight_175 ?_
            refine A_goto (tgt := 184) dX12_seekRight_177 (by decide) ?_
            refine A_putI gf_X12_410 rfl dX12_seekRight_184 ?_
            refine A_aload0 dX12_seekRight_187 ?_
            refine A_aload0 dX12_seekRight_188 ?_
            refine A_getI gf_X12_413 rfl dX12_seekRight_189 ?_
            refine A_val (y := S.2) hR.2.2.2 ?_
            refine A_ldcw dX12_seekRight_192 kc_X12_353 ?_
            refine A_icmp_eq (tgt := 207) dX12_seekRight_195 (by decide) (fun c_195 => ?_) (fun c_195 => ?_)
            · refine A_iload6 dX12_seekRight_207 ?_
              refine A_goto (tgt := 216) dX12_seekRight_209 (by decide) ?_
              refine A_putI gf_X12_413 rfl dX12_seekRight_216 ?_
              refine A_iinc6 dX12_seekRight_219 rfl rfl (by decide) ?_
              refine A_goto (tgt := 86) dX12_seekRight_222 (by decide) ?_
              have hR2 := hR.w t
              refine A_setm (μ' := wI (wI μ 0 56 (lo1 S.1 t)) 0 57 (hi1 S.2 t)) (by rw [← lo1_b c_172, ← hi1_a c_195]) ?_
              refine ih n _ (inc1 S t) _ (by omega) (by have h9 := i_p1' (a := t) (by omega) (by omega); omega) (by have h9 := i_p1' (a := t) (by omega) (by omega); omega) hR2 (hS.r2 _ _) ?_
              rw [iv, List.foldl_cons] at hk
              rw [show rT1 σ b (d + lg) y own S t = inc1 S t from if_pos (Classical.not_not.mp (fun z => c_149 (bz_0.mpr z)))] at hk
              exact hk
            · refine A_iload6 dX12_seekRight_198 ?_
              refine A_aload0 dX12_seekRight_200 ?_
              refine A_getI gf_X12_413 rfl dX12_seekRight_201 ?_
              refine A_val (y := S.2) hR.2.2.2 ?_
              refine A_icmp_le (tgt := 212) dX12_seekRight_204 (by decide) (fun c_204 => ?_) (fun c_204 => ?_)
              · refine A_aload0 dX12_seekRight_212 ?_
                refine A_getI gf_X12_413 rfl dX12_seekRight_213 ?_
                refine A_val (y := S.2) hR.2.2.2 ?_
                refine A_putI gf_X12_413 rfl dX12_seekRight_216 ?_
                refine A_iinc6 dX12_seekRight_219 rfl rfl (by decide) ?_
                refine A_goto (tgt := 86) dX12_seekRight_222 (by decide) ?_
                have hR2 := hR.w t
                refine A_setm (μ' := wI (wI μ 0 56 (lo1 S.1 t)) 0 57 (hi1 S.2 t)) (by rw [← lo1_b c_172, ← hi1_c c_195 c_204]) ?_
                refine ih n _ (inc1 S t) _ (by omega) (by have h9 := i_p1' (a := t) (by omega) (by omega); omega) (by have h9 := i_p1' (a := t) (by omega) (by omega); omega) hR2 (hS.r2 _ _) ?_
                rw [iv, List.foldl_cons] at hk
                rw [show rT1 σ b (d + lg) y own S t = inc1 S t from if_pos (Classical.not_not.mp (fun z => c_149 (bz_0.mpr z)))] at hk
                exact hk
              · refine A_iload6 dX12_seekRight_207 ?_
                refine A_goto (tgt := 216) dX12_seekRight_209 (by decide) ?_
                refine A_putI gf_X12_413 rfl dX12_seekRight_216 ?_
                refine A_iinc6 dX12_seekRight_219 rfl rfl (by decide) ?_
                refine A_goto (tgt := 86) dX12_seekRight_222 (by decide) ?_
                have hR2 := hR.w t
                refine A_setm (μ' := wI (wI μ 0 56 (lo1 S.1 t)) 0 57 (hi1 S.2 t)) (by rw [← lo1_b c_172, ← hi1_b c_204]) ?_
                refine ih n _ (inc1 S t) _ (by omega) (by have h9 := i_p1' (a := t) (by omega) (by omega); omega) (by have h9 := i_p1' (a := t) (by omega) (by omega); omega) hR2 (hS.r2 _ _) ?_
                rw [iv, List.foldl_cons] at hk
                rw [show rT1 σ b (d + lg) y own S t = inc1 S t from if_pos (Classical.not_not.mp (fun z => c_149 (bz_0.mpr z)))] at hk
                exact hk
      · refine A_goto (tgt := 219) dX12_seekRight_152 (by decide) ?_
        refine A_iinc6 dX12_seekRight_219 rfl rfl (by decide) ?_
        refine A_goto (tgt := 86) dX12_seekRight_222 (by decide) ?_
        refine ih n _ S μ (by omega) (by have h9 := i_p1' (a := t) (by omega) (by omega); omega) (by have h9 := i_p1' (a := t) (by omega) (by omega); omega) hR hS ?_
        rw [iv, List.foldl_cons] at hk
        rw [show rT1 σ b (d + lg) y own S t = S from if_neg (bz_0.mp c_149)] at hk
        exact hk
set_option maxHeartbeats 800000 in
set_option maxRecDepth 100000 in
theorem L_X12_seekRight_66 {l : Launch} {G : Wd} {k : Int32} {F σ : Mem} {b d lg : Nat} {S0 : Sp} {Q : Option Value → Mem → Prop} (hb : b < 5) (hd : d + lg < 60) (hlg : lg ≤ 2) (hok : okBx σ b) : ∀ (q i : Nat) (x : Int32) (x6 : Option Value) (S : Sp) (μ : Mem), i + q = (fnd σ k b (d + lg)).1.length + 1 → i ≤ (fnd σ k b (d + lg)).1.length → x = nI i → S = ((fnd σ k b (d + lg)).1.take i).foldl (rLw σ b (d + lg) lg (rdN σ k b (d + lg))) S0 → RI F σ k S μ → SLf (fnd σ k b (d + lg)) μ → (∀ (x5 x6 : Option Value) (μ : Mem), RI F σ k ((fnd σ k b (d + lg)).1.foldl (rLw σ b (d + lg) lg (rdN σ k b (d + lg))) S0) μ → AW l G KM RX12 cX12_seekRight 7 6 none Q 231 [some (.ref (gA G 0)), some (.int (nI b)), some (.int (nI d)), some (.int (nI lg)), some (.int (rdN σ k b (d + lg))), x5, x6] [] μ) → AW l G KM RX12 cX12_seekRight 7 6 none Q 66 [some (.ref (gA G 0)), some (.int (nI b)), some (.int (nI d)), some (.int (nI lg)), some (.int (rdN σ k b (d + lg))), some (.int x), x6] [] μ := by
  have hlen := fnd_len (k := k) (d := d + lg) hok
  intro q
  induction q with
  | zero => intro i x x6 S μ h1 h2; omega
  | succ q ih =>
    intro i x x6 S μ h1 h2 hx hSe hR hS hk
    subst hx
    refine A_iload5 dX12_seekRight_66 ?_
    refine A_aload0 dX12_seekRight_68 ?_
    refine A_getI gf_X12_377 rfl dX12_seekRight_69 ?_
    rw [hS.1]
    refine A_icmp_ge (tgt := 231) dX12_seekRight_72 (by decide) (fun c_72 => ?_) (fun c_72 => ?_)
    · have e : i = (fnd σ k b (d + lg)).1.length := by have h9 := (nI_leI (a := (fnd σ k b (d + lg)).1.length) (b := i) (by omega) (by omega)).mp c_72; omega
      subst e
      rw [List.take_length] at hSe
      subst hSe
      exact hk _ _ _ hR
    · have hil : i < (fnd σ k b (d + lg)).1.length := by rcases Nat.lt_or_ge i (fnd σ k b (d + lg)).1.length with q | q; exact q; exact absurd (nI_le q (by omega)) c_72
      obtain ⟨y, hy⟩ : ∃ y, (fnd σ k b (d + lg)).1[i]? = some y := ⟨_, List.getElem?_eq_getElem hil⟩
      have hyl := (allL_lag hok (fnd_mem (List.mem_of_getElem? hy))).2.2
      have hA := hS.2.2.2 _ _ hy
      have hm := lm_r (σ.1 7 b)
      refine A_aload0 dX12_seekRight_75 ?_
      refine A_getR gf_X12_33 rfl dX12_seekRight_76 ?_
      refine A_iload1 dX12_seekRight_79 ?_
      refine A_iald (rfl) (vp_in_nI hb (by omega)) dX12_seekRight_80 ?_
      rw [nI_c (by omega), hR.1.1.1 7 _ rfl]
      refine A_si1 lk_X12_339 ys_X12_leastOf dX12_seekRight_81 (T_X12_leastOf) (by decide) (Nat.le_of_ble_eq_true rfl) (fun r_81 μ_81 h_81 => ?_)
      obtain ⟨rfl, e_81⟩ := h_81
      replace e_81 := e_81.symm
      subst e_81
      refine A_istore6 dX12_seekRight_84 rfl (by decide) ?_
      by_cases hq : y.2.2.1 = lg
      · refine L_X12_seekRight_86 (k := k) (F := F) (σ := σ) hb hd hlg (by omega) hy hq (nT (σ.1 7 b) + 1) (nT (σ.1 7 b)) _ S μ (by omega) (by omega) (by omega) hR hS (fun x6 μ2 hR2 hS2 => ?_)
        refine A_iinc5 dX12_seekRight_225 rfl rfl (by decide) ?_
        refine A_goto (tgt := 66) dX12_seekRight_228 (by decide) ?_
        refine ih (i + 1) _ _ _ _ (by omega) (by omega) (nI_1 i) ?_ hR2 hS2 hk
        rw [take_s hy, List.foldl_append, ← hSe]
        show _ = rLw σ b (d + lg) lg (rdN σ k b (d + lg)) S y
        unfold rLw
        rw [if_pos hq]
      · refine A_iload6 dX12_seekRight_86 ?_
        refine A_aload0 dX12_seekRight_88 ?_
        refine A_getR gf_X12_33 rfl dX12_seekRight_89 ?_
        refine A_iload1 dX12_seekRight_92 ?_
        refine A_iald (rfl) (vp_in_nI hb (by omega)) dX12_seekRight_93 ?_
        rw [nI_c (by omega), hR.1.1.1 7 _ rfl]
        refine A_si1 lk_X12_342 ys_X12_mostOf dX12_seekRight_94 (T_X12_mostOf) (by decide) (Nat.le_of_ble_eq_true rfl) (fun r_94 μ_94 h_94 => ?_)
        obtain ⟨rfl, e_94⟩ := h_94
        replace e_94 := e_94.symm
        subst e_94
        refine A_icmp_gt (tgt := 225) dX12_seekRight_97 (by decide) (fun c_97 => absurd c_97 (fun q => by have h9 := i_lt.mp q; omega)) (fun c_97 => ?_)
        refine A_aload0 dX12_seekRight_100 ?_
        refine A_getR gf_X12_115 rfl dX12_seekRight_101 ?_
        refine A_iload5 dX12_seekRight_104 ?_
        refine A_iald (rfl) (vp_in_nI (by omega) (by omega)) dX12_seekRight_106 ?_
        rw [nI_c (by omega), hA.2.2.1]
        refine A_iload3 dX12_seekRight_107 ?_
        refine A_icmp_ne (tgt := 225) dX12_seekRight_108 (by decide) (fun c_108 => ?_) (fun c_108 => absurd c_108 (fun z => hq ((nI_eq (by omega) (by omega)).mp z)))
        refine A_iinc5 dX12_seekRight_225 rfl rfl (by decide) ?_
        refine A_goto (tgt := 66) dX12_seekRight_228 (by decide) ?_
        refine ih (i + 1) _ _ _ _ (by omega) (by omega) (nI_1 i) ?_ hR hS hk
        rw [take_s hy, List.foldl_append, ← hSe]
        show _ = rLw σ b (d + lg) lg (rdN σ k b (d + lg)) S y
        unfold rLw
        rw [if_neg hq]
theorem rLg_n {σ : Mem} {k : Int32} {b d lg : Nat} {S : Sp} (h : ¬ (d + lg < 60 ∧ ¬ rdN σ k b (d + lg) = -100000)) : rLg σ k b d S lg = S := if_neg h
theorem rLg_y {σ : Mem} {k : Int32} {b d lg : Nat} {S : Sp} (h : d + lg < 60) (h2 : ¬ rdN σ k b (d + lg) = -100000) : rLg σ k b d S lg = (fnd σ k b (d + lg)).1.foldl (rLw σ b (d + lg) lg (rdN σ k b (d + lg))) S := if_pos ⟨h, h2⟩
def rUp (σ : Mem) (k : Int32) (b d : Nat) : Nat → Sp
  | 0 => (-100000, -100000)
  | n + 1 => rLg σ k b d (rUp σ k b d n) n
theorem rUp_3 (σ : Mem) (k : Int32) (b d : Nat) : rUp σ k b d 3 = rgt σ k b d := rfl
theorem rUp_ge {σ : Mem} {k : Int32} {b d : Nat} : ∀ m n, 60 ≤ d + n → rUp σ k b d (n + m) = rUp σ k b d n := by
  intro m n h
  induction m with
  | zero => rfl
  | succ m ih => rw [← Nat.add_assoc]; show rLg σ k b d (rUp σ k b d (n + m)) (n + m) = _; rw [rLg_n (fun q => by omega), ih]
set_option maxHeartbeats 800000 in
set_option maxRecDepth 100000 in
theorem L_X12_seekRight_16 {l : Launch} {G : Wd} {k : Int32} {F σ : Mem} {b d : Nat} {Q : Option Value → Mem → Prop} (hb : b < 5) (hd : d < 60) (hok : okBx σ b) : ∀ (q lg : Nat) (x : Int32) (x4 x5 x6 : Option Value) (μ : Mem), lg + q = 3 + 1 → lg ≤ 3 → x = nI lg → RI F σ k (rUp σ k b d lg) μ → (∀ (x : Int32) (x4 x5 x6 : Option Value) (μ : Mem), RI F σ k (rgt σ k b d) μ → AW l G KM RX12 cX12_seekRight 7 6 none Q 237 [some (.ref (gA G 0)), some (.int (nI b)), some (.int (nI d)), some (.int x), x4, x5, x6] [] μ) → AW l G KM RX12 cX12_seekRight 7 6 none Q 16 [some (.ref (gA G 0)), some (.int (nI b)), some (.int (nI d)), some (.int x), x4, x5, x6] [] μ := by
  intro q
  induction q with
  | zero => intro lg x x4 x5 x6 μ h1 h2; omega
  | succ q ih =>
    intro lg x x4 x5 x6 μ h1 h2 hx hR hk
    subst hx
    refine A_iload3 dX12_seekRight_16 ?_
    refine A_iconst (v := 2) dX12_seekRight_17 (by decide) ?_
    refine A_icmp_gt (tgt := 237) dX12_seekRight_18 (by decide) (fun c_18 => ?_) (fun c_18 => ?_)
    · have e : lg = 3 := by have h9 := (nI_ltI (a := 2) (b := lg) (by omega) (by omega)).mp c_18; omega
      subst e
      exact hk _ _ _ _ _ hR
    · refine A_iload2 dX12_seekRight_21 ?_
      refine A_iload3 dX12_seekRight_22 ?_
      refine A_iadd dX12_seekRight_23 ?_
      refine A_bipush (v := 60) dX12_seekRight_24 (by decide) ?_
      refine A_icmp_ge (tgt := 237) dX12_seekRight_26 (by decide) (fun c_26 => ?_) (fun c_26 => ?_)
      · have h9 := (nI_leI (a := 60) (b := d + lg) (by omega) (by omega)).mp (by rw [← nI_add]; exact c_26)
        have e := rUp_ge (σ := σ) (k := k) (b := b) (d := d) (3 - lg) lg h9
        rw [show lg + (3 - lg) = 3 by omega] at e
        rw [← e] at hR
        exact hk _ _ _ _ _ hR
      · have hd2 : d + lg < 60 := by rw [nI_add, show (60 : Int32) = nI 60 from rfl] at c_26; rcases Nat.lt_or_ge (d + lg) 60 with q | q; exact q; exact absurd (nI_le q (by omega)) c_26
        have hl2 : lg ≤ 2 := by rcases Nat.lt_or_ge 2 lg with q | q; exact absurd (nI_lt q (by omega)) c_18; exact q
        have ix : 60 * nI b + nI d + nI lg = nI (60 * b + (d + lg)) := by rw [nI_60, nI_add, Nat.add_assoc]
        refine A_aload0 dX12_seekRight_29 ?_
        refine A_getR gf_X12_103 rfl dX12_seekRight_30 ?_
        refine A_bipush (v := 60) dX12_seekRight_33 (by decide) ?_
        refine A_iload1 dX12_seekRight_35 ?_
        refine A_imul dX12_seekRight_36 ?_
        refine A_iload2 dX12_seekRight_37 ?_
        refine A_iadd dX12_seekRight_38 ?_
        refine A_iload3 dX12_seekRight_39 ?_
        refine A_iadd dX12_seekRight_40 ?_
        refine A_iald (rfl) (by rw [ix]; exact vp_in_nI (by omega) (by omega)) dX12_seekRight_41 ?_
        rw [ix, nI_c (by omega), hR.1.2.2.1 _ (by omega)]
        refine A_val (y := rdN σ k b (d + lg)) rfl ?_
        refine A_istore4 dX12_seekRight_42 rfl (by decide) ?_
        refine A_iload4 dX12_seekRight_44 ?_
        refine A_ldcw dX12_seekRight_46 kc_X12_353 ?_
        refine A_icmp_ne (tgt := 55) dX12_seekRight_49 (by decide) (fun c_49 => ?_) (fun c_49 => ?_)
        · refine A_aload0 dX12_seekRight_55 ?_
          refine A_iload1 dX12_seekRight_56 ?_
          refine A_iload2 dX12_seekRight_57 ?_
          refine A_iload3 dX12_seekRight_58 ?_
          refine A_iadd dX12_seekRight_59 ?_
          rw [nI_add]
          refine A_vv2 lk_X12_396 yv_X12_seekLaws dX12_seekRight_60 (rfl) (rfl) (T_X12_seekLaws hR.1 hb hd2 hok) (by decide) (Nat.le_of_ble_eq_true rfl) (fun μ_60 h_60 => ?_)
          obtain ⟨hL2, hS2⟩ := h_60
          have hR2 : RI F σ k (rUp σ k b d lg) μ_60 := ⟨hL2.self, hR.2.1.trans hL2.2.2.2.2.b, (hL2.2.2.2.2 0 56 rfl).trans hR.2.2.1, (hL2.2.2.2.2 0 57 rfl).trans hR.2.2.2⟩
          refine A_iconst (v := 0) dX12_seekRight_63 (by decide) ?_
          refine A_istore5 dX12_seekRight_64 rfl (by decide) ?_
          refine L_X12_seekRight_66 (F := F) (σ := σ) (k := k) (S0 := rUp σ k b d lg) hb hd2 hl2 hok ((fnd σ k b (d + lg)).1.length + 1) 0 _ _ _ _ (by omega) (by omega) rfl rfl hR2 hS2 (fun x5 x6 μ3 hR3 => ?_)
          refine A_iinc3 dX12_seekRight_231 rfl rfl (by decide) ?_
          refine A_goto (tgt := 16) dX12_seekRight_234 (by decide) ?_
          refine ih (lg + 1) _ _ _ _ _ (by omega) (by omega) (nI_1 lg) ?_ hk
          rw [show rUp σ k b d (lg + 1) = rLg σ k b d (rUp σ k b d lg) lg from rfl, rLg_y hd2 c_49]
          exact hR3
        · refine A_goto (tgt := 231) dX12_seekRight_52 (by decide) ?_
          refine A_iinc3 dX12_seekRight_231 rfl rfl (by decide) ?_
          refine A_goto (tgt := 16) dX12_seekRight_234 (by decide) ?_
          refine ih (lg + 1) _ _ _ _ _ (by omega) (by omega) (nI_1 lg) ?_ hk
          rw [show rUp σ k b d (lg + 1) = rLg σ k b d (rUp σ k b d lg) lg from rfl, rLg_n (fun q => q.2 c_49)]
          exact hR
set_option maxHeartbeats 4000000 in
set_option maxRecDepth 100000 in
theorem T_X12_seekRight {l : Launch} {G : Wd} {b d : Nat} {k : Int32} {F σ μ : Mem} (hL : Lay F σ k μ) (hb : b < 5) (hd : d < 60) (hok : okBx σ b) : Mt l G KM yX12_seekRight cX12_seekRight 7 none 6 [.ref (gA G 0), .int (nI b), .int (nI d)] μ (Qv (fun μ' => RI F σ k (rgt σ k b d) μ')) := by
  refine Mt.of (own := RX12) (n := 4) (by decide) rfl [some (.ref (gA G 0)), some (.int (nI b)), some (.int (nI d)), none, none, none, none] rfl (Nat.le_of_ble_eq_true rfl) ?_
  refine A_aload0 dX12_seekRight_0 ?_
  refine A_ldcw dX12_seekRight_1 kc_X12_353 ?_
  refine A_putI gf_X12_410 rfl dX12_seekRight_4 ?_
  refine A_aload0 dX12_seekRight_7 ?_
  refine A_ldcw dX12_seekRight_8 kc_X12_353 ?_
  refine A_putI gf_X12_413 rfl dX12_seekRight_11 ?_
  refine A_iconst (v := 0) dX12_seekRight_14 (by decide) ?_
  refine A_istore3 dX12_seekRight_15 rfl (by decide) ?_
  refine L_X12_seekRight_16 (F := F) (σ := σ) (k := k) hb hd hok 4 0 _ _ _ _ _ (by omega) (by omega) rfl ?_ (fun x x4 x5 x6 μ2 hR => ?_)
  · exact ⟨Lay.w3 (Lay.w3 hL rfl ⟨by decide, by decide, by decide⟩) rfl ⟨by decide, by decide, by decide⟩, (hL.2.2.2.2.b.w (Or.inl rfl)).w (Or.inr rfl), rfl, rfl⟩
  · refine A_vret dX12_seekRight_237 ?_
    exact ⟨rfl, hR⟩
def sp_right (σ : Mem) (b d h k : Int32) : Int32 := if isPl σ b d then (if h = 0 then (rgt σ k b.toNatClampNeg d.toNatClampNeg).1 else (rgt σ k b.toNatClampNeg d.toNatClampNeg).2) else -100000
set_option maxHeartbeats 4000000 in
set_option maxRecDepth 100000 in
theorem T_X12_right {l : Launch} {G : Wd} {b d h k : Int32} {μ : Mem} (hw : WF μ) : Mt l G KM yX12_right cX12_right 5 (some .int) 7 [.ref (gA G 0), .int b, .int d, .int h, .int k] μ (Qi (fun v μ' => v = sp_right μ b d h k ∧ Pm μ μ')) := by
  refine Mt.of (own := RX12) (n := 0) (by decide) rfl [some (.ref (gA G 0)), some (.int b), some (.int d), some (.int h), some (.int k)] rfl (Nat.le_of_ble_eq_true rfl) ?_
  refine A_aload0 dX12_right_0 ?_
  refine A_iload1 dX12_right_1 ?_
  refine A_iload2 dX12_right_2 ?_
  refine A_vi2 lk_X12_357 yv_X12_isPlace dX12_right_3 (rfl) (rfl) (T_X12_isPlace) (by decide) (Nat.le_of_ble_eq_true rfl) (fun r_3 μ_3 h_3 => ?_)
  obtain ⟨rfl, e_3⟩ := h_3
  replace e_3 := e_3.symm
  subst e_3
  refine A_if_ne (tgt := 13) dX12_right_6 (by decide) (fun c_6 => ?_) (fun c_6 => ?_)
  · have hp : isPl μ b d := Classical.not_not.mp (fun z => c_6 (bz_0.mpr z))
    obtain ⟨bn, dn, rfl, rfl, hb5, hd6, hok, eb, ed, hbn⟩ := i_pl hw.2.2 hp
    refine A_aload0 dX12_right_13 ?_
    refine A_iload4 dX12_right_14 ?_
    refine A_vv1 lk_X12_354 yv_X12_layOut dX12_right_16 (rfl) (rfl) (T_X12_layOut hw.2.1) (by decide) (Nat.le_of_ble_eq_true rfl) (fun μ_16 h_16 => ?_)
    refine A_aload0 dX12_right_19 ?_
    refine A_iload1 dX12_right_20 ?_
    refine A_iload2 dX12_right_21 ?_
    refine A_vv2 lk_X12_416 yv_X12_seekRight dX12_right_22 (rfl) (rfl) (T_X12_seekRight h_16 hb5 hd6 hok) (by decide) (Nat.le_of_ble_eq_true rfl) (fun μ_22 h_22 => ?_)
    refine A_iload3 dX12_right_25 ?_
    refine A_if_eq (tgt := 36) dX12_right_26 (by decide) (fun c_26 => ?_) (fun c_26 => ?_)
    · refine A_aload0 dX12_right_36 ?_
      refine A_getI gf_X12_410 rfl dX12_right_37 ?_
      rw [h_22.2.2.1]
      refine A_iret dX12_right_40 ?_
      refine ⟨_, rfl, ?_, h_22.1.1⟩
      unfold sp_right
      rw [if_pos hp, eb, ed, if_pos c_26]
    · refine A_aload0 dX12_right_29 ?_
      refine A_getI gf_X12_413 rfl dX12_right_30 ?_
      rw [h_22.2.2.2]
      refine A_goto (tgt := 40) dX12_right_33 (by decide) ?_
      refine A_iret dX12_right_40 ?_
      refine ⟨_, rfl, ?_, h_22.1.1⟩
      unfold sp_right
      rw [if_pos hp, eb, ed, if_neg c_26]
  · refine A_ldcw dX12_right_9 kc_X12_353 ?_
    refine A_iret dX12_right_12 ?_
    refine ⟨_, rfl, ?_, Pm.rf⟩
    unfold sp_right
    rw [if_neg (bz_0.mp c_6)]

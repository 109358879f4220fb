/-! which box lies beside two others -/
def lwq (σ : Mem) (k q : Int32) (d b : Nat) : Int32 := if σ.1 7 b = q then (rgt σ k b d).1 else -100000
def hgq (σ : Mem) (k : Int32) (d b : Nat) : Int32 := (rgt σ k b d).2
abbrev mtS (σ : Mem) (k q : Int32) (d a b : Nat) : Prop := lwq σ k q d a ≤ hgq σ k d b ∧ lwq σ k q d b ≤ hgq σ k d a
abbrev lieP (σ : Mem) (k q : Int32) (d b x y : Nat) : Prop := ¬ x = b ∧ ¬ y = b ∧ ¬ lwq σ k q d x = -100000 ∧ ¬ lwq σ k q d y = -100000 ∧ mtS σ k q d x y ∧ ¬ mtS σ k q d b x ∧ ¬ mtS σ k q d b y
def anyU (p : Nat → Bool) : Nat → Nat → Bool
  | 0, _ => false
  | n + 1, a => p a || anyU p n (a + 1)
def lieY (σ : Mem) (k q : Int32) (d b x : Nat) : Bool := anyU (fun y => decide (lieP σ k q d b x y)) (nbx σ - (x + 1)) (x + 1)
def lieX (σ : Mem) (k q : Int32) (d b : Nat) : Bool := !decide (lwq σ k q d b = -100000) && anyU (lieY σ k q d b) (nbx σ) 0
def lsS (σ : Mem) (k q : Int32) (d : Nat) : Nat → Nat → Int32
  | 0, _ => -1
  | n + 1, b => if lieX σ k q d b = true then nI b else lsS σ k q d n (b + 1)
def sp_lies (σ : Mem) (q d k : Int32) : Int32 := if isQt q ∧ isDy d then lsS σ k q d.toNatClampNeg (nbx σ) 0 else -1
/-- rows of the boxes so far: the high one only where there is a low one -/
def lspan (σ : Mem) (k q : Int32) (d n : Nat) (μ : Mem) : Prop := ∀ b, b < n → μ.1 38 b = lwq σ k q d b ∧ (σ.1 7 b = q → μ.1 39 b = hgq σ k d b)
theorem lwq_k {σ : Mem} {k q : Int32} {d b : Nat} (h : ¬ lwq σ k q d b = -100000) : σ.1 7 b = q := by
  unfold lwq at h
  by_cases e : σ.1 7 b = q
  · exact e
  · rw [if_neg e] at h; exact absurd rfl h
set_option maxHeartbeats 4000000 in
set_option maxRecDepth 100000 in
theorem T_X12_meets {l : Launch} {G : Wd} {a b : Nat} {μ : Mem} (ha : a < 60) (hb : b < 60) : Mt l G KM yX12_meets cX12_meets 3 (some .boolean) 1 [.ref (gA G 0), .int (nI a), .int (nI b)] μ (Qi (fun v μ' => v = bz (μ.1 38 a ≤ μ.1 39 b ∧ μ.1 38 b ≤ μ.1 39 a) ∧ μ' = μ)) := by
  refine Mt.of (own := RX12) (n := 0) (by decide) rfl [some (.ref (gA G 0)), some (.int (nI a)), some (.int (nI b))] rfl (Nat.le_of_ble_eq_true rfl) ?_
  refine A_aload0 dX12_meets_0 ?_
  refine A_getR gf_X12_127 rfl dX12_meets_1 ?_
  refine A_iload1 dX12_meets_4 ?_
  refine A_iald (rfl) (vp_in_nI ha (by omega)) dX12_meets_5 ?_
  rw [nI_c (by omega)]
  refine A_aload0 dX12_meets_6 ?_
  refine A_getR gf_X12_130 rfl dX12_meets_7 ?_
  refine A_iload2 dX12_meets_10 ?_
  refine A_iald (rfl) (vp_in_nI hb (by omega)) dX12_meets_11 ?_
  rw [nI_c (by omega)]
  refine A_icmp_gt (tgt := 34) dX12_meets_12 (by decide) (fun c_12 => ?_) (fun c_12 => ?_)
  · refine A_iconst (v := 0) dX12_meets_34 (by decide) ?_
    refine A_zret dX12_meets_35 (by decide) ?_
    refine ⟨_, rfl, ?_, rfl⟩
    rw [bz_f (fun z => by have h8 := i_le.mp z.1; have h9 := i_lt.mp c_12; omega)]
  · refine A_aload0 dX12_meets_15 ?_
    refine A_getR gf_X12_127 rfl dX12_meets_16 ?_
    refine A_iload2 dX12_meets_19 ?_
    refine A_iald (rfl) (vp_in_nI hb (by omega)) dX12_meets_20 ?_
    rw [nI_c (by omega)]
    refine A_aload0 dX12_meets_21 ?_
    refine A_getR gf_X12_130 rfl dX12_meets_22 ?_
    refine A_iload1 dX12_meets_25 ?_
    refine A_iald (rfl) (vp_in_nI ha (by omega)) dX12_meets_26 ?_
    rw [nI_c (by omega)]
    refine A_icmp_gt (tgt := 34) dX12_meets_27 (by decide) (fun c_27 => ?_) (fun c_27 => ?_)
    · refine A_iconst (v := 0) dX12_meets_34 (by decide) ?_
      refine A_zret dX12_meets_35 (by decide) ?_
      refine ⟨_, rfl, ?_, rfl⟩
      rw [bz_f (fun z => by have h8 := i_le.mp z.2; have h9 := i_lt.mp c_27; omega)]
    · refine A_iconst (v := 1) dX12_meets_30 (by decide) ?_
      refine A_goto (tgt := 35) dX12_meets_31 (by decide) ?_
      refine A_zret dX12_meets_35 (by decide) ?_
      refine ⟨_, rfl, ?_, rfl⟩
      rw [bz_t ⟨i_nlt c_12, i_nlt c_27⟩]
set_option maxHeartbeats 800000 in
set_option maxRecDepth 100000 in
theorem L_X12_lies_26 {l : Launch} {G : Wd} {k q : Int32} {σ : Mem} {d : Nat} {Q : Option Value → Mem → Prop} {x5 x6 : Option Value} (hw : WFh σ) (hd : d < 60) : ∀ (n b : Nat) (x : Int32) (μ : Mem), b + n = nbx σ + 1 → b ≤ nbx σ → x = nI b → lspan σ k q d b μ → Lay μ σ k μ → (∀ (x4 : Option Value) (μ : Mem), lspan σ k q d (nbx σ) μ → Lay μ σ k μ → AW l G KM RX12 cX12_lies 7 7 (some .int) Q 94 [some (.ref (gA G 0)), some (.int q), some (.int (nI d)), some (.int k), x4, x5, x6] [] μ) → AW l G KM RX12 cX12_lies 7 7 (some .int) Q 26 [some (.ref (gA G 0)), some (.int q), some (.int (nI d)), some (.int k), some (.int x), x5, x6] [] μ := by
  have hn5 := (hw.1.t).1
  intro n
  induction n with
  | zero => intro b x μ h1 h2; omega
  | succ n ih =>
    intro b x μ h1 h2 hx hs hL hk
    subst hx
    refine A_iload4 dX12_lies_26 ?_
    refine A_aload0 dX12_lies_28 ?_
    refine A_getI gf_X12_321 rfl dX12_lies_29 ?_
    rw [hL.1.1 0 31 rfl, (hw.1.t).2]
    refine A_icmp_ge (tgt := 94) dX12_lies_32 (by decide) (fun c_32 => ?_) (fun c_32 => ?_)
    · have e : b = nbx σ := by have h9 := (nI_leI (a := nbx σ) (b := b) (by omega) (by omega)).mp c_32; omega
      subst e
      exact hk _ _ hs hL
    · have hb : b < nbx σ := by rcases Nat.lt_or_ge b (nbx σ) with z | z; exact z; exact absurd (nI_le z (by omega)) c_32
      refine A_aload0 dX12_lies_35 ?_
      refine A_getR gf_X12_127 rfl dX12_lies_36 ?_
      refine A_iload4 dX12_lies_39 ?_
      refine A_ldcw dX12_lies_41 kc_X12_353 ?_
      refine A_iast (rfl) (vp_in_nI (by omega) (by omega)) dX12_lies_44 ?_
      rw [nI_c (by omega)]
      refine A_aload0 dX12_lies_45 ?_
      refine A_getR gf_X12_33 rfl dX12_lies_46 ?_
      refine A_iload4 dX12_lies_49 ?_
      refine A_iald (rfl) (vp_in_nI (by omega) (by omega)) dX12_lies_51 ?_
      rw [nI_c (by omega)]
      refine A_val (y := σ.1 7 b) (hL.1.1 7 _ rfl) ?_
      refine A_iload1 dX12_lies_52 ?_
      refine A_icmp_eq (tgt := 59) dX12_lies_53 (by decide) (fun c_53 => ?_) (fun c_53 => ?_)
      · refine A_aload0 dX12_lies_59 ?_
        refine A_iload4 dX12_lies_60 ?_
        refine A_iload2 dX12_lies_62 ?_
        refine A_vv2 lk_X12_416 yv_X12_seekRight dX12_lies_63 (rfl) (rfl) (T_X12_seekRight (Lay.w3 (hL) rfl ⟨by decide, by decide, by decide⟩) (by omega) hd (hw.2 b hb)) (by decide) (Nat.le_of_ble_eq_true rfl) (fun μr hR => ?_)
        refine A_aload0 dX12_lies_66 ?_
        refine A_getR gf_X12_127 rfl dX12_lies_67 ?_
        refine A_iload4 dX12_lies_70 ?_
        refine A_aload0 dX12_lies_72 ?_
        refine A_getI gf_X12_410 rfl dX12_lies_73 ?_
        rw [hR.2.2.1]
        refine A_iast (rfl) (vp_in_nI (by omega) (by omega)) dX12_lies_76 ?_
        rw [nI_c (by omega)]
        refine A_aload0 dX12_lies_77 ?_
        refine A_getR gf_X12_130 rfl dX12_lies_78 ?_
        refine A_iload4 dX12_lies_81 ?_
        refine A_aload0 dX12_lies_83 ?_
        refine A_getI gf_X12_413 rfl dX12_lies_84 ?_
        refine A_val (y := (rgt σ k b d).2) hR.2.2.2 ?_
        refine A_iast (rfl) (vp_in_nI (by omega) (by omega)) dX12_lies_87 ?_
        rw [nI_c (by omega)]
        refine A_iinc4 dX12_lies_88 rfl rfl (by decide) ?_
        refine A_goto (tgt := 26) dX12_lies_91 (by decide) ?_
        refine ih (b + 1) _ _ (by omega) (by omega) (nI_1 b) ?_ (Lay.w3 (Lay.w3 (hR.1) rfl ⟨by decide, by decide, by decide⟩) rfl ⟨by decide, by decide, by decide⟩) hk
        intro x hx
        by_cases ex : x = b
        · subst ex
          refine ⟨?_, fun _ => ?_⟩
          · rw [wI_ne (Or.inl (by decide)), wI_same]; unfold lwq; rw [if_pos c_53]
          · exact wI_same
        · have h9 := hs x (by omega)
          rw [wI_ne (Or.inl (by decide)), wI_ne (Or.inr ex), wI_ne (Or.inr ex), wI_ne (Or.inl (by decide))]
          rw [hR.2.1 38 x rfl (Or.inl (by decide)), hR.2.1 39 x rfl (Or.inl (by decide)), wI_ne (Or.inr ex), wI_ne (Or.inl (by decide))]
          exact h9
      · refine A_goto (tgt := 88) dX12_lies_56 (by decide) ?_
        refine A_iinc4 dX12_lies_88 rfl rfl (by decide) ?_
        refine A_goto (tgt := 26) dX12_lies_91 (by decide) ?_
        refine ih (b + 1) _ _ (by omega) (by omega) (nI_1 b) ?_ (Lay.w3 (hL) rfl ⟨by decide, by decide, by decide⟩) hk
        intro x hx
        by_cases ex : x = b
        · subst ex
          refine ⟨?_, fun z => absurd z c_53⟩
          rw [wI_same]; unfold lwq; rw [if_neg c_53]
        · have h9 := hs x (by omega)
          rw [wI_ne (Or.inr ex), wI_ne (Or.inl (by decide))]
          exact h9
theorem mt_e {σ μ : Mem} {k q : Int32} {d a b : Nat} (hs : lspan σ k q d (nbx σ) μ) (ha : a < nbx σ) (hb : b < nbx σ) (h1 : ¬ lwq σ k q d a = -100000) (h2 : ¬ lwq σ k q d b = -100000) : bz (μ.1 38 a ≤ μ.1 39 b ∧ μ.1 38 b ≤ μ.1 39 a) = bz (mtS σ k q d a b) := by
  rw [(hs a ha).1, (hs b hb).1, (hs a ha).2 (lwq_k h1), (hs b hb).2 (lwq_k h2)]
set_option maxHeartbeats 800000 in
set_option maxRecDepth 100000 in
theorem L_X12_lies_137 {l : Launch} {G : Wd} {k q : Int32} {σ : Mem} {d : Nat} {Q : Option Value → Mem → Prop} {μ : Mem} {b x : Nat} (hw : WFh σ) (hs : lspan σ k q d (nbx σ) μ) (hL : Lay μ σ k μ) (hb : b < nbx σ) (hx : x < nbx σ) (hbl : ¬ lwq σ k q d b = -100000) : ∀ (n y : Nat) (z : Int32), y + n = nbx σ + 1 → y ≤ nbx σ → z = nI y → (anyU (fun y => decide (lieP σ k q d b x y)) (nbx σ - y) y = false → ∀ x6 : Option Value, AW l G KM RX12 cX12_lies 7 7 (some .int) Q 231 [some (.ref (gA G 0)), some (.int q), some (.int (nI d)), some (.int k), some (.int (nI b)), some (.int (nI x)), x6] [] μ) → (anyU (fun y => decide (lieP σ k q d b x y)) (nbx σ - y) y = true → Q (some (.int (nI b))) μ) → AW l G KM RX12 cX12_lies 7 7 (some .int) Q 137 [some (.ref (gA G 0)), some (.int q), some (.int (nI d)), some (.int k), some (.int (nI b)), some (.int (nI x)), some (.int z)] [] μ := by
  have hn5 := (hw.1.t).1
  intro n
  induction n with
  | zero => intro y z h1 h2; omega
  | succ n ih =>
    intro y z h1 h2 hz hk0 hk1
    subst hz
    refine A_iload6 dX12_lies_137 ?_
    refine A_aload0 dX12_lies_139 ?_
    refine A_getI gf_X12_321 rfl dX12_lies_140 ?_
    rw [hL.1.1 0 31 rfl, (hw.1.t).2]
    refine A_icmp_ge (tgt := 231) dX12_lies_143 (by decide) (fun c_143 => ?_) (fun c_143 => ?_)
    · have e : y = nbx σ := by have h9 := (nI_leI (a := nbx σ) (b := y) (by omega) (by omega)).mp c_143; omega
      subst e
      exact hk0 (by rw [Nat.sub_self]; rfl) _
    · have hy : y < nbx σ := by rcases Nat.lt_or_ge y (nbx σ) with z | z; exact z; exact absurd (nI_le z (by omega)) c_143
      refine A_iload5 dX12_lies_146 ?_
      refine A_iload4 dX12_lies_148 ?_
      refine A_icmp_eq (tgt := 225) dX12_lies_150 (by decide) (fun c_150 => ?_) (fun c_150 => ?_)
      · refine A_iinc6 dX12_lies_225 rfl rfl (by decide) ?_
        refine A_goto (tgt := 137) dX12_lies_228 (by decide) ?_
        refine ih (y + 1) _ (by omega) (by omega) (nI_1 y) (fun h => hk0 ?_) (fun h => hk1 ?_)
        · rw [show nbx σ - y = (nbx σ - (y + 1)) + 1 by omega, anyU, h, Bool.or_false, decide_eq_false_iff_not]
          exact fun z => z.1 ((nI_eq (by omega) (by omega)).mp c_150)
        · rw [show nbx σ - y = (nbx σ - (y + 1)) + 1 by omega, anyU, h, Bool.or_true]
      · refine A_iload6 dX12_lies_153 ?_
        refine A_iload4 dX12_lies_155 ?_
        refine A_icmp_eq (tgt := 225) dX12_lies_157 (by decide) (fun c_157 => ?_) (fun c_157 => ?_)
        · refine A_iinc6 dX12_lies_225 rfl rfl (by decide) ?_
          refine A_goto (tgt := 137) dX12_lies_228 (by decide) ?_
          refine ih (y + 1) _ (by omega) (by omega) (nI_1 y) (fun h => hk0 ?_) (fun h => hk1 ?_)
          · rw [show nbx σ - y = (nbx σ - (y + 1)) + 1 by omega, anyU, h, Bool.or_false, decide_eq_false_iff_not]
            exact fun z => z.2.1 ((nI_eq (by omega) (by omega)).mp c_157)
          · rw [show nbx σ - y = (nbx σ - (y + 1)) + 1 by omega, anyU, h, Bool.or_true]
        · refine A_aload0 dX12_lies_160 ?_
          refine A_getR gf_X12_127 rfl dX12_lies_161 ?_
          refine A_iload5 dX12_lies_164 ?_
          refine A_iald (rfl) (vp_in_nI (by omega) (by omega)) dX12_lies_166 ?_
          rw [nI_c (by omega), (hs x hx).1]
          refine A_ldcw dX12_lies_167 kc_X12_353 ?_
          refine A_icmp_eq (tgt := 225) dX12_lies_170 (by decide) (fun c_170 => ?_) (fun c_170 => ?_)
          · refine A_iinc6 dX12_lies_225 rfl rfl (by decide) ?_
            refine A_goto (tgt := 137) dX12_lies_228 (by decide) ?_
            refine ih (y + 1) _ (by omega) (by omega) (nI_1 y) (fun h => hk0 ?_) (fun h => hk1 ?_)
            · rw [show nbx σ - y = (nbx σ - (y + 1)) + 1 by omega, anyU, h, Bool.or_false, decide_eq_false_iff_not]
              exact fun z => z.2.2.1 c_170
            · rw [show nbx σ - y = (nbx σ - (y + 1)) + 1 by omega, anyU, h, Bool.or_true]
          · refine A_aload0 dX12_lies_173 ?_
            refine A_getR gf_X12_127 rfl dX12_lies_174 ?_
            refine A_iload6 dX12_lies_177 ?_
            refine A_iald (rfl) (vp_in_nI (by omega) (by omega)) dX12_lies_179 ?_
            rw [nI_c (by omega), (hs y hy).1]
            refine A_ldcw dX12_lies_180 kc_X12_353 ?_
            refine A_icmp_ne (tgt := 189) dX12_lies_183 (by decide) (fun c_183 => ?_) (fun c_183 => ?_)
            · refine A_aload0 dX12_lies_189 ?_
              refine A_iload5 dX12_lies_190 ?_
              refine A_iload6 dX12_lies_192 ?_
              refine A_vi2 lk_X12_419 yv_X12_meets dX12_lies_194 (rfl) (rfl) (T_X12_meets (by omega) (by omega)) (by decide) (Nat.le_of_ble_eq_true rfl) (fun r_194 μ_194 h_194 => ?_)
              obtain ⟨rfl, e_194⟩ := h_194
              replace e_194 := e_194.symm
              subst e_194
              rw [mt_e hs hx hy c_170 c_183]
              refine A_if_eq (tgt := 225) dX12_lies_197 (by decide) (fun c_197 => ?_) (fun c_197 => ?_)
              · refine A_iinc6 dX12_lies_225 rfl rfl (by decide) ?_
                refine A_goto (tgt := 137) dX12_lies_228 (by decide) ?_
                refine ih (y + 1) _ (by omega) (by omega) (nI_1 y) (fun h => hk0 ?_) (fun h => hk1 ?_)
                · rw [show nbx σ - y = (nbx σ - (y + 1)) + 1 by omega, anyU, h, Bool.or_false, decide_eq_false_iff_not]
                  exact fun z => bz_0.mp c_197 z.2.2.2.2.1
                · rw [show nbx σ - y = (nbx σ - (y + 1)) + 1 by omega, anyU, h, Bool.or_true]
              · refine A_aload0 dX12_lies_200 ?_
                refine A_iload4 dX12_lies_201 ?_
                refine A_iload5 dX12_lies_203 ?_
                refine A_vi2 lk_X12_419 yv_X12_meets dX12_lies_205 (rfl) (rfl) (T_X12_meets (by omega) (by omega)) (by decide) (Nat.le_of_ble_eq_true rfl) (fun r_205 μ_205 h_205 => ?_)
                obtain ⟨rfl, e_205⟩ := h_205
                replace e_205 := e_205.symm
                subst e_205
                rw [mt_e hs hb hx hbl c_170]
                refine A_if_ne (tgt := 225) dX12_lies_208 (by decide) (fun c_208 => ?_) (fun c_208 => ?_)
                · refine A_iinc6 dX12_lies_225 rfl rfl (by decide) ?_
                  refine A_goto (tgt := 137) dX12_lies_228 (by decide) ?_
                  refine ih (y + 1) _ (by omega) (by omega) (nI_1 y) (fun h => hk0 ?_) (fun h => hk1 ?_)
                  · rw [show nbx σ - y = (nbx σ - (y + 1)) + 1 by omega, anyU, h, Bool.or_false, decide_eq_false_iff_not]
                    exact fun z => c_208 (bz_0.mpr z.2.2.2.2.2.1)
                  · rw [show nbx σ - y = (nbx σ - (y + 1)) + 1 by omega, anyU, h, Bool.or_true]
                · refine A_aload0 dX12_lies_211 ?_
                  refine A_iload4 dX12_lies_212 ?_
                  refine A_iload6 dX12_lies_214 ?_
                  refine A_vi2 lk_X12_419 yv_X12_meets dX12_lies_216 (rfl) (rfl) (T_X12_meets (by omega) (by omega)) (by decide) (Nat.le_of_ble_eq_true rfl) (fun r_216 μ_216 h_216 => ?_)
                  obtain ⟨rfl, e_216⟩ := h_216
                  replace e_216 := e_216.symm
                  subst e_216
                  rw [mt_e hs hb hy hbl c_183]
                  refine A_if_ne (tgt := 225) dX12_lies_219 (by decide) (fun c_219 => ?_) (fun c_219 => ?_)
                  · refine A_iinc6 dX12_lies_225 rfl rfl (by decide) ?_
                    refine A_goto (tgt := 137) dX12_lies_228 (by decide) ?_
                    refine ih (y + 1) _ (by omega) (by omega) (nI_1 y) (fun h => hk0 ?_) (fun h => hk1 ?_)
                    · rw [show nbx σ - y = (nbx σ - (y + 1)) + 1 by omega, anyU, h, Bool.or_false, decide_eq_false_iff_not]
                      exact fun z => c_219 (bz_0.mpr z.2.2.2.2.2.2)
                    · rw [show nbx σ - y = (nbx σ - (y + 1)) + 1 by omega, anyU, h, Bool.or_true]
                  · refine A_iload4 dX12_lies_222 ?_
                    refine A_iret dX12_lies_224 ?_
                    refine hk1 ?_
                    rw [show nbx σ - y = (nbx σ - (y + 1)) + 1 by omega, anyU, decide_eq_true (p := lieP σ k q d b x y) ⟨fun z => c_150 (by rw [z]), fun z => c_157 (by rw [z]), c_170, c_183, Classical.not_not.mp (fun z => c_197 (bz_0.mpr z)), bz_0.mp c_208, bz_0.mp c_219⟩, Bool.true_or]
            · refine A_goto (tgt := 225) dX12_lies_186 (by decide) ?_
              refine A_iinc6 dX12_lies_225 rfl rfl (by decide) ?_
              refine A_goto (tgt := 137) dX12_lies_228 (by decide) ?_
              refine ih (y + 1) _ (by omega) (by omega) (nI_1 y) (fun h => hk0 ?_) (fun h => hk1 ?_)
              · rw [show nbx σ - y = (nbx σ - (y + 1)) + 1 by omega, anyU, h, Bool.or_false, decide_eq_false_iff_not]
                exact fun z => z.2.2.2.1 c_183
              · rw [show nbx σ - y = (nbx σ - (y + 1)) + 1 by omega, anyU, h, Bool.or_true]
set_option maxHeartbeats 800000 in
set_option maxRecDepth 100000 in
theorem L_X12_lies_109 {l : Launch} {G : Wd} {k q : Int32} {σ : Mem} {d : Nat} {Q : Option Value → Mem → Prop} {μ : Mem} {b : Nat} (hw : WFh σ) (hs : lspan σ k q d (nbx σ) μ) (hL : Lay μ σ k μ) (hb : b < nbx σ) (hbl : ¬ lwq σ k q d b = -100000) : ∀ (n x : Nat) (z : Int32) (x6 : Option Value), x + n = nbx σ + 1 → x ≤ nbx σ → z = nI x → (anyU (lieY σ k q d b) (nbx σ - x) x = false → ∀ x5 x6 : Option Value, AW l G KM RX12 cX12_lies 7 7 (some .int) Q 237 [some (.ref (gA G 0)), some (.int q), some (.int (nI d)), some (.int k), some (.int (nI b)), x5, x6] [] μ) → (anyU (lieY σ k q d b) (nbx σ - x) x = true → Q (some (.int (nI b))) μ) → AW l G KM RX12 cX12_lies 7 7 (some .int) Q 109 [some (.ref (gA G 0)), some (.int q), some (.int (nI d)), some (.int k), some (.int (nI b)), some (.int z), x6] [] μ := by
  have hn5 := (hw.1.t).1
  intro n
  induction n with
  | zero => intro x z x6 h1 h2; omega
  | succ n ih =>
    intro x z x6 h1 h2 hz hk0 hk1
    subst hz
    refine A_iload5 dX12_lies_109 ?_
    refine A_aload0 dX12_lies_111 ?_
    refine A_getI gf_X12_321 rfl dX12_lies_112 ?_
    rw [hL.1.1 0 31 rfl, (hw.1.t).2]
    refine A_icmp_ge (tgt := 237) dX12_lies_115 (by decide) (fun c_115 => ?_) (fun c_115 => ?_)
    · have e : x = nbx σ := by have h9 := (nI_leI (a := nbx σ) (b := x) (by omega) (by omega)).mp c_115; omega
      subst e
      exact hk0 (by rw [Nat.sub_self]; rfl) _ _
    · have hx : x < nbx σ := by rcases Nat.lt_or_ge x (nbx σ) with z | z; exact z; exact absurd (nI_le z (by omega)) c_115
      refine A_aload0 dX12_lies_118 ?_
      refine A_getR gf_X12_127 rfl dX12_lies_119 ?_
      refine A_iload4 dX12_lies_122 ?_
      refine A_iald (rfl) (vp_in_nI (by omega) (by omega)) dX12_lies_124 ?_
      rw [nI_c (by omega), (hs b hb).1]
      refine A_ldcw dX12_lies_125 kc_X12_353 ?_
      refine A_icmp_eq (tgt := 237) dX12_lies_128 (by decide) (fun c_128 => absurd c_128 (hbl)) (fun c_128 => ?_)
      refine A_iload5 dX12_lies_131 ?_
      refine A_iconst (v := 1) dX12_lies_133 (by decide) ?_
      refine A_iadd dX12_lies_134 ?_
      rw [nI_1]
      refine A_istore6 dX12_lies_135 rfl (by decide) ?_
      refine L_X12_lies_137 (σ := σ) (k := k) hw hs hL hb hx hbl (nbx σ - x) (x + 1) _ (by omega) (by omega) rfl (fun h0 x6 => ?_) (fun h0 => ?_)
      · refine A_iinc5 dX12_lies_231 rfl rfl (by decide) ?_
        refine A_goto (tgt := 109) dX12_lies_234 (by decide) ?_
        refine ih (x + 1) _ _ (by omega) (by omega) (nI_1 x) (fun h => hk0 ?_) (fun h => hk1 ?_)
        · rw [show nbx σ - x = (nbx σ - (x + 1)) + 1 by omega, anyU, h, Bool.or_false]; exact h0
        · rw [show nbx σ - x = (nbx σ - (x + 1)) + 1 by omega, anyU, h, Bool.or_true]
      · refine hk1 ?_
        rw [show nbx σ - x = (nbx σ - (x + 1)) + 1 by omega, anyU, show lieY σ k q d b x = true from h0, Bool.true_or]
set_option maxHeartbeats 800000 in
set_option maxRecDepth 100000 in
theorem L_X12_lies_97 {l : Launch} {G : Wd} {k q : Int32} {σ : Mem} {d : Nat} {Q : Option Value → Mem → Prop} {μ : Mem} (hw : WFh σ) (hs : lspan σ k q d (nbx σ) μ) (hL : Lay μ σ k μ) : ∀ (n b : Nat) (z : Int32) (x5 x6 : Option Value), b + n = nbx σ + 1 → b ≤ nbx σ → z = nI b → (∀ v : Int32, v = lsS σ k q d (nbx σ - b) b → Q (some (.int v)) μ) → AW l G KM RX12 cX12_lies 7 7 (some .int) Q 97 [some (.ref (gA G 0)), some (.int q), some (.int (nI d)), some (.int k), some (.int z), x5, x6] [] μ := by
  have hn5 := (hw.1.t).1
  intro n
  induction n with
  | zero => intro b z x5 x6 h1 h2; omega
  | succ n ih =>
    intro b z x5 x6 h1 h2 hz hk
    subst hz
    refine A_iload4 dX12_lies_97 ?_
    refine A_aload0 dX12_lies_99 ?_
    refine A_getI gf_X12_321 rfl dX12_lies_100 ?_
    rw [hL.1.1 0 31 rfl, (hw.1.t).2]
    refine A_icmp_ge (tgt := 243) dX12_lies_103 (by decide) (fun c_103 => ?_) (fun c_103 => ?_)
    · have e : b = nbx σ := by have h9 := (nI_leI (a := nbx σ) (b := b) (by omega) (by omega)).mp c_103; omega
      subst e
      refine A_iconst (v := -1) dX12_lies_243 (by decide) ?_
      refine A_iret dX12_lies_244 ?_
      exact hk _ (by rw [Nat.sub_self]; rfl)
    · have hb : b < nbx σ := by rcases Nat.lt_or_ge b (nbx σ) with z | z; exact z; exact absurd (nI_le z (by omega)) c_103
      refine A_iconst (v := 0) dX12_lies_106 (by decide) ?_
      refine A_istore5 dX12_lies_107 rfl (by decide) ?_
      by_cases hbl : lwq σ k q d b = -100000
      · refine A_iload5 dX12_lies_109 ?_
        refine A_aload0 dX12_lies_111 ?_
        refine A_getI gf_X12_321 rfl dX12_lies_112 ?_
        rw [hL.1.1 0 31 rfl, (hw.1.t).2]
        refine A_icmp_ge (tgt := 237) dX12_lies_115 (by decide) (fun c_115 => absurd c_115 (fun z => by have h9 := (nI_leI (a := nbx σ) (b := 0) (by omega) (by omega)).mp z; omega)) (fun c_115 => ?_)
        refine A_aload0 dX12_lies_118 ?_
        refine A_getR gf_X12_127 rfl dX12_lies_119 ?_
        refine A_iload4 dX12_lies_122 ?_
        refine A_iald (rfl) (vp_in_nI (by omega) (by omega)) dX12_lies_124 ?_
        rw [nI_c (by omega), (hs b hb).1]
        refine A_ldcw dX12_lies_125 kc_X12_353 ?_
        refine A_icmp_eq (tgt := 237) dX12_lies_128 (by decide) (fun c_128 => ?_) (fun c_128 => absurd c_128 (fun z => z hbl))
        refine A_iinc4 dX12_lies_237 rfl rfl (by decide) ?_
        refine A_goto (tgt := 97) dX12_lies_240 (by decide) ?_
        refine ih (b + 1) _ _ _ (by omega) (by omega) (nI_1 b) (fun v h => hk v ?_)
        rw [show nbx σ - b = (nbx σ - (b + 1)) + 1 by omega, lsS, if_neg ?_]
        · exact h
        · unfold lieX; rw [decide_eq_true hbl]; exact Bool.false_ne_true
      · refine L_X12_lies_109 (σ := σ) (k := k) hw hs hL hb hbl (nbx σ + 1) 0 _ _ (by omega) (by omega) rfl (fun h0 x5 x6 => ?_) (fun h0 => ?_)
        · refine A_iinc4 dX12_lies_237 rfl rfl (by decide) ?_
          refine A_goto (tgt := 97) dX12_lies_240 (by decide) ?_
          refine ih (b + 1) _ _ _ (by omega) (by omega) (nI_1 b) (fun v h => hk v ?_)
          rw [show nbx σ - b = (nbx σ - (b + 1)) + 1 by omega, lsS, if_neg ?_]
          · exact h
          · rw [Nat.sub_zero] at h0; unfold lieX; rw [h0, Bool.and_false]; exact Bool.false_ne_true
        · refine hk _ ?_
          rw [show nbx σ - b = (nbx σ - (b + 1)) + 1 by omega, lsS, if_pos ?_]
          rw [Nat.sub_zero] at h0; unfold lieX; rw [h0, decide_eq_false hbl]; rfl
set_option maxHeartbeats 4000000 in
set_option maxRecDepth 100000 in
theorem T_X12_lies {l : Launch} {G : Wd} {q d k : Int32} {μ : Mem} (hw : WF μ) : Mt l G KM yX12_lies cX12_lies 7 (some .int) 7 [.ref (gA G 0), .int q, .int d, .int k] μ (Qi (fun v μ' => v = sp_lies μ q d k ∧ Pm μ μ')) := by
  refine Mt.of (own := RX12) (n := 3) (by decide) rfl [some (.ref (gA G 0)), some (.int q), some (.int d), some (.int k), none, none, none] rfl (Nat.le_of_ble_eq_true rfl) ?_
  refine A_iload1 dX12_lies_0 ?_
  refine A_if_lt (tgt := 16) dX12_lies_1 (by decide) (fun c_1 => ?_) (fun c_1 => ?_)
  · refine A_iconst (v := -1) dX12_lies_16 (by decide) ?_
    refine A_iret dX12_lies_17 ?_
    refine ⟨_, rfl, ?_, Pm.rf⟩
    unfold sp_lies
    rw [if_neg]
    rintro ⟨⟨q1, q2⟩, q3⟩
    exact absurd (i_le.mp q1) (by have h9 := i_lt.mp c_1; omega)
  · refine A_iload1 dX12_lies_4 ?_
    refine A_iconst (v := 3) dX12_lies_5 (by decide) ?_
    refine A_icmp_gt (tgt := 16) dX12_lies_6 (by decide) (fun c_6 => ?_) (fun c_6 => ?_)
    · refine A_iconst (v := -1) dX12_lies_16 (by decide) ?_
      refine A_iret dX12_lies_17 ?_
      refine ⟨_, rfl, ?_, Pm.rf⟩
      unfold sp_lies
      rw [if_neg]
      rintro ⟨⟨q1, q2⟩, q3⟩
      exact absurd (i_le.mp q2) (by have h9 := i_lt.mp c_6; omega)
    · refine A_iload2 dX12_lies_9 ?_
      refine A_si1 lk_X12_333 ys_X12_isDay dX12_lies_10 (T_X12_isDay) (by decide) (Nat.le_of_ble_eq_true rfl) (fun r_10 μ_10 h_10 => ?_)
      obtain ⟨rfl, e_10⟩ := h_10
      replace e_10 := e_10.symm
      subst e_10
      refine A_if_ne (tgt := 18) dX12_lies_13 (by decide) (fun c_13 => ?_) (fun c_13 => ?_)
      · have hq : isQt q := ⟨i_nlt c_1, i_nlt c_6⟩
        have hd : isDy d := Classical.not_not.mp (fun z => c_13 (bz_0.mpr z))
        obtain ⟨dn, hdn, rfl, -, ed⟩ := i_nat hd.1
        have hd6 : dn < 60 := by have h9 := hd.2; rw [show (60 : Int32) = nI 60 from rfl] at h9; exact (nI_ltI (by omega) (by omega)).mp h9
        refine A_aload0 dX12_lies_18 ?_
        refine A_iload3 dX12_lies_19 ?_
        refine A_vv1 lk_X12_354 yv_X12_layOut dX12_lies_20 (rfl) (rfl) (T_X12_layOut hw.2.1) (by decide) (Nat.le_of_ble_eq_true rfl) (fun μ_20 h_20 => ?_)
        refine A_iconst (v := 0) dX12_lies_23 (by decide) ?_
        refine A_istore4 dX12_lies_24 rfl (by decide) ?_
        refine L_X12_lies_26 (σ := μ) (k := k) hw.2.2 hd6 (nbx μ + 1) 0 _ _ (by omega) (by omega) rfl (fun b hb => by omega) h_20.self (fun x4 μ2 hs hL2 => ?_)
        refine A_iconst (v := 0) dX12_lies_94 (by decide) ?_
        refine A_istore4 dX12_lies_95 rfl (by decide) ?_
        refine L_X12_lies_97 (σ := μ) (k := k) hw.2.2 hs hL2 (nbx μ + 1) 0 _ _ _ (by omega) (by omega) rfl (fun v hv => ⟨v, rfl, ?_, hL2.1⟩)
        unfold sp_lies
        rw [if_pos ⟨hq, hd⟩, ed]
        exact hv
      · refine A_iconst (v := -1) dX12_lies_16 (by decide) ?_
        refine A_iret dX12_lies_17 ?_
        refine ⟨_, rfl, ?_, Pm.rf⟩
        unfold sp_lies
        rw [if_neg]
        rintro ⟨⟨q1, q2⟩, q3⟩
        exact bz_0.mp c_13 q3

/-! sums, and the surest day -/
def smS (σ : Mem) (k : Int32) (b f : Nat) : Nat → Int32 × Int32 × Int32
  | 0 => (0, 0, 0)
  | n + 1 => ((smS σ k b f n).1 + (if (rgt σ k b (f + n)).1 = -100000 then 0 else (rgt σ k b (f + n)).1), (smS σ k b f n).2.1 + (if (rgt σ k b (f + n)).2 = -100000 then 0 else (rgt σ k b (f + n)).2), (smS σ k b f n).2.2 + (if (rgt σ k b (f + n)).1 = -100000 then 1 else 0))
abbrev isRg (σ : Mem) (b f t : Int32) : Prop := isBx σ b ∧ isDy f ∧ isDy t ∧ ¬ t < f
def sumT (σ : Mem) (k b f t : Int32) : Int32 × Int32 × Int32 := smS σ k b.toNatClampNeg f.toNatClampNeg (t.toNatClampNeg + 1 - f.toNatClampNeg)
def sp_sum (σ : Mem) (b f t w k : Int32) : Int32 := if isRg σ b f t ∧ 0 ≤ w ∧ w ≤ 2 then (if w = 0 then (sumT σ k b f t).1 else if w = 1 then (sumT σ k b f t).2.1 else (sumT σ k b f t).2.2) else -100000
theorem i_rg {σ : Mem} {b f t : Int32} (hw : WFh σ) (h : isRg σ b f t) : ∃ x y z : Nat, b = nI x ∧ f = nI y ∧ t = nI z ∧ x < 5 ∧ y ≤ z ∧ z < 60 ∧ okBx σ x ∧ b.toNatClampNeg = x ∧ f.toNatClampNeg = y ∧ t.toNatClampNeg = z := by
  obtain ⟨x, y, rfl, rfl, h1, h2, h3, h4, h5, -⟩ := i_pl hw ⟨h.1, h.2.1⟩
  obtain ⟨x2, z, e2, rfl, -, h6, -, -, h7, -⟩ := i_pl hw ⟨h.1, h.2.2.1⟩
  refine ⟨x, y, z, rfl, rfl, rfl, h1, ?_, h6, h3, h4, h5, h7⟩
  rcases Nat.lt_or_ge z y with q | q
  · exact absurd (nI_lt q (by omega)) h.2.2.2
  · exact q
set_option maxHeartbeats 800000 in
set_option maxRecDepth 100000 in
theorem L_X12_sum {l : Launch} {G : Wd} {w k : Int32} {σ : Mem} {b f t : Nat} {Q : Option Value → Mem → Prop} (hb : b < 5) (hft : f ≤ t) (ht : t < 60) (hok : okBx σ b) : ∀ (q n : Nat) (x6 x7 x8 x : Int32) (μ : Mem), f + n + q = t + 2 → f + n ≤ t + 1 → x = nI (f + n) → x6 = (smS σ k b f n).1 → x7 = (smS σ k b f n).2.1 → x8 = (smS σ k b f n).2.2 → Lay μ σ k μ → (∀ (x : Int32) (μ : Mem), Lay μ σ k μ → AW l G KM RX12 cX12_sum 10 7 (some .int) Q 145 [some (.ref (gA G 0)), some (.int (nI b)), some (.int (nI f)), some (.int (nI t)), some (.int w), some (.int k), some (.int (smS σ k b f (t + 1 - f)).1), some (.int (smS σ k b f (t + 1 - f)).2.1), some (.int (smS σ k b f (t + 1 - f)).2.2), some (.int x)] [] μ) → AW l G KM RX12 cX12_sum 10 7 (some .int) Q 60 [some (.ref (gA G 0)), some (.int (nI b)), some (.int (nI f)), some (.int (nI t)), some (.int w), some (.int k), some (.int x6), some (.int x7), some (.int x8), some (.int x)] [] μ := by
  intro q
  induction q with
  | zero => intro n x6 x7 x8 x μ h1 h2; omega
  | succ q ih =>
    intro n x6 x7 x8 x μ h1 h2 hx h6 h7 h8 hL hk
    subst hx
    refine A_iload9 dX12_sum_60 ?_
    refine A_iload3 dX12_sum_62 ?_
    refine A_icmp_gt (tgt := 145) dX12_sum_63 (by decide) (fun c_63 => ?_) (fun c_63 => ?_)
    · have e : n = t + 1 - f := by have h9 := (nI_ltI (a := t) (b := f + n) (by omega) (by omega)).mp c_63; omega
      subst e
      subst h6
      subst h7
      subst h8
      exact hk _ _ hL
    · have hn : f + n ≤ t := by rcases Nat.lt_or_ge t (f + n) with q | q; exact absurd (nI_lt q (by omega)) c_63; exact q
      refine A_aload0 dX12_sum_66 ?_
      refine A_iload1 dX12_sum_67 ?_
      refine A_iload9 dX12_sum_68 ?_
      refine A_vv2 lk_X12_416 yv_X12_seekRight dX12_sum_70 (rfl) (rfl) (T_X12_seekRight hL hb (by omega) hok) (by decide) (Nat.le_of_ble_eq_true rfl) (fun μr hR => ?_)
      refine A_iload8 dX12_sum_73 ?_
      refine A_aload0 dX12_sum_75 ?_
      refine A_getI gf_X12_410 rfl dX12_sum_76 ?_
      rw [hR.2.2.1]
      refine A_ldcw dX12_sum_79 kc_X12_353 ?_
      refine A_icmp_ne (tgt := 89) dX12_sum_82 (by decide) (fun c_82 => ?_) (fun c_82 => ?_)
      · refine A_iconst (v := 0) dX12_sum_89 (by decide) ?_
        refine A_iadd dX12_sum_90 ?_
        refine A_istore8 dX12_sum_91 rfl (by decide) ?_
        refine A_iload6 dX12_sum_93 ?_
        refine A_aload0 dX12_sum_95 ?_
        refine A_getI gf_X12_410 rfl dX12_sum_96 ?_
        rw [hR.2.2.1]
        refine A_ldcw dX12_sum_99 kc_X12_353 ?_
        refine A_icmp_ne (tgt := 109) dX12_sum_102 (by decide) (fun c_102 => ?_) (fun c_102 => ?_)
        · refine A_aload0 dX12_sum_109 ?_
          refine A_getI gf_X12_410 rfl dX12_sum_110 ?_
          rw [hR.2.2.1]
          refine A_iadd dX12_sum_113 ?_
          refine A_istore6 dX12_sum_114 rfl (by decide) ?_
          refine A_iload7 dX12_sum_116 ?_
          refine A_aload0 dX12_sum_118 ?_
          refine A_getI gf_X12_413 rfl dX12_sum_119 ?_
          rw [hR.2.2.2]
          refine A_ldcw dX12_sum_122 kc_X12_353 ?_
          refine A_icmp_ne (tgt := 132) dX12_sum_125 (by decide) (fun c_125 => ?_) (fun c_125 => ?_)
          · refine A_aload0 dX12_sum_132 ?_
            refine A_getI gf_X12_413 rfl dX12_sum_133 ?_
            rw [hR.2.2.2]
            refine A_iadd dX12_sum_136 ?_
            refine A_istore7 dX12_sum_137 rfl (by decide) ?_
            refine A_iinc9 dX12_sum_139 rfl rfl (by decide) ?_
            refine A_goto (tgt := 60) dX12_sum_142 (by decide) ?_
            refine ih (n + 1) _ _ _ _ _ (by omega) (by omega) ((nI_1 (f + n)).trans (by rw [Nat.add_assoc])) ?_ ?_ ?_ hR.1 hk
            · rw [h6, smS, if_neg c_102]
            · rw [h7, smS, if_neg c_125]
            · rw [h8]; show _ = (smS σ k b f n).2.2 + (if (rgt σ k b (f + n)).1 = -100000 then (1 : Int32) else 0); rw [if_neg c_82]
          · refine A_iconst (v := 0) dX12_sum_128 (by decide) ?_
            refine A_goto (tgt := 136) dX12_sum_129 (by decide) ?_
            refine A_iadd dX12_sum_136 ?_
            refine A_istore7 dX12_sum_137 rfl (by decide) ?_
            refine A_iinc9 dX12_sum_139 rfl rfl (by decide) ?_
            refine A_goto (tgt := 60) dX12_sum_142 (by decide) ?_
            refine ih (n + 1) _ _ _ _ _ (by omega) (by omega) ((nI_1 (f + n)).trans (by rw [Nat.add_assoc])) ?_ ?_ ?_ hR.1 hk
            · rw [h6, smS, if_neg c_102]
            · rw [h7, smS, if_pos c_125]
            · rw [h8]; show _ = (smS σ k b f n).2.2 + (if (rgt σ k b (f + n)).1 = -100000 then (1 : Int32) else 0); rw [if_neg c_82]
        · refine A_iconst (v := 0) dX12_sum_105 (by decide) ?_
          refine A_goto (tgt := 113) dX12_sum_106 (by decide) ?_
          refine A_iadd dX12_sum_113 ?_
          refine A_istore6 dX12_sum_114 rfl (by decide) ?_
          refine A_iload7 dX12_sum_116 ?_
          refine A_aload0 dX12_sum_118 ?_
          refine A_getI gf_X12_413 rfl dX12_sum_119 ?_
          rw [hR.2.2.2]
          refine A_ldcw dX12_sum_122 kc_X12_353 ?_
          refine A_icmp_ne (tgt := 132) dX12_sum_125 (by decide) (fun c_125 => ?_) (fun c_125 => ?_)
          · refine A_aload0 dX12_sum_132 ?_
            refine A_getI gf_X12_413 rfl dX12_sum_133 ?_
            rw [hR.2.2.2]
            refine A_iadd dX12_sum_136 ?_
            refine A_istore7 dX12_sum_137 rfl (by decide) ?_
            refine A_iinc9 dX12_sum_139 rfl rfl (by decide) ?_
            refine A_goto (tgt := 60) dX12_sum_142 (by decide) ?_
            refine ih (n + 1) _ _ _ _ _ (by omega) (by omega) ((nI_1 (f + n)).trans (by rw [Nat.add_assoc])) ?_ ?_ ?_ hR.1 hk
            · rw [h6, smS, if_pos c_102]
            · rw [h7, smS, if_neg c_125]
            · rw [h8]; show _ = (smS σ k b f n).2.2 + (if (rgt σ k b (f + n)).1 = -100000 then (1 : Int32) else 0); rw [if_neg c_82]
          · refine A_iconst (v := 0) dX12_sum_128 (by decide) ?_
            refine A_goto (tgt := 136) dX12_sum_129 (by decide) ?_
            refine A_iadd dX12_sum_136 ?_
            refine A_istore7 dX12_sum_137 rfl (by decide) ?_
            refine A_iinc9 dX12_sum_139 rfl rfl (by decide) ?_
            refine A_goto (tgt := 60) dX12_sum_142 (by decide) ?_
            refine ih (n + 1) _ _ _ _ _ (by omega) (by omega) ((nI_1 (f + n)).trans (by rw [Nat.add_assoc])) ?_ ?_ ?_ hR.1 hk
            · rw [h6, smS, if_pos c_102]
            · rw [h7, smS, if_pos c_125]
            · rw [h8]; show _ = (smS σ k b f n).2.2 + (if (rgt σ k b (f + n)).1 = -100000 then (1 : Int32) else 0); rw [if_neg c_82]
      · refine A_iconst (v := 1) dX12_sum_85 (by decide) ?_
        refine A_goto (tgt := 90) dX12_sum_86 (by decide) ?_
        refine A_iadd dX12_sum_90 ?_
        refine A_istore8 dX12_sum_91 rfl (by decide) ?_
        refine A_iload6 dX12_sum_93 ?_
        refine A_aload0 dX12_sum_95 ?_
        refine A_getI gf_X12_410 rfl dX12_sum_96 ?_
        rw [hR.2.2.1]
        refine A_ldcw dX12_sum_99 kc_X12_353 ?_
        refine A_icmp_ne (tgt := 109) dX12_sum_102 (by decide) (fun c_102 => ?_) (fun c_102 => ?_)
        · refine A_aload0 dX12_sum_109 ?_
          refine A_getI gf_X12_410 rfl dX12_sum_110 ?_
          rw [hR.2.2.1]
          refine A_iadd dX12_sum_113 ?_
          refine A_istore6 dX12_sum_114 rfl (by decide) ?_
          refine A_iload7 dX12_sum_116 ?_
          refine A_aload0 dX12_sum_118 ?_
          refine A_getI gf_X12_413 rfl dX12_sum_119 ?_
          rw [hR.2.2.2]
          refine A_ldcw dX12_sum_122 kc_X12_353 ?_
          refine A_icmp_ne (tgt := 132) dX12_sum_125 (by decide) (fun c_125 => ?_) (fun c_125 => ?_)
          · refine A_aload0 dX12_sum_132 ?_
            refine A_getI gf_X12_413 rfl dX12_sum_133 ?_
            rw [hR.2.2.2]
            refine A_iadd dX12_sum_136 ?_
            refine A_istore7 dX12_sum_137 rfl (by decide) ?_
            refine A_iinc9 dX12_sum_139 rfl rfl (by decide) ?_
            refine A_goto (tgt := 60) dX12_sum_142 (by decide) ?_
            refine ih (n + 1) _ _ _ _ _ (by omega) (by omega) ((nI_1 (f + n)).trans (by rw [Nat.add_assoc])) ?_ ?_ ?_ hR.1 hk
            · rw [h6, smS, if_neg c_102]
            · rw [h7, smS, if_neg c_125]
            · rw [h8]; show _ = (smS σ k b f n).2.2 + (if (rgt σ k b (f + n)).1 = -100000 then (1 : Int32) else 0); rw [if_pos c_82]
          · refine A_iconst (v := 0) dX12_sum_128 (by decide) ?_
            refine A_goto (tgt := 136) dX12_sum_129 (by decide) ?_
            refine A_iadd dX12_sum_136 ?_
            refine A_istore7 dX12_sum_137 rfl (by decide) ?_
            refine A_iinc9 dX12_sum_139 rfl rfl (by decide) ?_
            refine A_goto (tgt := 60) dX12_sum_142 (by decide) ?_
            refine ih (n + 1) _ _ _ _ _ (by omega) (by omega) ((nI_1 (f + n)).trans (by rw [Nat.add_assoc])) ?_ ?_ ?_ hR.1 hk
            · rw [h6, smS, if_neg c_102]
            · rw [h7, smS, if_pos c_125]
            · rw [h8]; show _ = (smS σ k b f n).2.2 + (if (rgt σ k b (f + n)).1 = -100000 then (1 : Int32) else 0); rw [if_pos c_82]
        · refine A_iconst (v := 0) dX12_sum_105 (by decide) ?_
          refine A_goto (tgt := 113) dX12_sum_106 (by decide) ?_
          refine A_iadd dX12_sum_113 ?_
          refine A_istore6 dX12_sum_114 rfl (by decide) ?_
          refine A_iload7 dX12_sum_116 ?_
          refine A_aload0 dX12_sum_118 ?_
          refine A_getI gf_X12_413 rfl dX12_sum_119 ?_
          rw [hR.2.2.2]
          refine A_ldcw dX12_sum_122 kc_X12_353 ?_
          refine A_icmp_ne (tgt := 132) dX12_sum_125 (by decide) (fun c_125 => ?_) (fun c_125 => ?_)
          · refine A_aload0 dX12_sum_132 ?_
            refine A_getI gf_X12_413 rfl dX12_sum_133 ?_
            rw [hR.2.2.2]
            refine A_iadd dX12_sum_136 ?_
            refine A_istore7 dX12_sum_137 rfl (by decide) ?_
            refine A_iinc9 dX12_sum_139 rfl rfl (by decide) ?_
            refine A_goto (tgt := 60) dX12_sum_142 (by decide) ?_
            refine ih (n + 1) _ _ _ _ _ (by omega) (by omega) ((nI_1 (f + n)).trans (by rw [Nat.add_assoc])) ?_ ?_ ?_ hR.1 hk
            · rw [h6, smS, if_pos c_102]
            · rw [h7, smS, if_neg c_125]
            · rw [h8]; show _ = (smS σ k b f n).2.2 + (if (rgt σ k b (f + n)).1 = -100000 then (1 : Int32) else 0); rw [if_pos c_82]
          · refine A_iconst (v := 0) dX12_sum_128 (by decide) ?_
            refine A_goto (tgt := 136) dX12_sum_129 (by decide) ?_
            refine A_iadd dX12_sum_136 ?_
            refine A_istore7 dX12_sum_137 rfl (by decide) ?_
            refine A_iinc9 dX12_sum_139 rfl rfl (by decide) ?_
            refine A_goto (tgt := 60) dX12_sum_142 (by decide) ?_
            refine ih (n + 1) _ _ _ _ _ (by omega) (by omega) ((nI_1 (f + n)).trans (by rw [Nat.add_assoc])) ?_ ?_ ?_ hR.1 hk
            · rw [h6, smS, if_pos c_102]
            · rw [h7, smS, if_pos c_125]
            · rw [h8]; show _ = (smS σ k b f n).2.2 + (if (rgt σ k b (f + n)).1 = -100000 then (1 : Int32) else 0); rw [if_pos c_82]
set_option maxHeartbeats 4000000 in
set_option maxRecDepth 100000 in
theorem T_X12_sum {l : Launch} {G : Wd} {b f t w k : Int32} {μ : Mem} (hw : WF μ) : Mt l G KM yX12_sum cX12_sum 10 (some .int) 7 [.ref (gA G 0), .int b, .int f, .int t, .int w, .int k] μ (Qi (fun v μ' => v = sp_sum μ b f t w k ∧ Pm μ μ')) := by
  refine Mt.of (own := RX12) (n := 4) (by decide) rfl [some (.ref (gA G 0)), some (.int b), some (.int f), some (.int t), some (.int w), some (.int k), none, none, none, none] rfl (Nat.le_of_ble_eq_true rfl) ?_
  refine A_aload0 dX12_sum_0 ?_
  refine A_iload1 dX12_sum_1 ?_
  refine A_vi1 lk_X12_349 yv_X12_isBox dX12_sum_2 (rfl) (rfl) (T_X12_isBox) (by decide) (Nat.le_of_ble_eq_true rfl) (fun r_2 μ_2 h_2 => ?_)
  obtain ⟨rfl, e_2⟩ := h_2
  replace e_2 := e_2.symm
  subst e_2
  refine A_if_eq (tgt := 38) dX12_sum_5 (by decide) (fun c_5 => ?_) (fun c_5 => ?_)
  · refine A_ldcw dX12_sum_38 kc_X12_353 ?_
    refine A_iret dX12_sum_41 ?_
    refine ⟨_, rfl, ?_, Pm.rf⟩
    unfold sp_sum
    rw [if_neg]
    rintro ⟨⟨q1, q2, q3, q4⟩, q5, q6⟩
    exact bz_0.mp c_5 q1
  · refine A_iload2 dX12_sum_8 ?_
    refine A_si1 lk_X12_333 ys_X12_isDay dX12_sum_9 (T_X12_isDay) (by decide) (Nat.le_of_ble_eq_true rfl) (fun r_9 μ_9 h_9 => ?_)
    obtain ⟨rfl, e_9⟩ := h_9
    replace e_9 := e_9.symm
    subst e_9
    refine A_if_eq (tgt := 38) dX12_sum_12 (by decide) (fun c_12 => ?_) (fun c_12 => ?_)
    · refine A_ldcw dX12_sum_38 kc_X12_353 ?_
      refine A_iret dX12_sum_41 ?_
      refine ⟨_, rfl, ?_, Pm.rf⟩
      unfold sp_sum
      rw [if_neg]
      rintro ⟨⟨q1, q2, q3, q4⟩, q5, q6⟩
      exact bz_0.mp c_12 q2
    · refine A_iload3 dX12_sum_15 ?_
      refine A_si1 lk_X12_333 ys_X12_isDay dX12_sum_16 (T_X12_isDay) (by decide) (Nat.le_of_ble_eq_true rfl) (fun r_16 μ_16 h_16 => ?_)
      obtain ⟨rfl, e_16⟩ := h_16
      replace e_16 := e_16.symm
      subst e_16
      refine A_if_eq (tgt := 38) dX12_sum_19 (by decide) (fun c_19 => ?_) (fun c_19 => ?_)
      · refine A_ldcw dX12_sum_38 kc_X12_353 ?_
        refine A_iret dX12_sum_41 ?_
        refine ⟨_, rfl, ?_, Pm.rf⟩
        unfold sp_sum
        rw [if_neg]
        rintro ⟨⟨q1, q2, q3, q4⟩, q5, q6⟩
        exact bz_0.mp c_19 q3
      · refine A_iload3 dX12_sum_22 ?_
        refine A_iload2 dX12_sum_23 ?_
        refine A_icmp_lt (tgt := 38) dX12_sum_24 (by decide) (fun c_24 => ?_) (fun c_24 => ?_)
        · refine A_ldcw dX12_sum_38 kc_X12_353 ?_
          refine A_iret dX12_sum_41 ?_
          refine ⟨_, rfl, ?_, Pm.rf⟩
          unfold sp_sum
          rw [if_neg]
          rintro ⟨⟨q1, q2, q3, q4⟩, q5, q6⟩
          exact q4 c_24
        · refine A_iload4 dX12_sum_27 ?_
          refine A_if_lt (tgt := 38) dX12_sum_29 (by decide) (fun c_29 => ?_) (fun c_29 => ?_)
          · refine A_ldcw dX12_sum_38 kc_X12_353 ?_
            refine A_iret dX12_sum_41 ?_
            refine ⟨_, rfl, ?_, Pm.rf⟩
            unfold sp_sum
            rw [if_neg]
            rintro ⟨⟨q1, q2, q3, q4⟩, q5, q6⟩
            exact absurd (i_le.mp q5) (by have h9 := i_lt.mp c_29; omega)
          · refine A_iload4 dX12_sum_32 ?_
            refine A_iconst (v := 2) dX12_sum_34 (by decide) ?_
            refine A_icmp_le (tgt := 42) dX12_sum_35 (by decide) (fun c_35 => ?_) (fun c_35 => ?_)
            · have hp : isRg μ b f t := ⟨Classical.not_not.mp (fun z => c_5 (bz_0.mpr z)), Classical.not_not.mp (fun z => c_12 (bz_0.mpr z)), Classical.not_not.mp (fun z => c_19 (bz_0.mpr z)), c_24⟩
              obtain ⟨bn, fn, tn, rfl, rfl, rfl, hb5, hft, ht6, hok, eb, ef, et⟩ := i_rg hw.2.2 hp
              refine A_aload0 dX12_sum_42 ?_
              refine A_iload5 dX12_sum_43 ?_
              refine A_vv1 lk_X12_354 yv_X12_layOut dX12_sum_45 (rfl) (rfl) (T_X12_layOut hw.2.1) (by decide) (Nat.le_of_ble_eq_true rfl) (fun μ_45 h_45 => ?_)
              refine A_iconst (v := 0) dX12_sum_48 (by decide) ?_
              refine A_istore6 dX12_sum_49 rfl (by decide) ?_
              refine A_iconst (v := 0) dX12_sum_51 (by decide) ?_
              refine A_istore7 dX12_sum_52 rfl (by decide) ?_
              refine A_iconst (v := 0) dX12_sum_54 (by decide) ?_
              refine A_istore8 dX12_sum_55 rfl (by decide) ?_
              refine A_iload2 dX12_sum_57 ?_
              refine A_istore9 dX12_sum_58 rfl (by decide) ?_
              refine L_X12_sum (σ := μ) (k := k) hb5 hft ht6 hok (tn + 2 - fn) 0 _ _ _ _ _ (by omega) (by omega) rfl rfl rfl rfl h_45.self (fun x9 μ2 hL2 => ?_)
              refine A_iload4 dX12_sum_145 ?_
              refine A_if_ne (tgt := 155) dX12_sum_147 (by decide) (fun c_147 => ?_) (fun c_147 => ?_)
              · refine A_iload4 dX12_sum_155 ?_
                refine A_iconst (v := 1) dX12_sum_157 (by decide) ?_
                refine A_icmp_ne (tgt := 166) dX12_sum_158 (by decide) (fun c_158 => ?_) (fun c_158 => ?_)
                · refine A_iload8 dX12_sum_166 ?_
                  refine A_iret dX12_sum_168 ?_
                  refine ⟨_, rfl, ?_, hL2.1⟩
                  unfold sp_sum sumT
                  rw [if_pos ⟨hp, i_nlt c_29, c_35⟩, eb, ef, et, if_neg c_147, if_neg c_158]
                · refine A_iload7 dX12_sum_161 ?_
                  refine A_goto (tgt := 168) dX12_sum_163 (by decide) ?_
                  refine A_iret dX12_sum_168 ?_
                  refine ⟨_, rfl, ?_, hL2.1⟩
                  unfold sp_sum sumT
                  rw [if_pos ⟨hp, i_nlt c_29, c_35⟩, eb, ef, et, if_neg c_147, if_pos c_158]
              · refine A_iload6 dX12_sum_150 ?_
                refine A_goto (tgt := 168) dX12_sum_152 (by decide) ?_
                refine A_iret dX12_sum_168 ?_
                refine ⟨_, rfl, ?_, hL2.1⟩
                unfold sp_sum sumT
                rw [if_pos ⟨hp, i_nlt c_29, c_35⟩, eb, ef, et, if_pos c_147]
            · refine A_ldcw dX12_sum_38 kc_X12_353 ?_
              refine A_iret dX12_sum_41 ?_
              refine ⟨_, rfl, ?_, Pm.rf⟩
              unfold sp_sum
              rw [if_neg]
              rintro ⟨⟨q1, q2, q3, q4⟩, q5, q6⟩
              exact c_35 q6
def surI (σ : Mem) (k : Int32) (b f e : Nat) : Nat → Bool × Nat
  | 0 => (!decide ((rgt σ k b e).1 = -100000), 0)
  | m + 1 => if f + m = e ∨ (rgt σ k b (f + m)).2 = -100000 then surI σ k b f e m else ((surI σ k b f e m).1 && decide ((rgt σ k b (f + m)).2 ≤ (rgt σ k b e).1), (surI σ k b f e m).2 + 1)
def surB (σ : Mem) (k : Int32) (b f t e : Nat) : Prop := (surI σ k b f e (t + 1 - f)).1 = true ∧ 0 < (surI σ k b f e (t + 1 - f)).2
theorem surI_le (σ : Mem) (k : Int32) (b f e : Nat) : ∀ m, (surI σ k b f e m).2 ≤ m := by
  intro m
  induction m with
  | zero => exact Nat.le_refl _
  | succ m ih =>
    unfold surI
    split
    · omega
    · show (surI σ k b f e m).2 + 1 ≤ m + 1
      omega
def srS (σ : Mem) (k : Int32) (b f t : Nat) : Nat → Nat → Int32
  | 0, _ => -1
  | q + 1, e => if (surI σ k b f e (t + 1 - f)).1 = true ∧ 0 < (surI σ k b f e (t + 1 - f)).2 then nI e else srS σ k b f t q (e + 1)
def sp_sure (σ : Mem) (b f t k : Int32) : Int32 := if isRg σ b f t then srS σ k b.toNatClampNeg f.toNatClampNeg t.toNatClampNeg (t.toNatClampNeg + 1 - f.toNatClampNeg) f.toNatClampNeg else -1
def spans (σ : Mem) (k : Int32) (b f e : Nat) (μ : Mem) : Prop := ∀ x, f ≤ x → x < e → μ.1 38 x = (rgt σ k b x).1 ∧ μ.1 39 x = (rgt σ k b x).2
set_option maxHeartbeats 800000 in
set_option maxRecDepth 100000 in
theorem L_X12_sure_38 {l : Launch} {G : Wd} {k : Int32} {σ : Mem} {b f t : Nat} {Q : Option Value → Mem → Prop} {x6 x7 x8 : Option Value} (hb : b < 5) (ht : t < 60) (hok : okBx σ b) : ∀ (q e : Nat) (x : Int32) (μ : Mem), e + q = t + 2 → e ≤ t + 1 → x = nI e → spans σ k b f e μ → Lay μ σ k μ → (∀ (x5 : Option Value) (μ : Mem), spans σ k b f (t + 1) μ → Lay μ σ k μ → AW l G KM RX12 cX12_sure 9 7 (some .int) Q 79 [some (.ref (gA G 0)), some (.int (nI b)), some (.int (nI f)), some (.int (nI t)), some (.int k), x5, x6, x7, x8] [] μ) → AW l G KM RX12 cX12_sure 9 7 (some .int) Q 38 [some (.ref (gA G 0)), some (.int (nI b)), some (.int (nI f)), some (.int (nI t)), some (.int k), some (.int x), x6, x7, x8] [] μ := by
  intro q
  induction q with
  | zero => intro e x μ h1 h2; omega
  | succ q ih =>
    intro e x μ h1 h2 hx hs hL hk
    subst hx
    refine A_iload5 dX12_sure_38 ?_
    refine A_iload3 dX12_sure_40 ?_
    refine A_icmp_gt (tgt := 79) dX12_sure_41 (by decide) (fun c_41 => ?_) (fun c_41 => ?_)
    · have ee : e = t + 1 := by have h9 := (nI_ltI (a := t) (b := e) (by omega) (by omega)).mp c_41; omega
      subst ee
      exact hk _ _ hs hL
    · have hn : e ≤ t := by rcases Nat.lt_or_ge t e with q | q; exact absurd (nI_lt q (by omega)) c_41; exact q
      refine A_aload0 dX12_sure_44 ?_
      refine A_iload1 dX12_sure_45 ?_
      refine A_iload5 dX12_sure_46 ?_
      refine A_vv2 lk_X12_416 yv_X12_seekRight dX12_sure_48 (rfl) (rfl) (T_X12_seekRight hL hb (by omega) hok) (by decide) (Nat.le_of_ble_eq_true rfl) (fun μr hR => ?_)
      refine A_aload0 dX12_sure_51 ?_
      refine A_getR gf_X12_127 rfl dX12_sure_52 ?_
      refine A_iload5 dX12_sure_55 ?_
      refine A_aload0 dX12_sure_57 ?_
      refine A_getI gf_X12_410 rfl dX12_sure_58 ?_
      rw [hR.2.2.1]
      refine A_iast (rfl) (vp_in_nI (by omega) (by omega)) dX12_sure_61 ?_
      rw [nI_c (by omega)]
      refine A_aload0 dX12_sure_62 ?_
      refine A_getR gf_X12_130 rfl dX12_sure_63 ?_
      refine A_iload5 dX12_sure_66 ?_
      refine A_aload0 dX12_sure_68 ?_
      refine A_getI gf_X12_413 rfl dX12_sure_69 ?_
      refine A_val (y := (rgt σ k b e).2) hR.2.2.2 ?_
      refine A_iast (rfl) (vp_in_nI (by omega) (by omega)) dX12_sure_72 ?_
      rw [nI_c (by omega)]
      refine A_iinc5 dX12_sure_73 rfl rfl (by decide) ?_
      refine A_goto (tgt := 38) dX12_sure_76 (by decide) ?_
      refine ih (e + 1) _ _ (by omega) (by omega) (nI_1 e) ?_ (Lay.w3 (Lay.w3 hR.1 rfl ⟨by decide, by decide, by decide⟩) rfl ⟨by decide, by decide, by decide⟩) hk
      intro x hx1 hx2
      by_cases ex : x = e
      · subst ex
        exact ⟨(wI_ne (Or.inl (by decide))).trans wI_same, wI_same⟩
      · have h9 := hs x hx1 (by omega)
        rw [wI_ne (Or.inl (by decide)), wI_ne (Or.inr ex), wI_ne (Or.inr ex), wI_ne (Or.inl (by decide))]
        exact ⟨(hR.2.1 38 x rfl (Or.inl (by decide))).trans h9.1, (hR.2.1 39 x rfl (Or.inl (by decide))).trans h9.2⟩
set_option maxHeartbeats 800000 in
set_option maxRecDepth 100000 in
theorem L_X12_sure_114 {l : Launch} {G : Wd} {k : Int32} {σ : Mem} {b f t : Nat} {Q : Option Value → Mem → Prop} {μ : Mem} {e : Nat} (hfe : f ≤ e) (het : e ≤ t) (ht : t < 60) (hs : spans σ k b f (t + 1) μ) : ∀ (q m : Nat) (x6 x7 x : Int32), f + m + q = t + 2 → f + m ≤ t + 1 → x = nI (f + m) → x6 = bz ((surI σ k b f e m).1 = true) → x7 = nI (surI σ k b f e m).2 → (∀ x8 : Option Value, AW l G KM RX12 cX12_sure 9 7 (some .int) Q 181 [some (.ref (gA G 0)), some (.int (nI b)), some (.int (nI f)), some (.int (nI t)), some (.int k), some (.int (nI e)), some (.int (bz ((surI σ k b f e (t + 1 - f)).1 = true))), some (.int (nI (surI σ k b f e (t + 1 - f)).2)), x8] [] μ) → AW l G KM RX12 cX12_sure 9 7 (some .int) Q 114 [some (.ref (gA G 0)), some (.int (nI b)), some (.int (nI f)), some (.int (nI t)), some (.int k), some (.int (nI e)), some (.int x6), some (.int x7), some (.int x)] [] μ := by
  intro q
  induction q with
  | zero => intro m x6 x7 x h1 h2; omega
  | succ q ih =>
    intro m x6 x7 x h1 h2 hx h6 h7 hk
    subst hx
    refine A_iload8 dX12_sure_114 ?_
    refine A_iload3 dX12_sure_116 ?_
    refine A_icmp_gt (tgt := 181) dX12_sure_117 (by decide) (fun c_117 => ?_) (fun c_117 => ?_)
    · have ee : m = t + 1 - f := by have h9 := (nI_ltI (a := t) (b := f + m) (by omega) (by omega)).mp c_117; omega
      subst ee
      subst h6
      subst h7
      exact hk _
    · have hm : f + m ≤ t := by rcases Nat.lt_or_ge t (f + m) with q | q; exact absurd (nI_lt q (by omega)) c_117; exact q
      have hs1 := hs (f + m) (by omega) (by omega)
      have hs2 := hs e (by omega) (by omega)
      have hle := surI_le σ k b f e m
      refine A_iload8 dX12_sure_120 ?_
      refine A_iload5 dX12_sure_122 ?_
      refine A_icmp_eq (tgt := 175) dX12_sure_124 (by decide) (fun c_124 => ?_) (fun c_124 => ?_)
      · refine A_iinc8 dX12_sure_175 rfl rfl (by decide) ?_
        refine A_goto (tgt := 114) dX12_sure_178 (by decide) ?_
        refine ih (m + 1) _ _ _ (by omega) (by omega) ((nI_1 (f + m)).trans (by rw [Nat.add_assoc])) ?_ ?_ hk
        · rw [h6, surI, if_pos (Or.inl ((nI_eq (by omega) (by omega)).mp c_124))]
        · rw [h7, surI, if_pos (Or.inl ((nI_eq (by omega) (by omega)).mp c_124))]
      · refine A_aload0 dX12_sure_127 ?_
        refine A_getR gf_X12_130 rfl dX12_sure_128 ?_
        refine A_iload8 dX12_sure_131 ?_
        refine A_iald (rfl) (vp_in_nI (by omega) (by omega)) dX12_sure_133 ?_
        rw [nI_c (by omega), hs1.2]
        refine A_ldcw dX12_sure_134 kc_X12_353 ?_
        refine A_icmp_ne (tgt := 143) dX12_sure_137 (by decide) (fun c_137 => ?_) (fun c_137 => ?_)
        · refine A_iinc7 dX12_sure_143 rfl rfl (by decide) ?_
          refine A_iload6 dX12_sure_146 ?_
          refine A_if_eq (tgt := 172) dX12_sure_148 (by decide) (fun c_148 => ?_) (fun c_148 => ?_)
          · refine A_iconst (v := 0) dX12_sure_172 (by decide) ?_
            refine A_istore6 dX12_sure_173 rfl (by decide) ?_
            refine A_iinc8 dX12_sure_175 rfl rfl (by decide) ?_
            refine A_goto (tgt := 114) dX12_sure_178 (by decide) ?_
            refine ih (m + 1) _ _ _ (by omega) (by omega) ((nI_1 (f + m)).trans (by rw [Nat.add_assoc])) ?_ ?_ hk
            · rw [surI, if_neg (fun z => z.elim (fun z => c_124 (by rw [z])) c_137)]; rw [h6] at c_148; have h9 := bz_0.mp c_148; rw [bz_f]; simp_all
            · rw [h7, surI, if_neg (fun z => z.elim (fun z => c_124 (by rw [z])) c_137)]; exact nI_1 _
          · refine A_aload0 dX12_sure_151 ?_
            refine A_getR gf_X12_127 rfl dX12_sure_152 ?_
            refine A_iload5 dX12_sure_155 ?_
            refine A_iald (rfl) (vp_in_nI (by omega) (by omega)) dX12_sure_157 ?_
            rw [nI_c (by omega), hs2.1]
            refine A_aload0 dX12_sure_158 ?_
            refine A_getR gf_X12_130 rfl dX12_sure_159 ?_
            refine A_iload8 dX12_sure_162 ?_
            refine A_iald (rfl) (vp_in_nI (by omega) (by omega)) dX12_sure_164 ?_
            rw [nI_c (by omega), hs1.2]
            refine A_icmp_lt (tgt := 172) dX12_sure_165 (by decide) (fun c_165 => ?_) (fun c_165 => ?_)
            · refine A_iconst (v := 0) dX12_sure_172 (by decide) ?_
              refine A_istore6 dX12_sure_173 rfl (by decide) ?_
              refine A_iinc8 dX12_sure_175 rfl rfl (by decide) ?_
              refine A_goto (tgt := 114) dX12_sure_178 (by decide) ?_
              refine ih (m + 1) _ _ _ (by omega) (by omega) ((nI_1 (f + m)).trans (by rw [Nat.add_assoc])) ?_ ?_ hk
              · rw [surI, if_neg (fun z => z.elim (fun z => c_124 (by rw [z])) c_137)]; rw [bz_f]; intro z; have z2 := (Bool.and_eq_true _ _ ▸ z).2; have z3 := i_le.mp (of_decide_eq_true z2); have h9 := i_lt.mp c_165; omega
              · rw [h7, surI, if_neg (fun z => z.elim (fun z => c_124 (by rw [z])) c_137)]; exact nI_1 _
            · refine A_iconst (v := 1) dX12_sure_168 (by decide) ?_
              refine A_goto (tgt := 173) dX12_sure_169 (by decide) ?_
              refine A_istore6 dX12_sure_173 rfl (by decide) ?_
              refine A_iinc8 dX12_sure_175 rfl rfl (by decide) ?_
              refine A_goto (tgt := 114) dX12_sure_178 (by decide) ?_
              refine ih (m + 1) _ _ _ (by omega) (by omega) ((nI_1 (f + m)).trans (by rw [Nat.add_assoc])) ?_ ?_ hk
              · rw [surI, if_neg (fun z => z.elim (fun z => c_124 (by rw [z])) c_137)]; rw [h6] at c_148; have h9 := Classical.not_not.mp (fun z => c_148 (bz_0.mpr z)); rw [bz_t]; show ((surI σ k b f e m).1 && _) = true; rw [h9, Bool.true_and]; exact decide_eq_true (i_nlt c_165)
              · rw [h7, surI, if_neg (fun z => z.elim (fun z => c_124 (by rw [z])) c_137)]; exact nI_1 _
        · refine A_goto (tgt := 175) dX12_sure_140 (by decide) ?_
          refine A_iinc8 dX12_sure_175 rfl rfl (by decide) ?_
          refine A_goto (tgt := 114) dX12_sure_178 (by decide) ?_
          refine ih (m + 1) _ _ _ (by omega) (by omega) ((nI_1 (f + m)).trans (by rw [Nat.add_assoc])) ?_ ?_ hk
          · rw [h6, surI, if_pos (Or.inr c_137)]
          · rw [h7, surI, if_pos (Or.inr c_137)]
set_option maxHeartbeats 800000 in
set_option maxRecDepth 100000 in
theorem L_X12_sure_82 {l : Launch} {G : Wd} {k : Int32} {σ : Mem} {b f t : Nat} {Q : Option Value → Mem → Prop} {μ : Mem} (ht : t < 60) (hs : spans σ k b f (t + 1) μ) : ∀ (q e : Nat) (x : Int32) (x6 x7 x8 : Option Value), e + q = t + 2 → e ≤ t + 1 → f ≤ e → x = nI e → (∀ v : Int32, v = srS σ k b f t (t + 1 - e) e → Q (some (.int v)) μ) → AW l G KM RX12 cX12_sure 9 7 (some .int) Q 82 [some (.ref (gA G 0)), some (.int (nI b)), some (.int (nI f)), some (.int (nI t)), some (.int k), some (.int x), x6, x7, x8] [] μ := by
  intro q
  induction q with
  | zero => intro e x x6 x7 x8 h1 h2; omega
  | succ q ih =>
    intro e x x6 x7 x8 h1 h2 hfe hx hk
    subst hx
    refine A_iload5 dX12_sure_82 ?_
    refine A_iload3 dX12_sure_84 ?_
    refine A_icmp_gt (tgt := 200) dX12_sure_85 (by decide) (fun c_85 => ?_) (fun c_85 => ?_)
    · have ee : e = t + 1 := by have h9 := (nI_ltI (a := t) (b := e) (by omega) (by omega)).mp c_85; omega
      refine A_iconst (v := -1) dX12_sure_200 (by decide) ?_
      refine A_iret dX12_sure_201 ?_
      refine hk _ ?_
      have e0 : t + 1 - e = 0 := by omega
      rw [e0]
      rfl
    · have hn : e ≤ t := by rcases Nat.lt_or_ge t e with q | q; exact absurd (nI_lt q (by omega)) c_85; exact q
      refine A_aload0 dX12_sure_88 ?_
      refine A_getR gf_X12_127 rfl dX12_sure_89 ?_
      refine A_iload5 dX12_sure_92 ?_
      refine A_iald (rfl) (vp_in_nI (by omega) (by omega)) dX12_sure_94 ?_
      rw [nI_c (by omega), (hs e hfe (by omega)).1]
      refine A_ldcw dX12_sure_95 kc_X12_353 ?_
      refine A_icmp_eq (tgt := 105) dX12_sure_98 (by decide) (fun c_98 => ?_) (fun c_98 => ?_)
      · refine A_iconst (v := 0) dX12_sure_105 (by decide) ?_
        refine A_istore6 dX12_sure_106 rfl (by decide) ?_
        refine A_iconst (v := 0) dX12_sure_108 (by decide) ?_
        refine A_istore7 dX12_sure_109 rfl (by decide) ?_
        refine A_iload2 dX12_sure_111 ?_
        refine A_istore8 dX12_sure_112 rfl (by decide) ?_
        have h0 : (0 : Int32) = bz ((surI σ k b f e 0).1 = true) := by rw [bz_f]; simp [surI, c_98]
        refine L_X12_sure_114 (σ := σ) (k := k) hfe hn ht hs (t + 2 - f) 0 _ _ _ (by omega) (by omega) rfl h0 rfl (fun x8 => ?_)
        have hle := surI_le σ k b f e (t + 1 - f)
        refine A_iload6 dX12_sure_181 ?_
        refine A_if_eq (tgt := 194) dX12_sure_183 (by decide) (fun c_183 => ?_) (fun c_183 => ?_)
        · refine A_iinc5 dX12_sure_194 rfl rfl (by decide) ?_
          refine A_goto (tgt := 82) dX12_sure_197 (by decide) ?_
          refine ih (e + 1) _ _ _ _ (by omega) (by omega) (by omega) (nI_1 e) (fun v h => hk v ?_)
          rw [show t + 1 - e = (t - e) + 1 by omega, srS, if_neg (fun z => bz_0.mp c_183 z.1)]
          rw [show t + 1 - (e + 1) = t - e by omega] at h
          exact h
        · refine A_iload7 dX12_sure_186 ?_
          refine A_if_le (tgt := 194) dX12_sure_188 (by decide) (fun c_188 => ?_) (fun c_188 => ?_)
          · refine A_iinc5 dX12_sure_194 rfl rfl (by decide) ?_
            refine A_goto (tgt := 82) dX12_sure_197 (by decide) ?_
            refine ih (e + 1) _ _ _ _ (by omega) (by omega) (by omega) (nI_1 e) (fun v h => hk v ?_)
            rw [show t + 1 - e = (t - e) + 1 by omega, srS, if_neg (fun z => by have h9 := (nI_le0 (by omega)).mp c_188; omega)]
            rw [show t + 1 - (e + 1) = t - e by omega] at h
            exact h
          · refine A_iload5 dX12_sure_191 ?_
            refine A_iret dX12_sure_193 ?_
            refine hk _ ?_
            rw [show t + 1 - e = (t - e) + 1 by omega, srS, if_pos ⟨Classical.not_not.mp (fun z => c_183 (bz_0.mpr z)), by rcases Nat.eq_zero_or_pos (surI σ k b f e (t + 1 - f)).2 with q | q; exact absurd ((nI_le0 (by omega)).mpr q) c_188; exact q⟩]
      · refine A_iconst (v := 1) dX12_sure_101 (by decide) ?_
        refine A_goto (tgt := 106) dX12_sure_102 (by decide) ?_
        refine A_istore6 dX12_sure_106 rfl (by decide) ?_
        refine A_iconst (v := 0) dX12_sure_108 (by decide) ?_
        refine A_istore7 dX12_sure_109 rfl (by decide) ?_
        refine A_iload2 dX12_sure_111 ?_
        refine A_istore8 dX12_sure_112 rfl (by decide) ?_
        have h0 : (1 : Int32) = bz ((surI σ k b f e 0).1 = true) := by rw [bz_t]; simp [surI, c_98]
        refine L_X12_sure_114 (σ := σ) (k := k) hfe hn ht hs (t + 2 - f) 0 _ _ _ (by omega) (by omega) rfl h0 rfl (fun x8 => ?_)
        have hle := surI_le σ k b f e (t + 1 - f)
        refine A_iload6 dX12_sure_181 ?_
        refine A_if_eq (tgt := 194) dX12_sure_183 (by decide) (fun c_183 => ?_) (fun c_183 => ?_)
        · refine A_iinc5 dX12_sure_194 rfl rfl (by decide) ?_
          refine A_goto (tgt := 82) dX12_sure_197 (by decide) ?_
          refine ih (e + 1) _ _ _ _ (by omega) (by omega) (by omega) (nI_1 e) (fun v h => hk v ?_)
          rw [show t + 1 - e = (t - e) + 1 by omega, srS, if_neg (fun z => bz_0.mp c_183 z.1)]
          rw [show t + 1 - (e + 1) = t - e by omega] at h
          exact h
        · refine A_iload7 dX12_sure_186 ?_
          refine A_if_le (tgt := 194) dX12_sure_188 (by decide) (fun c_188 => ?_) (fun c_188 => ?_)
          · refine A_iinc5 dX12_sure_194 rfl rfl (by decide) ?_
            refine A_goto (tgt := 82) dX12_sure_197 (by decide) ?_
            refine ih (e + 1) _ _ _ _ (by omega) (by omega) (by omega) (nI_1 e) (fun v h => hk v ?_)
            rw [show t + 1 - e = (t - e) + 1 by omega, srS, if_neg (fun z => by have h9 := (nI_le0 (by omega)).mp c_188; omega)]
            rw [show t + 1 - (e + 1) = t - e by omega] at h
            exact h
          · refine A_iload5 dX12_sure_191 ?_
            refine A_iret dX12_sure_193 ?_
            refine hk _ ?_
            rw [show t + 1 - e = (t - e) + 1 by omega, srS, if_pos ⟨Classical.not_not.mp (fun z => c_183 (bz_0.mpr z)), by rcases Nat.eq_zero_or_pos (surI σ k b f e (t + 1 - f)).2 with q | q; exact absurd ((nI_le0 (by omega)).mpr q) c_188; exact q⟩]
set_option maxHeartbeats 4000000 in
set_option maxRecDepth 100000 in
theorem T_X12_sure {l : Launch} {G : Wd} {b f t k : Int32} {μ : Mem} (hw : WF μ) : Mt l G KM yX12_sure cX12_sure 9 (some .int) 7 [.ref (gA G 0), .int b, .int f, .int t, .int k] μ (Qi (fun v μ' => v = sp_sure μ b f t k ∧ Pm μ μ')) := by
  refine Mt.of (own := RX12) (n := 4) (by decide) rfl [some (.ref (gA G 0)), some (.int b), some (.int f), some (.int t), some (.int k), none, none, none, none] rfl (Nat.le_of_ble_eq_true rfl) ?_
  refine A_aload0 dX12_sure_0 ?_
  refine A_iload1 dX12_sure_1 ?_
  refine A_vi1 lk_X12_349 yv_X12_isBox dX12_sure_2 (rfl) (rfl) (T_X12_isBox) (by decide) (Nat.le_of_ble_eq_true rfl) (fun r_2 μ_2 h_2 => ?_)
  obtain ⟨rfl, e_2⟩ := h_2
  replace e_2 := e_2.symm
  subst e_2
  refine A_if_eq (tgt := 27) dX12_sure_5 (by decide) (fun c_5 => ?_) (fun c_5 => ?_)
  · refine A_iconst (v := -1) dX12_sure_27 (by decide) ?_
    refine A_iret dX12_sure_28 ?_
    refine ⟨_, rfl, ?_, Pm.rf⟩
    unfold sp_sure
    rw [if_neg]
    rintro ⟨q1, q2, q3, q4⟩
    exact bz_0.mp c_5 q1
  · refine A_iload2 dX12_sure_8 ?_
    refine A_si1 lk_X12_333 ys_X12_isDay dX12_sure_9 (T_X12_isDay) (by decide) (Nat.le_of_ble_eq_true rfl) (fun r_9 μ_9 h_9 => ?_)
    obtain ⟨rfl, e_9⟩ := h_9
    replace e_9 := e_9.symm
    subst e_9
    refine A_if_eq (tgt := 27) dX12_sure_12 (by decide) (fun c_12 => ?_) (fun c_12 => ?_)
    · refine A_iconst (v := -1) dX12_sure_27 (by decide) ?_
      refine A_iret dX12_sure_28 ?_
      refine ⟨_, rfl, ?_, Pm.rf⟩
      unfold sp_sure
      rw [if_neg]
      rintro ⟨q1, q2, q3, q4⟩
      exact bz_0.mp c_12 q2
    · refine A_iload3 dX12_sure_15 ?_
      refine A_si1 lk_X12_333 ys_X12_isDay dX12_sure_16 (T_X12_isDay) (by decide) (Nat.le_of_ble_eq_true rfl) (fun r_16 μ_16 h_16 => ?_)
      obtain ⟨rfl, e_16⟩ := h_16
      replace e_16 := e_16.symm
      subst e_16
      refine A_if_eq (tgt := 27) dX12_sure_19 (by decide) (fun c_19 => ?_) (fun c_19 => ?_)
      · refine A_iconst (v := -1) dX12_sure_27 (by decide) ?_
        refine A_iret dX12_sure_28 ?_
        refine ⟨_, rfl, ?_, Pm.rf⟩
        unfold sp_sure
        rw [if_neg]
        rintro ⟨q1, q2, q3, q4⟩
        exact bz_0.mp c_19 q3
      · refine A_iload3 dX12_sure_22 ?_
        refine A_iload2 dX12_sure_23 ?_
        refine A_icmp_ge (tgt := 29) dX12_sure_24 (by decide) (fun c_24 => ?_) (fun c_24 => ?_)
        · have hp : isRg μ b f t := ⟨Classical.not_not.mp (fun z => c_5 (bz_0.mpr z)), Classical.not_not.mp (fun z => c_12 (bz_0.mpr z)), Classical.not_not.mp (fun z => c_19 (bz_0.mpr z)), fun z => by have h8 := i_lt.mp z; have h9 := i_le.mp c_24; omega⟩
          obtain ⟨bn, fn, tn, rfl, rfl, rfl, hb5, hft, ht6, hok, eb, ef, et⟩ := i_rg hw.2.2 hp
          refine A_aload0 dX12_sure_29 ?_
          refine A_iload4 dX12_sure_30 ?_
          refine A_vv1 lk_X12_354 yv_X12_layOut dX12_sure_32 (rfl) (rfl) (T_X12_layOut hw.2.1) (by decide) (Nat.le_of_ble_eq_true rfl) (fun μ_32 h_32 => ?_)
          refine A_iload2 dX12_sure_35 ?_
          refine A_istore5 dX12_sure_36 rfl (by decide) ?_
          refine L_X12_sure_38 (σ := μ) (k := k) (f := fn) hb5 ht6 hok (tn + 2 - fn) fn _ _ (by omega) (by omega) rfl (fun x h1 h2 => by omega) h_32.self (fun x5 μ2 hs hL2 => ?_)
          refine A_iload2 dX12_sure_79 ?_
          refine A_istore5 dX12_sure_80 rfl (by decide) ?_
          refine L_X12_sure_82 (σ := μ) (k := k) ht6 hs (tn + 2 - fn) fn _ _ _ _ (by omega) (by omega) (by omega) rfl (fun v hv => ⟨v, rfl, ?_, hL2.1⟩)
          unfold sp_sure
          rw [if_pos hp, eb, ef, et]
          exact hv
        · refine A_iconst (v := -1) dX12_sure_27 (by decide) ?_
          refine A_iret dX12_sure_28 ?_
          refine ⟨_, rfl, ?_, Pm.rf⟩
          unfold sp_sure
          rw [if_neg]
          rintro ⟨q1, q2, q3, q4⟩
          exact q4 (i_nle c_24)

/-! one rule's own days -/
def ruS (σ : Mem) (k : Int32) (r : Nat) : Nat → Nat × Nat
  | 0 => (0, 0)
  | n + 1 => if trP σ k n ∧ ron σ k n = nI r then ((ruS σ k r n).1 + 1, (ruS σ k r n).2 + (if σ.1 49 r = bz (wnS σ k n = 1) then 1 else 0)) else ruS σ k r n
abbrev isRu (σ : Mem) (r : Int32) : Prop := 0 ≤ r ∧ r < σ.1 0 72
def sp_rule (σ : Mem) (r w k : Int32) : Int32 := if isRu σ r ∧ 0 ≤ w ∧ w ≤ 1 then (if w = 0 then nI (ruS σ k r.toNatClampNeg 60).1 else nI (ruS σ k r.toNatClampNeg 60).2) else -1
set_option maxHeartbeats 800000 in
set_option maxRecDepth 100000 in
theorem L_X12_rule {l : Launch} {G : Wd} {k w : Int32} {F σ : Mem} {r : Nat} {Q : Option Value → Mem → Prop} (hw : WFr σ) (hr : r < rlN σ) : ∀ (q d : Nat) (a b x : Int32) (μ : Mem), d + q = 60 + 1 → d ≤ 60 → x = nI d → a = nI (ruS σ k r d).1 → b = nI (ruS σ k r d).2 → Lay F σ k μ → (∀ (x : Int32) (μ : Mem), Lay F σ k μ → AW l G KM RX12 cX12_rule 7 5 (some .int) Q 109 [some (.ref (gA G 0)), some (.int (nI r)), some (.int w), some (.int k), some (.int (nI (ruS σ k r 60).1)), some (.int (nI (ruS σ k r 60).2)), some (.int x)] [] μ) → AW l G KM RX12 cX12_rule 7 5 (some .int) Q 37 [some (.ref (gA G 0)), some (.int (nI r)), some (.int w), some (.int k), some (.int a), some (.int b), some (.int x)] [] μ := by
  intro q
  induction q with
  | zero => intro d a b x μ h1 h2; omega
  | succ q ih =>
    intro d a b x μ h1 h2 hx ha hb hL hk
    subst hx
    refine A_iload6 dX12_rule_37 ?_
    refine A_bipush (v := 60) dX12_rule_39 (by decide) ?_
    refine A_icmp_ge (tgt := 109) dX12_rule_41 (by decide) (fun c_41 => ?_) (fun c_41 => ?_)
    · have e : d = 60 := by rw [show (60 : Int32) = nI 60 from rfl] at c_41; have h9 := (nI_leI (a := 60) (b := d) (by omega) (by omega)).mp c_41; omega
      subst e
      subst ha
      subst hb
      exact hk _ _ hL
    · have hd : d < 60 := by rw [show (60 : Int32) = nI 60 from rfl] at c_41; rcases Nat.lt_or_ge d 60 with z | z; exact z; exact absurd (nI_le z (by omega)) c_41
      have h66 := hw.1
      refine A_aload0 dX12_rule_44 ?_
      refine A_iload6 dX12_rule_45 ?_
      refine A_vi1 lk_X12_495 yv_X12_isTried dX12_rule_47 (rfl) (rfl) (T_X12_isTried hL hw hd) (by decide) (Nat.le_of_ble_eq_true rfl) (fun r_47 μ_47 h_47 => ?_)
      obtain ⟨rfl, hL1⟩ := h_47
      refine A_if_eq (tgt := 103) dX12_rule_50 (by decide) (fun c_50 => ?_) (fun c_50 => ?_)
      · refine A_iinc6 dX12_rule_103 rfl rfl (by decide) ?_
        refine A_goto (tgt := 37) dX12_rule_106 (by decide) ?_
        refine ih (d + 1) _ _ _ _ (by omega) (by omega) (nI_1 d) ?_ ?_ hL1 hk
        · rw [ha, ruS, if_neg (fun z => bz_0.mp c_50 z.1)]
        · rw [hb, ruS, if_neg (fun z => bz_0.mp c_50 z.1)]
      · refine A_aload0 dX12_rule_53 ?_
        refine A_iload6 dX12_rule_54 ?_
        refine A_vi1 lk_X12_477 yv_X12_ruleOn dX12_rule_56 (rfl) (rfl) (T_X12_ruleOn hL1 hw hd) (by decide) (Nat.le_of_ble_eq_true rfl) (fun r_56 μ_56 h_56 => ?_)
        obtain ⟨rfl, hL2⟩ := h_56
        refine A_iload1 dX12_rule_59 ?_
        refine A_icmp_eq (tgt := 66) dX12_rule_60 (by decide) (fun c_60 => ?_) (fun c_60 => ?_)
        · refine A_iinc4 dX12_rule_66 rfl rfl (by decide) ?_
          refine A_iload5 dX12_rule_69 ?_
          refine A_aload0 dX12_rule_71 ?_
          refine A_getR gf_X12_160 rfl dX12_rule_72 ?_
          refine A_iload1 dX12_rule_75 ?_
          refine A_zald (rfl) (vp_in_nI (by omega) (by omega)) dX12_rule_76 ?_
          rw [nI_c (by omega), hL2.1.1 49 _ rfl]
          refine A_aload0 dX12_rule_77 ?_
          refine A_iload6 dX12_rule_78 ?_
          refine A_vi1 lk_X12_480 yv_X12_wetNext dX12_rule_80 (rfl) (rfl) (T_X12_wetNext hL2 hd) (by decide) (Nat.le_of_ble_eq_true rfl) (fun r_80 μ_80 h_80 => ?_)
          obtain ⟨rfl, e_80⟩ := h_80
          replace e_80 := e_80.symm
          subst e_80
          refine A_iconst (v := 1) dX12_rule_83 (by decide) ?_
          refine A_icmp_ne (tgt := 91) dX12_rule_84 (by decide) (fun c_84 => ?_) (fun c_84 => ?_)
          · refine A_iconst (v := 0) dX12_rule_91 (by decide) ?_
            refine A_icmp_ne (tgt := 99) dX12_rule_92 (by decide) (fun c_92 => ?_) (fun c_92 => ?_)
            · refine A_iconst (v := 0) dX12_rule_99 (by decide) ?_
              refine A_iadd dX12_rule_100 ?_
              refine A_istore5 dX12_rule_101 rfl (by decide) ?_
              refine A_iinc6 dX12_rule_103 rfl rfl (by decide) ?_
              refine A_goto (tgt := 37) dX12_rule_106 (by decide) ?_
              refine ih (d + 1) _ _ _ _ (by omega) (by omega) (nI_1 d) ?_ ?_ hL2 hk
              · rw [ha, ruS, if_pos ⟨Classical.not_not.mp (fun z => c_50 (bz_0.mpr z)), c_60⟩]; exact nI_1 _
              · rw [hb, ruS, if_pos ⟨Classical.not_not.mp (fun z => c_50 (bz_0.mpr z)), c_60⟩]; rw [← bz_f (p := wnS σ k d = 1) c_84] at c_92; show _ = nI (_ + (if σ.1 49 r = bz (wnS σ k d = 1) then 1 else 0)); rw [if_neg c_92]; exact Int32.add_zero _
            · refine A_iconst (v := 1) dX12_rule_95 (by decide) ?_
              refine A_goto (tgt := 100) dX12_rule_96 (by decide) ?_
              refine A_iadd dX12_rule_100 ?_
              refine A_istore5 dX12_rule_101 rfl (by decide) ?_
              refine A_iinc6 dX12_rule_103 rfl rfl (by decide) ?_
              refine A_goto (tgt := 37) dX12_rule_106 (by decide) ?_
              refine ih (d + 1) _ _ _ _ (by omega) (by omega) (nI_1 d) ?_ ?_ hL2 hk
              · rw [ha, ruS, if_pos ⟨Classical.not_not.mp (fun z => c_50 (bz_0.mpr z)), c_60⟩]; exact nI_1 _
              · rw [hb, ruS, if_pos ⟨Classical.not_not.mp (fun z => c_50 (bz_0.mpr z)), c_60⟩]; rw [← bz_f (p := wnS σ k d = 1) c_84] at c_92; show _ = nI (_ + (if σ.1 49 r = bz (wnS σ k d = 1) then 1 else 0)); rw [if_pos c_92]; exact nI_1 _
          · refine A_iconst (v := 1) dX12_rule_87 (by decide) ?_
            refine A_goto (tgt := 92) dX12_rule_88 (by decide) ?_
            refine A_icmp_ne (tgt := 99) dX12_rule_92 (by decide) (fun c_92 => ?_) (fun c_92 => ?_)
            · refine A_iconst (v := 0) dX12_rule_99 (by decide) ?_
              refine A_iadd dX12_rule_100 ?_
              refine A_istore5 dX12_rule_101 rfl (by decide) ?_
              refine A_iinc6 dX12_rule_103 rfl rfl (by decide) ?_
              refine A_goto (tgt := 37) dX12_rule_106 (by decide) ?_
              refine ih (d + 1) _ _ _ _ (by omega) (by omega) (nI_1 d) ?_ ?_ hL2 hk
              · rw [ha, ruS, if_pos ⟨Classical.not_not.mp (fun z => c_50 (bz_0.mpr z)), c_60⟩]; exact nI_1 _
              · rw [hb, ruS, if_pos ⟨Classical.not_not.mp (fun z => c_50 (bz_0.mpr z)), c_60⟩]; rw [← bz_t (p := wnS σ k d = 1) c_84] at c_92; show _ = nI (_ + (if σ.1 49 r = bz (wnS σ k d = 1) then 1 else 0)); rw [if_neg c_92]; exact Int32.add_zero _
            · refine A_iconst (v := 1) dX12_rule_95 (by decide) ?_
              refine A_goto (tgt := 100) dX12_rule_96 (by decide) ?_
              refine A_iadd dX12_rule_100 ?_
              refine A_istore5 dX12_rule_101 rfl (by decide) ?_
              refine A_iinc6 dX12_rule_103 rfl rfl (by decide) ?_
              refine A_goto (tgt := 37) dX12_rule_106 (by decide) ?_
              refine ih (d + 1) _ _ _ _ (by omega) (by omega) (nI_1 d) ?_ ?_ hL2 hk
              · rw [ha, ruS, if_pos ⟨Classical.not_not.mp (fun z => c_50 (bz_0.mpr z)), c_60⟩]; exact nI_1 _
              · rw [hb, ruS, if_pos ⟨Classical.not_not.mp (fun z => c_50 (bz_0.mpr z)), c_60⟩]; rw [← bz_t (p := wnS σ k d = 1) c_84] at c_92; show _ = nI (_ + (if σ.1 49 r = bz (wnS σ k d = 1) then 1 else 0)); rw [if_pos c_92]; exact nI_1 _
        · refine A_goto (tgt := 103) dX12_rule_63 (by decide) ?_
          refine A_iinc6 dX12_rule_103 rfl rfl (by decide) ?_
          refine A_goto (tgt := 37) dX12_rule_106 (by decide) ?_
          refine ih (d + 1) _ _ _ _ (by omega) (by omega) (nI_1 d) ?_ ?_ hL2 hk
          · rw [ha, ruS, if_neg (fun z => c_60 z.2)]
          · rw [hb, ruS, if_neg (fun z => c_60 z.2)]
set_option maxHeartbeats 4000000 in
set_option maxRecDepth 100000 in
theorem T_X12_rule {l : Launch} {G : Wd} {r w k : Int32} {μ : Mem} (hw : WFa μ) : Mt l G KM yX12_rule cX12_rule 7 (some .int) 5 [.ref (gA G 0), .int r, .int w, .int k] μ (Qi (fun v μ' => v = sp_rule μ r w k ∧ Pm μ μ')) := by
  refine Mt.of (own := RX12) (n := 3) (by decide) rfl [some (.ref (gA G 0)), some (.int r), some (.int w), some (.int k), none, none, none] rfl (Nat.le_of_ble_eq_true rfl) ?_
  refine A_iload1 dX12_rule_0 ?_
  refine A_if_lt (tgt := 21) dX12_rule_1 (by decide) (fun c_1 => ?_) (fun c_1 => ?_)
  · refine A_iconst (v := -1) dX12_rule_21 (by decide) ?_
    refine A_iret dX12_rule_22 ?_
    refine ⟨_, rfl, ?_, Pm.rf⟩
    unfold sp_rule
    rw [if_neg]
    rintro ⟨⟨q1, q2⟩, q3, q4⟩
    exact absurd (i_le.mp q1) (by have h9 := i_lt.mp c_1; omega)
  · refine A_iload1 dX12_rule_4 ?_
    refine A_aload0 dX12_rule_5 ?_
    refine A_getI gf_X12_330 rfl dX12_rule_6 ?_
    refine A_icmp_ge (tgt := 21) dX12_rule_9 (by decide) (fun c_9 => ?_) (fun c_9 => ?_)
    · refine A_iconst (v := -1) dX12_rule_21 (by decide) ?_
      refine A_iret dX12_rule_22 ?_
      refine ⟨_, rfl, ?_, Pm.rf⟩
      unfold sp_rule
      rw [if_neg]
      rintro ⟨⟨q1, q2⟩, q3, q4⟩
      exact absurd (i_lt.mp q2) (by have h9 := i_le.mp c_9; omega)
    · refine A_iload2 dX12_rule_12 ?_
      refine A_if_lt (tgt := 21) dX12_rule_13 (by decide) (fun c_13 => ?_) (fun c_13 => ?_)
      · refine A_iconst (v := -1) dX12_rule_21 (by decide) ?_
        refine A_iret dX12_rule_22 ?_
        refine ⟨_, rfl, ?_, Pm.rf⟩
        unfold sp_rule
        rw [if_neg]
        rintro ⟨⟨q1, q2⟩, q3, q4⟩
        exact absurd (i_le.mp q3) (by have h9 := i_lt.mp c_13; omega)
      · refine A_iload2 dX12_rule_16 ?_
        refine A_iconst (v := 1) dX12_rule_17 (by decide) ?_
        refine A_icmp_le (tgt := 23) dX12_rule_18 (by decide) (fun c_18 => ?_) (fun c_18 => ?_)
        · have hp : isRu μ r := ⟨i_nlt c_1, i_nle c_9⟩
          obtain ⟨rn, hrn, rfl⟩ := nI_rng hp.1 (by rw [← hw.2.2.1]; exact hp.2) (by have := hw.2.1; omega)
          have h66 := hw.2.1
          have er : (nI rn).toNatClampNeg = rn := nI_c (by omega)
          refine A_aload0 dX12_rule_23 ?_
          refine A_iload3 dX12_rule_24 ?_
          refine A_vv1 lk_X12_354 yv_X12_layOut dX12_rule_25 (rfl) (rfl) (T_X12_layOut hw.1.2.1) (by decide) (Nat.le_of_ble_eq_true rfl) (fun μ_25 h_25 => ?_)
          refine A_iconst (v := 0) dX12_rule_28 (by decide) ?_
          refine A_istore4 dX12_rule_29 rfl (by decide) ?_
          refine A_iconst (v := 0) dX12_rule_31 (by decide) ?_
          refine A_istore5 dX12_rule_32 rfl (by decide) ?_
          refine A_iconst (v := 0) dX12_rule_34 (by decide) ?_
          refine A_istore6 dX12_rule_35 rfl (by decide) ?_
          refine L_X12_rule (F := μ) (σ := μ) (k := k) hw.2 hrn 61 0 _ _ _ _ (by omega) (by omega) rfl rfl rfl h_25 (fun x μ2 hL2 => ?_)
          refine A_iload2 dX12_rule_109 ?_
          refine A_if_ne (tgt := 118) dX12_rule_110 (by decide) (fun c_110 => ?_) (fun c_110 => ?_)
          · refine A_iload5 dX12_rule_118 ?_
            refine A_iret dX12_rule_120 ?_
            refine ⟨_, rfl, ?_, hL2.1⟩
            unfold sp_rule
            rw [if_pos ⟨hp, i_nlt c_13, c_18⟩, er, if_neg c_110]
          · refine A_iload4 dX12_rule_113 ?_
            refine A_goto (tgt := 120) dX12_rule_115 (by decide) ?_
            refine A_iret dX12_rule_120 ?_
            refine ⟨_, rfl, ?_, hL2.1⟩
            unfold sp_rule
            rw [if_pos ⟨hp, i_nlt c_13, c_18⟩, er, if_pos c_110]
        · refine A_iconst (v := -1) dX12_rule_21 (by decide) ?_
          refine A_iret dX12_rule_22 ?_
          refine ⟨_, rfl, ?_, Pm.rf⟩
          unfold sp_rule
          rw [if_neg]
          rintro ⟨⟨q1, q2⟩, q3, q4⟩
          exact c_18 q4

/-! by the laws found -/
theorem fnd_ok {σ : Mem} {k : Int32} {b d : Nat} (h : okBx σ b) (hd : d < 60) {x : Lw} (hx : x ∈ (fnd σ k b d).1) : ((-5 ≤ x.1.toInt ∧ x.1.toInt ≤ 5) ∧ okBd x.2) := by
  have hst := st_b (σ := σ) (b := b) hd
  have e := (scan_c (c := cS σ k b (stF σ b d) (stT σ b d)) (f := fS σ k b (stF σ b d) (stT σ b d)) (iv_ne h) (fun x => by have := cntM_le σ k b x (stF σ b d) (stT σ b d + 1 - stF σ b d); show cntM σ k b x (stF σ b d) (stT σ b d + 1 - stF σ b d) ≤ 60; omega)).2
  have e2 : (fnd σ k b d).1 = _ := e
  rw [e2] at hx
  exact allL_ok h (List.mem_filter.mp hx).1
theorem fnd_l2 {σ : Mem} {k : Int32} {b d : Nat} (h : okBx σ b) : (fnd σ k b d).1.length ≤ 660 := Nat.le_trans (scan_le _ _ _) (allL_n h).2.1
set_option maxHeartbeats 400000 in
set_option maxRecDepth 100000 in
theorem T_X5_part {l : Launch} {G : Wd} {x : Lw} {w : Int32} {μ : Mem} (hx : (-5 ≤ x.1.toInt ∧ x.1.toInt ≤ 5) ∧ okBd x.2) : Mt l G KC yX5_part cX5_part 2 (some .int) 2 [.int (nI (lwN x.1 x.2)), .int w] μ (Qi (fun v μ' => v = lwP x w ∧ μ' = μ)) := by
  refine Mt.of (own := RX5) (n := 0) (by decide) rfl [some (.int (nI (lwN x.1 x.2))), some (.int w)] rfl (Nat.le_of_ble_eq_true rfl) ?_
  obtain ⟨-, p1, p2, p3, p4⟩ := lw_parts hx.1 hx.2
  refine A_iload1 dX5_part_0 ?_
  by_cases s_1_0 : w = 0
  · rw [s_1_0]
    refine A_tableIn (tgt := 32) dX5_part_1 (by decide) (by decide) rfl (by decide) ?_
    refine A_iload0 dX5_part_32 ?_
    refine A_si1 lk_X5_40 ys_X5_zeroOf dX5_part_33 (T_X5_zeroOf) (by decide) (Nat.le_of_ble_eq_true rfl) (fun r_33 μ_33 h_33 => ?_)
    obtain ⟨v_33, e_33⟩ := h_33
    replace v_33 := Eq.symm v_33
    subst v_33
    replace e_33 := e_33.symm
    subst e_33
    refine A_iret dX5_part_36 ?_
    exact ⟨_, rfl, by rw [p1]; rfl, rfl⟩
  by_cases s_1_1 : w = 1
  · rw [s_1_1]
    refine A_tableIn (tgt := 37) dX5_part_1 (by decide) (by decide) rfl (by decide) ?_
    refine A_iload0 dX5_part_37 ?_
    refine A_si1 lk_X5_44 ys_X5_slopeOf dX5_part_38 (T_X5_slopeOf) (by decide) (Nat.le_of_ble_eq_true rfl) (fun r_38 μ_38 h_38 => ?_)
    obtain ⟨v_38, e_38⟩ := h_38
    replace v_38 := Eq.symm v_38
    subst v_38
    replace e_38 := e_38.symm
    subst e_38
    refine A_iret dX5_part_41 ?_
    exact ⟨_, rfl, by rw [p2]; rfl, rfl⟩
  by_cases s_1_2 : w = 2
  · rw [s_1_2]
    refine A_tableIn (tgt := 42) dX5_part_1 (by decide) (by decide) rfl (by decide) ?_
    refine A_iload0 dX5_part_42 ?_
    refine A_si1 lk_X5_47 ys_X5_lagOf dX5_part_43 (T_X5_lagOf) (by decide) (Nat.le_of_ble_eq_true rfl) (fun r_43 μ_43 h_43 => ?_)
    obtain ⟨v_43, e_43⟩ := h_43
    replace v_43 := Eq.symm v_43
    subst v_43
    replace e_43 := e_43.symm
    subst e_43
    refine A_iret dX5_part_46 ?_
    exact ⟨_, rfl, by rw [p3]; rfl, rfl⟩
  by_cases s_1_3 : w = 3
  · rw [s_1_3]
    refine A_tableIn (tgt := 47) dX5_part_1 (by decide) (by decide) rfl (by decide) ?_
    refine A_iload0 dX5_part_47 ?_
    refine A_si1 lk_X5_50 ys_X5_tireOf dX5_part_48 (T_X5_tireOf) (by decide) (Nat.le_of_ble_eq_true rfl) (fun r_48 μ_48 h_48 => ?_)
    obtain ⟨v_48, e_48⟩ := h_48
    replace v_48 := Eq.symm v_48
    subst v_48
    replace e_48 := e_48.symm
    subst e_48
    refine A_iret dX5_part_51 ?_
    exact ⟨_, rfl, by rw [p4]; rfl, rfl⟩
  refine A_tableOut (tgt := 52) dX5_part_1 (i_out (lo := 0) (hi := 3) (fun j h1 h2 q => ?_)) (by decide) ?_
  · have h3 : j = 0 ∨ j = 1 ∨ j = 2 ∨ j = 3 := by omega
    rcases h3 with rfl | rfl | rfl | rfl
    · exact s_1_0 (by rw [i_eq, q]; decide)
    · exact s_1_1 (by rw [i_eq, q]; decide)
    · exact s_1_2 (by rw [i_eq, q]; decide)
    · exact s_1_3 (by rw [i_eq, q]; decide)
  refine A_ldc dX5_part_52 kc_X5_53 ?_
  refine A_iret dX5_part_54 ?_
  exact ⟨_, rfl, ((if_neg s_1_0).trans ((if_neg s_1_1).trans ((if_neg s_1_2).trans (if_neg s_1_3)))).symm, rfl⟩
set_option maxHeartbeats 400000 in
set_option maxRecDepth 100000 in
theorem T_X5_byFirst {l : Launch} {G : Wd} {b d : Nat} {k : Int32} {σ μ : Mem} (h : Wk σ k μ) (hbn : b < nbx σ) (hb : b < 5) (hd : d < 60) (hF : FT σ k b d μ) : Mt l G KC yX5_byFirst cX5_byFirst 2 (some .int) 4 [.ref (gA G (48 + 5 * b)), .int (nI d)] μ (Qi (fun v μ' => v = sh1 σ k b d ∧ μ' = μ)) := by
  refine Mt.of (own := RX5) (n := 0) (by decide) rfl [some (.ref (gA G (48 + 5 * b))), some (.int (nI d))] rfl (Nat.le_of_ble_eq_true rfl) ?_
  have hl := fnd_l2 (k := k) (d := d) (h.ok hbn).1
  have hc := hF.2.2.1.1
  refine A_aload0 dX5_byFirst_0 ?_
  refine A_getI gf_X5_130 (kL_12 hb) dX5_byFirst_1 ?_
  rw [hc]
  refine A_if_le (tgt := 33) dX5_byFirst_4 (by decide) (fun c_4 => ?_) (fun c_4 => ?_)
  · refine A_ldc dX5_byFirst_33 kc_X5_53 ?_
    refine A_iret dX5_byFirst_35 ?_
    refine ⟨_, rfl, ?_, rfl⟩
    have e0 : (fnd σ k b d).1.length = 0 := (nI_le0 (by omega)).mp c_4
    unfold sh1
    rw [List.getElem?_eq_none (by omega)]
  · obtain ⟨x, hx⟩ : ∃ x, (fnd σ k b d).1[0]? = some x := by
      cases e : (fnd σ k b d).1 with
      | nil => rw [e] at c_4; exact absurd (by decide) c_4
      | cons x L => exact ⟨x, rfl⟩
    obtain ⟨o1, o2⟩ := fnd_ok (h.ok hbn).1 hd (List.mem_of_getElem? hx)
    obtain ⟨-, p1, p2, p3, p4⟩ := lw_parts o1 o2
    refine A_aload0 dX5_byFirst_7 ?_
    refine A_aload0 dX5_byFirst_8 ?_
    refine A_getR gf_X5_37 (kL_11 hb) dX5_byFirst_9 ?_
    refine A_iconst (v := 0) dX5_byFirst_12 (by decide) ?_
    refine A_iald (kA_52 hb) (by rw [show (0 : Int32) = nI 0 from rfl]; exact vp_in_nI (by omega) (by omega)) dX5_byFirst_13 ?_
    rw [show (0 : Int32).toNatClampNeg = 0 from rfl, hF.2.2.1.2 0 x hx]
    refine A_iload1 dX5_byFirst_14 ?_
    refine A_aload0 dX5_byFirst_15 ?_
    refine A_getR gf_X5_19 (kL_2 hb) dX5_byFirst_16 ?_
    refine A_aload0 dX5_byFirst_19 ?_
    refine A_getI gf_X5_23 (kL_3 hb) dX5_byFirst_20 ?_
    rw [h.X hb]
    refine A_iload1 dX5_byFirst_23 ?_
    refine A_vi2 lk_X5_111 yv_X2_age dX5_byFirst_24 (rfl) (rfl) (T_X2_age h.1.2.2.1.2.2.2 hb hd) (by decide) (Nat.le_of_ble_eq_true rfl) (fun r_24 μ_24 h_24 => ?_)
    obtain ⟨v_24, e_24⟩ := h_24
    replace v_24 := Eq.symm v_24
    subst v_24
    replace e_24 := e_24.symm
    subst e_24
    refine A_vi3 lk_X5_148 yv_X5_by dX5_byFirst_27 (oL hb) (rfl) (T_X5_by h hbn hb hd o2 p2 p3 p4 o1 p1) (by decide) (Nat.le_of_ble_eq_true rfl) (fun r_27 μ_27 h_27 => ?_)
    obtain ⟨v_27, e_27⟩ := h_27
    replace v_27 := Eq.symm v_27
    subst v_27
    replace e_27 := e_27.symm
    subst e_27
    refine A_goto (tgt := 35) dX5_byFirst_30 (by decide) ?_
    refine A_iret dX5_byFirst_35 ?_
    refine ⟨_, rfl, ?_, rfl⟩
    unfold sh1
    rw [hx]
set_option maxHeartbeats 400000 in
set_option maxRecDepth 100000 in
theorem L_X5_extreme_20 {l : Launch} {G : Wd} {b d : Nat} {k hg : Int32} {σ μ : Mem} (h : Wk σ k μ) (hbn : b < nbx σ) (hb : b < 5) (hd : d < 60) (hF : FT σ k b d μ) : ∀ (R L : List Lw) (v : Int32) (x6 x7 : Option Value), L ++ R = (fnd σ k b d).1 → v = shn σ k b d hg L → AW l G KC RX5 cX5_extreme 8 4 (some .int) (Qi (fun v μ' => v = shn σ k b d hg (fnd σ k b d).1 ∧ μ' = μ)) 20 [some (.ref (gA G (48 + 5 * b))), some (.int (nI d)), some (.int hg), some (.int (nI (agS σ b d))), some (.int v), some (.int (nI L.length)), x6, x7] [] μ := by
  have hl := fnd_l2 (k := k) (d := d) (h.ok hbn).1
  have hc := hF.2.2.1.1
  intro R
  induction R with
  | nil =>
    intro L v x6 x7 hL hv
    have hL2 : L = (fnd σ k b d).1 := by rw [← hL]; exact (List.append_nil L).symm
    refine A_iload5 dX5_extreme_20 ?_
    refine A_aload0 dX5_extreme_22 ?_
    refine A_getI gf_X5_130 (kL_12 hb) dX5_extreme_23 ?_
    rw [hc]
    refine A_icmp_ge (tgt := 111) dX5_extreme_26 (by decide) (fun c_26 => ?_) (fun c_26 => absurd c_26 (fun z => z (by rw [hL2]; exact Int32.le_refl _)))
    refine A_iload4 dX5_extreme_111 ?_
    refine A_iret dX5_extreme_113 ?_
    rw [hL2] at hv
    exact ⟨_, rfl, hv, rfl⟩
  | cons x R ih =>
    intro L v x6 x7 hL hv
    have hx : (fnd σ k b d).1[L.length]? = some x := by rw [← hL, List.getElem?_append_right (Nat.le_refl _), Nat.sub_self]; rfl
    have hLl := (List.getElem?_eq_some_iff.mp hx).1
    have hL3 : (L ++ [x]) ++ R = (fnd σ k b d).1 := by rw [← hL, List.append_assoc]; rfl
    have hl3 : (L ++ [x]).length = L.length + 1 := by simp
    obtain ⟨o1, o2⟩ := fnd_ok (h.ok hbn).1 hd (List.mem_of_getElem? hx)
    obtain ⟨-, p1, p2, p3, p4⟩ := lw_parts o1 o2
    have eb := hF.2.2.1.2 L.length x hx
    have hsh : shn σ k b d hg (L ++ [x]) = shnF σ k b d hg v x := by unfold shn; rw [List.foldl_append, hv]; rfl
    refine A_iload5 dX5_extreme_20 ?_
    refine A_aload0 dX5_extreme_22 ?_
    refine A_getI gf_X5_130 (kL_12 hb) dX5_extreme_23 ?_
    rw [hc]
    refine A_icmp_ge (tgt := 111) dX5_extreme_26 (by decide) (fun c_26 => absurd c_26 (fun z => nI_ge hLl (by omega) z)) (fun c_26 => ?_)
    refine A_aload0 dX5_extreme_29 ?_
    refine A_aload0 dX5_extreme_30 ?_
    refine A_getR gf_X5_37 (kL_11 hb) dX5_extreme_31 ?_
    refine A_iload5 dX5_extreme_34 ?_
    refine A_iald (kA_52 hb) (vp_in_nI (by omega) (by omega)) dX5_extreme_36 ?_
    rw [nI_c (by omega), eb]
    refine A_iload1 dX5_extreme_37 ?_
    refine A_iload3 dX5_extreme_38 ?_
    refine A_vi3 lk_X5_148 yv_X5_by dX5_extreme_39 (oL hb) (rfl) (T_X5_by h hbn hb hd o2 p2 p3 p4 o1 p1) (by decide) (Nat.le_of_ble_eq_true rfl) (fun r_39 μ_39 h_39 => ?_)
    obtain ⟨v_39, e_39⟩ := h_39
    replace v_39 := Eq.symm v_39
    subst v_39
    replace e_39 := e_39.symm
    subst e_39
    refine A_istore6 dX5_extreme_42 rfl (by decide) ?_
    refine A_iload6 dX5_extreme_44 ?_
    refine A_ldc dX5_extreme_46 kc_X5_53 ?_
    refine A_icmp_eq (tgt := 105) dX5_extreme_48 (by decide) (fun c_48 => ?_) (fun c_48 => ?_)
    · refine A_iinc5 dX5_extreme_105 rfl rfl (by decide) ?_
      refine A_goto (tgt := 20) dX5_extreme_108 (by decide) ?_
      rw [show nI L.length + Int32.ofInt 1 = nI (L.length + 1) from nI_1 _, ← hl3]
      exact ih (L ++ [x]) v _ _ hL3 (hsh.trans (if_pos c_48)).symm
    · refine A_iload2 dX5_extreme_51 ?_
      refine A_if_eq (tgt := 70) dX5_extreme_52 (by decide) (fun c_52 => ?_) (fun c_52 => ?_)
      · refine A_iload6 dX5_extreme_70 ?_
        refine A_iload4 dX5_extreme_72 ?_
        refine A_icmp_ge (tgt := 81) dX5_extreme_74 (by decide) (fun c_74 => ?_) (fun c_74 => ?_)
        · refine A_iconst (v := 0) dX5_extreme_81 (by decide) ?_
          refine A_istore7 dX5_extreme_82 rfl (by decide) ?_
          refine A_iload4 dX5_extreme_84 ?_
          refine A_ldc dX5_extreme_86 kc_X5_53 ?_
          refine A_icmp_eq (tgt := 96) dX5_extreme_88 (by decide) (fun c_88 => ?_) (fun c_88 => ?_)
          · refine A_iload6 dX5_extreme_96 ?_
            refine A_goto (tgt := 103) dX5_extreme_98 (by decide) ?_
            refine A_istore4 dX5_extreme_103 rfl (by decide) ?_
            refine A_iinc5 dX5_extreme_105 rfl rfl (by decide) ?_
            refine A_goto (tgt := 20) dX5_extreme_108 (by decide) ?_
            rw [show nI L.length + Int32.ofInt 1 = nI (L.length + 1) from nI_1 _, ← hl3]
            exact ih (L ++ [x]) _ _ _ hL3 (hsh.trans ((if_neg c_48).trans (if_pos (Or.inl c_88)))).symm
          · refine A_iload7 dX5_extreme_91 ?_
            refine A_if_eq (tgt := 101) dX5_extreme_93 (by decide) (fun c_93 => ?_) (fun c_93 => absurd c_93 (fun z => z rfl))
            refine A_iload4 dX5_extreme_101 ?_
            refine A_istore4 dX5_extreme_103 rfl (by decide) ?_
            refine A_iinc5 dX5_extreme_105 rfl rfl (by decide) ?_
            refine A_goto (tgt := 20) dX5_extreme_108 (by decide) ?_
            rw [show nI L.length + Int32.ofInt 1 = nI (L.length + 1) from nI_1 _, ← hl3]
            exact ih (L ++ [x]) v _ _ hL3 (hsh.trans ((if_neg c_48).trans (if_neg (fun z => by rcases z with z | z; exact c_88 z; exact absurd z (by rw [if_pos c_52]; exact Int32.not_lt.mpr c_74))))).symm
        · refine A_iconst (v := 1) dX5_extreme_77 (by decide) ?_
          refine A_goto (tgt := 82) dX5_extreme_78 (by decide) ?_
          refine A_istore7 dX5_extreme_82 rfl (by decide) ?_
          refine A_iload4 dX5_extreme_84 ?_
          refine A_ldc dX5_extreme_86 kc_X5_53 ?_
          refine A_icmp_eq (tgt := 96) dX5_extreme_88 (by decide) (fun c_88 => ?_) (fun c_88 => ?_)
          · refine A_iload6 dX5_extreme_96 ?_
            refine A_goto (tgt := 103) dX5_extreme_98 (by decide) ?_
            refine A_istore4 dX5_extreme_103 rfl (by decide) ?_
            refine A_iinc5 dX5_extreme_105 rfl rfl (by decide) ?_
            refine A_goto (tgt := 20) dX5_extreme_108 (by decide) ?_
            rw [show nI L.length + Int32.ofInt 1 = nI (L.length + 1) from nI_1 _, ← hl3]
            exact ih (L ++ [x]) _ _ _ hL3 (hsh.trans ((if_neg c_48).trans (if_pos (Or.inl c_88)))).symm
          · refine A_iload7 dX5_extreme_91 ?_
            refine A_if_eq (tgt := 101) dX5_extreme_93 (by decide) (fun c_93 => absurd c_93 (fun z => absurd z (by decide))) (fun c_93 => ?_)
            refine A_iload6 dX5_extreme_96 ?_
            refine A_goto (tgt := 103) dX5_extreme_98 (by decide) ?_
            refine A_istore4 dX5_extreme_103 rfl (by decide) ?_
            refine A_iinc5 dX5_extreme_105 rfl rfl (by decide) ?_
            refine A_goto (tgt := 20) dX5_extreme_108 (by decide) ?_
            rw [show nI L.length + Int32.ofInt 1 = nI (L.length + 1) from nI_1 _, ← hl3]
            exact ih (L ++ [x]) _ _ _ hL3 (hsh.trans ((if_neg c_48).trans (if_pos (Or.inr (by rw [if_pos c_52]; exact Int32.not_le.mp c_74))))).symm
      · refine A_iload6 dX5_extreme_55 ?_
        refine A_iload4 dX5_extreme_57 ?_
        refine A_icmp_le (tgt := 66) dX5_extreme_59 (by decide) (fun c_59 => ?_) (fun c_59 => ?_)
        · refine A_iconst (v := 0) dX5_extreme_66 (by decide) ?_
          refine A_goto (tgt := 82) dX5_extreme_67 (by decide) ?_
          refine A_istore7 dX5_extreme_82 rfl (by decide) ?_
          refine A_iload4 dX5_extreme_84 ?_
          refine A_ldc dX5_extreme_86 kc_X5_53 ?_
          refine A_icmp_eq (tgt := 96) dX5_extreme_88 (by decide) (fun c_88 => ?_) (fun c_88 => ?_)
          · refine A_iload6 dX5_extreme_96 ?_
            refine A_goto (tgt := 103) dX5_extreme_98 (by decide) ?_
            refine A_istore4 dX5_extreme_103 rfl (by decide) ?_
            refine A_iinc5 dX5_extreme_105 rfl rfl (by decide) ?_
            refine A_goto (tgt := 20) dX5_extreme_108 (by decide) ?_
            rw [show nI L.length + Int32.ofInt 1 = nI (L.length + 1) from nI_1 _, ← hl3]
            exact ih (L ++ [x]) _ _ _ hL3 (hsh.trans ((if_neg c_48).trans (if_pos (Or.inl c_88)))).symm
          · refine A_iload7 dX5_extreme_91 ?_
            refine A_if_eq (tgt := 101) dX5_extreme_93 (by decide) (fun c_93 => ?_) (fun c_93 => absurd c_93 (fun z => z rfl))
            refine A_iload4 dX5_extreme_101 ?_
            refine A_istore4 dX5_extreme_103 rfl (by decide) ?_
            refine A_iinc5 dX5_extreme_105 rfl rfl (by decide) ?_
            refine A_goto (tgt := 20) dX5_extreme_108 (by decide) ?_
            rw [show nI L.length + Int32.ofInt 1 = nI (L.length + 1) from nI_1 _, ← hl3]
            exact ih (L ++ [x]) v _ _ hL3 (hsh.trans ((if_neg c_48).trans (if_neg (fun z => by rcases z with z | z; exact c_88 z; exact absurd z (by rw [if_neg c_52]; exact Int32.not_lt.mpr c_59))))).symm
        · refine A_iconst (v := 1) dX5_extreme_62 (by decide) ?_
          refine A_goto (tgt := 82) dX5_extreme_63 (by decide) ?_
          refine A_istore7 dX5_extreme_82 rfl (by decide) ?_
          refine A_iload4 dX5_extreme_84 ?_
          refine A_ldc dX5_extreme_86 kc_X5_53 ?_
          refine A_icmp_eq (tgt := 96) dX5_extreme_88 (by decide) (fun c_88 => ?_) (fun c_88 => ?_)
          · refine A_iload6 dX5_extreme_96 ?_
            refine A_goto (tgt := 103) dX5_extreme_98 (by decide) ?_
            refine A_istore4 dX5_extreme_103 rfl (by decide) ?_
            refine A_iinc5 dX5_extreme_105 rfl rfl (by decide) ?_
            refine A_goto (tgt := 20) dX5_extreme_108 (by decide) ?_
            rw [show nI L.length + Int32.ofInt 1 = nI (L.length + 1) from nI_1 _, ← hl3]
            exact ih (L ++ [x]) _ _ _ hL3 (hsh.trans ((if_neg c_48).trans (if_pos (Or.inl c_88)))).symm
          · refine A_iload7 dX5_extreme_91 ?_
            refine A_if_eq (tgt := 101) dX5_extreme_93 (by decide) (fun c_93 => absurd c_93 (fun z => absurd z (by decide))) (fun c_93 => ?_)
            refine A_iload6 dX5_extreme_96 ?_
            refine A_goto (tgt := 103) dX5_extreme_98 (by decide) ?_
            refine A_istore4 dX5_extreme_103 rfl (by decide) ?_
            refine A_iinc5 dX5_extreme_105 rfl rfl (by decide) ?_
            refine A_goto (tgt := 20) dX5_extreme_108 (by decide) ?_
            rw [show nI L.length + Int32.ofInt 1 = nI (L.length + 1) from nI_1 _, ← hl3]
            exact ih (L ++ [x]) _ _ _ hL3 (hsh.trans ((if_neg c_48).trans (if_pos (Or.inr (by rw [if_neg c_52]; exact Int32.not_le.mp c_59))))).symm
set_option maxHeartbeats 100000 in
set_option maxRecDepth 100000 in
theorem T_X5_extreme {l : Launch} {G : Wd} {b d : Nat} {k hg : Int32} {σ μ : Mem} (h : Wk σ k μ) (hbn : b < nbx σ) (hb : b < 5) (hd : d < 60) (hF : FT σ k b d μ) : Mt l G KC yX5_extreme cX5_extreme 8 (some .int) 4 [.ref (gA G (48 + 5 * b)), .int (nI d), .int hg] μ (Qi (fun v μ' => v = shn σ k b d hg (fnd σ k b d).1 ∧ μ' = μ)) := by
  refine Mt.of (own := RX5) (n := 5) (by decide) rfl [some (.ref (gA G (48 + 5 * b))), some (.int (nI d)), some (.int hg), none, none, none, none, none] rfl (Nat.le_of_ble_eq_true rfl) ?_
  refine A_aload0 dX5_extreme_0 ?_
  refine A_getR gf_X5_19 (kL_2 hb) dX5_extreme_1 ?_
  refine A_aload0 dX5_extreme_4 ?_
  refine A_getI gf_X5_23 (kL_3 hb) dX5_extreme_5 ?_
  rw [h.X hb]
  refine A_iload1 dX5_extreme_8 ?_
  refine A_vi2 lk_X5_111 yv_X2_age dX5_extreme_9 (rfl) (rfl) (T_X2_age h.1.2.2.1.2.2.2 hb hd) (by decide) (Nat.le_of_ble_eq_true rfl) (fun r_9 μ_9 h_9 => ?_)
  obtain ⟨v_9, e_9⟩ := h_9
  replace v_9 := Eq.symm v_9
  subst v_9
  replace e_9 := e_9.symm
  subst e_9
  refine A_istore3 dX5_extreme_12 rfl (by decide) ?_
  refine A_ldc dX5_extreme_13 kc_X5_53 ?_
  refine A_istore4 dX5_extreme_15 rfl (by decide) ?_
  refine A_iconst (v := 0) dX5_extreme_17 (by decide) ?_
  refine A_istore5 dX5_extreme_18 rfl (by decide) ?_
  exact L_X5_extreme_20 h hbn hb hd hF (fnd σ k b d).1 [] _ _ _ rfl rfl
set_option maxHeartbeats 100000 in
set_option maxRecDepth 100000 in
theorem C_shows {l : Launch} {G : Wd} {b d : Int32} {k : Int32} {n : Nat} {σ μ : Mem} (hR : Rc σ n μ) (hn : n + 1 ≤ 600) : Mt l G KC yX11_shows cX11_shows 4 (some .int) 9 [.ref (gA G 0), .int b, .int d, .int k] μ (Qi (fun v μ' => v = sp_shows σ b d k ∧ Rc σ (n + 1) μ')) := by
  refine Mt.of (own := RX11) (n := 0) (by decide) rfl [some (.ref (gA G 0)), some (.int b), some (.int d), some (.int k)] rfl (Nat.le_of_ble_eq_true rfl) ?_
  refine A_aload0 dX11_shows_0 ?_
  refine A_iload1 dX11_shows_1 ?_
  refine A_iload2 dX11_shows_2 ?_
  refine A_iload3 dX11_shows_3 ?_
  refine A_vi3 lk_X11_211 yv_X11_fitted dX11_shows_4 (rfl) (rfl) (T_X11_fitted hR hn) (by decide) (Nat.le_of_ble_eq_true rfl) (fun r_4 μ_4 h_4 => ?_)
  refine A_if_eq (tgt := 23) dX11_shows_7 (by decide) (fun c_7 => ?_) (fun c_7 => ?_)
  · refine A_ldc dX11_shows_23 kc_X11_216 ?_
    refine A_iret dX11_shows_25 ?_
    rcases h_4 with ⟨-, hp, hC⟩ | ⟨h0, -⟩
    · refine ⟨_, rfl, ?_, hC⟩
      unfold sp_shows
      rw [if_neg hp]
    · exact absurd (h0.symm.trans c_7) (by decide)
  · rcases h_4 with ⟨h0, -⟩ | ⟨-, hp, hC, hF⟩
    · exact absurd h0 c_7
    obtain ⟨x, y, rfl, rfl, hb, hd, hok, ex, ey, hbn⟩ := i_pl hR.2.1.1.2.2 hp
    rw [ex, ey] at hF
    refine A_aload0 dX11_shows_10 ?_
    refine A_getR gf_X11_82 rfl dX11_shows_11 ?_
    refine A_iload1 dX11_shows_14 ?_
    refine A_aald (n := 5) rfl (vp_in_nI (by omega) (by omega)) (aL hb) dX11_shows_15 ?_
    refine A_iload2 dX11_shows_16 ?_
    refine A_vi1 lk_X11_226 yv_X5_byFirst dX11_shows_17 (oL hb) (rfl) (T_X5_byFirst hC.wk hbn hb hd hF) (by decide) (Nat.le_of_ble_eq_true rfl) (fun r_17 μ_17 h_17 => ?_)
    obtain ⟨v_17, e_17⟩ := h_17
    replace v_17 := Eq.symm v_17
    subst v_17
    replace e_17 := e_17.symm
    subst e_17
    refine A_goto (tgt := 25) dX11_shows_20 (by decide) ?_
    refine A_iret dX11_shows_25 ?_
    refine ⟨_, rfl, ?_, hC.rc hR.2.1 hn⟩
    unfold sp_shows
    rw [if_pos hp, ex, ey]
set_option maxHeartbeats 100000 in
set_option maxRecDepth 100000 in
theorem C_shown {l : Launch} {G : Wd} {b d hg : Int32} {k : Int32} {n : Nat} {σ μ : Mem} (hR : Rc σ n μ) (hn : n + 1 ≤ 600) : Mt l G KC yX11_shown cX11_shown 5 (some .int) 9 [.ref (gA G 0), .int b, .int d, .int hg, .int k] μ (Qi (fun v μ' => v = sp_shown σ b d hg k ∧ Rc σ (n + 1) μ')) := by
  refine Mt.of (own := RX11) (n := 0) (by decide) rfl [some (.ref (gA G 0)), some (.int b), some (.int d), some (.int hg), some (.int k)] rfl (Nat.le_of_ble_eq_true rfl) ?_
  refine A_aload0 dX11_shown_0 ?_
  refine A_iload1 dX11_shown_1 ?_
  refine A_iload2 dX11_shown_2 ?_
  refine A_iload4 dX11_shown_3 ?_
  refine A_vi3 lk_X11_211 yv_X11_fitted dX11_shown_5 (rfl) (rfl) (T_X11_fitted hR hn) (by decide) (Nat.le_of_ble_eq_true rfl) (fun r_5 μ_5 h_5 => ?_)
  refine A_if_eq (tgt := 25) dX11_shown_8 (by decide) (fun c_8 => ?_) (fun c_8 => ?_)
  · refine A_ldc dX11_shown_25 kc_X11_216 ?_
    refine A_iret dX11_shown_27 ?_
    rcases h_5 with ⟨-, hp, hC⟩ | ⟨h0, -⟩
    · refine ⟨_, rfl, ?_, hC⟩
      unfold sp_shown
      rw [if_neg hp]
    · exact absurd (h0.symm.trans c_8) (by decide)
  · rcases h_5 with ⟨h0, -⟩ | ⟨-, hp, hC, hF⟩
    · exact absurd h0 c_8
    obtain ⟨x, y, rfl, rfl, hb, hd, hok, ex, ey, hbn⟩ := i_pl hR.2.1.1.2.2 hp
    rw [ex, ey] at hF
    refine A_aload0 dX11_shown_11 ?_
    refine A_getR gf_X11_82 rfl dX11_shown_12 ?_
    refine A_iload1 dX11_shown_15 ?_
    refine A_aald (n := 5) rfl (vp_in_nI (by omega) (by omega)) (aL hb) dX11_shown_16 ?_
    refine A_iload2 dX11_shown_17 ?_
    refine A_iload3 dX11_shown_18 ?_
    refine A_vi2 lk_X11_232 yv_X5_extreme dX11_shown_19 (oL hb) (rfl) (T_X5_extreme hC.wk hbn hb hd hF) (by decide) (Nat.le_of_ble_eq_true rfl) (fun r_19 μ_19 h_19 => ?_)
    obtain ⟨v_19, e_19⟩ := h_19
    replace v_19 := Eq.symm v_19
    subst v_19
    replace e_19 := e_19.symm
    subst e_19
    refine A_goto (tgt := 27) dX11_shown_22 (by decide) ?_
    refine A_iret dX11_shown_27 ?_
    refine ⟨_, rfl, ?_, hC.rc hR.2.1 hn⟩
    unfold sp_shown fI
    rw [if_pos hp, ex, ey]
set_option maxHeartbeats 100000 in
set_option maxRecDepth 100000 in
theorem C_law {l : Launch} {G : Wd} {b d i w : Int32} {k : Int32} {n : Nat} {σ μ : Mem} (hR : Rc σ n μ) (hn : n + 1 ≤ 600) : Mt l G KC yX11_law cX11_law 6 (some .int) 9 [.ref (gA G 0), .int b, .int d, .int i, .int w, .int k] μ (Qi (fun v μ' => v = sp_law σ b d i w k ∧ Rc σ (n + 1) μ')) := by
  refine Mt.of (own := RX11) (n := 0) (by decide) rfl [some (.ref (gA G 0)), some (.int b), some (.int d), some (.int i), some (.int w), some (.int k)] rfl (Nat.le_of_ble_eq_true rfl) ?_
  refine A_aload0 dX11_law_0 ?_
  refine A_iload1 dX11_law_1 ?_
  refine A_iload2 dX11_law_2 ?_
  refine A_iload5 dX11_law_3 ?_
  refine A_vi3 lk_X11_211 yv_X11_fitted dX11_law_5 (rfl) (rfl) (T_X11_fitted hR hn) (by decide) (Nat.le_of_ble_eq_true rfl) (fun r_5 μ_5 h_5 => ?_)
  refine A_if_eq (tgt := 28) dX11_law_8 (by decide) (fun c_8 => ?_) (fun c_8 => ?_)
  · refine A_ldc dX11_law_28 kc_X11_216 ?_
    refine A_iret dX11_law_30 ?_
    rcases h_5 with ⟨-, hp, hC⟩ | ⟨h0, -⟩
    · refine ⟨_, rfl, ?_, hC⟩
      unfold sp_law
      rw [if_neg (fun z => hp z.1)]
    · exact absurd (h0.symm.trans c_8) (by decide)
  · refine A_iload3 dX11_law_11 ?_
    refine A_if_lt (tgt := 28) dX11_law_12 (by decide) (fun c_12 => ?_) (fun c_12 => ?_)
    · refine A_ldc dX11_law_28 kc_X11_216 ?_
      refine A_iret dX11_law_30 ?_
      rcases h_5 with ⟨h0, -⟩ | ⟨-, hp, hC, hF⟩
      · exact absurd h0 c_8
      refine ⟨_, rfl, ?_, hC.rc hR.2.1 hn⟩
      unfold sp_law
      rw [if_neg (fun z => absurd z.2.1 (Int32.not_le.mpr c_12))]
    · rcases h_5 with ⟨h0, -⟩ | ⟨-, hp, hC, hF⟩
      · exact absurd h0 c_8
      obtain ⟨x, y, rfl, rfl, hb, hd, hok, ex, ey, hbn⟩ := i_pl hR.2.1.1.2.2 hp
      rw [ex, ey] at hF
      refine A_iload3 dX11_law_15 ?_
      refine A_aload0 dX11_law_16 ?_
      refine A_getR gf_X11_82 rfl dX11_law_17 ?_
      refine A_iload1 dX11_law_20 ?_
      refine A_aald (n := 5) rfl (vp_in_nI (by omega) (by omega)) (aL hb) dX11_law_21 ?_
      refine A_getI gf_X11_215 (kL_12 hb) dX11_law_22 ?_
      rw [hF.2.2.1.1]
      refine A_icmp_lt (tgt := 31) dX11_law_25 (by decide) (fun c_25 => ?_) (fun c_25 => ?_)
      · have hlen := fnd_l2 (k := k) (d := y) hok
        obtain ⟨j, hj, ej⟩ := nI_rng (Int32.not_lt.mp c_12) c_25 (by omega)
        obtain ⟨z, hz⟩ : ∃ z, (fnd σ k x y).1[j]? = some z := ⟨(fnd σ k x y).1[j]'hj, List.getElem?_eq_getElem hj⟩
        refine A_aload0 dX11_law_31 ?_
        refine A_getR gf_X11_82 rfl dX11_law_32 ?_
        refine A_iload1 dX11_law_35 ?_
        refine A_aald (n := 5) rfl (vp_in_nI (by omega) (by omega)) (aL hb) dX11_law_36 ?_
        refine A_getR gf_X11_217 (kL_11 hb) dX11_law_37 ?_
        refine A_iload3 dX11_law_40 ?_
        refine A_iald (kA_52 hb) (by rw [ej]; exact vp_in_nI (by omega) (by omega)) dX11_law_41 ?_
        rw [ej, nI_c (by omega), hF.2.2.1.2 j z hz]
        refine A_iload4 dX11_law_42 ?_
        refine A_si2 lk_X11_220 ys_X5_part dX11_law_44 (T_X5_part (fnd_ok hok hd (List.mem_of_getElem? hz))) (by decide) (Nat.le_of_ble_eq_true rfl) (fun r_44 μ_44 h_44 => ?_)
        obtain ⟨v_44, e_44⟩ := h_44
        replace v_44 := Eq.symm v_44
        subst v_44
        replace e_44 := e_44.symm
        subst e_44
        refine A_iret dX11_law_47 ?_
        refine ⟨_, rfl, ?_, hC.rc hR.2.1 hn⟩
        unfold sp_law
        have hq : isPl σ (nI x) (nI y) ∧ 0 ≤ i ∧ i < nI (fI σ k (nI x) (nI y)).1.length := ⟨hp, Int32.not_lt.mp c_12, by unfold fI; rw [ex, ey]; exact c_25⟩
        rw [ej] at hq
        rw [if_pos hq]
        unfold fI
        rw [ex, ey, nI_c (by omega), hz]
      · refine A_ldc dX11_law_28 kc_X11_216 ?_
        refine A_iret dX11_law_30 ?_
        refine ⟨_, rfl, ?_, hC.rc hR.2.1 hn⟩
        unfold sp_law
        rw [if_neg (fun z => by have z1 := z.2.2; unfold fI at z1; rw [ex, ey] at z1; exact c_25 z1)]
set_option maxHeartbeats 400000 in
set_option maxRecDepth 100000 in
theorem L_X11_next_15 {l : Launch} {G : Wd} {k : Int32} {n : Nat} {σ : Mem} (hw : WFa σ) (hn : n + 1 ≤ 600) : ∀ (q b : Nat) (m : Mem), q + b = nbx σ → Ca σ k n m → AW l G KC RX11 cX11_next 5 9 (some .int) (Qi (fun v μ' => v = sp_next σ k ∧ Rc σ (n + 1) μ')) 15 [some (.ref (gA G 0)), some (.int k), some (.int (nxtS σ k b).1), some (.int (nI (nxtS σ k b).2)), some (.int (nI b))] [] m := by
  have hwb := hw.1.2.2.1.t.1
  intro q
  induction q with
  | zero =>
    intro b m hq hC
    obtain rfl : b = nbx σ := by omega
    have e0 := hC.wk.no
    refine A_iload4 dX11_next_15 ?_
    refine A_aload0 dX11_next_17 ?_
    refine A_getR gf_X11_29 rfl dX11_next_18 ?_
    refine A_getI gf_X11_144 rfl dX11_next_21 ?_
    rw [e0]
    refine A_icmp_ge (tgt := 73) dX11_next_24 (by decide) (fun c_24 => ?_) (fun c_24 => absurd c_24 (fun z => z (Int32.le_refl _)))
    refine A_iload2 dX11_next_73 ?_
    refine A_iret dX11_next_74 ?_
    exact ⟨_, rfl, rfl, hC.rc hw hn⟩
  | succ q ih =>
    intro b m hq hC
    have e0 := hC.wk.no
    have hb : b < 5 := by omega
    have hbn : b < nbx σ := by omega
    have hok := (hC.wk.ok hbn).1
    have hlen := fnd_l2 (k := k) (d := 59) hok
    have hnx := nxtS_le hw.1.2.2 k b (by omega)
    refine A_iload4 dX11_next_15 ?_
    refine A_aload0 dX11_next_17 ?_
    refine A_getR gf_X11_29 rfl dX11_next_18 ?_
    refine A_getI gf_X11_144 rfl dX11_next_21 ?_
    rw [e0]
    refine A_icmp_ge (tgt := 73) dX11_next_24 (by decide) (fun c_24 => absurd c_24 (fun z => nI_ge (by omega) (by omega) z)) (fun c_24 => ?_)
    refine A_aload0 dX11_next_27 ?_
    refine A_getR gf_X11_82 rfl dX11_next_28 ?_
    refine A_iload4 dX11_next_31 ?_
    refine A_aald (n := 5) rfl (vp_in_nI (by omega) (by omega)) (aL hb) dX11_next_33 ?_
    refine A_bipush (v := 59) dX11_next_34 (by decide) ?_
    refine A_vv1 lk_X11_269 yv_X5_fit dX11_next_36 (oL hb) (rfl) (T_X5_fit (d := 59) hC.wk hbn hb (by decide) (hC.V hbn hb)) (by decide) (Nat.le_of_ble_eq_true rfl) (fun μ_36 h_36 => ?_)
    obtain ⟨f1, f2, f3⟩ := h_36
    have hC2 := hC.fit hb (by decide) f1 f2 f3
    refine A_aload0 dX11_next_39 ?_
    refine A_getR gf_X11_82 rfl dX11_next_40 ?_
    refine A_iload4 dX11_next_43 ?_
    refine A_aald (n := 5) rfl (vp_in_nI (by omega) (by omega)) (aL hb) dX11_next_45 ?_
    refine A_getI gf_X11_215 (kL_12 hb) dX11_next_46 ?_
    rw [f1.2.2.1.1]
    refine A_iload3 dX11_next_49 ?_
    refine A_icmp_le (tgt := 67) dX11_next_50 (by decide) (fun c_50 => ?_) (fun c_50 => ?_)
    · refine A_iinc4 dX11_next_67 rfl rfl (by decide) ?_
      refine A_goto (tgt := 15) dX11_next_70 (by decide) ?_
      rw [show nI b + Int32.ofInt 1 = nI (b + 1) from nI_1 b]
      have e9 : nxtS σ k (b + 1) = nxtS σ k b := if_neg (by have := (nI_leI (by omega) (by omega)).mp c_50; omega)
      rw [← e9]
      exact ih (b + 1) _ (by omega) hC2
    · refine A_aload0 dX11_next_53 ?_
      refine A_getR gf_X11_82 rfl dX11_next_54 ?_
      refine A_iload4 dX11_next_57 ?_
      refine A_aald (n := 5) rfl (vp_in_nI (by omega) (by omega)) (aL hb) dX11_next_59 ?_
      refine A_getI gf_X11_215 (kL_12 hb) dX11_next_60 ?_
      rw [f1.2.2.1.1]
      refine A_istore3 dX11_next_63 rfl (by decide) ?_
      refine A_iload4 dX11_next_64 ?_
      refine A_istore2 dX11_next_66 rfl (by decide) ?_
      refine A_iinc4 dX11_next_67 rfl rfl (by decide) ?_
      refine A_goto (tgt := 15) dX11_next_70 (by decide) ?_
      rw [show nI b + Int32.ofInt 1 = nI (b + 1) from nI_1 b]
      have e9 : nxtS σ k (b + 1) = (nI b, (fnd σ k b 59).1.length) := if_pos (by rcases Nat.lt_or_ge (nxtS σ k b).2 (fnd σ k b 59).1.length with z | z; exact z; exact absurd (nI_le z (by omega)) c_50)
      have e10 : nI b = (nxtS σ k (b + 1)).1 := by rw [e9]
      have e11 : (fnd σ k b 59).1.length = (nxtS σ k (b + 1)).2 := by rw [e9]
      have hh := ih (b + 1) μ_36 (by omega) hC2
      rw [← e10, ← e11] at hh
      exact hh
set_option maxHeartbeats 100000 in
set_option maxRecDepth 100000 in
theorem C_next {l : Launch} {G : Wd} {k : Int32} {n : Nat} {σ μ : Mem} (hR : Rc σ n μ) (hn : n + 1 ≤ 600) : Mt l G KC yX11_next cX11_next 5 (some .int) 9 [.ref (gA G 0), .int k] μ (Qi (fun v μ' => v = sp_next σ k ∧ Rc σ (n + 1) μ')) := by
  refine Mt.of (own := RX11) (n := 3) (by decide) rfl [some (.ref (gA G 0)), some (.int k), none, none, none] rfl (Nat.le_of_ble_eq_true rfl) ?_
  refine A_aload0 dX11_next_0 ?_
  refine A_getR gf_X11_76 rfl dX11_next_1 ?_
  refine A_iload1 dX11_next_4 ?_
  refine A_vv1 lk_X11_201 yv_X4_at dX11_next_5 (rfl) (rfl) (T_at hR) (by decide) (Nat.le_of_ble_eq_true rfl) (fun μ_5 h_5 => ?_)
  have hC := hR.at h_5
  refine A_iconst (v := -1) dX11_next_8 (by decide) ?_
  refine A_istore2 dX11_next_9 rfl (by decide) ?_
  refine A_iconst (v := 0) dX11_next_10 (by decide) ?_
  refine A_istore3 dX11_next_11 rfl (by decide) ?_
  refine A_iconst (v := 0) dX11_next_12 (by decide) ?_
  refine A_istore4 dX11_next_13 rfl (by decide) ?_
  exact L_X11_next_15 hR.2.1 hn (nbx σ) 0 _ (by omega) hC

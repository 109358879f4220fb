/-! the class: days, boxes, facts -/
set_option maxHeartbeats 100000 in
set_option maxRecDepth 100000 in
theorem T_X11_isDay {l : Launch} {G : Wd} {x : Int32} {μ : Mem}  : Mt l G KC yX11_isDay cX11_isDay 1 (some .boolean) 1 [.int x] μ (Qi (fun v μ' => v = bz (isDy x) ∧ μ' = μ)) := by
  refine Mt.of (own := RX11) (n := 0) (by decide) rfl [some (.int x)] rfl (Nat.le_of_ble_eq_true rfl) ?_
  refine A_iload0 dX11_isDay_0 ?_
  refine A_if_lt (tgt := 14) dX11_isDay_1 (by decide) (fun c_1 => ?_) (fun c_1 => ?_)
  · refine A_iconst (v := 0) dX11_isDay_14 (by decide) ?_
    refine A_zret dX11_isDay_15 (by decide) ?_
    exact ⟨_, rfl, (bz_f (fun z => absurd z.1 (Int32.not_le.mpr c_1))).symm, rfl⟩
  · refine A_iload0 dX11_isDay_4 ?_
    refine A_bipush (v := 60) dX11_isDay_5 (by decide) ?_
    refine A_icmp_ge (tgt := 14) dX11_isDay_7 (by decide) (fun c_7 => ?_) (fun c_7 => ?_)
    · refine A_iconst (v := 0) dX11_isDay_14 (by decide) ?_
      refine A_zret dX11_isDay_15 (by decide) ?_
      exact ⟨_, rfl, (bz_f (fun z => absurd z.2 (Int32.not_lt.mpr c_7))).symm, rfl⟩
    · refine A_iconst (v := 1) dX11_isDay_10 (by decide) ?_
      refine A_goto (tgt := 15) dX11_isDay_11 (by decide) ?_
      refine A_zret dX11_isDay_15 (by decide) ?_
      exact ⟨_, rfl, (bz_t ⟨Int32.not_lt.mp c_1, Int32.not_le.mp c_7⟩).symm, rfl⟩
set_option maxHeartbeats 100000 in
set_option maxRecDepth 100000 in
theorem T_X11_isQuantity {l : Launch} {G : Wd} {x : Int32} {μ : Mem}  : Mt l G KC yX11_isQuantity cX11_isQuantity 1 (some .boolean) 1 [.int x] μ (Qi (fun v μ' => v = bz (0 ≤ x ∧ x < 4) ∧ μ' = μ)) := by
  refine Mt.of (own := RX11) (n := 0) (by decide) rfl [some (.int x)] rfl (Nat.le_of_ble_eq_true rfl) ?_
  refine A_iload0 dX11_isQuantity_0 ?_
  refine A_if_lt (tgt := 13) dX11_isQuantity_1 (by decide) (fun c_1 => ?_) (fun c_1 => ?_)
  · refine A_iconst (v := 0) dX11_isQuantity_13 (by decide) ?_
    refine A_zret dX11_isQuantity_14 (by decide) ?_
    exact ⟨_, rfl, (bz_f (fun z => absurd z.1 (Int32.not_le.mpr c_1))).symm, rfl⟩
  · refine A_iload0 dX11_isQuantity_4 ?_
    refine A_iconst (v := 4) dX11_isQuantity_5 (by decide) ?_
    refine A_icmp_ge (tgt := 13) dX11_isQuantity_6 (by decide) (fun c_6 => ?_) (fun c_6 => ?_)
    · refine A_iconst (v := 0) dX11_isQuantity_13 (by decide) ?_
      refine A_zret dX11_isQuantity_14 (by decide) ?_
      exact ⟨_, rfl, (bz_f (fun z => absurd z.2 (Int32.not_lt.mpr c_6))).symm, rfl⟩
    · refine A_iconst (v := 1) dX11_isQuantity_9 (by decide) ?_
      refine A_goto (tgt := 14) dX11_isQuantity_10 (by decide) ?_
      refine A_zret dX11_isQuantity_14 (by decide) ?_
      exact ⟨_, rfl, (bz_t ⟨Int32.not_lt.mp c_1, Int32.not_le.mp c_6⟩).symm, rfl⟩
set_option maxHeartbeats 100000 in
set_option maxRecDepth 100000 in
theorem T_X11_isReader {l : Launch} {G : Wd} {x : Int32} {μ : Mem}  : Mt l G KC yX11_isReader cX11_isReader 1 (some .boolean) 1 [.int x] μ (Qi (fun v μ' => v = bz (isRd x) ∧ μ' = μ)) := by
  refine Mt.of (own := RX11) (n := 0) (by decide) rfl [some (.int x)] rfl (Nat.le_of_ble_eq_true rfl) ?_
  refine A_iload0 dX11_isReader_0 ?_
  refine A_if_lt (tgt := 14) dX11_isReader_1 (by decide) (fun c_1 => ?_) (fun c_1 => ?_)
  · refine A_iconst (v := 0) dX11_isReader_14 (by decide) ?_
    refine A_zret dX11_isReader_15 (by decide) ?_
    exact ⟨_, rfl, (bz_f (fun z => absurd z.1 (Int32.not_le.mpr c_1))).symm, rfl⟩
  · refine A_iload0 dX11_isReader_4 ?_
    refine A_bipush (v := 10) dX11_isReader_5 (by decide) ?_
    refine A_icmp_ge (tgt := 14) dX11_isReader_7 (by decide) (fun c_7 => ?_) (fun c_7 => ?_)
    · refine A_iconst (v := 0) dX11_isReader_14 (by decide) ?_
      refine A_zret dX11_isReader_15 (by decide) ?_
      exact ⟨_, rfl, (bz_f (fun z => absurd z.2 (Int32.not_lt.mpr c_7))).symm, rfl⟩
    · refine A_iconst (v := 1) dX11_isReader_10 (by decide) ?_
      refine A_goto (tgt := 15) dX11_isReader_11 (by decide) ?_
      refine A_zret dX11_isReader_15 (by decide) ?_
      exact ⟨_, rfl, (bz_t ⟨Int32.not_lt.mp c_1, Int32.not_le.mp c_7⟩).symm, rfl⟩
abbrev isBc (μ : Mem) (x : Int32) : Prop := 0 ≤ x ∧ x < μ.1 4 0
set_option maxHeartbeats 100000 in
set_option maxRecDepth 100000 in
theorem T_X2_has {l : Launch} {G : Wd} {x : Int32} {μ : Mem}  : Mt l G KC yX2_has cX2_has 2 (some .boolean) 1 [.ref (gA G 4), .int x] μ (Qi (fun v μ' => v = bz (isBc μ x) ∧ μ' = μ)) := by
  refine Mt.of (own := RX2) (n := 0) (by decide) rfl [some (.ref (gA G 4)), some (.int x)] rfl (Nat.le_of_ble_eq_true rfl) ?_
  refine A_iload1 dX2_has_0 ?_
  refine A_if_lt (tgt := 16) dX2_has_1 (by decide) (fun c_1 => ?_) (fun c_1 => ?_)
  · refine A_iconst (v := 0) dX2_has_16 (by decide) ?_
    refine A_zret dX2_has_17 (by decide) ?_
    exact ⟨_, rfl, (bz_f (fun z => absurd z.1 (Int32.not_le.mpr c_1))).symm, rfl⟩
  · refine A_iload1 dX2_has_4 ?_
    refine A_aload0 dX2_has_5 ?_
    refine A_getI gf_X2_40 rfl dX2_has_6 ?_
    refine A_icmp_ge (tgt := 16) dX2_has_9 (by decide) (fun c_9 => ?_) (fun c_9 => ?_)
    · refine A_iconst (v := 0) dX2_has_16 (by decide) ?_
      refine A_zret dX2_has_17 (by decide) ?_
      exact ⟨_, rfl, (bz_f (fun z => absurd z.2 (Int32.not_lt.mpr c_9))).symm, rfl⟩
    · refine A_iconst (v := 1) dX2_has_12 (by decide) ?_
      refine A_goto (tgt := 17) dX2_has_13 (by decide) ?_
      refine A_zret dX2_has_17 (by decide) ?_
      exact ⟨_, rfl, (bz_t ⟨Int32.not_lt.mp c_1, Int32.not_le.mp c_9⟩).symm, rfl⟩
set_option maxHeartbeats 100000 in
set_option maxRecDepth 100000 in
theorem T_X2_isWind {l : Launch} {G : Wd} {b : Nat} {μ : Mem} (hb : b < 5) : Mt l G KC yX2_isWind cX2_isWind 2 (some .boolean) 1 [.ref (gA G 4), .int (nI b)] μ (Qi (fun v μ' => v = bz (μ.1 6 b = 3) ∧ μ' = μ)) := by
  refine Mt.of (own := RX2) (n := 0) (by decide) rfl [some (.ref (gA G 4)), some (.int (nI b))] rfl (Nat.le_of_ble_eq_true rfl) ?_
  refine A_aload0 dX2_isWind_0 ?_
  refine A_getR gf_X2_15 rfl dX2_isWind_1 ?_
  refine A_iload1 dX2_isWind_4 ?_
  refine A_iald (rfl) (vp_in_nI (by omega) (by omega)) dX2_isWind_5 ?_
  rw [nI_c (by omega)]
  refine A_iconst (v := 3) dX2_isWind_6 (by decide) ?_
  refine A_icmp_ne (tgt := 14) dX2_isWind_7 (by decide) (fun c_7 => ?_) (fun c_7 => ?_)
  · refine A_iconst (v := 0) dX2_isWind_14 (by decide) ?_
    refine A_zret dX2_isWind_15 (by decide) ?_
    exact ⟨_, rfl, (bz_f (fun z => absurd z (c_7))).symm, rfl⟩
  · refine A_iconst (v := 1) dX2_isWind_10 (by decide) ?_
    refine A_goto (tgt := 15) dX2_isWind_11 (by decide) ?_
    refine A_zret dX2_isWind_15 (by decide) ?_
    exact ⟨_, rfl, (bz_t (c_7)).symm, rfl⟩
set_option maxHeartbeats 100000 in
set_option maxRecDepth 100000 in
theorem T_X2_isOf {l : Launch} {G : Wd} {i : Nat} {k w : Int32} {μ : Mem} (hi : i < 16) : Mt l G KC yX2_isOf cX2_isOf 4 (some .boolean) 1 [.ref (gA G 4), .int (nI i), .int k, .int w] μ (Qi (fun v μ' => v = bz (μ.1 10 i = k ∧ μ.1 11 i = w) ∧ μ' = μ)) := by
  refine Mt.of (own := RX2) (n := 0) (by decide) rfl [some (.ref (gA G 4)), some (.int (nI i)), some (.int k), some (.int w)] rfl (Nat.le_of_ble_eq_true rfl) ?_
  refine A_aload0 dX2_isOf_0 ?_
  refine A_getR gf_X2_28 rfl dX2_isOf_1 ?_
  refine A_iload1 dX2_isOf_4 ?_
  refine A_iald (rfl) (vp_in_nI (by omega) (by omega)) dX2_isOf_5 ?_
  rw [nI_c (by omega)]
  refine A_iload2 dX2_isOf_6 ?_
  refine A_icmp_ne (tgt := 24) dX2_isOf_7 (by decide) (fun c_7 => ?_) (fun c_7 => ?_)
  · refine A_iconst (v := 0) dX2_isOf_24 (by decide) ?_
    refine A_zret dX2_isOf_25 (by decide) ?_
    exact ⟨_, rfl, (bz_f (fun z => absurd z.1 (c_7))).symm, rfl⟩
  · refine A_aload0 dX2_isOf_10 ?_
    refine A_getR gf_X2_31 rfl dX2_isOf_11 ?_
    refine A_iload1 dX2_isOf_14 ?_
    refine A_iald (rfl) (vp_in_nI (by omega) (by omega)) dX2_isOf_15 ?_
    rw [nI_c (by omega)]
    refine A_iload3 dX2_isOf_16 ?_
    refine A_icmp_ne (tgt := 24) dX2_isOf_17 (by decide) (fun c_17 => ?_) (fun c_17 => ?_)
    · refine A_iconst (v := 0) dX2_isOf_24 (by decide) ?_
      refine A_zret dX2_isOf_25 (by decide) ?_
      exact ⟨_, rfl, (bz_f (fun z => absurd z.2 (c_17))).symm, rfl⟩
    · refine A_iconst (v := 1) dX2_isOf_20 (by decide) ?_
      refine A_goto (tgt := 25) dX2_isOf_21 (by decide) ?_
      refine A_zret dX2_isOf_25 (by decide) ?_
      exact ⟨_, rfl, (bz_t ⟨c_7, c_17⟩).symm, rfl⟩
set_option maxHeartbeats 100000 in
set_option maxRecDepth 100000 in
theorem T_X2_low {l : Launch} {G : Wd} {b p : Nat} {μ : Mem} (hb : b < 5) (hp : p < 4) : Mt l G KC yX2_low cX2_low 3 (some .int) 1 [.ref (gA G 4), .int (nI b), .int (nI p)] μ (Qi (fun v μ' => v = μ.1 8 (4 * b + p) ∧ μ' = μ)) := by
  refine Mt.of (own := RX2) (n := 0) (by decide) rfl [some (.ref (gA G 4)), some (.int (nI b)), some (.int (nI p))] rfl (Nat.le_of_ble_eq_true rfl) ?_
  refine A_aload0 dX2_low_0 ?_
  refine A_getR gf_X2_22 rfl dX2_low_1 ?_
  refine A_iload1 dX2_low_4 ?_
  refine A_iconst (v := 4) dX2_low_5 (by decide) ?_
  refine A_imul dX2_low_6 ?_
  refine A_iload2 dX2_low_7 ?_
  refine A_iadd dX2_low_8 ?_
  rw [show nI b * 4 + nI p = nI (4 * b + p) by rw [show (4 : Int32) = nI 4 from rfl, pk_mul, nI_add, Nat.mul_comm]]
  refine A_iald (rfl) (vp_in_nI (by omega) (by omega)) dX2_low_9 ?_
  rw [nI_c (by omega)]
  refine A_iret dX2_low_10 ?_
  exact ⟨_, rfl, rfl, rfl⟩
set_option maxHeartbeats 100000 in
set_option maxRecDepth 100000 in
theorem T_X2_high {l : Launch} {G : Wd} {b p : Nat} {μ : Mem} (hb : b < 5) (hp : p < 4) : Mt l G KC yX2_high cX2_high 3 (some .int) 1 [.ref (gA G 4), .int (nI b), .int (nI p)] μ (Qi (fun v μ' => v = μ.1 9 (4 * b + p) ∧ μ' = μ)) := by
  refine Mt.of (own := RX2) (n := 0) (by decide) rfl [some (.ref (gA G 4)), some (.int (nI b)), some (.int (nI p))] rfl (Nat.le_of_ble_eq_true rfl) ?_
  refine A_aload0 dX2_high_0 ?_
  refine A_getR gf_X2_25 rfl dX2_high_1 ?_
  refine A_iload1 dX2_high_4 ?_
  refine A_iconst (v := 4) dX2_high_5 (by decide) ?_
  refine A_imul dX2_high_6 ?_
  refine A_iload2 dX2_high_7 ?_
  refine A_iadd dX2_high_8 ?_
  rw [show nI b * 4 + nI p = nI (4 * b + p) by rw [show (4 : Int32) = nI 4 from rfl, pk_mul, nI_add, Nat.mul_comm]]
  refine A_iald (rfl) (vp_in_nI (by omega) (by omega)) dX2_high_9 ?_
  rw [nI_c (by omega)]
  refine A_iret dX2_high_10 ?_
  exact ⟨_, rfl, rfl, rfl⟩
set_option maxHeartbeats 100000 in
set_option maxRecDepth 100000 in
theorem T_X11_isSpot {l : Launch} {G : Wd} {b d : Int32} {μ : Mem}  : Mt l G KC yX11_isSpot cX11_isSpot 3 (some .boolean) 2 [.ref (gA G 0), .int b, .int d] μ (Qi (fun v μ' => v = bz (isBc μ b ∧ isDy d) ∧ μ' = μ)) := by
  refine Mt.of (own := RX11) (n := 0) (by decide) rfl [some (.ref (gA G 0)), some (.int b), some (.int d)] rfl (Nat.le_of_ble_eq_true rfl) ?_
  refine A_aload0 dX11_isSpot_0 ?_
  refine A_getR gf_X11_29 rfl dX11_isSpot_1 ?_
  refine A_iload1 dX11_isSpot_4 ?_
  refine A_vi1 lk_X11_296 yv_X2_has dX11_isSpot_5 (rfl) (rfl) (T_X2_has) (by decide) (Nat.le_of_ble_eq_true rfl) (fun r_5 μ_5 h_5 => ?_)
  obtain ⟨v_5, e_5⟩ := h_5
  replace v_5 := Eq.symm v_5
  subst v_5
  replace e_5 := e_5.symm
  subst e_5
  refine A_if_eq (tgt := 22) dX11_isSpot_8 (by decide) (fun c_8 => ?_) (fun c_8 => ?_)
  · refine A_iconst (v := 0) dX11_isSpot_22 (by decide) ?_
    refine A_zret dX11_isSpot_23 (by decide) ?_
    exact ⟨_, rfl, (bz_f (fun z => absurd z.1 (bz_0.mp c_8))).symm, rfl⟩
  · refine A_iload2 dX11_isSpot_11 ?_
    refine A_si1 lk_X11_159 ys_X11_isDay dX11_isSpot_12 (T_X11_isDay) (by decide) (Nat.le_of_ble_eq_true rfl) (fun r_12 μ_12 h_12 => ?_)
    obtain ⟨v_12, e_12⟩ := h_12
    replace v_12 := Eq.symm v_12
    subst v_12
    replace e_12 := e_12.symm
    subst e_12
    refine A_if_eq (tgt := 22) dX11_isSpot_15 (by decide) (fun c_15 => ?_) (fun c_15 => ?_)
    · refine A_iconst (v := 0) dX11_isSpot_22 (by decide) ?_
      refine A_zret dX11_isSpot_23 (by decide) ?_
      exact ⟨_, rfl, (bz_f (fun z => absurd z.2 (bz_0.mp c_15))).symm, rfl⟩
    · refine A_iconst (v := 1) dX11_isSpot_18 (by decide) ?_
      refine A_goto (tgt := 23) dX11_isSpot_19 (by decide) ?_
      refine A_zret dX11_isSpot_23 (by decide) ?_
      exact ⟨_, rfl, (bz_t ⟨bz_y c_8, bz_y c_15⟩).symm, rfl⟩
set_option maxHeartbeats 100000 in
set_option maxRecDepth 100000 in
theorem T_X11_isRange {l : Launch} {G : Wd} {b f t : Int32} {μ : Mem}  : Mt l G KC yX11_isRange cX11_isRange 4 (some .boolean) 2 [.ref (gA G 0), .int b, .int f, .int t] μ (Qi (fun v μ' => v = bz (isBc μ b ∧ isDy f ∧ isDy t ∧ f ≤ t) ∧ μ' = μ)) := by
  refine Mt.of (own := RX11) (n := 0) (by decide) rfl [some (.ref (gA G 0)), some (.int b), some (.int f), some (.int t)] rfl (Nat.le_of_ble_eq_true rfl) ?_
  refine A_aload0 dX11_isRange_0 ?_
  refine A_getR gf_X11_29 rfl dX11_isRange_1 ?_
  refine A_iload1 dX11_isRange_4 ?_
  refine A_vi1 lk_X11_296 yv_X2_has dX11_isRange_5 (rfl) (rfl) (T_X2_has) (by decide) (Nat.le_of_ble_eq_true rfl) (fun r_5 μ_5 h_5 => ?_)
  obtain ⟨v_5, e_5⟩ := h_5
  replace v_5 := Eq.symm v_5
  subst v_5
  replace e_5 := e_5.symm
  subst e_5
  refine A_if_eq (tgt := 34) dX11_isRange_8 (by decide) (fun c_8 => ?_) (fun c_8 => ?_)
  · refine A_iconst (v := 0) dX11_isRange_34 (by decide) ?_
    refine A_zret dX11_isRange_35 (by decide) ?_
    exact ⟨_, rfl, (bz_f (fun z => absurd z.1 (bz_0.mp c_8))).symm, rfl⟩
  · refine A_iload2 dX11_isRange_11 ?_
    refine A_si1 lk_X11_159 ys_X11_isDay dX11_isRange_12 (T_X11_isDay) (by decide) (Nat.le_of_ble_eq_true rfl) (fun r_12 μ_12 h_12 => ?_)
    obtain ⟨v_12, e_12⟩ := h_12
    replace v_12 := Eq.symm v_12
    subst v_12
    replace e_12 := e_12.symm
    subst e_12
    refine A_if_eq (tgt := 34) dX11_isRange_15 (by decide) (fun c_15 => ?_) (fun c_15 => ?_)
    · refine A_iconst (v := 0) dX11_isRange_34 (by decide) ?_
      refine A_zret dX11_isRange_35 (by decide) ?_
      exact ⟨_, rfl, (bz_f (fun z => absurd z.2.1 (bz_0.mp c_15))).symm, rfl⟩
    · refine A_iload3 dX11_isRange_18 ?_
      refine A_si1 lk_X11_159 ys_X11_isDay dX11_isRange_19 (T_X11_isDay) (by decide) (Nat.le_of_ble_eq_true rfl) (fun r_19 μ_19 h_19 => ?_)
      obtain ⟨v_19, e_19⟩ := h_19
      replace v_19 := Eq.symm v_19
      subst v_19
      replace e_19 := e_19.symm
      subst e_19
      refine A_if_eq (tgt := 34) dX11_isRange_22 (by decide) (fun c_22 => ?_) (fun c_22 => ?_)
      · refine A_iconst (v := 0) dX11_isRange_34 (by decide) ?_
        refine A_zret dX11_isRange_35 (by decide) ?_
        exact ⟨_, rfl, (bz_f (fun z => absurd z.2.2.1 (bz_0.mp c_22))).symm, rfl⟩
      · refine A_iload2 dX11_isRange_25 ?_
        refine A_iload3 dX11_isRange_26 ?_
        refine A_icmp_gt (tgt := 34) dX11_isRange_27 (by decide) (fun c_27 => ?_) (fun c_27 => ?_)
        · refine A_iconst (v := 0) dX11_isRange_34 (by decide) ?_
          refine A_zret dX11_isRange_35 (by decide) ?_
          exact ⟨_, rfl, (bz_f (fun z => absurd z.2.2.2 (Int32.not_le.mpr c_27))).symm, rfl⟩
        · refine A_iconst (v := 1) dX11_isRange_30 (by decide) ?_
          refine A_goto (tgt := 35) dX11_isRange_31 (by decide) ?_
          refine A_zret dX11_isRange_35 (by decide) ?_
          exact ⟨_, rfl, (bz_t ⟨bz_y c_8, bz_y c_15, bz_y c_22, Int32.not_lt.mp c_27⟩).symm, rfl⟩
/-- a line of a kind and a box that holds a day -/
abbrev lnP (μ : Mem) (k w d : Int32) (i : Nat) : Prop := μ.1 10 i = k ∧ μ.1 11 i = w ∧ μ.1 12 i ≤ d ∧ d ≤ μ.1 13 i
def wthN (μ : Mem) : Nat := (μ.1 4 1).toNatClampNeg
def wth (μ : Mem) (k w d : Int32) : Prop := ∃ i, i < wthN μ ∧ lnP μ k w d i
def WFln (μ : Mem) : Prop := wthN μ ≤ 16 ∧ μ.1 4 1 = nI (wthN μ)
set_option maxHeartbeats 200000 in
set_option maxRecDepth 100000 in
theorem L_X2_isWithin {l : Launch} {G : Wd} {μ : Mem} {k w d : Int32} (hn : wthN μ ≤ 16) (hl : μ.1 4 1 = nI (wthN μ)) : ∀ (q i : Nat), q + i = wthN μ → (∀ j, j < i → ¬ lnP μ k w d j) → AW l G KC RX2 cX2_isWithin 5 2 (some .boolean) (Qi (fun v μ' => ((v = 1 ∧ wth μ k w d) ∨ (v = 0 ∧ ¬ wth μ k w d)) ∧ μ' = μ)) 3 [some (.ref (gA G 4)), some (.int k), some (.int w), some (.int d), some (.int (nI i))] [] μ := by
  intro q
  induction q with
  | zero =>
    intro i hq hj
    refine A_iload4 dX2_isWithin_3 ?_
    refine A_aload0 dX2_isWithin_5 ?_
    refine A_getI gf_X2_44 rfl dX2_isWithin_6 ?_
    rw [hl]
    refine A_icmp_ge (tgt := 53) dX2_isWithin_9 (by decide) (fun c_9 => ?_) (fun c_9 => absurd c_9 (fun z => z (nI_le (by omega) (by omega))))
    refine A_iconst (v := 0) dX2_isWithin_53 (by decide) ?_
    refine A_zret dX2_isWithin_54 (by decide) ?_
    refine ⟨_, rfl, Or.inr ⟨rfl, ?_⟩, rfl⟩
    rintro ⟨j, h1, h2⟩
    exact hj j (by omega) h2
  | succ q ih =>
    intro i hq hj
    refine A_iload4 dX2_isWithin_3 ?_
    refine A_aload0 dX2_isWithin_5 ?_
    refine A_getI gf_X2_44 rfl dX2_isWithin_6 ?_
    rw [hl]
    refine A_icmp_ge (tgt := 53) dX2_isWithin_9 (by decide) (fun c_9 => absurd c_9 (fun z => nI_ge (by omega) (by omega) z)) (fun c_9 => ?_)
    refine A_aload0 dX2_isWithin_12 ?_
    refine A_iload4 dX2_isWithin_13 ?_
    refine A_iload1 dX2_isWithin_15 ?_
    refine A_iload2 dX2_isWithin_16 ?_
    refine A_vi3 lk_X2_69 yv_X2_isOf dX2_isWithin_17 (rfl) (rfl) (T_X2_isOf (by omega)) (by decide) (Nat.le_of_ble_eq_true rfl) (fun r_17 μ_17 h_17 => ?_)
    obtain ⟨v_17, e_17⟩ := h_17
    replace v_17 := Eq.symm v_17
    subst v_17
    replace e_17 := e_17.symm
    subst e_17
    refine A_if_eq (tgt := 47) dX2_isWithin_20 (by decide) (fun c_20 => ?_) (fun c_20 => ?_)
    · refine A_iinc4 dX2_isWithin_47 rfl rfl (by decide) ?_
      refine A_goto (tgt := 3) dX2_isWithin_50 (by decide) ?_
      rw [show nI i + Int32.ofInt 1 = nI (i + 1) from nI_1 i]
      refine ih (i + 1) (by omega) (fun j h => ?_)
      by_cases e : j = i
      · subst e; exact fun z => bz_0.mp c_20 ⟨z.1, z.2.1⟩
      · exact hj j (by omega)
    · refine A_aload0 dX2_isWithin_23 ?_
      refine A_getR gf_X2_34 rfl dX2_isWithin_24 ?_
      refine A_iload4 dX2_isWithin_27 ?_
      refine A_iald (rfl) (vp_in_nI (by omega) (by omega)) dX2_isWithin_29 ?_
      rw [nI_c (by omega)]
      refine A_iload3 dX2_isWithin_30 ?_
      refine A_icmp_gt (tgt := 47) dX2_isWithin_31 (by decide) (fun c_31 => ?_) (fun c_31 => ?_)
      · refine A_iinc4 dX2_isWithin_47 rfl rfl (by decide) ?_
        refine A_goto (tgt := 3) dX2_isWithin_50 (by decide) ?_
        rw [show nI i + Int32.ofInt 1 = nI (i + 1) from nI_1 i]
        refine ih (i + 1) (by omega) (fun j h => ?_)
        by_cases e : j = i
        · subst e; exact fun z => absurd z.2.2.1 (Int32.not_le.mpr c_31)
        · exact hj j (by omega)
      · refine A_iload3 dX2_isWithin_34 ?_
        refine A_aload0 dX2_isWithin_35 ?_
        refine A_getR gf_X2_37 rfl dX2_isWithin_36 ?_
        refine A_iload4 dX2_isWithin_39 ?_
        refine A_iald (rfl) (vp_in_nI (by omega) (by omega)) dX2_isWithin_41 ?_
        rw [nI_c (by omega)]
        refine A_icmp_gt (tgt := 47) dX2_isWithin_42 (by decide) (fun c_42 => ?_) (fun c_42 => ?_)
        · refine A_iinc4 dX2_isWithin_47 rfl rfl (by decide) ?_
          refine A_goto (tgt := 3) dX2_isWithin_50 (by decide) ?_
          rw [show nI i + Int32.ofInt 1 = nI (i + 1) from nI_1 i]
          refine ih (i + 1) (by omega) (fun j h => ?_)
          by_cases e : j = i
          · subst e; exact fun z => absurd z.2.2.2 (Int32.not_le.mpr c_42)
          · exact hj j (by omega)
        · refine A_iconst (v := 1) dX2_isWithin_45 (by decide) ?_
          refine A_zret dX2_isWithin_46 (by decide) ?_
          exact ⟨_, rfl, Or.inl ⟨rfl, i, by omega, (bz_y c_20).1, (bz_y c_20).2, Int32.not_lt.mp c_31, Int32.not_lt.mp c_42⟩, rfl⟩
set_option maxHeartbeats 100000 in
set_option maxRecDepth 100000 in
theorem T_X2_isWithin {l : Launch} {G : Wd} {k w d : Int32} {μ : Mem} (hw : WFln μ) : Mt l G KC yX2_isWithin cX2_isWithin 5 (some .boolean) 2 [.ref (gA G 4), .int k, .int w, .int d] μ (Qi (fun v μ' => ((v = 1 ∧ wth μ k w d) ∨ (v = 0 ∧ ¬ wth μ k w d)) ∧ μ' = μ)) := by
  refine Mt.of (own := RX2) (n := 1) (by decide) rfl [some (.ref (gA G 4)), some (.int k), some (.int w), some (.int d), none] rfl (Nat.le_of_ble_eq_true rfl) ?_
  refine A_iconst (v := 0) dX2_isWithin_0 (by decide) ?_
  refine A_istore4 dX2_isWithin_1 rfl (by decide) ?_
  exact L_X2_isWithin hw.1 hw.2 (wthN μ) 0 (by omega) (fun j h => absurd h (by omega))
set_option maxHeartbeats 100000 in
set_option maxRecDepth 100000 in
theorem T_X2_canRead {l : Launch} {G : Wd} {b d : Int32} {μ : Mem} (hw : WFln μ) : Mt l G KC yX2_canRead cX2_canRead 3 (some .boolean) 3 [.ref (gA G 4), .int b, .int d] μ (Qi (fun v μ' => ((v = 1 ∧ ¬ wth μ 143 (-1) d ∧ ¬ wth μ 142 b d) ∨ (v = 0 ∧ (wth μ 143 (-1) d ∨ wth μ 142 b d))) ∧ μ' = μ)) := by
  refine Mt.of (own := RX2) (n := 0) (by decide) rfl [some (.ref (gA G 4)), some (.int b), some (.int d)] rfl (Nat.le_of_ble_eq_true rfl) ?_
  refine A_aload0 dX2_canRead_0 ?_
  refine A_sipush (v := 143) dX2_canRead_1 (by decide) ?_
  refine A_iconst (v := -1) dX2_canRead_4 (by decide) ?_
  refine A_iload2 dX2_canRead_5 ?_
  refine A_vi3 lk_X2_76 yv_X2_isWithin dX2_canRead_6 (rfl) (rfl) (T_X2_isWithin hw) (by decide) (Nat.le_of_ble_eq_true rfl) (fun r_6 μ_6 h_6 => ?_)
  obtain ⟨v_6, e_6⟩ := h_6
  replace e_6 := Eq.symm e_6
  subst e_6
  refine A_if_ne (tgt := 28) dX2_canRead_9 (by decide) (fun c_9 => ?_) (fun c_9 => ?_)
  · refine A_iconst (v := 0) dX2_canRead_28 (by decide) ?_
    refine A_zret dX2_canRead_29 (by decide) ?_
    refine ⟨_, rfl, ?_, rfl⟩
    rcases v_6 with y | y
    · exact Or.inr ⟨rfl, Or.inl y.2⟩
    · exact absurd y.1 c_9
  · refine A_aload0 dX2_canRead_12 ?_
    refine A_sipush (v := 142) dX2_canRead_13 (by decide) ?_
    refine A_iload1 dX2_canRead_16 ?_
    refine A_iload2 dX2_canRead_17 ?_
    refine A_vi3 lk_X2_76 yv_X2_isWithin dX2_canRead_18 (rfl) (rfl) (T_X2_isWithin hw) (by decide) (Nat.le_of_ble_eq_true rfl) (fun r_18 μ_18 h_18 => ?_)
    obtain ⟨v_18, e_18⟩ := h_18
    replace e_18 := Eq.symm e_18
    subst e_18
    refine A_if_ne (tgt := 28) dX2_canRead_21 (by decide) (fun c_21 => ?_) (fun c_21 => ?_)
    · refine A_iconst (v := 0) dX2_canRead_28 (by decide) ?_
      refine A_zret dX2_canRead_29 (by decide) ?_
      refine ⟨_, rfl, ?_, rfl⟩
      rcases v_18 with y | y
      · exact Or.inr ⟨rfl, Or.inr y.2⟩
      · exact absurd y.1 c_21
    · refine A_iconst (v := 1) dX2_canRead_24 (by decide) ?_
      refine A_goto (tgt := 29) dX2_canRead_25 (by decide) ?_
      refine A_zret dX2_canRead_29 (by decide) ?_
      refine ⟨_, rfl, ?_, rfl⟩
      rcases v_6 with y | y
      · exact absurd (y.1.symm.trans c_9) (by decide)
      · rcases v_18 with x | x
        · exact absurd (x.1.symm.trans c_21) (by decide)
        · exact Or.inl ⟨rfl, y.2, x.2⟩
set_option maxHeartbeats 100000 in
set_option maxRecDepth 100000 in
theorem T_X2_isMade {l : Launch} {G : Wd} {d : Int32} {μ : Mem} (hw : WFln μ) : Mt l G KC yX2_isMade cX2_isMade 2 (some .boolean) 3 [.ref (gA G 4), .int d] μ (Qi (fun v μ' => ((v = 1 ∧ wth μ 144 (-1) d) ∨ (v = 0 ∧ ¬ wth μ 144 (-1) d)) ∧ μ' = μ)) := by
  refine Mt.of (own := RX2) (n := 0) (by decide) rfl [some (.ref (gA G 4)), some (.int d)] rfl (Nat.le_of_ble_eq_true rfl) ?_
  refine A_aload0 dX2_isMade_0 ?_
  refine A_sipush (v := 144) dX2_isMade_1 (by decide) ?_
  refine A_iconst (v := -1) dX2_isMade_4 (by decide) ?_
  refine A_iload1 dX2_isMade_5 ?_
  refine A_vi3 lk_X2_76 yv_X2_isWithin dX2_isMade_6 (rfl) (rfl) (T_X2_isWithin hw) (by decide) (Nat.le_of_ble_eq_true rfl) (fun r_6 μ_6 h_6 => ?_)
  obtain ⟨v_6, e_6⟩ := h_6
  replace e_6 := Eq.symm e_6
  subst e_6
  refine A_zret dX2_isMade_9 (by rcases v_6 with y | y; exact Or.inr y.1; exact Or.inl y.1) ?_
  exact ⟨_, rfl, v_6, rfl⟩
/-! facts -/
abbrev fsh (μ : Mem) (d : Nat) : Prop := ((μ.2.1 36 3).toUInt64 >>> ((nI d).toInt64.toUInt64 &&& Int64.toUInt64 63)).toInt64 &&& 1 = 1
abbrev fdb (μ : Mem) (r : Nat) : Prop := ((μ.1 36 4).toUInt32 >>> ((nI r).toUInt32 &&& Int32.toUInt32 31)).toInt32 &&& 1 = 1
def ssM (μ : Mem) (d : Nat) : Mem := wI (wL μ 36 3 (μ.2.1 36 3 ^^^ (1 <<< ((nI d).toInt64 &&& 63)))) 36 2 (μ.1 36 2 + 1)
def sdM (μ : Mem) (r : Nat) : Mem := wI (wI μ 36 4 (μ.1 36 4 ^^^ (1 <<< (nI r &&& 31)))) 36 2 (μ.1 36 2 + 1)
def tlM (μ : Mem) (n : Nat) (s d r x : Int32) : Mem := wI (wI (wI (wI (wI (wI (wI (wI μ 37 n s) 38 n d) 39 n r) 40 n x) 41 n (μ.1 36 1)) 42 n (-1)) 36 0 (nI (n + 1))) 36 2 (μ.1 36 2 + 1)
set_option maxHeartbeats 100000 in
set_option maxRecDepth 100000 in
theorem T_X1_isShared {l : Launch} {G : Wd} {d : Nat} {μ : Mem}  : Mt l G KC yX1_isShared cX1_isShared 2 (some .boolean) 1 [.ref (gA G 36), .int (nI d)] μ (Qi (fun v μ' => v = bz (fsh μ d) ∧ μ' = μ)) := by
  refine Mt.of (own := RX1) (n := 0) (by decide) rfl [some (.ref (gA G 36)), some (.int (nI d))] rfl (Nat.le_of_ble_eq_true rfl) ?_
  refine A_aload0 dX1_isShared_0 ?_
  refine A_getL gf_X1_32 rfl dX1_isShared_1 ?_
  refine A_iload1 dX1_isShared_4 ?_
  refine A_lushr dX1_isShared_5 ?_
  refine A_lconst (v := 1) dX1_isShared_6 (by decide) ?_
  refine A_land dX1_isShared_7 ?_
  refine A_lconst (v := 1) dX1_isShared_8 (by decide) ?_
  refine A_lcmp dX1_isShared_9 ?_
  refine A_if_ne (tgt := 17) dX1_isShared_10 (by decide) (fun c_10 => ?_) (fun c_10 => ?_)
  · refine A_iconst (v := 0) dX1_isShared_17 (by decide) ?_
    refine A_zret dX1_isShared_18 (by decide) ?_
    exact ⟨_, rfl, (bz_f (fun z => absurd z (fun y => c_10 (lg_0.mpr y)))).symm, rfl⟩
  · refine A_iconst (v := 1) dX1_isShared_13 (by decide) ?_
    refine A_goto (tgt := 18) dX1_isShared_14 (by decide) ?_
    refine A_zret dX1_isShared_18 (by decide) ?_
    exact ⟨_, rfl, (bz_t (lg_0.mp c_10)).symm, rfl⟩
set_option maxHeartbeats 100000 in
set_option maxRecDepth 100000 in
theorem T_X1_isDoubted {l : Launch} {G : Wd} {r : Nat} {μ : Mem}  : Mt l G KC yX1_isDoubted cX1_isDoubted 2 (some .boolean) 1 [.ref (gA G 36), .int (nI r)] μ (Qi (fun v μ' => v = bz (fdb μ r) ∧ μ' = μ)) := by
  refine Mt.of (own := RX1) (n := 0) (by decide) rfl [some (.ref (gA G 36)), some (.int (nI r))] rfl (Nat.le_of_ble_eq_true rfl) ?_
  refine A_aload0 dX1_isDoubted_0 ?_
  refine A_getI gf_X1_36 rfl dX1_isDoubted_1 ?_
  refine A_iload1 dX1_isDoubted_4 ?_
  refine A_iushr dX1_isDoubted_5 ?_
  refine A_iconst (v := 1) dX1_isDoubted_6 (by decide) ?_
  refine A_iand dX1_isDoubted_7 ?_
  refine A_iconst (v := 1) dX1_isDoubted_8 (by decide) ?_
  refine A_icmp_ne (tgt := 16) dX1_isDoubted_9 (by decide) (fun c_9 => ?_) (fun c_9 => ?_)
  · refine A_iconst (v := 0) dX1_isDoubted_16 (by decide) ?_
    refine A_zret dX1_isDoubted_17 (by decide) ?_
    exact ⟨_, rfl, (bz_f (fun z => absurd z (c_9))).symm, rfl⟩
  · refine A_iconst (v := 1) dX1_isDoubted_12 (by decide) ?_
    refine A_goto (tgt := 17) dX1_isDoubted_13 (by decide) ?_
    refine A_zret dX1_isDoubted_17 (by decide) ?_
    exact ⟨_, rfl, (bz_t (c_9)).symm, rfl⟩
set_option maxHeartbeats 100000 in
set_option maxRecDepth 100000 in
theorem T_X1_setShared {l : Launch} {G : Wd} {d : Nat} {z : Int32} {μ : Mem}  : Mt l G KC yX1_setShared cX1_setShared 3 (some .boolean) 2 [.ref (gA G 36), .int (nI d), .int z] μ (Qi (fun v μ' => (v = 0 ∧ bz (fsh μ d) = z ∧ μ' = μ) ∨ (v = 1 ∧ ¬ bz (fsh μ d) = z ∧ μ' = ssM μ d))) := by
  refine Mt.of (own := RX1) (n := 0) (by decide) rfl [some (.ref (gA G 36)), some (.int (nI d)), some (.int z)] rfl (Nat.le_of_ble_eq_true rfl) ?_
  refine A_aload0 dX1_setShared_0 ?_
  refine A_iload1 dX1_setShared_1 ?_
  refine A_vi1 lk_X1_48 yv_X1_isShared dX1_setShared_2 (rfl) (rfl) (T_X1_isShared) (by decide) (Nat.le_of_ble_eq_true rfl) (fun r_2 μ_2 h_2 => ?_)
  obtain ⟨v_2, e_2⟩ := h_2
  replace v_2 := Eq.symm v_2
  subst v_2
  replace e_2 := e_2.symm
  subst e_2
  refine A_iload2 dX1_setShared_5 ?_
  refine A_icmp_ne (tgt := 11) dX1_setShared_6 (by decide) (fun c_6 => ?_) (fun c_6 => ?_)
  · refine A_aload0 dX1_setShared_11 ?_
    refine A_dup dX1_setShared_12 rfl ?_
    refine A_getL gf_X1_32 rfl dX1_setShared_13 ?_
    refine A_lconst (v := 1) dX1_setShared_16 (by decide) ?_
    refine A_iload1 dX1_setShared_17 ?_
    refine A_lshl dX1_setShared_18 ?_
    refine A_lxor dX1_setShared_19 ?_
    refine A_putL gf_X1_32 rfl dX1_setShared_20 ?_
    refine A_aload0 dX1_setShared_23 ?_
    refine A_dup dX1_setShared_24 rfl ?_
    refine A_getI gf_X1_39 rfl dX1_setShared_25 ?_
    refine A_iconst (v := 1) dX1_setShared_28 (by decide) ?_
    refine A_iadd dX1_setShared_29 ?_
    refine A_putI gf_X1_39 rfl dX1_setShared_30 ?_
    refine A_iconst (v := 1) dX1_setShared_33 (by decide) ?_
    refine A_zret dX1_setShared_34 (by decide) ?_
    exact ⟨_, rfl, Or.inr ⟨rfl, c_6, rfl⟩⟩
  · refine A_iconst (v := 0) dX1_setShared_9 (by decide) ?_
    refine A_zret dX1_setShared_10 (by decide) ?_
    exact ⟨_, rfl, Or.inl ⟨rfl, c_6, rfl⟩⟩
set_option maxHeartbeats 100000 in
set_option maxRecDepth 100000 in
theorem T_X1_setDoubted {l : Launch} {G : Wd} {r : Nat} {z : Int32} {μ : Mem}  : Mt l G KC yX1_setDoubted cX1_setDoubted 3 (some .boolean) 2 [.ref (gA G 36), .int (nI r), .int z] μ (Qi (fun v μ' => (v = 0 ∧ bz (fdb μ r) = z ∧ μ' = μ) ∨ (v = 1 ∧ ¬ bz (fdb μ r) = z ∧ μ' = sdM μ r))) := by
  refine Mt.of (own := RX1) (n := 0) (by decide) rfl [some (.ref (gA G 36)), some (.int (nI r)), some (.int z)] rfl (Nat.le_of_ble_eq_true rfl) ?_
  refine A_aload0 dX1_setDoubted_0 ?_
  refine A_iload1 dX1_setDoubted_1 ?_
  refine A_vi1 lk_X1_52 yv_X1_isDoubted dX1_setDoubted_2 (rfl) (rfl) (T_X1_isDoubted) (by decide) (Nat.le_of_ble_eq_true rfl) (fun r_2 μ_2 h_2 => ?_)
  obtain ⟨v_2, e_2⟩ := h_2
  replace v_2 := Eq.symm v_2
  subst v_2
  replace e_2 := e_2.symm
  subst e_2
  refine A_iload2 dX1_setDoubted_5 ?_
  refine A_icmp_ne (tgt := 11) dX1_setDoubted_6 (by decide) (fun c_6 => ?_) (fun c_6 => ?_)
  · refine A_aload0 dX1_setDoubted_11 ?_
    refine A_dup dX1_setDoubted_12 rfl ?_
    refine A_getI gf_X1_36 rfl dX1_setDoubted_13 ?_
    refine A_iconst (v := 1) dX1_setDoubted_16 (by decide) ?_
    refine A_iload1 dX1_setDoubted_17 ?_
    refine A_ishl dX1_setDoubted_18 ?_
    refine A_ixor dX1_setDoubted_19 ?_
    refine A_putI gf_X1_36 rfl dX1_setDoubted_20 ?_
    refine A_aload0 dX1_setDoubted_23 ?_
    refine A_dup dX1_setDoubted_24 rfl ?_
    refine A_getI gf_X1_39 rfl dX1_setDoubted_25 ?_
    rw [wI_ne (Or.inr (by decide))]
    refine A_iconst (v := 1) dX1_setDoubted_28 (by decide) ?_
    refine A_iadd dX1_setDoubted_29 ?_
    refine A_putI gf_X1_39 rfl dX1_setDoubted_30 ?_
    refine A_iconst (v := 1) dX1_setDoubted_33 (by decide) ?_
    refine A_zret dX1_setDoubted_34 (by decide) ?_
    exact ⟨_, rfl, Or.inr ⟨rfl, c_6, rfl⟩⟩
  · refine A_iconst (v := 0) dX1_setDoubted_9 (by decide) ?_
    refine A_zret dX1_setDoubted_10 (by decide) ?_
    exact ⟨_, rfl, Or.inl ⟨rfl, c_6, rfl⟩⟩
set_option maxHeartbeats 100000 in
set_option maxRecDepth 100000 in
theorem T_X1_tell {l : Launch} {G : Wd} {n : Nat} {s d r x : Int32} {μ : Mem} (hn : μ.1 36 0 = nI n) (h3 : n ≤ 300) : Mt l G KC yX1_tell cX1_tell 6 (some .int) 1 [.ref (gA G 36), .int s, .int d, .int r, .int x] μ (Qi (fun v μ' => (v = -1 ∧ n = 300 ∧ μ' = μ) ∨ (v = nI n ∧ n < 300 ∧ μ' = tlM μ n s d r x))) := by
  refine Mt.of (own := RX1) (n := 1) (by decide) rfl [some (.ref (gA G 36)), some (.int s), some (.int d), some (.int r), some (.int x), none] rfl (Nat.le_of_ble_eq_true rfl) ?_
  refine A_aload0 dX1_tell_0 ?_
  refine A_getI gf_X1_28 rfl dX1_tell_1 ?_
  refine A_sipush (v := 300) dX1_tell_4 (by decide) ?_
  refine A_icmp_lt (tgt := 12) dX1_tell_7 (by decide) (fun c_7 => ?_) (fun c_7 => ?_)
  · have e3 : n < 300 := (nI_ltI (a := n) (b := 300) (by omega) (by decide)).mp (hn ▸ c_7)
    refine A_aload0 dX1_tell_12 ?_
    refine A_getI gf_X1_28 rfl dX1_tell_13 ?_
    rw [hn]
    refine A_istore5 dX1_tell_16 rfl (by decide) ?_
    refine A_aload0 dX1_tell_18 ?_
    refine A_getR gf_X1_9 rfl dX1_tell_19 ?_
    refine A_iload5 dX1_tell_22 ?_
    refine A_iload1 dX1_tell_24 ?_
    refine A_iast (rfl) (vp_in_nI (by omega) (by omega)) dX1_tell_25 ?_
    rw [nI_c (by omega)]
    refine A_aload0 dX1_tell_26 ?_
    refine A_getR gf_X1_13 rfl dX1_tell_27 ?_
    refine A_iload5 dX1_tell_30 ?_
    refine A_iload2 dX1_tell_32 ?_
    refine A_iast (rfl) (vp_in_nI (by omega) (by omega)) dX1_tell_33 ?_
    rw [nI_c (by omega)]
    refine A_aload0 dX1_tell_34 ?_
    refine A_getR gf_X1_16 rfl dX1_tell_35 ?_
    refine A_iload5 dX1_tell_38 ?_
    refine A_iload3 dX1_tell_40 ?_
    refine A_iast (rfl) (vp_in_nI (by omega) (by omega)) dX1_tell_41 ?_
    rw [nI_c (by omega)]
    refine A_aload0 dX1_tell_42 ?_
    refine A_getR gf_X1_19 rfl dX1_tell_43 ?_
    refine A_iload5 dX1_tell_46 ?_
    refine A_iload4 dX1_tell_48 ?_
    refine A_iast (rfl) (vp_in_nI (by omega) (by omega)) dX1_tell_50 ?_
    rw [nI_c (by omega)]
    refine A_aload0 dX1_tell_51 ?_
    refine A_getR gf_X1_22 rfl dX1_tell_52 ?_
    refine A_iload5 dX1_tell_55 ?_
    refine A_aload0 dX1_tell_57 ?_
    refine A_getI gf_X1_44 rfl dX1_tell_58 ?_
    rw [wI_ne (by omega), wI_ne (by omega), wI_ne (by omega), wI_ne (by omega)]
    refine A_iast (rfl) (vp_in_nI (by omega) (by omega)) dX1_tell_61 ?_
    rw [nI_c (by omega)]
    refine A_aload0 dX1_tell_62 ?_
    refine A_getR gf_X1_25 rfl dX1_tell_63 ?_
    refine A_iload5 dX1_tell_66 ?_
    refine A_iconst (v := -1) dX1_tell_68 (by decide) ?_
    refine A_iast (rfl) (vp_in_nI (by omega) (by omega)) dX1_tell_69 ?_
    rw [nI_c (by omega)]
    refine A_aload0 dX1_tell_70 ?_
    refine A_dup dX1_tell_71 rfl ?_
    refine A_getI gf_X1_28 rfl dX1_tell_72 ?_
    rw [wI_ne (by omega), wI_ne (by omega), wI_ne (by omega), wI_ne (by omega), wI_ne (by omega), wI_ne (by omega)]
    rw [hn]
    refine A_iconst (v := 1) dX1_tell_75 (by decide) ?_
    refine A_iadd dX1_tell_76 ?_
    rw [nI_1]
    refine A_putI gf_X1_28 rfl dX1_tell_77 ?_
    refine A_aload0 dX1_tell_80 ?_
    refine A_dup dX1_tell_81 rfl ?_
    refine A_getI gf_X1_39 rfl dX1_tell_82 ?_
    rw [wI_ne (by omega), wI_ne (by omega), wI_ne (by omega), wI_ne (by omega), wI_ne (by omega), wI_ne (by omega), wI_ne (by omega)]
    refine A_iconst (v := 1) dX1_tell_85 (by decide) ?_
    refine A_iadd dX1_tell_86 ?_
    refine A_putI gf_X1_39 rfl dX1_tell_87 ?_
    refine A_iload5 dX1_tell_90 ?_
    refine A_iret dX1_tell_92 ?_
    exact ⟨_, rfl, Or.inr ⟨rfl, e3, rfl⟩⟩
  · have e3 : n = 300 := by rcases Nat.lt_or_ge n 300 with z | z; exact absurd (nI_lt z (by omega)) (hn ▸ c_7); omega
    refine A_iconst (v := -1) dX1_tell_10 (by decide) ?_
    refine A_iret dX1_tell_11 ?_
    exact ⟨_, rfl, Or.inl ⟨rfl, e3, rfl⟩⟩
def tbM (μ : Mem) (f : Nat) : Mem := wI (wI μ 42 f (μ.1 36 1)) 36 2 (μ.1 36 2 + 1)
set_option maxHeartbeats 100000 in
set_option maxRecDepth 100000 in
theorem T_X1_takeBack {l : Launch} {G : Wd} {n : Nat} {f : Int32} {μ : Mem} (hn : μ.1 36 0 = nI n) (h3 : n ≤ 300) : Mt l G KC yX1_takeBack cX1_takeBack 2 (some .boolean) 1 [.ref (gA G 36), .int f] μ (Qi (fun v μ' => (v = 0 ∧ ¬ (0 ≤ f ∧ f < μ.1 36 0 ∧ μ.1 42 f.toNatClampNeg = -1) ∧ μ' = μ) ∨ (v = 1 ∧ (0 ≤ f ∧ f < μ.1 36 0 ∧ μ.1 42 f.toNatClampNeg = -1) ∧ μ' = tbM μ f.toNatClampNeg))) := by
  refine Mt.of (own := RX1) (n := 0) (by decide) rfl [some (.ref (gA G 36)), some (.int f)] rfl (Nat.le_of_ble_eq_true rfl) ?_
  refine A_iload1 dX1_takeBack_0 ?_
  refine A_if_lt (tgt := 22) dX1_takeBack_1 (by decide) (fun c_1 => ?_) (fun c_1 => ?_)
  · refine A_iconst (v := 0) dX1_takeBack_22 (by decide) ?_
    refine A_zret dX1_takeBack_23 (by decide) ?_
    refine ⟨_, rfl, Or.inl ⟨rfl, fun z => absurd z.1 (Int32.not_le.mpr c_1), rfl⟩⟩
  · refine A_iload1 dX1_takeBack_4 ?_
    refine A_aload0 dX1_takeBack_5 ?_
    refine A_getI gf_X1_28 rfl dX1_takeBack_6 ?_
    refine A_icmp_ge (tgt := 22) dX1_takeBack_9 (by decide) (fun c_9 => ?_) (fun c_9 => ?_)
    · refine A_iconst (v := 0) dX1_takeBack_22 (by decide) ?_
      refine A_zret dX1_takeBack_23 (by decide) ?_
      refine ⟨_, rfl, Or.inl ⟨rfl, fun z => absurd z.2.1 (Int32.not_lt.mpr c_9), rfl⟩⟩
    · obtain ⟨j, hj, ej⟩ := nI_rng (n := n) (Int32.not_lt.mp c_1) (hn ▸ Int32.not_le.mp c_9) (by omega)
      have hin : vp_in f 300 := by rw [ej]; exact vp_in_nI (by omega) (by omega)
      refine A_aload0 dX1_takeBack_12 ?_
      refine A_getR gf_X1_25 rfl dX1_takeBack_13 ?_
      refine A_iload1 dX1_takeBack_16 ?_
      refine A_iald (rfl) (hin) dX1_takeBack_17 ?_
      refine A_iconst (v := -1) dX1_takeBack_18 (by decide) ?_
      refine A_icmp_eq (tgt := 24) dX1_takeBack_19 (by decide) (fun c_19 => ?_) (fun c_19 => ?_)
      · refine A_aload0 dX1_takeBack_24 ?_
        refine A_getR gf_X1_25 rfl dX1_takeBack_25 ?_
        refine A_iload1 dX1_takeBack_28 ?_
        refine A_aload0 dX1_takeBack_29 ?_
        refine A_getI gf_X1_44 rfl dX1_takeBack_30 ?_
        refine A_iast (rfl) (hin) dX1_takeBack_33 ?_
        refine A_aload0 dX1_takeBack_34 ?_
        refine A_dup dX1_takeBack_35 rfl ?_
        refine A_getI gf_X1_39 rfl dX1_takeBack_36 ?_
        rw [wI_ne (by omega)]
        refine A_iconst (v := 1) dX1_takeBack_39 (by decide) ?_
        refine A_iadd dX1_takeBack_40 ?_
        refine A_putI gf_X1_39 rfl dX1_takeBack_41 ?_
        refine A_iconst (v := 1) dX1_takeBack_44 (by decide) ?_
        refine A_zret dX1_takeBack_45 (by decide) ?_
        refine ⟨_, rfl, Or.inr ⟨rfl, ⟨Int32.not_lt.mp c_1, Int32.not_le.mp c_9, c_19⟩, rfl⟩⟩
      · refine A_iconst (v := 0) dX1_takeBack_22 (by decide) ?_
        refine A_zret dX1_takeBack_23 (by decide) ?_
        refine ⟨_, rfl, Or.inl ⟨rfl, fun z => c_19 z.2.2, rfl⟩⟩
set_option maxHeartbeats 100000 in
set_option maxRecDepth 100000 in
theorem T_X1_goOn {l : Launch} {G : Wd} {b : Int32} {μ : Mem}  : Mt l G KC yX1_goOn cX1_goOn 2 (some .int) 1 [.ref (gA G 36), .int b] μ (Qi (fun v μ' => (v = -1 ∧ ¬ (0 ≤ b ∧ b ≤ 1000 ∧ μ.1 36 1 + b ≤ 100000) ∧ μ' = μ) ∨ (v = μ.1 36 1 + b ∧ (0 ≤ b ∧ b ≤ 1000 ∧ μ.1 36 1 + b ≤ 100000) ∧ μ' = wI μ 36 1 (μ.1 36 1 + b)))) := by
  refine Mt.of (own := RX1) (n := 0) (by decide) rfl [some (.ref (gA G 36)), some (.int b)] rfl (Nat.le_of_ble_eq_true rfl) ?_
  refine A_iload1 dX1_goOn_0 ?_
  refine A_if_lt (tgt := 22) dX1_goOn_1 (by decide) (fun c_1 => ?_) (fun c_1 => ?_)
  · refine A_iconst (v := -1) dX1_goOn_22 (by decide) ?_
    refine A_iret dX1_goOn_23 ?_
    refine ⟨_, rfl, Or.inl ⟨rfl, fun z => absurd z.1 (Int32.not_le.mpr c_1), rfl⟩⟩
  · refine A_iload1 dX1_goOn_4 ?_
    refine A_sipush (v := 1000) dX1_goOn_5 (by decide) ?_
    refine A_icmp_gt (tgt := 22) dX1_goOn_8 (by decide) (fun c_8 => ?_) (fun c_8 => ?_)
    · refine A_iconst (v := -1) dX1_goOn_22 (by decide) ?_
      refine A_iret dX1_goOn_23 ?_
      refine ⟨_, rfl, Or.inl ⟨rfl, fun z => absurd z.2.1 (Int32.not_le.mpr c_8), rfl⟩⟩
    · refine A_aload0 dX1_goOn_11 ?_
      refine A_getI gf_X1_44 rfl dX1_goOn_12 ?_
      refine A_iload1 dX1_goOn_15 ?_
      refine A_iadd dX1_goOn_16 ?_
      refine A_ldc dX1_goOn_17 kc_X1_47 ?_
      refine A_icmp_le (tgt := 24) dX1_goOn_19 (by decide) (fun c_19 => ?_) (fun c_19 => ?_)
      · refine A_aload0 dX1_goOn_24 ?_
        refine A_dup dX1_goOn_25 rfl ?_
        refine A_getI gf_X1_44 rfl dX1_goOn_26 ?_
        refine A_iload1 dX1_goOn_29 ?_
        refine A_iadd dX1_goOn_30 ?_
        refine A_putI gf_X1_44 rfl dX1_goOn_31 ?_
        refine A_aload0 dX1_goOn_34 ?_
        refine A_getI gf_X1_44 rfl dX1_goOn_35 ?_
        rw [wI_same]
        refine A_iret dX1_goOn_38 ?_
        refine ⟨_, rfl, Or.inr ⟨rfl, ⟨Int32.not_lt.mp c_1, Int32.not_lt.mp c_8, c_19⟩, rfl⟩⟩
      · refine A_iconst (v := -1) dX1_goOn_22 (by decide) ?_
        refine A_iret dX1_goOn_23 ?_
        refine ⟨_, rfl, Or.inl ⟨rfl, fun z => c_19 z.2.2, rfl⟩⟩
abbrev knC (μ : Mem) (k : Int32) (f : Nat) : Prop := μ.1 41 f ≤ k ∧ (μ.1 42 f = -1 ∨ k < μ.1 42 f)
set_option maxHeartbeats 100000 in
set_option maxRecDepth 100000 in
theorem T_X1_isKnown {l : Launch} {G : Wd} {f : Nat} {k : Int32} {μ : Mem} (hf : f < 300) : Mt l G KC yX1_isKnown cX1_isKnown 3 (some .boolean) 1 [.ref (gA G 36), .int (nI f), .int k] μ (Qi (fun v μ' => v = bz (knC μ k f) ∧ μ' = μ)) := by
  refine Mt.of (own := RX1) (n := 0) (by decide) rfl [some (.ref (gA G 36)), some (.int (nI f)), some (.int k)] rfl (Nat.le_of_ble_eq_true rfl) ?_
  refine A_aload0 dX1_isKnown_0 ?_
  refine A_getR gf_X1_22 rfl dX1_isKnown_1 ?_
  refine A_iload1 dX1_isKnown_4 ?_
  refine A_iald (rfl) (vp_in_nI (by omega) (by omega)) dX1_isKnown_5 ?_
  rw [nI_c (by omega)]
  refine A_iload2 dX1_isKnown_6 ?_
  refine A_icmp_gt (tgt := 34) dX1_isKnown_7 (by decide) (fun c_7 => ?_) (fun c_7 => ?_)
  · refine A_iconst (v := 0) dX1_isKnown_34 (by decide) ?_
    refine A_zret dX1_isKnown_35 (by decide) ?_
    exact ⟨_, rfl, (bz_f (fun z => absurd z.1 (Int32.not_le.mpr c_7))).symm, rfl⟩
  · refine A_aload0 dX1_isKnown_10 ?_
    refine A_getR gf_X1_25 rfl dX1_isKnown_11 ?_
    refine A_iload1 dX1_isKnown_14 ?_
    refine A_iald (rfl) (vp_in_nI (by omega) (by omega)) dX1_isKnown_15 ?_
    rw [nI_c (by omega)]
    refine A_iconst (v := -1) dX1_isKnown_16 (by decide) ?_
    refine A_icmp_eq (tgt := 30) dX1_isKnown_17 (by decide) (fun c_17 => ?_) (fun c_17 => ?_)
    · refine A_iconst (v := 1) dX1_isKnown_30 (by decide) ?_
      refine A_goto (tgt := 35) dX1_isKnown_31 (by decide) ?_
      refine A_zret dX1_isKnown_35 (by decide) ?_
      exact ⟨_, rfl, (bz_t ⟨Int32.not_lt.mp c_7, Or.inl c_17⟩).symm, rfl⟩
    · refine A_aload0 dX1_isKnown_20 ?_
      refine A_getR gf_X1_25 rfl dX1_isKnown_21 ?_
      refine A_iload1 dX1_isKnown_24 ?_
      refine A_iald (rfl) (vp_in_nI (by omega) (by omega)) dX1_isKnown_25 ?_
      rw [nI_c (by omega)]
      refine A_iload2 dX1_isKnown_26 ?_
      refine A_icmp_le (tgt := 34) dX1_isKnown_27 (by decide) (fun c_27 => ?_) (fun c_27 => ?_)
      · refine A_iconst (v := 0) dX1_isKnown_34 (by decide) ?_
        refine A_zret dX1_isKnown_35 (by decide) ?_
        exact ⟨_, rfl, (bz_f (fun z => by rcases z.2 with y | y; exact c_17 y; exact absurd y (Int32.not_lt.mpr c_27))).symm, rfl⟩
      · refine A_iconst (v := 1) dX1_isKnown_30 (by decide) ?_
        refine A_goto (tgt := 35) dX1_isKnown_31 (by decide) ?_
        refine A_zret dX1_isKnown_35 (by decide) ?_
        exact ⟨_, rfl, (bz_t ⟨Int32.not_lt.mp c_7, Or.inr (Int32.not_le.mp c_27)⟩).symm, rfl⟩
def clM (μ : Mem) : Mem := wI (wI (wL (wI μ 36 0 0) 36 3 0) 36 4 0) 36 2 (μ.1 36 2 + 1)
set_option maxHeartbeats 100000 in
set_option maxRecDepth 100000 in
theorem T_X1_clear {l : Launch} {G : Wd} {μ : Mem}  : Mt l G KC yX1_clear cX1_clear 1 none 1 [.ref (gA G 36)] μ (Qv (fun μ' => μ' = clM μ)) := by
  refine Mt.of (own := RX1) (n := 0) (by decide) rfl [some (.ref (gA G 36))] rfl (Nat.le_of_ble_eq_true rfl) ?_
  refine A_aload0 dX1_clear_0 ?_
  refine A_iconst (v := 0) dX1_clear_1 (by decide) ?_
  refine A_putI gf_X1_28 rfl dX1_clear_2 ?_
  refine A_aload0 dX1_clear_5 ?_
  refine A_lconst (v := 0) dX1_clear_6 (by decide) ?_
  refine A_putL gf_X1_32 rfl dX1_clear_7 ?_
  refine A_aload0 dX1_clear_10 ?_
  refine A_iconst (v := 0) dX1_clear_11 (by decide) ?_
  refine A_putI gf_X1_36 rfl dX1_clear_12 ?_
  refine A_aload0 dX1_clear_15 ?_
  refine A_dup dX1_clear_16 rfl ?_
  refine A_getI gf_X1_39 rfl dX1_clear_17 ?_
  rw [wI_ne (by omega), wL_i, wI_ne (by omega)]
  refine A_iconst (v := 1) dX1_clear_20 (by decide) ?_
  refine A_iadd dX1_clear_21 ?_
  refine A_putI gf_X1_39 rfl dX1_clear_22 ?_
  refine A_vret dX1_clear_25 ?_
  exact ⟨rfl, rfl⟩

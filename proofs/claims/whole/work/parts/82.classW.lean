/-! rules as steps -/
/-- what the rules that stand are besides: each nets one, its numbers are small, its boxes are there -/
def WFe (σ : Mem) : Prop := ∀ r, r < rlN σ → dpS σ (bgN σ r) (bgN σ (r + 1) - bgN σ r) = 1 ∧ ∀ p, bgN σ r ≤ p → p < bgN σ (r + 1) → (σ.1 43 p = 0 → ∃ x : Nat, x ≤ 9999 ∧ σ.1 44 p = nI x) ∧ ((σ.1 43 p = 1 ∨ σ.1 43 p = 2) → ∃ x : Nat, x < nbx σ ∧ σ.1 44 p = nI x)
theorem b_nI (x i : Nat) : bt (nI x) i = (decide (i < 32) && x.testBit i) := by
  show (BitVec.ofNat 32 x).getLsbD i = _
  exact BitVec.getLsbD_ofNat ..
theorem st_pk {c x : Nat} (hc : c < 256) (hx : x < 65536) : (nI c <<< ((16 : Int32) &&& 31) ||| nI x) >>> ((16 : Int32) &&& 31) = nI c ∧ (nI c <<< ((16 : Int32) &&& 31) ||| nI x) &&& 65535 = nI x := by
  have hc8 : ∀ i, 8 ≤ i → c.testBit i = false := fun i h => Nat.testBit_lt_two_pow (Nat.lt_of_lt_of_le hc (show 2 ^ 8 ≤ 2 ^ i from Nat.pow_le_pow_right (by decide) h))
  have hx16 : ∀ i, 16 ≤ i → x.testBit i = false := fun i h => Nat.testBit_lt_two_pow (Nat.lt_of_lt_of_le hx (show 2 ^ 16 ≤ 2 ^ i from Nat.pow_le_pow_right (by decide) h))
  constructor
  · refine b_ext (fun i hi => ?_)
    refine (b_sshr 16 (by omega) _ hi).trans ?_
    by_cases q : 16 + i < 32
    · rw [if_pos q, b_or, b_shl16 _ q, b_nI, b_nI, b_nI, hx16 (16 + i) (by omega), Bool.and_false, Bool.or_false, decide_eq_true (show 16 ≤ 16 + i by omega), Bool.true_and, show 16 + i - 16 = i by omega]
    · rw [if_neg q, b_or, b_shl16 _ (by omega), b_nI, b_nI, b_nI, hx16 31 (by omega), hc8 (31 - 16) (by omega), hc8 i (by omega)]
      simp
  · refine b_ext (fun i hi => ?_)
    rw [b_and, b_65535, b_or, b_shl16 _ hi, b_nI, b_nI]
    by_cases q : i < 16
    · rw [decide_eq_true q, Bool.and_true, decide_eq_false (show ¬ 16 ≤ i by omega), Bool.false_and, Bool.false_or]
    · rw [decide_eq_false q, Bool.and_false, hx16 i (by omega), Bool.and_false]
theorem kdE_n (w : Int32) : (kdE w).toNatClampNeg < 256 ∧ kdE w = nI (kdE w).toNatClampNeg := by
  unfold kdE
  repeat' split
  all_goals decide
theorem stE_i {w n : Int32} {x : Nat} (hx : x < 65536) (hn : (if w = 0 ∨ w = 1 ∨ w = 2 then n else 0) = nI x) : stE w n >>> ((16 : Int32) &&& 31) = kdE w ∧ stE w n &&& 65535 = nI x := by
  unfold stE
  rw [hn, (kdE_n w).2]
  exact st_pk (kdE_n w).1 hx
theorem nI_mn {s : Nat} (h : 1 ≤ s) (hs : s < 1000) : nI s + Int32.ofInt (-1) = nI (s - 1) := by
  have e : (Int32.ofInt (-1)).toInt = -1 := rfl
  rw [i_eq, i_add (by rw [e, nI_i (by omega)]; omega), e, nI_i (by omega), nI_i (by omega)]
  omega
theorem nI_s1 {s : Nat} (h : 1 ≤ s) : nI s - 1 = nI (s - 1) := by rw [show (1 : Int32) = nI 1 from rfl, pk_sub h]
set_option maxHeartbeats 100000 in
set_option maxRecDepth 100000 in
theorem T_X6_bit {l : Launch} {G : Wd} {x : Int32} {μ : Mem}  : Mt l G KC yX6_bit cX6_bit 1 (some .int) 1 [.int x] μ (Qi (fun v μ' => v = (if x = 0 then 0 else 1) ∧ μ' = μ)) := by
  refine Mt.of (own := RX6) (n := 0) (by decide) rfl [some (.int x)] rfl (Nat.le_of_ble_eq_true rfl) ?_
  refine A_iload0 dX6_bit_0 ?_
  refine A_if_eq (tgt := 8) dX6_bit_1 (by decide) (fun c_1 => ?_) (fun c_1 => ?_)
  · refine A_iconst (v := 0) dX6_bit_8 (by decide) ?_
    refine A_iret dX6_bit_9 ?_
    exact ⟨_, rfl, (if_pos c_1).symm, rfl⟩
  · refine A_iconst (v := 1) dX6_bit_4 (by decide) ?_
    refine A_goto (tgt := 9) dX6_bit_5 (by decide) ?_
    refine A_iret dX6_bit_9 ?_
    exact ⟨_, rfl, (if_neg c_1).symm, rfl⟩
set_option maxHeartbeats 100000 in
set_option maxRecDepth 100000 in
theorem T_X6_isUnit {l : Launch} {G : Wd} {x : Int32} {μ : Mem}  : Mt l G KC yX6_isUnit cX6_isUnit 1 (some .boolean) 1 [.int x] μ (Qi (fun v μ' => v = bz (x = 2 ∨ x = 3 ∨ x = 149 ∨ x = 150) ∧ μ' = μ)) := by
  refine Mt.of (own := RX6) (n := 0) (by decide) rfl [some (.int x)] rfl (Nat.le_of_ble_eq_true rfl) ?_
  refine A_iload0 dX6_isUnit_0 ?_
  refine A_iconst (v := 2) dX6_isUnit_1 (by decide) ?_
  refine A_icmp_eq (tgt := 24) dX6_isUnit_2 (by decide) (fun c_2 => ?_) (fun c_2 => ?_)
  · refine A_iconst (v := 1) dX6_isUnit_24 (by decide) ?_
    refine A_goto (tgt := 29) dX6_isUnit_25 (by decide) ?_
    refine A_zret dX6_isUnit_29 (by decide) ?_
    exact ⟨_, rfl, (bz_t (Or.inl c_2)).symm, rfl⟩
  · refine A_iload0 dX6_isUnit_5 ?_
    refine A_iconst (v := 3) dX6_isUnit_6 (by decide) ?_
    refine A_icmp_eq (tgt := 24) dX6_isUnit_7 (by decide) (fun c_7 => ?_) (fun c_7 => ?_)
    · refine A_iconst (v := 1) dX6_isUnit_24 (by decide) ?_
      refine A_goto (tgt := 29) dX6_isUnit_25 (by decide) ?_
      refine A_zret dX6_isUnit_29 (by decide) ?_
      exact ⟨_, rfl, (bz_t (Or.inr (Or.inl c_7))).symm, rfl⟩
    · refine A_iload0 dX6_isUnit_10 ?_
      refine A_sipush (v := 149) dX6_isUnit_11 (by decide) ?_
      refine A_icmp_eq (tgt := 24) dX6_isUnit_14 (by decide) (fun c_14 => ?_) (fun c_14 => ?_)
      · refine A_iconst (v := 1) dX6_isUnit_24 (by decide) ?_
        refine A_goto (tgt := 29) dX6_isUnit_25 (by decide) ?_
        refine A_zret dX6_isUnit_29 (by decide) ?_
        exact ⟨_, rfl, (bz_t (Or.inr (Or.inr (Or.inl c_14)))).symm, rfl⟩
      · refine A_iload0 dX6_isUnit_17 ?_
        refine A_sipush (v := 150) dX6_isUnit_18 (by decide) ?_
        refine A_icmp_ne (tgt := 28) dX6_isUnit_21 (by decide) (fun c_21 => ?_) (fun c_21 => ?_)
        · refine A_iconst (v := 0) dX6_isUnit_28 (by decide) ?_
          refine A_zret dX6_isUnit_29 (by decide) ?_
          exact ⟨_, rfl, (bz_f (fun z => z.elim c_2 (fun z => z.elim c_7 (fun z => z.elim c_14 c_21)))).symm, rfl⟩
        · refine A_iconst (v := 1) dX6_isUnit_24 (by decide) ?_
          refine A_goto (tgt := 29) dX6_isUnit_25 (by decide) ?_
          refine A_zret dX6_isUnit_29 (by decide) ?_
          exact ⟨_, rfl, (bz_t (Or.inr (Or.inr (Or.inr c_21)))).symm, rfl⟩
set_option maxHeartbeats 400000 in
set_option maxRecDepth 100000 in
theorem T_X6_unit {l : Launch} {G : Wd} {w n k : Int32} {x d : Nat} {σ μ : Mem} (h : Wk σ k μ) (hd : d < 60) (hw : w = 0 ∨ w = 1 ∨ w = 2 ∨ w = 3) (hx : ¬ w = 3 → n = nI x) (h5 : (w = 1 ∨ w = 2) → x < nbx σ) : Mt l G KC yX6_unit cX6_unit 4 (some .int) 2 [.int (kdE w), .int (nI x), .int (nI d), .ref (gA G 43)] μ (Qi (fun v μ' => v = cdv σ k d w n ∧ μ' = μ)) := by
  have hn5 := h.2.2.2.2.1.t.1
  rcases hw with rfl | rfl | rfl | rfl
  · rw [show kdE 0 = 2 by decide]
    refine Mt.of (own := RX6) (n := 0) (by decide) rfl [some (.int 2), some (.int (nI x)), some (.int (nI d)), some (.ref (gA G 43))] rfl (Nat.le_of_ble_eq_true rfl) ?_
    have e := hx (by decide)
    refine A_iload0 dX6_unit_0 ?_
    refine A_lookup (tgt := 54) dX6_unit_1 (by decide) rfl (by decide) ?_
    refine A_iload1 dX6_unit_54 ?_
    refine A_iret dX6_unit_55 ?_
    exact ⟨_, rfl, e.symm, rfl⟩
  · rw [show kdE 1 = 3 by decide]
    refine Mt.of (own := RX6) (n := 0) (by decide) rfl [some (.int 3), some (.int (nI x)), some (.int (nI d)), some (.ref (gA G 43))] rfl (Nat.le_of_ble_eq_true rfl) ?_
    have e := hx (by decide)
    have hx5 := h5 (by decide)
    refine A_iload0 dX6_unit_0 ?_
    refine A_lookup (tgt := 36) dX6_unit_1 (by decide) rfl (by decide) ?_
    refine A_aload3 dX6_unit_36 ?_
    refine A_iload1 dX6_unit_37 ?_
    refine A_iload2 dX6_unit_38 ?_
    refine A_vi2 lk_X6_57 yv_X4_number dX6_unit_39 (rfl) (rfl) (T_X4_number h.n5) (by decide) (Nat.le_of_ble_eq_true rfl) (fun r_39 μ_39 h_39 => ?_)
    obtain ⟨v_39, e_39⟩ := h_39
    replace v_39 := Eq.symm v_39
    subst v_39
    replace e_39 := e_39.symm
    subst e_39
    refine A_val (y := rdN σ k x d) (num_e h hx5 hd) ?_
    refine A_iret dX6_unit_42 ?_
    have ec : cdv σ k d 1 n = rdN σ k x d := by unfold cdv; rw [if_neg (by decide), if_neg (by decide), if_neg (by decide), e, nI_c (by omega)]
    exact ⟨_, rfl, ec.symm, rfl⟩
  · rw [show kdE 2 = 149 by decide]
    refine Mt.of (own := RX6) (n := 0) (by decide) rfl [some (.int 149), some (.int (nI x)), some (.int (nI d)), some (.ref (gA G 43))] rfl (Nat.le_of_ble_eq_true rfl) ?_
    have e := hx (by decide)
    have hx5 := h5 (by decide)
    refine A_iload0 dX6_unit_0 ?_
    refine A_lookup (tgt := 43) dX6_unit_1 (by decide) rfl (by decide) ?_
    refine A_aload3 dX6_unit_43 ?_
    refine A_iload1 dX6_unit_44 ?_
    refine A_iload2 dX6_unit_45 ?_
    refine A_iconst (v := 1) dX6_unit_46 (by decide) ?_
    refine A_isub dX6_unit_47 ?_
    refine A_vi2 lk_X6_57 yv_X4_number dX6_unit_48 (rfl) (rfl) (T_X4_number h.n5) (by decide) (Nat.le_of_ble_eq_true rfl) (fun r_48 μ_48 h_48 => ?_)
    obtain ⟨v_48, e_48⟩ := h_48
    replace v_48 := Eq.symm v_48
    subst v_48
    replace e_48 := e_48.symm
    subst e_48
    refine A_val (y := if 0 < d then rdN σ k x (d - 1) else -100000) (num_p h hx5 hd) ?_
    refine A_iret dX6_unit_51 ?_
    have ec : cdv σ k d 2 n = if d = 0 then -100000 else rdN σ k x (d - 1) := by unfold cdv; rw [if_neg (by decide), if_neg (by decide), if_pos rfl, e, nI_c (by omega)]
    refine ⟨_, rfl, ?_, rfl⟩
    rw [ec]
    by_cases q : d = 0
    · rw [if_pos q, if_neg (by omega)]
    · rw [if_neg q, if_pos (by omega)]
  · rw [show kdE 3 = 150 by decide]
    refine Mt.of (own := RX6) (n := 0) (by decide) rfl [some (.int 150), some (.int (nI x)), some (.int (nI d)), some (.ref (gA G 43))] rfl (Nat.le_of_ble_eq_true rfl) ?_
    refine A_iload0 dX6_unit_0 ?_
    refine A_lookup (tgt := 52) dX6_unit_1 (by decide) rfl (by decide) ?_
    refine A_iload2 dX6_unit_52 ?_
    refine A_iret dX6_unit_53 ?_
    exact ⟨_, rfl, rfl, rfl⟩
set_option maxHeartbeats 400000 in
set_option maxRecDepth 100000 in
theorem T_X6_joined {l : Launch} {G : Wd} {w x y : Int32} {μ : Mem} (hw : ¬ w < 20) (h22 : ¬ w = 22) : Mt l G KC yX6_joined cX6_joined 3 (some .int) 2 [.int (kdE w), .int x, .int y] μ (Qi (fun v μ' => v = wkd w x y ∧ μ' = μ)) := by
  by_cases w20 : w = 20
  · subst w20
    rw [show kdE 20 = 152 by decide]
    refine Mt.of (own := RX6) (n := 0) (by decide) rfl [some (.int 152), some (.int x), some (.int y)] rfl (Nat.le_of_ble_eq_true rfl) ?_
    refine A_iload0 dX6_joined_0 ?_
    refine A_lookup (tgt := 139) dX6_joined_1 (by decide) rfl (by decide) ?_
    refine A_iload1 dX6_joined_139 ?_
    refine A_if_ne (tgt := 147) dX6_joined_140 (by decide) (fun c_140 => ?_) (fun c_140 => ?_)
    · refine A_iconst (v := 1) dX6_joined_147 (by decide) ?_
      refine A_goto (tgt := 152) dX6_joined_148 (by decide) ?_
      refine A_si1 lk_X6_49 ys_X6_bit dX6_joined_152 (T_X6_bit) (by decide) (Nat.le_of_ble_eq_true rfl) (fun r_152 μ_152 h_152 => ?_)
      obtain ⟨v_152, e_152⟩ := h_152
      replace v_152 := Eq.symm v_152
      subst v_152
      replace e_152 := e_152.symm
      subst e_152
      refine A_iret dX6_joined_155 ?_
      have e9 : wkd 20 x y = bz (¬ x = 0 ∨ ¬ y = 0) := by unfold wkd; rw [if_pos rfl]
      refine ⟨_, rfl, ?_, rfl⟩
      rw [e9]
      exact (bz_t (Or.inl c_140)).symm
    · refine A_iload2 dX6_joined_143 ?_
      refine A_if_eq (tgt := 151) dX6_joined_144 (by decide) (fun c_144 => ?_) (fun c_144 => ?_)
      · refine A_iconst (v := 0) dX6_joined_151 (by decide) ?_
        refine A_si1 lk_X6_49 ys_X6_bit dX6_joined_152 (T_X6_bit) (by decide) (Nat.le_of_ble_eq_true rfl) (fun r_152 μ_152 h_152 => ?_)
        obtain ⟨v_152, e_152⟩ := h_152
        replace v_152 := Eq.symm v_152
        subst v_152
        replace e_152 := e_152.symm
        subst e_152
        refine A_iret dX6_joined_155 ?_
        have e9 : wkd 20 x y = bz (¬ x = 0 ∨ ¬ y = 0) := by unfold wkd; rw [if_pos rfl]
        refine ⟨_, rfl, ?_, rfl⟩
        rw [e9]
        exact (bz_f (fun z => z.elim (fun z => z c_140) (fun z => z c_144))).symm
      · refine A_iconst (v := 1) dX6_joined_147 (by decide) ?_
        refine A_goto (tgt := 152) dX6_joined_148 (by decide) ?_
        refine A_si1 lk_X6_49 ys_X6_bit dX6_joined_152 (T_X6_bit) (by decide) (Nat.le_of_ble_eq_true rfl) (fun r_152 μ_152 h_152 => ?_)
        obtain ⟨v_152, e_152⟩ := h_152
        replace v_152 := Eq.symm v_152
        subst v_152
        replace e_152 := e_152.symm
        subst e_152
        refine A_iret dX6_joined_155 ?_
        have e9 : wkd 20 x y = bz (¬ x = 0 ∨ ¬ y = 0) := by unfold wkd; rw [if_pos rfl]
        refine ⟨_, rfl, ?_, rfl⟩
        rw [e9]
        exact (bz_t (Or.inr c_144)).symm
  by_cases w21 : w = 21
  · subst w21
    rw [show kdE 21 = 151 by decide]
    refine Mt.of (own := RX6) (n := 0) (by decide) rfl [some (.int 151), some (.int x), some (.int y)] rfl (Nat.le_of_ble_eq_true rfl) ?_
    refine A_iload0 dX6_joined_0 ?_
    refine A_lookup (tgt := 122) dX6_joined_1 (by decide) rfl (by decide) ?_
    refine A_iload1 dX6_joined_122 ?_
    refine A_if_eq (tgt := 134) dX6_joined_123 (by decide) (fun c_123 => ?_) (fun c_123 => ?_)
    · refine A_iconst (v := 0) dX6_joined_134 (by decide) ?_
      refine A_si1 lk_X6_49 ys_X6_bit dX6_joined_135 (T_X6_bit) (by decide) (Nat.le_of_ble_eq_true rfl) (fun r_135 μ_135 h_135 => ?_)
      obtain ⟨v_135, e_135⟩ := h_135
      replace v_135 := Eq.symm v_135
      subst v_135
      replace e_135 := e_135.symm
      subst e_135
      refine A_iret dX6_joined_138 ?_
      have e9 : wkd 21 x y = bz (¬ x = 0 ∧ ¬ y = 0) := by unfold wkd; rw [if_neg (by decide), if_pos rfl]
      refine ⟨_, rfl, ?_, rfl⟩
      rw [e9]
      exact (bz_f (fun z => z.1 c_123)).symm
    · refine A_iload2 dX6_joined_126 ?_
      refine A_if_eq (tgt := 134) dX6_joined_127 (by decide) (fun c_127 => ?_) (fun c_127 => ?_)
      · refine A_iconst (v := 0) dX6_joined_134 (by decide) ?_
        refine A_si1 lk_X6_49 ys_X6_bit dX6_joined_135 (T_X6_bit) (by decide) (Nat.le_of_ble_eq_true rfl) (fun r_135 μ_135 h_135 => ?_)
        obtain ⟨v_135, e_135⟩ := h_135
        replace v_135 := Eq.symm v_135
        subst v_135
        replace e_135 := e_135.symm
        subst e_135
        refine A_iret dX6_joined_138 ?_
        have e9 : wkd 21 x y = bz (¬ x = 0 ∧ ¬ y = 0) := by unfold wkd; rw [if_neg (by decide), if_pos rfl]
        refine ⟨_, rfl, ?_, rfl⟩
        rw [e9]
        exact (bz_f (fun z => z.2 c_127)).symm
      · refine A_iconst (v := 1) dX6_joined_130 (by decide) ?_
        refine A_goto (tgt := 135) dX6_joined_131 (by decide) ?_
        refine A_si1 lk_X6_49 ys_X6_bit dX6_joined_135 (T_X6_bit) (by decide) (Nat.le_of_ble_eq_true rfl) (fun r_135 μ_135 h_135 => ?_)
        obtain ⟨v_135, e_135⟩ := h_135
        replace v_135 := Eq.symm v_135
        subst v_135
        replace e_135 := e_135.symm
        subst e_135
        refine A_iret dX6_joined_138 ?_
        have e9 : wkd 21 x y = bz (¬ x = 0 ∧ ¬ y = 0) := by unfold wkd; rw [if_neg (by decide), if_pos rfl]
        refine ⟨_, rfl, ?_, rfl⟩
        rw [e9]
        exact (bz_t ⟨c_123, c_127⟩).symm
  by_cases w23 : w = 23
  · subst w23
    rw [show kdE 23 = 61 by decide]
    refine Mt.of (own := RX6) (n := 0) (by decide) rfl [some (.int 61), some (.int x), some (.int y)] rfl (Nat.le_of_ble_eq_true rfl) ?_
    refine A_iload0 dX6_joined_0 ?_
    refine A_lookup (tgt := 96) dX6_joined_1 (by decide) rfl (by decide) ?_
    refine A_iload1 dX6_joined_96 ?_
    refine A_iload2 dX6_joined_97 ?_
    refine A_icmp_ne (tgt := 105) dX6_joined_98 (by decide) (fun c_98 => ?_) (fun c_98 => ?_)
    · refine A_iconst (v := 0) dX6_joined_105 (by decide) ?_
      refine A_si1 lk_X6_49 ys_X6_bit dX6_joined_106 (T_X6_bit) (by decide) (Nat.le_of_ble_eq_true rfl) (fun r_106 μ_106 h_106 => ?_)
      obtain ⟨v_106, e_106⟩ := h_106
      replace v_106 := Eq.symm v_106
      subst v_106
      replace e_106 := e_106.symm
      subst e_106
      refine A_iret dX6_joined_109 ?_
      have e9 : wkd 23 x y = bz (x = y) := by unfold wkd; rw [if_neg (by decide), if_neg (by decide), if_neg (by decide), if_pos rfl]
      refine ⟨_, rfl, ?_, rfl⟩
      rw [e9]
      exact (bz_f c_98).symm
    · refine A_iconst (v := 1) dX6_joined_101 (by decide) ?_
      refine A_goto (tgt := 106) dX6_joined_102 (by decide) ?_
      refine A_si1 lk_X6_49 ys_X6_bit dX6_joined_106 (T_X6_bit) (by decide) (Nat.le_of_ble_eq_true rfl) (fun r_106 μ_106 h_106 => ?_)
      obtain ⟨v_106, e_106⟩ := h_106
      replace v_106 := Eq.symm v_106
      subst v_106
      replace e_106 := e_106.symm
      subst e_106
      refine A_iret dX6_joined_109 ?_
      have e9 : wkd 23 x y = bz (x = y) := by unfold wkd; rw [if_neg (by decide), if_neg (by decide), if_neg (by decide), if_pos rfl]
      refine ⟨_, rfl, ?_, rfl⟩
      rw [e9]
      exact (bz_t c_98).symm
  by_cases w24 : w = 24
  · subst w24
    rw [show kdE 24 = 60 by decide]
    refine Mt.of (own := RX6) (n := 0) (by decide) rfl [some (.int 60), some (.int x), some (.int y)] rfl (Nat.le_of_ble_eq_true rfl) ?_
    refine A_iload0 dX6_joined_0 ?_
    refine A_lookup (tgt := 68) dX6_joined_1 (by decide) rfl (by decide) ?_
    refine A_iload1 dX6_joined_68 ?_
    refine A_iload2 dX6_joined_69 ?_
    refine A_icmp_ge (tgt := 77) dX6_joined_70 (by decide) (fun c_70 => ?_) (fun c_70 => ?_)
    · refine A_iconst (v := 0) dX6_joined_77 (by decide) ?_
      refine A_si1 lk_X6_49 ys_X6_bit dX6_joined_78 (T_X6_bit) (by decide) (Nat.le_of_ble_eq_true rfl) (fun r_78 μ_78 h_78 => ?_)
      obtain ⟨v_78, e_78⟩ := h_78
      replace v_78 := Eq.symm v_78
      subst v_78
      replace e_78 := e_78.symm
      subst e_78
      refine A_iret dX6_joined_81 ?_
      have e9 : wkd 24 x y = bz (x < y) := by unfold wkd; rw [if_neg (by decide), if_neg (by decide), if_neg (by decide), if_neg (by decide), if_pos rfl]
      refine ⟨_, rfl, ?_, rfl⟩
      rw [e9]
      exact (bz_f (Int32.not_lt.mpr c_70)).symm
    · refine A_iconst (v := 1) dX6_joined_73 (by decide) ?_
      refine A_goto (tgt := 78) dX6_joined_74 (by decide) ?_
      refine A_si1 lk_X6_49 ys_X6_bit dX6_joined_78 (T_X6_bit) (by decide) (Nat.le_of_ble_eq_true rfl) (fun r_78 μ_78 h_78 => ?_)
      obtain ⟨v_78, e_78⟩ := h_78
      replace v_78 := Eq.symm v_78
      subst v_78
      replace e_78 := e_78.symm
      subst e_78
      refine A_iret dX6_joined_81 ?_
      have e9 : wkd 24 x y = bz (x < y) := by unfold wkd; rw [if_neg (by decide), if_neg (by decide), if_neg (by decide), if_neg (by decide), if_pos rfl]
      refine ⟨_, rfl, ?_, rfl⟩
      rw [e9]
      exact (bz_t (Int32.not_le.mp c_70)).symm
  by_cases w25 : w = 25
  · subst w25
    rw [show kdE 25 = 62 by decide]
    refine Mt.of (own := RX6) (n := 0) (by decide) rfl [some (.int 62), some (.int x), some (.int y)] rfl (Nat.le_of_ble_eq_true rfl) ?_
    refine A_iload0 dX6_joined_0 ?_
    refine A_lookup (tgt := 82) dX6_joined_1 (by decide) rfl (by decide) ?_
    refine A_iload1 dX6_joined_82 ?_
    refine A_iload2 dX6_joined_83 ?_
    refine A_icmp_le (tgt := 91) dX6_joined_84 (by decide) (fun c_84 => ?_) (fun c_84 => ?_)
    · refine A_iconst (v := 0) dX6_joined_91 (by decide) ?_
      refine A_si1 lk_X6_49 ys_X6_bit dX6_joined_92 (T_X6_bit) (by decide) (Nat.le_of_ble_eq_true rfl) (fun r_92 μ_92 h_92 => ?_)
      obtain ⟨v_92, e_92⟩ := h_92
      replace v_92 := Eq.symm v_92
      subst v_92
      replace e_92 := e_92.symm
      subst e_92
      refine A_iret dX6_joined_95 ?_
      have e9 : wkd 25 x y = bz (y < x) := by unfold wkd; rw [if_neg (by decide), if_neg (by decide), if_neg (by decide), if_neg (by decide), if_neg (by decide), if_pos rfl]
      refine ⟨_, rfl, ?_, rfl⟩
      rw [e9]
      exact (bz_f (Int32.not_lt.mpr c_84)).symm
    · refine A_iconst (v := 1) dX6_joined_87 (by decide) ?_
      refine A_goto (tgt := 92) dX6_joined_88 (by decide) ?_
      refine A_si1 lk_X6_49 ys_X6_bit dX6_joined_92 (T_X6_bit) (by decide) (Nat.le_of_ble_eq_true rfl) (fun r_92 μ_92 h_92 => ?_)
      obtain ⟨v_92, e_92⟩ := h_92
      replace v_92 := Eq.symm v_92
      subst v_92
      replace e_92 := e_92.symm
      subst e_92
      refine A_iret dX6_joined_95 ?_
      have e9 : wkd 25 x y = bz (y < x) := by unfold wkd; rw [if_neg (by decide), if_neg (by decide), if_neg (by decide), if_neg (by decide), if_neg (by decide), if_pos rfl]
      refine ⟨_, rfl, ?_, rfl⟩
      rw [e9]
      exact (bz_t (Int32.not_le.mp c_84)).symm
  by_cases w26 : w = 26
  · subst w26
    rw [show kdE 26 = 43 by decide]
    refine Mt.of (own := RX6) (n := 0) (by decide) rfl [some (.int 43), some (.int x), some (.int y)] rfl (Nat.le_of_ble_eq_true rfl) ?_
    refine A_iload0 dX6_joined_0 ?_
    refine A_lookup (tgt := 110) dX6_joined_1 (by decide) rfl (by decide) ?_
    refine A_iload1 dX6_joined_110 ?_
    refine A_iload2 dX6_joined_111 ?_
    refine A_iadd dX6_joined_112 ?_
    refine A_iret dX6_joined_113 ?_
    have e9 : wkd 26 x y = x + y := by unfold wkd; rw [if_neg (by decide), if_neg (by decide), if_neg (by decide), if_neg (by decide), if_neg (by decide), if_neg (by decide), if_pos rfl]
    refine ⟨_, rfl, ?_, rfl⟩
    rw [e9]
  by_cases w27 : w = 27
  · subst w27
    rw [show kdE 27 = 45 by decide]
    refine Mt.of (own := RX6) (n := 0) (by decide) rfl [some (.int 45), some (.int x), some (.int y)] rfl (Nat.le_of_ble_eq_true rfl) ?_
    refine A_iload0 dX6_joined_0 ?_
    refine A_lookup (tgt := 114) dX6_joined_1 (by decide) rfl (by decide) ?_
    refine A_iload1 dX6_joined_114 ?_
    refine A_iload2 dX6_joined_115 ?_
    refine A_isub dX6_joined_116 ?_
    refine A_iret dX6_joined_117 ?_
    have e9 : wkd 27 x y = x - y := by unfold wkd; rw [if_neg (by decide), if_neg (by decide), if_neg (by decide), if_neg (by decide), if_neg (by decide), if_neg (by decide), if_neg (by decide), if_pos rfl]
    refine ⟨_, rfl, ?_, rfl⟩
    rw [e9]
  have e : kdE w = 42 := by
    unfold kdE
    rw [if_neg (fun z => hw (by rw [z]; decide)), if_neg (fun z => hw (by rw [z]; decide)), if_neg (fun z => hw (by rw [z]; decide)), if_neg (fun z => hw (by rw [z]; decide)), if_neg w20, if_neg w21, if_neg h22, if_neg w23, if_neg w24, if_neg w25, if_neg w26, if_neg w27]
  rw [e]
  refine Mt.of (own := RX6) (n := 0) (by decide) rfl [some (.int 42), some (.int x), some (.int y)] rfl (Nat.le_of_ble_eq_true rfl) ?_
  refine A_iload0 dX6_joined_0 ?_
  refine A_lookup (tgt := 118) dX6_joined_1 (by decide) rfl (by decide) ?_
  refine A_iload1 dX6_joined_118 ?_
  refine A_iload2 dX6_joined_119 ?_
  refine A_imul dX6_joined_120 ?_
  refine A_iret dX6_joined_121 ?_
  have e9 : wkd w x y = x * y := by unfold wkd; rw [if_neg w20, if_neg w21, if_neg h22, if_neg w23, if_neg w24, if_neg w25, if_neg w26, if_neg w27]
  refine ⟨_, rfl, ?_, rfl⟩
  rw [e9]
def S9 (μ μ' : Mem) : Prop := μ'.2 = μ.2 ∧ ∀ i j, i ≠ 29 → μ'.1 i j = μ.1 i j
theorem S9.rf {μ : Mem} : S9 μ μ := ⟨rfl, fun _ _ _ => rfl⟩
theorem S9.tr {a b c : Mem} (h : S9 a b) (g : S9 b c) : S9 a c := ⟨g.1.trans h.1, fun i j q => (g.2 i j q).trans (h.2 i j q)⟩
theorem S9.w {a b : Mem} {k : Nat} {v : Int32} (h : S9 a b) : S9 a (wI b 29 k v) := ⟨h.1, fun i j q => (wI_ne (Or.inl q)).trans (h.2 i j q)⟩
theorem S9.k {a b : Mem} (h : S9 a b) : Kc a b := ⟨fun i j q => h.2 i j (by omega), fun i j _ => by rw [h.1]⟩
theorem Ce.kp {σ a c : Mem} {k : Int32} {e : Nat} (h : Ce σ k e a) (g : Kc a c) (g2 : ∀ i j, 43 ≤ i → i ≤ 72 → c.1 i j = a.1 i j) : Ce σ k e c := by
  obtain ⟨h1, h2, h3, h4⟩ := h
  refine ⟨h1.keep g (fun i j _ _ => g2 i j (by omega) (by omega)), (g2 43 7 (by omega) (by omega)).trans h2, h3, fun b hb => ?_⟩
  obtain ⟨eb, b1, b2, b3⟩ := h4 b hb
  exact ⟨eb, b1, (g2 _ 4 (by omega) (by omega)).trans b2, fun z y => (b3 z y).keep (fun i j _ _ => g2 i j (by omega) (by omega))⟩
theorem Ca.kp {σ a c : Mem} {k : Int32} {n : Nat} (h : Ca σ k n a) (g : Kc a c) (g2 : ∀ i j, 43 ≤ i → i ≤ 72 → c.1 i j = a.1 i j) : Ca σ k n c := by
  obtain ⟨e, x, h1, h2, h3, h4, h5⟩ := h
  exact ⟨e, x, h1.kp g g2, (g.1 36 2 (by omega)).trans h2, (g2 43 6 (by omega) (by omega)).trans h3, (g2 43 5 (by omega) (by omega)).trans h4, h5⟩
theorem Ca.s9 {σ a c : Mem} {k : Int32} {n : Nat} (h : Ca σ k n a) (g : S9 a c) : Ca σ k n c := h.kp g.k (fun i j _ _ => g.2 i j (by omega))
theorem S9.wk {σ a c : Mem} {k : Int32} (g : S9 a c) (h : Wk σ k a) : Wk σ k c := h.keep g.k (fun i j _ _ => g.2 i j (by omega))
def plC (S : Stk) (μ : Mem) : Prop := ∀ j, j < S.2 → μ.1 29 j = S.1 j
theorem hld_n {σ : Mem} {k : Int32} {r d m : Nat} (hm : m ≤ bgN σ (r + 1) - bgN σ r) (h : runS σ k d (bgN σ r) m = none) : ¬ hldS σ k r d = true := by
  have e := runS_none h (bgN σ (r + 1) - bgN σ r - m)
  rw [show m + (bgN σ (r + 1) - bgN σ r - m) = bgN σ (r + 1) - bgN σ r by omega] at e
  unfold hldS
  rw [e]
  exact Bool.false_ne_true
theorem kd_u {w : Int32} (h : w < 20) (h2 : w = 0 ∨ w = 1 ∨ w = 2 ∨ w = 3) : kdE w = 2 ∨ kdE w = 3 ∨ kdE w = 149 ∨ kdE w = 150 := by
  rcases h2 with rfl | rfl | rfl | rfl <;> decide
theorem kd_o {w : Int32} (h : ¬ w < 20) : ¬ (kdE w = 2 ∨ kdE w = 3 ∨ kdE w = 149 ∨ kdE w = 150) ∧ (kdE w = 153 ↔ w = 22) := by
  have n0 : ¬ w = 0 := fun z => h (by rw [z]; decide)
  have n1 : ¬ w = 1 := fun z => h (by rw [z]; decide)
  have n2 : ¬ w = 2 := fun z => h (by rw [z]; decide)
  have n3 : ¬ w = 3 := fun z => h (by rw [z]; decide)
  unfold kdE
  rw [if_neg n0, if_neg n1, if_neg n2, if_neg n3]
  by_cases e : w = 22
  · subst e; decide
  · rw [if_neg e]
    repeat' split
    all_goals exact ⟨by decide, fun z => absurd z (by decide), fun z => absurd z e⟩
theorem upd_s {f : Nat → Int32} {i : Nat} {v : Int32} : upd f i v i = v := by unfold upd; exact if_pos rfl
theorem upd_n {f : Nat → Int32} {i j : Nat} {v : Int32} (h : ¬ j = i) : upd f i v j = f j := by unfold upd; exact if_neg h
set_option maxHeartbeats 400000 in
set_option maxRecDepth 100000 in
theorem L_X6_holds_21 {l : Launch} {G : Wd} {k : Int32} {r d : Nat} {σ M : Mem} (hM : Wk σ k M) (hW : WFr σ) (hE : WFe σ) (hr : r < rlN σ) (hd : d < 60) : ∀ (q m : Nat) (S : Stk) (μ : Mem) (x6 x7 : Option Value), q + m = bgN σ (r + 1) - bgN σ r → runS σ k d (bgN σ r) m = some S → plC S μ → S9 M μ → AW l G KC RX6 cX6_holds 8 3 (some .boolean) (Qi (fun v μ' => v = bz (hldS σ k r d = true) ∧ S9 M μ')) 21 [some (.ref (gA G 25)), some (.int (nI r)), some (.int (nI d)), some (.ref (gA G 43)), some (.int (nI S.2)), some (.int (nI (bgN σ r + m))), x6, x7] [] μ := by
  obtain ⟨h6, -, hrl⟩ := hW
  obtain ⟨o1, o2, o3, o4, o5, o6, o7⟩ := hrl r hr
  obtain ⟨g1, g2⟩ := hE r hr
  obtain ⟨-, -, R3, R4⟩ := hM.1.2.2.2.1
  have e27 := (R3 r hr).2
  have e28 := R4 r hr
  intro q
  induction q with
  | zero =>
    intro m S μ x6 x7 hq hS hp hF
    have hm : bgN σ r + m = bgN σ (r + 1) := by omega
    have hS1 : S.2 = 1 := by rw [runS_d m S hS, ← g1]; congr 1; omega
    have ev : μ.1 29 0 = S.1 0 := hp 0 (by omega)
    have eh : hldS σ k r d = !decide (S.1 0 = 0) := by unfold hldS; rw [show bgN σ (r + 1) - bgN σ r = m by omega, hS]
    rw [hS1, hm]
    refine A_iload5 dX6_holds_21 ?_
    refine A_aload0 dX6_holds_23 ?_
    refine A_getR gf_X6_15 rfl dX6_holds_24 ?_
    refine A_iload1 dX6_holds_27 ?_
    refine A_iald (rfl) (vp_in_nI (by omega) (by omega)) dX6_holds_28 ?_
    refine A_val (y := nI (bgN σ (r + 1))) (by rw [nI_c (by omega), hF.2 27 r (by decide), e27]; exact o2) ?_
    refine A_icmp_ge (tgt := 192) dX6_holds_29 (by decide) (fun c_29 => ?_) (fun c_29 => absurd c_29 (fun z => z (Int32.le_refl _)))
    refine A_iload4 dX6_holds_192 ?_
    refine A_if_le (tgt := 213) dX6_holds_194 (by decide) (fun c_194 => absurd c_194 (by decide)) (fun c_194 => ?_)
    refine A_aload0 dX6_holds_197 ?_
    refine A_getR gf_X6_21 rfl dX6_holds_198 ?_
    refine A_iload4 dX6_holds_201 ?_
    refine A_iconst (v := 1) dX6_holds_203 (by decide) ?_
    refine A_isub dX6_holds_204 ?_
    refine A_iald (rfl) (by rw [show nI 1 - 1 = nI 0 from nI_s1 (by decide)]; exact vp_in_nI (by omega) (by omega)) dX6_holds_205 ?_
    refine A_val (y := S.1 0) (by rw [show nI 1 - 1 = nI 0 from nI_s1 (by decide), nI_c (by omega)]; exact ev) ?_
    refine A_if_eq (tgt := 213) dX6_holds_206 (by decide) (fun c_206 => ?_) (fun c_206 => ?_)
    · refine A_iconst (v := 0) dX6_holds_213 (by decide) ?_
      refine A_zret dX6_holds_214 (by decide) ?_
      exact ⟨_, rfl, (bz_f (by rw [eh, decide_eq_true c_206]; decide)).symm, hF⟩
    · refine A_iconst (v := 1) dX6_holds_209 (by decide) ?_
      refine A_goto (tgt := 214) dX6_holds_210 (by decide) ?_
      refine A_zret dX6_holds_214 (by decide) ?_
      exact ⟨_, rfl, (bz_t (by rw [eh, decide_eq_false c_206]; rfl)).symm, hF⟩
  | succ q ih =>
    intro m S μ x6 x7 hq hS hp hF
    have hmb : bgN σ r + m < bgN σ (r + 1) := by omega
    obtain ⟨k1, k2, k3⟩ := o5 m hmb
    have hd2 := runS_d m S hS
    rw [← hd2] at k1 k2 k3
    obtain ⟨g3, g4⟩ := g2 (bgN σ r + m) (by omega) hmb
    have es : μ.1 28 (bgN σ r + m) = stE (σ.1 43 (bgN σ r + m)) (σ.1 44 (bgN σ r + m)) := (hF.2 28 _ (by decide)).trans (e28 _ hmb)
    have hrun : runS σ k d (bgN σ r) (m + 1) = stS σ k d (bgN σ r + m) S := by rw [runS, hS]
    obtain ⟨x, hx, hn, hn5⟩ : ∃ x : Nat, x < 65536 ∧ (if σ.1 43 (bgN σ r + m) = 0 ∨ σ.1 43 (bgN σ r + m) = 1 ∨ σ.1 43 (bgN σ r + m) = 2 then σ.1 44 (bgN σ r + m) else 0) = nI x ∧ ((σ.1 43 (bgN σ r + m) = 1 ∨ σ.1 43 (bgN σ r + m) = 2) → x < nbx σ) := by
      by_cases z0 : σ.1 43 (bgN σ r + m) = 0
      · obtain ⟨x, x1, x2⟩ := g3 z0
        exact ⟨x, by omega, by rw [if_pos (Or.inl z0), x2], fun y => absurd z0 (by rcases y with y | y <;> rw [y] <;> decide)⟩
      · by_cases z1 : σ.1 43 (bgN σ r + m) = 1 ∨ σ.1 43 (bgN σ r + m) = 2
        · obtain ⟨x, x1, x2⟩ := g4 z1
          have := hM.2.2.2.2.1.t.1
          exact ⟨x, by omega, by rw [if_pos (Or.inr z1), x2], fun _ => x1⟩
        · exact ⟨0, by omega, if_neg (fun y => y.elim z0 z1), fun y => absurd y z1⟩
    obtain ⟨st1, st2⟩ := stE_i hx hn
    generalize ew : σ.1 43 (bgN σ r + m) = w at *
    generalize en : σ.1 44 (bgN σ r + m) = nn at *
    by_cases hu : w < 20
    · obtain ⟨u1, u2, u3⟩ := k1 hu
      refine A_iload5 dX6_holds_21 ?_
      refine A_aload0 dX6_holds_23 ?_
      refine A_getR gf_X6_15 rfl dX6_holds_24 ?_
      refine A_iload1 dX6_holds_27 ?_
      refine A_iald (rfl) (vp_in_nI (by omega) (by omega)) dX6_holds_28 ?_
      refine A_val (y := nI (bgN σ (r + 1))) (by rw [nI_c (by omega), hF.2 27 r (by decide), e27]; exact o2) ?_
      refine A_icmp_ge (tgt := 192) dX6_holds_29 (by decide) (fun c_29 => absurd c_29 (fun z => nI_ge (by omega) (by omega) z)) (fun c_29 => ?_)
      refine A_aload0 dX6_holds_32 ?_
      refine A_getR gf_X6_18 rfl dX6_holds_33 ?_
      refine A_iload5 dX6_holds_36 ?_
      refine A_iald (rfl) (vp_in_nI (n := bgN σ r + m) (by omega) (by omega)) dX6_holds_38 ?_
      refine A_val (y := stE w nn) (by rw [nI_c (by omega)]; exact es) ?_
      refine A_bipush (v := 16) dX6_holds_39 (by decide) ?_
      refine A_ishr dX6_holds_41 ?_
      refine A_val (y := kdE w) st1 ?_
      refine A_istore6 dX6_holds_42 rfl (by decide) ?_
      refine A_iload6 dX6_holds_44 ?_
      refine A_si1 lk_X6_37 ys_X6_isUnit dX6_holds_46 (T_X6_isUnit) (by decide) (Nat.le_of_ble_eq_true rfl) (fun r_46 μ_46 h_46 => ?_)
      obtain ⟨v_46, e_46⟩ := h_46
      replace v_46 := Eq.symm v_46
      subst v_46
      replace e_46 := e_46.symm
      subst e_46
      refine A_if_eq (tgt := 102) dX6_holds_49 (by decide) (fun c_49 => absurd c_49 (fun z => bz_0.mp z (kd_u hu u1))) (fun c_49 => ?_)
      refine A_iload6 dX6_holds_52 ?_
      refine A_aload0 dX6_holds_54 ?_
      refine A_getR gf_X6_18 rfl dX6_holds_55 ?_
      refine A_iload5 dX6_holds_58 ?_
      refine A_iald (rfl) (vp_in_nI (n := bgN σ r + m) (by omega) (by omega)) dX6_holds_60 ?_
      refine A_val (y := stE w nn) (by rw [nI_c (by omega)]; exact es) ?_
      refine A_ldc dX6_holds_61 kc_X6_41 ?_
      refine A_iand dX6_holds_63 ?_
      refine A_val (y := nI x) st2 ?_
      refine A_iload2 dX6_holds_64 ?_
      refine A_aload3 dX6_holds_65 ?_
      refine A_si4 lk_X6_42 ys_X6_unit dX6_holds_66 (T_X6_unit (w := w) (n := nn) (hF.wk hM) hd u1 (fun z3 => by rw [← hn, if_pos (by rcases u1 with z | z | z | z; exact Or.inl z; exact Or.inr (Or.inl z); exact Or.inr (Or.inr z); exact absurd z z3)]) hn5) (by decide) (Nat.le_of_ble_eq_true rfl) (fun r_66 μ_66 h_66 => ?_)
      obtain ⟨v_66, e_66⟩ := h_66
      replace v_66 := Eq.symm v_66
      subst v_66
      replace e_66 := e_66.symm
      subst e_66
      refine A_istore7 dX6_holds_69 rfl (by decide) ?_
      refine A_iload7 dX6_holds_71 ?_
      refine A_ldc dX6_holds_73 kc_X6_46 ?_
      refine A_icmp_eq (tgt := 85) dX6_holds_75 (by decide) (fun c_75 => ?_) (fun c_75 => ?_)
      · refine A_iconst (v := 0) dX6_holds_85 (by decide) ?_
        refine A_zret dX6_holds_86 (by decide) ?_
        have e0 : stS σ k d (bgN σ r + m) S = none := by unfold stS; rw [ew, en, if_pos hu, if_pos c_75]
        exact ⟨_, rfl, (bz_f (hld_n (m := m + 1) (by omega) (hrun.trans e0))).symm, hF⟩
      · refine A_iload4 dX6_holds_78 ?_
        refine A_bipush (v := 60) dX6_holds_80 (by decide) ?_
        refine A_icmp_lt (tgt := 87) dX6_holds_82 (by decide) (fun c_82 => ?_) (fun c_82 => absurd c_82 (fun z => z (nI_lt (b := 60) u3 (by decide))))
        refine A_aload0 dX6_holds_87 ?_
        refine A_getR gf_X6_21 rfl dX6_holds_88 ?_
        refine A_iload4 dX6_holds_91 ?_
        refine A_iload7 dX6_holds_93 ?_
        refine A_iast (rfl) (vp_in_nI (by omega) (by omega)) dX6_holds_95 ?_
        rw [nI_c (by omega)]
        refine A_iinc4 dX6_holds_96 rfl rfl (by decide) ?_
        rw [show nI S.2 + Int32.ofInt 1 = nI (S.2 + 1) from nI_1 _]
        refine A_goto (tgt := 186) dX6_holds_99 (by decide) ?_
        refine A_iinc5 dX6_holds_186 rfl rfl (by decide) ?_
        refine A_goto (tgt := 21) dX6_holds_189 (by decide) ?_
        rw [show nI (bgN σ r + m) + Int32.ofInt 1 = nI (bgN σ r + (m + 1)) from nI_1 _]
        have e0 : stS σ k d (bgN σ r + m) S = some (upd S.1 S.2 (cdv σ k d w nn), S.2 + 1) := by unfold stS; rw [ew, en, if_pos hu, if_neg c_75]
        refine ih (m + 1) (upd S.1 S.2 (cdv σ k d w nn), S.2 + 1) _ _ _ (by omega) (hrun.trans e0) (fun j hj => ?_) hF.w
        have hj2 : j < S.2 + 1 := hj
        show _ = upd S.1 S.2 _ j
        by_cases e : j = S.2
        · rw [e, wI_same, upd_s]
        · rw [wI_ne (by omega), upd_n e]; exact hp j (by omega)
    · obtain ⟨v1, v2⟩ := k2 hu
      obtain ⟨kd1, kd2⟩ := kd_o hu
      by_cases h22 : w = 22
      · have hs1 := v1 h22
        have ev : μ.1 29 (S.2 - 1) = S.1 (S.2 - 1) := hp _ (by omega)
        have e0 : stS σ k d (bgN σ r + m) S = some (upd S.1 (S.2 - 1) (if S.1 (S.2 - 1) = 0 then 1 else 0), S.2) := by unfold stS; rw [ew, if_neg hu, if_pos h22]
        refine A_iload5 dX6_holds_21 ?_
        refine A_aload0 dX6_holds_23 ?_
        refine A_getR gf_X6_15 rfl dX6_holds_24 ?_
        refine A_iload1 dX6_holds_27 ?_
        refine A_iald (rfl) (vp_in_nI (by omega) (by omega)) dX6_holds_28 ?_
        refine A_val (y := nI (bgN σ (r + 1))) (by rw [nI_c (by omega), hF.2 27 r (by decide), e27]; exact o2) ?_
        refine A_icmp_ge (tgt := 192) dX6_holds_29 (by decide) (fun c_29 => absurd c_29 (fun z => nI_ge (by omega) (by omega) z)) (fun c_29 => ?_)
        refine A_aload0 dX6_holds_32 ?_
        refine A_getR gf_X6_18 rfl dX6_holds_33 ?_
        refine A_iload5 dX6_holds_36 ?_
        refine A_iald (rfl) (vp_in_nI (n := bgN σ r + m) (by omega) (by omega)) dX6_holds_38 ?_
        refine A_val (y := stE w nn) (by rw [nI_c (by omega)]; exact es) ?_
        refine A_bipush (v := 16) dX6_holds_39 (by decide) ?_
        refine A_ishr dX6_holds_41 ?_
        refine A_val (y := kdE w) st1 ?_
        refine A_istore6 dX6_holds_42 rfl (by decide) ?_
        refine A_iload6 dX6_holds_44 ?_
        refine A_si1 lk_X6_37 ys_X6_isUnit dX6_holds_46 (T_X6_isUnit) (by decide) (Nat.le_of_ble_eq_true rfl) (fun r_46 μ_46 h_46 => ?_)
        obtain ⟨v_46, e_46⟩ := h_46
        replace v_46 := Eq.symm v_46
        subst v_46
        replace e_46 := e_46.symm
        subst e_46
        refine A_if_eq (tgt := 102) dX6_holds_49 (by decide) (fun c_49 => ?_) (fun c_49 => absurd c_49 (fun z => z (bz_f kd1)))
        refine A_iload6 dX6_holds_102 ?_
        refine A_sipush (v := 153) dX6_holds_104 (by decide) ?_
        refine A_icmp_ne (tgt := 147) dX6_holds_107 (by decide) (fun c_107 => absurd c_107 (fun z => z (kd2.mpr h22))) (fun c_107 => ?_)
        refine A_iload4 dX6_holds_110 ?_
        refine A_if_le (tgt := 147) dX6_holds_112 (by decide) (fun c_112 => absurd c_112 (fun z => by have := (nI_le0 (by omega)).mp z; omega)) (fun c_112 => ?_)
        refine A_aload0 dX6_holds_115 ?_
        refine A_getR gf_X6_21 rfl dX6_holds_116 ?_
        refine A_iload4 dX6_holds_119 ?_
        refine A_iconst (v := 1) dX6_holds_121 (by decide) ?_
        refine A_isub dX6_holds_122 ?_
        rw [nI_s1 hs1]
        refine A_aload0 dX6_holds_123 ?_
        refine A_getR gf_X6_21 rfl dX6_holds_124 ?_
        refine A_iload4 dX6_holds_127 ?_
        refine A_iconst (v := 1) dX6_holds_129 (by decide) ?_
        refine A_isub dX6_holds_130 ?_
        rw [nI_s1 hs1]
        refine A_iald (rfl) (vp_in_nI (by omega) (by omega)) dX6_holds_131 ?_
        refine A_val (y := S.1 (S.2 - 1)) (by rw [nI_c (by omega)]; exact ev) ?_
        refine A_if_ne (tgt := 139) dX6_holds_132 (by decide) (fun c_132 => ?_) (fun c_132 => ?_)
        · refine A_iconst (v := 0) dX6_holds_139 (by decide) ?_
          refine A_si1 lk_X6_49 ys_X6_bit dX6_holds_140 (T_X6_bit) (by decide) (Nat.le_of_ble_eq_true rfl) (fun r_140 μ_140 h_140 => ?_)
          obtain ⟨v_140, e_140⟩ := h_140
          replace v_140 := Eq.symm v_140
          subst v_140
          replace e_140 := e_140.symm
          subst e_140
          refine A_iast (rfl) (vp_in_nI (by omega) (by omega)) dX6_holds_143 ?_
          rw [nI_c (by omega)]
          refine A_goto (tgt := 186) dX6_holds_144 (by decide) ?_
          refine A_iinc5 dX6_holds_186 rfl rfl (by decide) ?_
          refine A_goto (tgt := 21) dX6_holds_189 (by decide) ?_
          rw [show nI (bgN σ r + m) + Int32.ofInt 1 = nI (bgN σ r + (m + 1)) from nI_1 _]
          refine ih (m + 1) (upd S.1 (S.2 - 1) (if S.1 (S.2 - 1) = 0 then 1 else 0), S.2) _ _ _ (by omega) (hrun.trans e0) (fun j hj => ?_) hF.w
          have hj2 : j < S.2 := hj
          show _ = upd S.1 (S.2 - 1) _ j
          by_cases e : j = S.2 - 1
          · rw [e, wI_same, upd_s, if_neg c_132]; rfl
          · rw [wI_ne (by omega), upd_n e]; exact hp j (by omega)
        · refine A_iconst (v := 1) dX6_holds_135 (by decide) ?_
          refine A_goto (tgt := 140) dX6_holds_136 (by decide) ?_
          refine A_si1 lk_X6_49 ys_X6_bit dX6_holds_140 (T_X6_bit) (by decide) (Nat.le_of_ble_eq_true rfl) (fun r_140 μ_140 h_140 => ?_)
          obtain ⟨v_140, e_140⟩ := h_140
          replace v_140 := Eq.symm v_140
          subst v_140
          replace e_140 := e_140.symm
          subst e_140
          refine A_iast (rfl) (vp_in_nI (by omega) (by omega)) dX6_holds_143 ?_
          rw [nI_c (by omega)]
          refine A_goto (tgt := 186) dX6_holds_144 (by decide) ?_
          refine A_iinc5 dX6_holds_186 rfl rfl (by decide) ?_
          refine A_goto (tgt := 21) dX6_holds_189 (by decide) ?_
          rw [show nI (bgN σ r + m) + Int32.ofInt 1 = nI (bgN σ r + (m + 1)) from nI_1 _]
          refine ih (m + 1) (upd S.1 (S.2 - 1) (if S.1 (S.2 - 1) = 0 then 1 else 0), S.2) _ _ _ (by omega) (hrun.trans e0) (fun j hj => ?_) hF.w
          have hj2 : j < S.2 := hj
          show _ = upd S.1 (S.2 - 1) _ j
          by_cases e : j = S.2 - 1
          · rw [e, wI_same, upd_s, if_pos c_132]; rfl
          · rw [wI_ne (by omega), upd_n e]; exact hp j (by omega)
      · have hs2 := v2 h22
        have ev1 : μ.1 29 (S.2 - 1) = S.1 (S.2 - 1) := hp _ (by omega)
        have ev2 : μ.1 29 (S.2 - 2) = S.1 (S.2 - 2) := hp _ (by omega)
        have e2 : nI (S.2 - 1) - 1 = nI (S.2 - 2) := by rw [nI_s1 (by omega)]; congr 1
        have e0 : stS σ k d (bgN σ r + m) S = some (upd S.1 (S.2 - 2) (wkd w (S.1 (S.2 - 2)) (S.1 (S.2 - 1))), S.2 - 1) := by unfold stS; rw [ew, if_neg hu, if_neg h22]
        refine A_iload5 dX6_holds_21 ?_
        refine A_aload0 dX6_holds_23 ?_
        refine A_getR gf_X6_15 rfl dX6_holds_24 ?_
        refine A_iload1 dX6_holds_27 ?_
        refine A_iald (rfl) (vp_in_nI (by omega) (by omega)) dX6_holds_28 ?_
        refine A_val (y := nI (bgN σ (r + 1))) (by rw [nI_c (by omega), hF.2 27 r (by decide), e27]; exact o2) ?_
        refine A_icmp_ge (tgt := 192) dX6_holds_29 (by decide) (fun c_29 => absurd c_29 (fun z => nI_ge (by omega) (by omega) z)) (fun c_29 => ?_)
        refine A_aload0 dX6_holds_32 ?_
        refine A_getR gf_X6_18 rfl dX6_holds_33 ?_
        refine A_iload5 dX6_holds_36 ?_
        refine A_iald (rfl) (vp_in_nI (n := bgN σ r + m) (by omega) (by omega)) dX6_holds_38 ?_
        refine A_val (y := stE w nn) (by rw [nI_c (by omega)]; exact es) ?_
        refine A_bipush (v := 16) dX6_holds_39 (by decide) ?_
        refine A_ishr dX6_holds_41 ?_
        refine A_val (y := kdE w) st1 ?_
        refine A_istore6 dX6_holds_42 rfl (by decide) ?_
        refine A_iload6 dX6_holds_44 ?_
        refine A_si1 lk_X6_37 ys_X6_isUnit dX6_holds_46 (T_X6_isUnit) (by decide) (Nat.le_of_ble_eq_true rfl) (fun r_46 μ_46 h_46 => ?_)
        obtain ⟨v_46, e_46⟩ := h_46
        replace v_46 := Eq.symm v_46
        subst v_46
        replace e_46 := e_46.symm
        subst e_46
        refine A_if_eq (tgt := 102) dX6_holds_49 (by decide) (fun c_49 => ?_) (fun c_49 => absurd c_49 (fun z => z (bz_f kd1)))
        refine A_iload6 dX6_holds_102 ?_
        refine A_sipush (v := 153) dX6_holds_104 (by decide) ?_
        refine A_icmp_ne (tgt := 147) dX6_holds_107 (by decide) (fun c_107 => ?_) (fun c_107 => absurd c_107 (fun z => h22 (kd2.mp z)))
        refine A_iload4 dX6_holds_147 ?_
        refine A_iconst (v := 1) dX6_holds_149 (by decide) ?_
        refine A_icmp_le (tgt := 186) dX6_holds_150 (by decide) (fun c_150 => absurd c_150 (fun z => by have h9 := i_le.mp z; rw [nI_i (by omega)] at h9; have e1 : (1 : Int32).toInt = 1 := rfl; omega)) (fun c_150 => ?_)
        refine A_iinc4 dX6_holds_153 rfl rfl (by decide) ?_
        rw [nI_mn (by omega) (by omega)]
        refine A_aload0 dX6_holds_156 ?_
        refine A_getR gf_X6_21 rfl dX6_holds_157 ?_
        refine A_iload4 dX6_holds_160 ?_
        refine A_iconst (v := 1) dX6_holds_162 (by decide) ?_
        refine A_isub dX6_holds_163 ?_
        rw [e2]
        refine A_iload6 dX6_holds_164 ?_
        refine A_aload0 dX6_holds_166 ?_
        refine A_getR gf_X6_21 rfl dX6_holds_167 ?_
        refine A_iload4 dX6_holds_170 ?_
        refine A_iconst (v := 1) dX6_holds_172 (by decide) ?_
        refine A_isub dX6_holds_173 ?_
        rw [e2]
        refine A_iald (rfl) (vp_in_nI (by omega) (by omega)) dX6_holds_174 ?_
        refine A_val (y := S.1 (S.2 - 2)) (by rw [nI_c (by omega)]; exact ev2) ?_
        refine A_aload0 dX6_holds_175 ?_
        refine A_getR gf_X6_21 rfl dX6_holds_176 ?_
        refine A_iload4 dX6_holds_179 ?_
        refine A_iald (rfl) (vp_in_nI (by omega) (by omega)) dX6_holds_181 ?_
        refine A_val (y := S.1 (S.2 - 1)) (by rw [nI_c (by omega)]; exact ev1) ?_
        refine A_si3 lk_X6_53 ys_X6_joined dX6_holds_182 (T_X6_joined hu h22) (by decide) (Nat.le_of_ble_eq_true rfl) (fun r_182 μ_182 h_182 => ?_)
        obtain ⟨v_182, e_182⟩ := h_182
        replace v_182 := Eq.symm v_182
        subst v_182
        replace e_182 := e_182.symm
        subst e_182
        refine A_iast (rfl) (vp_in_nI (by omega) (by omega)) dX6_holds_185 ?_
        rw [nI_c (by omega)]
        refine A_iinc5 dX6_holds_186 rfl rfl (by decide) ?_
        refine A_goto (tgt := 21) dX6_holds_189 (by decide) ?_
        rw [show nI (bgN σ r + m) + Int32.ofInt 1 = nI (bgN σ r + (m + 1)) from nI_1 _]
        refine ih (m + 1) (upd S.1 (S.2 - 2) (wkd w (S.1 (S.2 - 2)) (S.1 (S.2 - 1))), S.2 - 1) _ _ _ (by omega) (hrun.trans e0) (fun j hj => ?_) hF.w
        have hj2 : j < S.2 - 1 := hj
        show _ = upd S.1 (S.2 - 2) _ j
        by_cases e : j = S.2 - 2
        · rw [e, wI_same, upd_s]
        · rw [wI_ne (by omega), upd_n e]; exact hp j (by omega)
set_option maxHeartbeats 400000 in
set_option maxRecDepth 100000 in
theorem T_X6_holds {l : Launch} {G : Wd} {k : Int32} {r d : Nat} {σ M : Mem} (hM : Wk σ k M) (hW : WFr σ) (hE : WFe σ) (hr : r < rlN σ) (hd : d < 60) : Mt l G KC yX6_holds cX6_holds 8 (some .boolean) 3 [.ref (gA G 25), .int (nI r), .int (nI d), .ref (gA G 43)] M (Qi (fun v μ' => v = bz (hldS σ k r d = true) ∧ S9 M μ')) := by
  refine Mt.of (own := RX6) (n := 4) (by decide) rfl [some (.ref (gA G 25)), some (.int (nI r)), some (.int (nI d)), some (.ref (gA G 43)), none, none, none, none] rfl (Nat.le_of_ble_eq_true rfl) ?_
  obtain ⟨h6, h72, hrl⟩ := hW
  obtain ⟨o1, -⟩ := hrl r hr
  obtain ⟨-, R2, R3, R4⟩ := hM.1.2.2.2.1
  refine A_iconst (v := 0) dX6_holds_0 (by decide) ?_
  refine A_istore4 dX6_holds_1 rfl (by decide) ?_
  refine A_iload1 dX6_holds_3 ?_
  refine A_if_ne (tgt := 11) dX6_holds_4 (by decide) (fun c_4 => ?_) (fun c_4 => ?_)
  · have hr1 : 1 ≤ r := by rcases Nat.eq_zero_or_pos r with z | z; exact absurd (by rw [z]; rfl) c_4; exact z
    refine A_aload0 dX6_holds_11 ?_
    refine A_getR gf_X6_15 rfl dX6_holds_12 ?_
    refine A_iload1 dX6_holds_15 ?_
    refine A_iconst (v := 1) dX6_holds_16 (by decide) ?_
    refine A_isub dX6_holds_17 ?_
    refine A_iald (rfl) (by rw [nI_s1 hr1]; exact vp_in_nI (by omega) (by omega)) dX6_holds_18 ?_
    refine A_val (y := nI (bgN σ r)) (by rw [nI_s1 hr1, nI_c (by omega), (R3 (r - 1) (by omega)).2, show r - 1 + 1 = r by omega]; exact o1) ?_
    refine A_istore5 dX6_holds_19 rfl (by decide) ?_
    exact L_X6_holds_21 hM ⟨h6, h72, hrl⟩ hE hr hd (bgN σ (r + 1) - bgN σ r) 0 (fun _ => 0, 0) M none none (by omega) rfl (fun j hj => absurd hj (Nat.not_lt_zero j)) S9.rf
  · refine A_iconst (v := 0) dX6_holds_7 (by decide) ?_
    refine A_goto (tgt := 19) dX6_holds_8 (by decide) ?_
    refine A_istore5 dX6_holds_19 rfl (by decide) ?_
    have er0 : r = 0 := (nI_eq (by omega) (by decide)).mp c_4
    subst er0
    have eb : bgN σ 0 = 0 := by unfold bgN; rw [R2 (by omega)]; rfl
    have hh := L_X6_holds_21 (l := l) (G := G) hM ⟨h6, h72, hrl⟩ hE hr hd (bgN σ (0 + 1) - bgN σ 0) 0 (fun _ => 0, 0) M none none (by omega) rfl (fun j hj => absurd hj (Nat.not_lt_zero j)) S9.rf
    rw [eb] at hh
    exact hh
set_option maxHeartbeats 400000 in
set_option maxRecDepth 100000 in
theorem L_X10_ruleFor_2 {l : Launch} {G : Wd} {k : Int32} {d : Nat} {σ M : Mem} (hM : Wk σ k M) (hW : WFr σ) (hE : WFe σ) (hd : d < 60) : ∀ (q r : Nat) (m : Mem), q + r = rlN σ → roS σ k d q r = ron σ k d → S9 M m → AW l G KC RX10 cX10_ruleFor 3 4 (some .int) (Qi (fun v μ' => v = ron σ k d ∧ S9 M μ')) 2 [some (.ref (gA G 80)), some (.int (nI d)), some (.int (nI r))] [] m := by
  have h6 := hW.1
  have e25 : M.1 25 0 = nI (rlN σ) := hM.1.2.2.2.1.1.trans hW.2.1
  intro q
  induction q with
  | zero =>
    intro r m hq he hF
    obtain rfl : r = rlN σ := by omega
    have he2 : -1 = ron σ k d := he
    refine A_iload2 dX10_ruleFor_2 ?_
    refine A_aload0 dX10_ruleFor_3 ?_
    refine A_getR gf_X10_9 rfl dX10_ruleFor_4 ?_
    refine A_getI gf_X10_38 rfl dX10_ruleFor_7 ?_
    refine A_val (y := nI (rlN σ)) ((hF.2 25 0 (by decide)).trans e25) ?_
    refine A_icmp_ge (tgt := 37) dX10_ruleFor_10 (by decide) (fun c_10 => ?_) (fun c_10 => absurd c_10 (fun z => z (Int32.le_refl _)))
    refine A_iconst (v := -1) dX10_ruleFor_37 (by decide) ?_
    refine A_iret dX10_ruleFor_38 ?_
    exact ⟨_, rfl, he2, hF⟩
  | succ q ih =>
    intro r m hq he hF
    rw [roS] at he
    refine A_iload2 dX10_ruleFor_2 ?_
    refine A_aload0 dX10_ruleFor_3 ?_
    refine A_getR gf_X10_9 rfl dX10_ruleFor_4 ?_
    refine A_getI gf_X10_38 rfl dX10_ruleFor_7 ?_
    refine A_val (y := nI (rlN σ)) ((hF.2 25 0 (by decide)).trans e25) ?_
    refine A_icmp_ge (tgt := 37) dX10_ruleFor_10 (by decide) (fun c_10 => absurd c_10 (fun z => nI_ge (by omega) (by omega) z)) (fun c_10 => ?_)
    refine A_aload0 dX10_ruleFor_13 ?_
    refine A_getR gf_X10_9 rfl dX10_ruleFor_14 ?_
    refine A_iload2 dX10_ruleFor_17 ?_
    refine A_iload1 dX10_ruleFor_18 ?_
    refine A_aload0 dX10_ruleFor_19 ?_
    refine A_getR gf_X10_15 rfl dX10_ruleFor_20 ?_
    refine A_vi3 lk_X10_42 yv_X6_holds dX10_ruleFor_23 (rfl) (rfl) (T_X6_holds (hF.wk hM) hW hE (by omega) hd) (by decide) (Nat.le_of_ble_eq_true rfl) (fun r_23 μ_23 h_23 => ?_)
    obtain ⟨v_23, hF2⟩ := h_23
    replace v_23 := Eq.symm v_23
    subst v_23
    refine A_if_eq (tgt := 31) dX10_ruleFor_26 (by decide) (fun c_26 => ?_) (fun c_26 => ?_)
    · refine A_iinc2 dX10_ruleFor_31 rfl rfl (by decide) ?_
      refine A_goto (tgt := 2) dX10_ruleFor_34 (by decide) ?_
      rw [show nI r + Int32.ofInt 1 = nI (r + 1) from nI_1 r]
      rw [if_neg (bz_0.mp c_26)] at he
      exact ih (r + 1) _ (by omega) he (hF.tr hF2)
    · refine A_iload2 dX10_ruleFor_29 ?_
      refine A_iret dX10_ruleFor_30 ?_
      rw [if_pos (bz_y c_26)] at he
      exact ⟨_, rfl, he, hF.tr hF2⟩
set_option maxHeartbeats 100000 in
set_option maxRecDepth 100000 in
theorem T_X10_ruleFor {l : Launch} {G : Wd} {k : Int32} {d : Nat} {σ M : Mem} (hM : Wk σ k M) (hW : WFr σ) (hE : WFe σ) (hd : d < 60) : Mt l G KC yX10_ruleFor cX10_ruleFor 3 (some .int) 4 [.ref (gA G 80), .int (nI d)] M (Qi (fun v μ' => v = ron σ k d ∧ S9 M μ')) := by
  refine Mt.of (own := RX10) (n := 1) (by decide) rfl [some (.ref (gA G 80)), some (.int (nI d)), none] rfl (Nat.le_of_ble_eq_true rfl) ?_
  refine A_iconst (v := 0) dX10_ruleFor_0 (by decide) ?_
  refine A_istore2 dX10_ruleFor_1 rfl (by decide) ?_
  exact L_X10_ruleFor_2 hM hW hE hd (rlN σ) 0 M (by omega) rfl S9.rf
theorem ron_v {σ : Mem} {k : Int32} {d : Nat} (h6 : rlN σ ≤ 6) : (ron σ k d = -1 ∧ ron σ k d < 0) ∨ ∃ j : Nat, j < rlN σ ∧ ron σ k d = nI j ∧ ¬ ron σ k d < 0 ∧ ¬ ron σ k d = -1 := by
  rcases ron_r σ k d with h | ⟨j, h1, h2⟩
  · left; rw [h]; decide
  · right
    refine ⟨j, h1, h2, ?_, ?_⟩
    · rw [h2, i_lt, nI_i (by omega)]; have e0 : (0 : Int32).toInt = 0 := rfl; omega
    · rw [h2, i_eq, nI_i (by omega)]; have e0 : (-1 : Int32).toInt = -1 := rfl; omega
set_option maxHeartbeats 100000 in
set_option maxRecDepth 100000 in
theorem C_says {l : Launch} {G : Wd} {d : Int32} {k : Int32} {n : Nat} {σ μ : Mem} (hE : WFe σ) (hR : Rc σ n μ) (hn : n + 1 ≤ 600) : Mt l G KC yX11_says cX11_says 4 (some .int) 9 [.ref (gA G 0), .int d, .int k] μ (Qi (fun v μ' => v = sp_says σ d k ∧ Rc σ (n + 1) μ')) := by
  refine Mt.of (own := RX11) (n := 1) (by decide) rfl [some (.ref (gA G 0)), some (.int d), some (.int k), none] rfl (Nat.le_of_ble_eq_true rfl) ?_
  refine A_iload1 dX11_says_0 ?_
  refine A_si1 lk_X11_159 ys_X11_isDay dX11_says_1 (T_X11_isDay) (by decide) (Nat.le_of_ble_eq_true rfl) (fun r_1 μ_1 h_1 => ?_)
  obtain ⟨v_1, e_1⟩ := h_1
  replace v_1 := Eq.symm v_1
  subst v_1
  replace e_1 := e_1.symm
  subst e_1
  refine A_if_ne (tgt := 9) dX11_says_4 (by decide) (fun c_4 => ?_) (fun c_4 => ?_)
  · have hz := bz_y c_4
    obtain ⟨y, hd6, rfl⟩ := nI_rng (n := 60) hz.1 hz.2 (by decide)
    have ey : (nI y).toNatClampNeg = y := nI_c (by omega)
    have h6 := hR.2.1.2.1
    refine A_aload0 dX11_says_9 ?_
    refine A_getR gf_X11_76 rfl dX11_says_10 ?_
    refine A_iload2 dX11_says_13 ?_
    refine A_vv1 lk_X11_201 yv_X4_at dX11_says_14 (rfl) (rfl) (T_at hR) (by decide) (Nat.le_of_ble_eq_true rfl) (fun μ_14 h_14 => ?_)
    have hC := hR.at h_14
    refine A_aload0 dX11_says_17 ?_
    refine A_getR gf_X11_110 rfl dX11_says_18 ?_
    refine A_iload1 dX11_says_21 ?_
    refine A_vi1 lk_X11_272 yv_X10_ruleFor dX11_says_22 (rfl) (rfl) (T_X10_ruleFor hC.wk hR.2.1.2 hE hd6) (by decide) (Nat.le_of_ble_eq_true rfl) (fun r_22 μ_22 h_22 => ?_)
    obtain ⟨v_22, hF2⟩ := h_22
    replace v_22 := Eq.symm v_22
    subst v_22
    refine A_istore3 dX11_says_25 rfl (by decide) ?_
    refine A_iload3 dX11_says_26 ?_
    refine A_iconst (v := -1) dX11_says_27 (by decide) ?_
    refine A_icmp_ne (tgt := 35) dX11_says_28 (by decide) (fun c_28 => ?_) (fun c_28 => ?_)
    · obtain ⟨j, j1, j2, j3, -⟩ := (ron_v (σ := σ) (k := k) (d := y) h6).resolve_left (fun z => c_28 z.1)
      refine A_aload0 dX11_says_35 ?_
      refine A_getR gf_X11_48 rfl dX11_says_36 ?_
      refine A_getR gf_X11_275 rfl dX11_says_39 ?_
      refine A_iload3 dX11_says_42 ?_
      refine A_iald (rfl) (by rw [j2]; exact vp_in_nI (by omega) (by omega)) dX11_says_43 ?_
      refine A_val (y := σ.1 49 j) (by rw [j2, nI_c (by omega), hF2.2 26 j (by decide)]; exact (hC.wk.1.2.2.2.1.2.2.1 j j1).1) ?_
      refine A_iret dX11_says_44 ?_
      refine ⟨_, rfl, ?_, (hC.s9 hF2).rc hR.2.1 hn⟩
      unfold sp_says
      have hcd : isDy (nI y) ∧ ¬ ron σ k (nI y).toNatClampNeg < 0 := ⟨hz, by rw [ey]; exact j3⟩
      rw [if_pos hcd, ey]
      have ew : wetR σ (ron σ k y) = σ.1 49 j := by unfold wetR; rw [j2, nI_c (by omega)]
      rw [ew]
      rcases (hR.2.1.2.2.2 j j1).2.2.2.2.2.1 with z | z
      · rw [z]; rfl
      · rw [z]; rfl
    · refine A_iconst (v := -1) dX11_says_31 (by decide) ?_
      refine A_goto (tgt := 44) dX11_says_32 (by decide) ?_
      refine A_iret dX11_says_44 ?_
      refine ⟨_, rfl, ?_, (hC.s9 hF2).rc hR.2.1 hn⟩
      unfold sp_says
      rw [ey, if_neg (fun z => z.2 (by rw [c_28]; decide))]
  · refine A_iconst (v := -1) dX11_says_7 (by decide) ?_
    refine A_iret dX11_says_8 ?_
    refine ⟨_, rfl, ?_, hR.up hn⟩
    unfold sp_says
    rw [if_neg (fun z => bz_0.mp c_4 z.1)]

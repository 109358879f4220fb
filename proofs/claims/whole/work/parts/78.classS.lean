/-! what SHOWS may be: the T that fit lie side by side -/
theorem fr_i {s T b : Int} (hs : 0 < s) : b ≤ s * T / 10 ↔ -(-(10 * b) / s) ≤ T := by
  rw [Int.le_ediv_iff_mul_le (by decide)]
  have h : -(-(10 * b) / s) ≤ T ↔ -T ≤ -(10 * b) / s := by omega
  rw [h, Int.le_ediv_iff_mul_le hs, Int.neg_mul, Int.mul_comm s T]
  omega
theorem fr_u {s T b : Int} (hs : 0 < s) : s * T / 10 ≤ b ↔ T ≤ -(-(10 * (b + 1)) / s) - 1 := by
  have h := fr_i (s := s) (T := T) (b := b + 1) hs
  omega
set_option maxHeartbeats 100000 in
set_option maxRecDepth 100000 in
theorem T_X8_firstReaching {l : Launch} {G : Wd} {x s : Int32} {μ : Mem}  : Mt l G KC yX8_firstReaching cX8_firstReaching 2 (some .int) 2 [.int x, .int s] μ (Qi (fun v μ' => v = (if 0 < s then -(fdiv (-10 * x) s) else 0) ∧ μ' = μ)) := by
  refine Mt.of (own := RX8) (n := 0) (by decide) rfl [some (.int x), some (.int s)] rfl (Nat.le_of_ble_eq_true rfl) ?_
  refine A_iload1 dX8_firstReaching_0 ?_
  refine A_if_le (tgt := 16) dX8_firstReaching_1 (by decide) (fun c_1 => ?_) (fun c_1 => ?_)
  · refine A_iconst (v := 0) dX8_firstReaching_16 (by decide) ?_
    refine A_iret dX8_firstReaching_17 ?_
    exact ⟨_, rfl, by rw [if_neg (Int32.not_lt.mpr c_1)], rfl⟩
  · refine A_bipush (v := -10) dX8_firstReaching_4 (by decide) ?_
    refine A_iload0 dX8_firstReaching_6 ?_
    refine A_imul dX8_firstReaching_7 ?_
    refine A_iload1 dX8_firstReaching_8 ?_
    refine A_si2 lk_X8_129 ys_J9_floorDiv_7cf53 dX8_firstReaching_9 (T_floorDiv (fun z => by rw [z] at c_1; exact c_1 (by decide))) (by decide) (Nat.le_of_ble_eq_true rfl) (fun r_9 μ_9 h_9 => ?_)
    obtain ⟨rfl, rfl⟩ := h_9
    refine A_ineg dX8_firstReaching_12 ?_
    refine A_goto (tgt := 17) dX8_firstReaching_13 (by decide) ?_
    refine A_iret dX8_firstReaching_17 ?_
    exact ⟨_, rfl, by rw [if_pos (Int32.not_le.mp c_1)], rfl⟩
def incM (m : Mem) (x y : Int32) : Mem := wI (wI m 73 5 (if m.1 73 5 = -100000 then x else imin (m.1 73 5) x)) 73 6 (imax (m.1 73 6) y)
set_option maxHeartbeats 100000 in
set_option maxRecDepth 100000 in
theorem T_X8_include {l : Launch} {G : Wd} {x y : Int32} {μ : Mem}  : Mt l G KC yX8_include cX8_include 3 none 2 [.ref (gA G 73), .int x, .int y] μ (Qv (fun μ' => μ' = incM μ x y)) := by
  refine Mt.of (own := RX8) (n := 0) (by decide) rfl [some (.ref (gA G 73)), some (.int x), some (.int y)] rfl (Nat.le_of_ble_eq_true rfl) ?_
  refine A_aload0 dX8_include_0 ?_
  refine A_aload0 dX8_include_1 ?_
  refine A_getI gf_X8_31 rfl dX8_include_2 ?_
  refine A_ldc dX8_include_5 kc_X8_30 ?_
  refine A_icmp_ne (tgt := 14) dX8_include_7 (by decide) (fun c_7 => ?_) (fun c_7 => ?_)
  · refine A_aload0 dX8_include_14 ?_
    refine A_getI gf_X8_31 rfl dX8_include_15 ?_
    refine A_iload1 dX8_include_18 ?_
    refine A_si2 lk_X8_126 ys_J9_min_7cf53 dX8_include_19 (T_min) (by decide) (Nat.le_of_ble_eq_true rfl) (fun r_19 μ_19 h_19 => ?_)
    obtain ⟨rfl, rfl⟩ := h_19
    refine A_putI gf_X8_31 rfl dX8_include_22 ?_
    refine A_aload0 dX8_include_25 ?_
    refine A_aload0 dX8_include_26 ?_
    refine A_getI gf_X8_35 rfl dX8_include_27 ?_
    refine A_iload2 dX8_include_30 ?_
    refine A_si2 lk_X8_120 ys_J9_max_7cf53 dX8_include_31 (T_max) (by decide) (Nat.le_of_ble_eq_true rfl) (fun r_31 μ_31 h_31 => ?_)
    obtain ⟨rfl, rfl⟩ := h_31
    refine A_putI gf_X8_35 rfl dX8_include_34 ?_
    refine A_vret dX8_include_37 ?_
    refine ⟨rfl, ?_⟩
    unfold incM; rw [if_neg c_7, wI_ne (by omega)]
  · refine A_iload1 dX8_include_10 ?_
    refine A_goto (tgt := 22) dX8_include_11 (by decide) ?_
    refine A_putI gf_X8_31 rfl dX8_include_22 ?_
    refine A_aload0 dX8_include_25 ?_
    refine A_aload0 dX8_include_26 ?_
    refine A_getI gf_X8_35 rfl dX8_include_27 ?_
    refine A_iload2 dX8_include_30 ?_
    refine A_si2 lk_X8_120 ys_J9_max_7cf53 dX8_include_31 (T_max) (by decide) (Nat.le_of_ble_eq_true rfl) (fun r_31 μ_31 h_31 => ?_)
    obtain ⟨rfl, rfl⟩ := h_31
    refine A_putI gf_X8_35 rfl dX8_include_34 ?_
    refine A_vret dX8_include_37 ?_
    refine ⟨rfl, ?_⟩
    unfold incM; rw [if_pos c_7, wI_ne (by omega)]

/-! the reference's plain methods: what each answers and does -/
def by8 (v : Int32) (k : Int32) : Int32 := v >>> (k &&& 31) &&& 255
def pb (μ : Mem) (t : Nat) (b : Int32) : Mem := wI (wI μ 1 t b) 0 1 (nI (t + 1))
def put4 (μ : Mem) (t : Nat) (v : Int32) : Mem := pb (pb (pb (pb μ t (by8 v 24)) (t + 1) (by8 v 16)) (t + 2) (by8 v 8)) (t + 3) (by8 v 0)
theorem pb_t (μ : Mem) (t : Nat) (b : Int32) : (pb μ t b).1 0 1 = nI (t + 1) := wI_same
theorem put4_t (μ : Mem) (t : Nat) (v : Int32) : (put4 μ t v).1 0 1 = nI (t + 4) := wI_same
def tpd (μ : Mem) : Nat := (μ.1 0 1).toNatClampNeg
def sp_feed (μ : Mem) (a b c d e : Int32) : Int32 × Mem := if tpd μ + 20 ≤ 800 then (nI (tpd μ + 20), put4 (put4 (put4 (put4 (put4 μ (tpd μ) a) (tpd μ + 4) b) (tpd μ + 8) c) (tpd μ + 12) d) (tpd μ + 16) e) else (-1, μ)
def WFt (μ : Mem) : Prop := ∃ t : Nat, t ≤ 800 ∧ μ.1 0 1 = nI t
theorem WFt.t {μ : Mem} (h : WFt μ) : tpd μ ≤ 800 ∧ μ.1 0 1 = nI (tpd μ) := by
  obtain ⟨t, h1, h2⟩ := h
  have e : tpd μ = t := by unfold tpd; rw [h2]; exact nI_c (by omega)
  rw [e]
  exact ⟨h1, h2⟩
set_option maxHeartbeats 4000000 in
set_option maxRecDepth 100000 in
theorem T_X12_four {l : Launch} {G : Wd} {x : Int32} {t : Nat} {μ : Mem} (ht0 : μ.1 0 1 = nI t) (htn : t + 4 ≤ 800) : Mt l G KM yX12_four cX12_four 3 none 1 [.ref (gA G 0), .int x] μ (Qv (fun μ' => μ' = put4 μ t x)) := by
  refine Mt.of (own := RX12) (n := 1) (by decide) rfl [some (.ref (gA G 0)), some (.int x), none] rfl (Nat.le_of_ble_eq_true rfl) ?_
  refine A_bipush (v := 24) dX12_four_0 (by decide) ?_
  refine A_istore2 dX12_four_2 rfl (by decide) ?_
  refine A_iload2 dX12_four_3 ?_
  refine A_if_lt (tgt := 39) dX12_four_4 (by decide) (fun c_4 => absurd c_4 (by first | decide | assumption | (simp_all; done))) (fun c_4 => ?_)
  refine A_aload0 dX12_four_7 ?_
  refine A_getR gf_X12_7 rfl dX12_four_8 ?_
  refine A_aload0 dX12_four_11 ?_
  refine A_getI gf_X12_166 rfl dX12_four_12 ?_
  rw [ht0]
  refine A_iload1 dX12_four_15 ?_
  refine A_iload2 dX12_four_16 ?_
  refine A_ishr dX12_four_17 ?_
  refine A_sipush (v := 255) dX12_four_18 (by decide) ?_
  refine A_iand dX12_four_21 ?_
  refine A_iast (rfl) (vp_in_nI (by omega) (by omega)) dX12_four_22 ?_
  refine A_aload0 dX12_four_23 ?_
  refine A_dup dX12_four_24 rfl ?_
  refine A_getI gf_X12_166 rfl dX12_four_25 ?_
  rw [wI_ne (Or.inl (by decide)), ht0]
  refine A_iconst (v := 1) dX12_four_28 (by decide) ?_
  refine A_iadd dX12_four_29 ?_
  refine A_putI gf_X12_166 rfl dX12_four_30 ?_
  rw [nI_1, nI_c (by omega)]
  refine AW.nm (fun μ1 e1 => ?_)
  have ht1 : μ1.1 0 1 = nI (t + 0 + 1) := by rw [e1]; exact wI_same
  refine A_iinc2 dX12_four_33 rfl rfl (by decide) ?_
  refine A_goto (tgt := 3) dX12_four_36 (by decide) ?_
  refine A_iload2 dX12_four_3 ?_
  refine A_if_lt (tgt := 39) dX12_four_4 (by decide) (fun c_4 => absurd c_4 (by first | decide | assumption | (simp_all; done))) (fun c_4 => ?_)
  refine A_aload0 dX12_four_7 ?_
  refine A_getR gf_X12_7 rfl dX12_four_8 ?_
  refine A_aload0 dX12_four_11 ?_
  refine A_getI gf_X12_166 rfl dX12_four_12 ?_
  rw [ht1]
  refine A_iload1 dX12_four_15 ?_
  refine A_iload2 dX12_four_16 ?_
  refine A_ishr dX12_four_17 ?_
  refine A_sipush (v := 255) dX12_four_18 (by decide) ?_
  refine A_iand dX12_four_21 ?_
  refine A_iast (rfl) (vp_in_nI (by omega) (by omega)) dX12_four_22 ?_
  refine A_aload0 dX12_four_23 ?_
  refine A_dup dX12_four_24 rfl ?_
  refine A_getI gf_X12_166 rfl dX12_four_25 ?_
  rw [wI_ne (Or.inl (by decide)), ht1]
  refine A_iconst (v := 1) dX12_four_28 (by decide) ?_
  refine A_iadd dX12_four_29 ?_
  refine A_putI gf_X12_166 rfl dX12_four_30 ?_
  rw [nI_1, nI_c (by omega)]
  refine AW.nm (fun μ2 e2 => ?_)
  have ht2 : μ2.1 0 1 = nI (t + 1 + 1) := by rw [e2]; exact wI_same
  refine A_iinc2 dX12_four_33 rfl rfl (by decide) ?_
  refine A_goto (tgt := 3) dX12_four_36 (by decide) ?_
  refine A_iload2 dX12_four_3 ?_
  refine A_if_lt (tgt := 39) dX12_four_4 (by decide) (fun c_4 => absurd c_4 (by first | decide | assumption | (simp_all; done))) (fun c_4 => ?_)
  refine A_aload0 dX12_four_7 ?_
  refine A_getR gf_X12_7 rfl dX12_four_8 ?_
  refine A_aload0 dX12_four_11 ?_
  refine A_getI gf_X12_166 rfl dX12_four_12 ?_
  rw [ht2]
  refine A_iload1 dX12_four_15 ?_
  refine A_iload2 dX12_four_16 ?_
  refine A_ishr dX12_four_17 ?_
  refine A_sipush (v := 255) dX12_four_18 (by decide) ?_
  refine A_iand dX12_four_21 ?_
  refine A_iast (rfl) (vp_in_nI (by omega) (by omega)) dX12_four_22 ?_
  refine A_aload0 dX12_four_23 ?_
  refine A_dup dX12_four_24 rfl ?_
  refine A_getI gf_X12_166 rfl dX12_four_25 ?_
  rw [wI_ne (Or.inl (by decide)), ht2]
  refine A_iconst (v := 1) dX12_four_28 (by decide) ?_
  refine A_iadd dX12_four_29 ?_
  refine A_putI gf_X12_166 rfl dX12_four_30 ?_
  rw [nI_1, nI_c (by omega)]
  refine AW.nm (fun μ3 e3 => ?_)
  have ht3 : μ3.1 0 1 = nI (t + 2 + 1) := by rw [e3]; exact wI_same
  refine A_iinc2 dX12_four_33 rfl rfl (by decide) ?_
  refine A_goto (tgt := 3) dX12_four_36 (by decide) ?_
  refine A_iload2 dX12_four_3 ?_
  refine A_if_lt (tgt := 39) dX12_four_4 (by decide) (fun c_4 => absurd c_4 (by first | decide | assumption | (simp_all; done))) (fun c_4 => ?_)
  refine A_aload0 dX12_four_7 ?_
  refine A_getR gf_X12_7 rfl dX12_four_8 ?_
  refine A_aload0 dX12_four_11 ?_
  refine A_getI gf_X12_166 rfl dX12_four_12 ?_
  rw [ht3]
  refine A_iload1 dX12_four_15 ?_
  refine A_iload2 dX12_four_16 ?_
  refine A_ishr dX12_four_17 ?_
  refine A_sipush (v := 255) dX12_four_18 (by decide) ?_
  refine A_iand dX12_four_21 ?_
  refine A_iast (rfl) (vp_in_nI (by omega) (by omega)) dX12_four_22 ?_
  refine A_aload0 dX12_four_23 ?_
  refine A_dup dX12_four_24 rfl ?_
  refine A_getI gf_X12_166 rfl dX12_four_25 ?_
  rw [wI_ne (Or.inl (by decide)), ht3]
  refine A_iconst (v := 1) dX12_four_28 (by decide) ?_
  refine A_iadd dX12_four_29 ?_
  refine A_putI gf_X12_166 rfl dX12_four_30 ?_
  rw [nI_1, nI_c (by omega)]
  refine AW.nm (fun μ4 e4 => ?_)
  have ht4 : μ4.1 0 1 = nI (t + 3 + 1) := by rw [e4]; exact wI_same
  refine A_iinc2 dX12_four_33 rfl rfl (by decide) ?_
  refine A_goto (tgt := 3) dX12_four_36 (by decide) ?_
  refine A_iload2 dX12_four_3 ?_
  refine A_if_lt (tgt := 39) dX12_four_4 (by decide) (fun c_4 => ?_) (fun c_4 => absurd c_4 (by first | decide | assumption | (simp_all; done)))
  refine A_vret dX12_four_39 ?_
  exact ⟨rfl, by subst e4 e3 e2 e1; rfl⟩
set_option maxHeartbeats 4000000 in
set_option maxRecDepth 100000 in
theorem T_X12_feed {l : Launch} {G : Wd} {a b c d e : Int32} {μ : Mem} (hw : WFt μ) : Mt l G KM yX12_feed cX12_feed 6 (some .int) 2 [.ref (gA G 0), .int a, .int b, .int c, .int d, .int e] μ (Qi (fun v μ' => sp_feed μ a b c d e = (v, μ'))) := by
  refine Mt.of (own := RX12) (n := 0) (by decide) rfl [some (.ref (gA G 0)), some (.int a), some (.int b), some (.int c), some (.int d), some (.int e)] rfl (Nat.le_of_ble_eq_true rfl) ?_
  obtain ⟨htn, ht⟩ := hw.t
  refine A_aload0 dX12_feed_0 ?_
  refine A_getI gf_X12_166 rfl dX12_feed_1 ?_
  rw [ht]
  refine A_bipush (v := 20) dX12_feed_4 (by decide) ?_
  refine A_iadd dX12_feed_6 ?_
  refine A_sipush (v := 800) dX12_feed_7 (by decide) ?_
  refine A_icmp_le (tgt := 15) dX12_feed_10 (by decide) (fun c_10 => ?_) (fun c_10 => ?_)
  · have c2 : tpd μ + 20 ≤ 800 := by rw [show (20 : Int32) = nI 20 from rfl, nI_add, show (800 : Int32) = nI 800 from rfl] at c_10; exact (nI_leI (by omega) (by omega)).mp c_10
    refine A_aload0 dX12_feed_15 ?_
    refine A_iload1 dX12_feed_16 ?_
    refine A_vv1 lk_X12_169 yv_X12_four dX12_feed_17 (rfl) (rfl) (T_X12_four (t := tpd μ + 0) (ht) (by omega)) (by decide) (Nat.le_of_ble_eq_true rfl) (fun μ1 e1 => ?_)
    subst e1
    refine A_aload0 dX12_feed_20 ?_
    refine A_iload2 dX12_feed_21 ?_
    refine A_vv1 lk_X12_169 yv_X12_four dX12_feed_22 (rfl) (rfl) (T_X12_four (t := tpd μ + 4) (put4_t _ _ _) (by omega)) (by decide) (Nat.le_of_ble_eq_true rfl) (fun μ2 e2 => ?_)
    subst e2
    refine A_aload0 dX12_feed_25 ?_
    refine A_iload3 dX12_feed_26 ?_
    refine A_vv1 lk_X12_169 yv_X12_four dX12_feed_27 (rfl) (rfl) (T_X12_four (t := tpd μ + 8) (put4_t _ _ _) (by omega)) (by decide) (Nat.le_of_ble_eq_true rfl) (fun μ3 e3 => ?_)
    subst e3
    refine A_aload0 dX12_feed_30 ?_
    refine A_iload4 dX12_feed_31 ?_
    refine A_vv1 lk_X12_169 yv_X12_four dX12_feed_33 (rfl) (rfl) (T_X12_four (t := tpd μ + 12) (put4_t _ _ _) (by omega)) (by decide) (Nat.le_of_ble_eq_true rfl) (fun μ4 e4 => ?_)
    subst e4
    refine A_aload0 dX12_feed_36 ?_
    refine A_iload5 dX12_feed_37 ?_
    refine A_vv1 lk_X12_169 yv_X12_four dX12_feed_39 (rfl) (rfl) (T_X12_four (t := tpd μ + 16) (put4_t _ _ _) (by omega)) (by decide) (Nat.le_of_ble_eq_true rfl) (fun μ5 e5 => ?_)
    subst e5
    refine A_aload0 dX12_feed_42 ?_
    refine A_getI gf_X12_166 rfl dX12_feed_43 ?_
    rw [put4_t]
    refine A_iret dX12_feed_46 ?_
    exact ⟨_, rfl, by unfold sp_feed; rw [if_pos (by omega)]; rfl⟩
  · have c2 : ¬ tpd μ + 20 ≤ 800 := fun q => c_10 (by rw [show (20 : Int32) = nI 20 from rfl, nI_add, show (800 : Int32) = nI 800 from rfl]; exact nI_le q (by omega))
    refine A_iconst (v := -1) dX12_feed_13 (by decide) ?_
    refine A_iret dX12_feed_14 ?_
    exact ⟨_, rfl, by unfold sp_feed; rw [if_neg (by omega)]⟩
def sp_end (μ : Mem) (n : Int32) : Int32 × Mem := if n < 0 ∨ μ.1 0 1 < n then (-1, μ) else (n, wI μ 0 1 n)
set_option maxHeartbeats 4000000 in
set_option maxRecDepth 100000 in
theorem T_X12_end {l : Launch} {G : Wd} {n : Int32} {μ : Mem}  : Mt l G KM yX12_end cX12_end 2 (some .int) 1 [.ref (gA G 0), .int n] μ (Qi (fun v μ' => sp_end μ n = (v, μ'))) := by
  refine Mt.of (own := RX12) (n := 0) (by decide) rfl [some (.ref (gA G 0)), some (.int n)] rfl (Nat.le_of_ble_eq_true rfl) ?_
  refine A_iload1 dX12_end_0 ?_
  refine A_if_lt (tgt := 12) dX12_end_1 (by decide) (fun c_1 => ?_) (fun c_1 => ?_)
  · refine A_iconst (v := -1) dX12_end_12 (by decide) ?_
    refine A_iret dX12_end_13 ?_
    refine ⟨_, rfl, ?_⟩
    unfold sp_end
    simp_all [i_lt, i_le]
    try (intros; omega)
  · refine A_iload1 dX12_end_4 ?_
    refine A_aload0 dX12_end_5 ?_
    refine A_getI gf_X12_166 rfl dX12_end_6 ?_
    refine A_icmp_le (tgt := 14) dX12_end_9 (by decide) (fun c_9 => ?_) (fun c_9 => ?_)
    · refine A_aload0 dX12_end_14 ?_
      refine A_iload1 dX12_end_15 ?_
      refine A_putI gf_X12_166 rfl dX12_end_16 ?_
      refine A_iload1 dX12_end_19 ?_
      refine A_iret dX12_end_20 ?_
      refine ⟨_, rfl, ?_⟩
      unfold sp_end
      simp_all [i_lt, i_le]
      try (intros; omega)
    · refine A_iconst (v := -1) dX12_end_12 (by decide) ?_
      refine A_iret dX12_end_13 ?_
      refine ⟨_, rfl, ?_⟩
      unfold sp_end
      simp_all [i_lt, i_le]
      try (intros; omega)
def sp_fault (μ : Mem) (w : Int32) : Int32 := if w = 0 then μ.1 0 2 else if w = 1 then μ.1 0 3 else -1
set_option maxHeartbeats 4000000 in
set_option maxRecDepth 100000 in
theorem T_X12_fault {l : Launch} {G : Wd} {w : Int32} {μ : Mem}  : Mt l G KM yX12_fault cX12_fault 2 (some .int) 1 [.ref (gA G 0), .int w] μ (Qi (fun v μ' => v = sp_fault μ w ∧ μ' = μ)) := by
  refine Mt.of (own := RX12) (n := 0) (by decide) rfl [some (.ref (gA G 0)), some (.int w)] rfl (Nat.le_of_ble_eq_true rfl) ?_
  refine A_iload1 dX12_fault_0 ?_
  refine A_if_ne (tgt := 11) dX12_fault_1 (by decide) (fun c_1 => ?_) (fun c_1 => ?_)
  · refine A_iload1 dX12_fault_11 ?_
    refine A_iconst (v := 1) dX12_fault_12 (by decide) ?_
    refine A_icmp_ne (tgt := 23) dX12_fault_13 (by decide) (fun c_13 => ?_) (fun c_13 => ?_)
    · refine A_iconst (v := -1) dX12_fault_23 (by decide) ?_
      refine A_iret dX12_fault_24 ?_
      refine ⟨_, rfl, ?_, rfl⟩
      unfold sp_fault
      simp_all
    · refine A_aload0 dX12_fault_16 ?_
      refine A_getI gf_X12_13 rfl dX12_fault_17 ?_
      refine A_goto (tgt := 24) dX12_fault_20 (by decide) ?_
      refine A_iret dX12_fault_24 ?_
      refine ⟨_, rfl, ?_, rfl⟩
      unfold sp_fault
      simp_all
  · refine A_aload0 dX12_fault_4 ?_
    refine A_getI gf_X12_210 rfl dX12_fault_5 ?_
    refine A_goto (tgt := 24) dX12_fault_8 (by decide) ?_
    refine A_iret dX12_fault_24 ?_
    refine ⟨_, rfl, ?_, rfl⟩
    unfold sp_fault
    simp_all
abbrev isDy (x : Int32) : Prop := 0 ≤ x ∧ x < 60
abbrev isBx (μ : Mem) (x : Int32) : Prop := 0 ≤ x ∧ x < μ.1 0 31
set_option maxHeartbeats 4000000 in
set_option maxRecDepth 100000 in
theorem T_X12_isDay {l : Launch} {G : Wd} {x : Int32} {μ : Mem}  : Mt l G KM yX12_isDay cX12_isDay 1 (some .boolean) 1 [.int x] μ (Qi (fun v μ' => v = bz (isDy x) ∧ μ' = μ)) := by
  refine Mt.of (own := RX12) (n := 0) (by decide) rfl [some (.int x)] rfl (Nat.le_of_ble_eq_true rfl) ?_
  refine A_iload0 dX12_isDay_0 ?_
  refine A_if_lt (tgt := 14) dX12_isDay_1 (by decide) (fun c_1 => ?_) (fun c_1 => ?_)
  · refine A_iconst (v := 0) dX12_isDay_14 (by decide) ?_
    refine A_zret dX12_isDay_15 (by decide) ?_
    refine ⟨_, rfl, ?_, rfl⟩
    unfold bz
    simp_all [i_lt, i_le]
    try omega
  · refine A_iload0 dX12_isDay_4 ?_
    refine A_bipush (v := 60) dX12_isDay_5 (by decide) ?_
    refine A_icmp_ge (tgt := 14) dX12_isDay_7 (by decide) (fun c_7 => ?_) (fun c_7 => ?_)
    · refine A_iconst (v := 0) dX12_isDay_14 (by decide) ?_
      refine A_zret dX12_isDay_15 (by decide) ?_
      refine ⟨_, rfl, ?_, rfl⟩
      unfold bz
      simp_all [i_lt, i_le]
      try omega
    · refine A_iconst (v := 1) dX12_isDay_10 (by decide) ?_
      refine A_goto (tgt := 15) dX12_isDay_11 (by decide) ?_
      refine A_zret dX12_isDay_15 (by decide) ?_
      refine ⟨_, rfl, ?_, rfl⟩
      unfold bz
      simp_all [i_lt, i_le]
      try omega
set_option maxHeartbeats 4000000 in
set_option maxRecDepth 100000 in
theorem T_X12_isBox {l : Launch} {G : Wd} {x : Int32} {μ : Mem}  : Mt l G KM yX12_isBox cX12_isBox 2 (some .boolean) 1 [.ref (gA G 0), .int x] μ (Qi (fun v μ' => v = bz (isBx μ x) ∧ μ' = μ)) := by
  refine Mt.of (own := RX12) (n := 0) (by decide) rfl [some (.ref (gA G 0)), some (.int x)] rfl (Nat.le_of_ble_eq_true rfl) ?_
  refine A_iload1 dX12_isBox_0 ?_
  refine A_if_lt (tgt := 16) dX12_isBox_1 (by decide) (fun c_1 => ?_) (fun c_1 => ?_)
  · refine A_iconst (v := 0) dX12_isBox_16 (by decide) ?_
    refine A_zret dX12_isBox_17 (by decide) ?_
    refine ⟨_, rfl, ?_, rfl⟩
    unfold bz
    simp_all [i_lt, i_le]
    try omega
  · refine A_iload1 dX12_isBox_4 ?_
    refine A_aload0 dX12_isBox_5 ?_
    refine A_getI gf_X12_321 rfl dX12_isBox_6 ?_
    refine A_icmp_ge (tgt := 16) dX12_isBox_9 (by decide) (fun c_9 => ?_) (fun c_9 => ?_)
    · refine A_iconst (v := 0) dX12_isBox_16 (by decide) ?_
      refine A_zret dX12_isBox_17 (by decide) ?_
      refine ⟨_, rfl, ?_, rfl⟩
      unfold bz
      simp_all [i_lt, i_le]
      try omega
    · refine A_iconst (v := 1) dX12_isBox_12 (by decide) ?_
      refine A_goto (tgt := 17) dX12_isBox_13 (by decide) ?_
      refine A_zret dX12_isBox_17 (by decide) ?_
      refine ⟨_, rfl, ?_, rfl⟩
      unfold bz
      simp_all [i_lt, i_le]
      try omega
def lstOf (q : Int32) : Int32 := if q = 0 then -20 else 0
def mstOf (q : Int32) : Int32 := if q = 0 then 40 else if q = 1 then 100 else if q = 2 then 99 else 15
set_option maxHeartbeats 4000000 in
set_option maxRecDepth 100000 in
theorem T_X12_leastOf {l : Launch} {G : Wd} {x : Int32} {μ : Mem}  : Mt l G KM yX12_leastOf cX12_leastOf 1 (some .int) 1 [.int x] μ (Qi (fun v μ' => v = lstOf x ∧ μ' = μ)) := by
  refine Mt.of (own := RX12) (n := 0) (by decide) rfl [some (.int x)] rfl (Nat.le_of_ble_eq_true rfl) ?_
  refine A_iload0 dX12_leastOf_0 ?_
  refine A_if_ne (tgt := 9) dX12_leastOf_1 (by decide) (fun c_1 => ?_) (fun c_1 => ?_)
  · refine A_iconst (v := 0) dX12_leastOf_9 (by decide) ?_
    refine A_iret dX12_leastOf_10 ?_
    refine ⟨_, rfl, ?_, rfl⟩
    unfold lstOf
    simp_all
  · refine A_bipush (v := -20) dX12_leastOf_4 (by decide) ?_
    refine A_goto (tgt := 10) dX12_leastOf_6 (by decide) ?_
    refine A_iret dX12_leastOf_10 ?_
    refine ⟨_, rfl, ?_, rfl⟩
    unfold lstOf
    simp_all
set_option maxHeartbeats 4000000 in
set_option maxRecDepth 100000 in
theorem T_X12_mostOf {l : Launch} {G : Wd} {x : Int32} {μ : Mem}  : Mt l G KM yX12_mostOf cX12_mostOf 1 (some .int) 1 [.int x] μ (Qi (fun v μ' => v = mstOf x ∧ μ' = μ)) := by
  refine Mt.of (own := RX12) (n := 0) (by decide) rfl [some (.int x)] rfl (Nat.le_of_ble_eq_true rfl) ?_
  refine A_iload0 dX12_mostOf_0 ?_
  refine A_if_ne (tgt := 9) dX12_mostOf_1 (by decide) (fun c_1 => ?_) (fun c_1 => ?_)
  · refine A_iload0 dX12_mostOf_9 ?_
    refine A_iconst (v := 1) dX12_mostOf_10 (by decide) ?_
    refine A_icmp_ne (tgt := 19) dX12_mostOf_11 (by decide) (fun c_11 => ?_) (fun c_11 => ?_)
    · refine A_iload0 dX12_mostOf_19 ?_
      refine A_iconst (v := 2) dX12_mostOf_20 (by decide) ?_
      refine A_icmp_ne (tgt := 29) dX12_mostOf_21 (by decide) (fun c_21 => ?_) (fun c_21 => ?_)
      · refine A_bipush (v := 15) dX12_mostOf_29 (by decide) ?_
        refine A_iret dX12_mostOf_31 ?_
        refine ⟨_, rfl, ?_, rfl⟩
        unfold mstOf
        simp_all
      · refine A_bipush (v := 99) dX12_mostOf_24 (by decide) ?_
        refine A_goto (tgt := 31) dX12_mostOf_26 (by decide) ?_
        refine A_iret dX12_mostOf_31 ?_
        refine ⟨_, rfl, ?_, rfl⟩
        unfold mstOf
        simp_all
    · refine A_bipush (v := 100) dX12_mostOf_14 (by decide) ?_
      refine A_goto (tgt := 31) dX12_mostOf_16 (by decide) ?_
      refine A_iret dX12_mostOf_31 ?_
      refine ⟨_, rfl, ?_, rfl⟩
      unfold mstOf
      simp_all
  · refine A_bipush (v := 40) dX12_mostOf_4 (by decide) ?_
    refine A_goto (tgt := 31) dX12_mostOf_6 (by decide) ?_
    refine A_iret dX12_mostOf_31 ?_
    refine ⟨_, rfl, ?_, rfl⟩
    unfold mstOf
    simp_all
def sp_share (μ : Mem) (d z : Int32) : Int32 × Mem := if isDy d ∧ μ.1 27 d.toNatClampNeg ≠ z then (1, wI μ 27 d.toNatClampNeg z) else (0, μ)
set_option maxHeartbeats 4000000 in
set_option maxRecDepth 100000 in
theorem T_X12_share {l : Launch} {G : Wd} {d z : Int32} {μ : Mem} (hz : z = 0 ∨ z = 1) : Mt l G KM yX12_share cX12_share 3 (some .boolean) 2 [.ref (gA G 0), .int d, .int z] μ (Qi (fun v μ' => sp_share μ d z = (v, μ'))) := by
  refine Mt.of (own := RX12) (n := 0) (by decide) rfl [some (.ref (gA G 0)), some (.int d), some (.int z)] rfl (Nat.le_of_ble_eq_true rfl) ?_
  refine A_iload1 dX12_share_0 ?_
  refine A_si1 lk_X12_333 ys_X12_isDay dX12_share_1 (T_X12_isDay) (by decide) (Nat.le_of_ble_eq_true rfl) (fun r_1 μ_1 h_1 => ?_)
  obtain ⟨rfl, rfl⟩ := h_1
  refine A_if_eq (tgt := 17) dX12_share_4 (by decide) (fun c_4 => ?_) (fun c_4 => ?_)
  · refine A_iconst (v := 0) dX12_share_17 (by decide) ?_
    refine A_zret dX12_share_18 (by decide) ?_
    refine ⟨_, rfl, ?_⟩
    unfold sp_share
    simp_all [i_lt, i_le, bz_0]
    try (intros; omega)
  · have hd : isDy d := by simpa [bz_0] using c_4
    refine A_aload0 dX12_share_7 ?_
    refine A_getR gf_X12_94 rfl dX12_share_8 ?_
    refine A_iload1 dX12_share_11 ?_
    refine A_zald (rfl) (i_day hd) dX12_share_12 ?_
    refine A_iload2 dX12_share_13 ?_
    refine A_icmp_ne (tgt := 19) dX12_share_14 (by decide) (fun c_14 => ?_) (fun c_14 => ?_)
    · refine A_aload0 dX12_share_19 ?_
      refine A_getR gf_X12_94 rfl dX12_share_20 ?_
      refine A_iload1 dX12_share_23 ?_
      refine A_iload2 dX12_share_24 ?_
      refine A_zast (rfl) (i_day hd) dX12_share_25 ?_
      rw [vz_01 hz]
      refine A_iconst (v := 1) dX12_share_26 (by decide) ?_
      refine A_zret dX12_share_27 (by decide) ?_
      refine ⟨_, rfl, ?_⟩
      unfold sp_share
      simp_all [i_lt, i_le, bz_0]
      try (intros; omega)
    · refine A_iconst (v := 0) dX12_share_17 (by decide) ?_
      refine A_zret dX12_share_18 (by decide) ?_
      refine ⟨_, rfl, ?_⟩
      unfold sp_share
      simp_all [i_lt, i_le, bz_0]
      try (intros; omega)
abbrev isRd (x : Int32) : Prop := 0 ≤ x ∧ x < 10
theorem i_rd {x : Int32} (h : isRd x) : vp_in x 10 := i_in h.1 (by have := i_lt.mp h.2; simpa using this)
def sp_doubt (μ : Mem) (d z : Int32) : Int32 × Mem := if isRd d ∧ μ.1 28 d.toNatClampNeg ≠ z then (1, wI μ 28 d.toNatClampNeg z) else (0, μ)
set_option maxHeartbeats 4000000 in
set_option maxRecDepth 100000 in
theorem T_X12_doubt {l : Launch} {G : Wd} {d z : Int32} {μ : Mem} (hz : z = 0 ∨ z = 1) : Mt l G KM yX12_doubt cX12_doubt 3 (some .boolean) 2 [.ref (gA G 0), .int d, .int z] μ (Qi (fun v μ' => sp_doubt μ d z = (v, μ'))) := by
  refine Mt.of (own := RX12) (n := 0) (by decide) rfl [some (.ref (gA G 0)), some (.int d), some (.int z)] rfl (Nat.le_of_ble_eq_true rfl) ?_
  refine A_iload1 dX12_doubt_0 ?_
  refine A_if_lt (tgt := 20) dX12_doubt_1 (by decide) (fun c_1 => ?_) (fun c_1 => ?_)
  · refine A_iconst (v := 0) dX12_doubt_20 (by decide) ?_
    refine A_zret dX12_doubt_21 (by decide) ?_
    refine ⟨_, rfl, ?_⟩
    unfold sp_doubt isRd
    simp_all [i_lt, i_le]
    try omega
  · refine A_iload1 dX12_doubt_4 ?_
    refine A_bipush (v := 10) dX12_doubt_5 (by decide) ?_
    refine A_icmp_ge (tgt := 20) dX12_doubt_7 (by decide) (fun c_7 => ?_) (fun c_7 => ?_)
    · refine A_iconst (v := 0) dX12_doubt_20 (by decide) ?_
      refine A_zret dX12_doubt_21 (by decide) ?_
      refine ⟨_, rfl, ?_⟩
      unfold sp_doubt isRd
      simp_all [i_lt, i_le]
      try omega
    · have hd : isRd d := ⟨by rw [i_le]; rw [i_lt] at c_1; simpa using c_1, by rw [i_lt]; rw [i_le] at c_7; simpa using c_7⟩
      refine A_aload0 dX12_doubt_10 ?_
      refine A_getR gf_X12_97 rfl dX12_doubt_11 ?_
      refine A_iload1 dX12_doubt_14 ?_
      refine A_zald (rfl) (i_rd hd) dX12_doubt_15 ?_
      refine A_iload2 dX12_doubt_16 ?_
      refine A_icmp_ne (tgt := 22) dX12_doubt_17 (by decide) (fun c_17 => ?_) (fun c_17 => ?_)
      · refine A_aload0 dX12_doubt_22 ?_
        refine A_getR gf_X12_97 rfl dX12_doubt_23 ?_
        refine A_iload1 dX12_doubt_26 ?_
        refine A_iload2 dX12_doubt_27 ?_
        refine A_zast (rfl) (i_rd hd) dX12_doubt_28 ?_
        rw [vz_01 hz]
        refine A_iconst (v := 1) dX12_doubt_29 (by decide) ?_
        refine A_zret dX12_doubt_30 (by decide) ?_
        refine ⟨_, rfl, ?_⟩
        unfold sp_doubt isRd
        simp_all [i_lt, i_le]
        try omega
      · refine A_iconst (v := 0) dX12_doubt_20 (by decide) ?_
        refine A_zret dX12_doubt_21 (by decide) ?_
        refine ⟨_, rfl, ?_⟩
        unfold sp_doubt isRd
        simp_all [i_lt, i_le]
        try omega
def nfc (μ : Mem) : Nat := (μ.1 0 42).toNatClampNeg
def add1 (μ : Mem) (far kind day reader number : Int32) : Mem := wI (wI (wI (wI (wI (wI (wI (wI μ 26 (nfc μ) far) 20 (nfc μ) kind) 21 (nfc μ) day) 22 (nfc μ) reader) 23 (nfc μ) number) 24 (nfc μ) (μ.1 0 43)) 25 (nfc μ) (-1)) 0 42 (nI (nfc μ + 1))
def WFc (μ : Mem) : Prop := ∃ t : Nat, t ≤ 300 ∧ μ.1 0 42 = nI t
theorem WFc.t {μ : Mem} (h : WFc μ) : nfc μ ≤ 300 ∧ μ.1 0 42 = nI (nfc μ) := by
  obtain ⟨t, h1, h2⟩ := h
  have e : nfc μ = t := by unfold nfc; rw [h2]; exact nI_c (by omega)
  rw [e]
  exact ⟨h1, h2⟩
set_option maxHeartbeats 4000000 in
set_option maxRecDepth 100000 in
theorem T_X12_add {l : Launch} {G : Wd} {a b c d e : Int32} {μ : Mem} (hz : a = 0 ∨ a = 1) (ht : μ.1 0 42 = nI (nfc μ)) (hn : nfc μ < 300) : Mt l G KM yX12_add cX12_add 6 (some .int) 1 [.ref (gA G 0), .int a, .int b, .int c, .int d, .int e] μ (Qi (fun v μ' => v = nI (nfc μ) ∧ μ' = add1 μ a b c d e)) := by
  refine Mt.of (own := RX12) (n := 0) (by decide) rfl [some (.ref (gA G 0)), some (.int a), some (.int b), some (.int c), some (.int d), some (.int e)] rfl (Nat.le_of_ble_eq_true rfl) ?_
  refine A_aload0 dX12_add_0 ?_
  refine A_getR gf_X12_91 rfl dX12_add_1 ?_
  refine A_aload0 dX12_add_4 ?_
  refine A_getI gf_X12_327 rfl dX12_add_5 ?_
  refine A_val (y := nI (nfc μ)) ht ?_
  refine A_iload1 dX12_add_8 ?_
  refine A_zast (rfl) (vp_in_nI hn (by omega)) dX12_add_9 ?_
  rw [nI_c (by omega), vz_01 hz]
  refine A_aload0 dX12_add_10 ?_
  refine A_getR gf_X12_73 rfl dX12_add_11 ?_
  refine A_aload0 dX12_add_14 ?_
  refine A_getI gf_X12_327 rfl dX12_add_15 ?_
  refine A_val (y := nI (nfc μ)) ht ?_
  refine A_iload2 dX12_add_18 ?_
  refine A_iast (rfl) (vp_in_nI hn (by omega)) dX12_add_19 ?_
  rw [nI_c (by omega)]
  refine A_aload0 dX12_add_20 ?_
  refine A_getR gf_X12_76 rfl dX12_add_21 ?_
  refine A_aload0 dX12_add_24 ?_
  refine A_getI gf_X12_327 rfl dX12_add_25 ?_
  refine A_val (y := nI (nfc μ)) ht ?_
  refine A_iload3 dX12_add_28 ?_
  refine A_iast (rfl) (vp_in_nI hn (by omega)) dX12_add_29 ?_
  rw [nI_c (by omega)]
  refine A_aload0 dX12_add_30 ?_
  refine A_getR gf_X12_79 rfl dX12_add_31 ?_
  refine A_aload0 dX12_add_34 ?_
  refine A_getI gf_X12_327 rfl dX12_add_35 ?_
  refine A_val (y := nI (nfc μ)) ht ?_
  refine A_iload4 dX12_add_38 ?_
  refine A_iast (rfl) (vp_in_nI hn (by omega)) dX12_add_40 ?_
  rw [nI_c (by omega)]
  refine A_aload0 dX12_add_41 ?_
  refine A_getR gf_X12_82 rfl dX12_add_42 ?_
  refine A_aload0 dX12_add_45 ?_
  refine A_getI gf_X12_327 rfl dX12_add_46 ?_
  refine A_val (y := nI (nfc μ)) ht ?_
  refine A_iload5 dX12_add_49 ?_
  refine A_iast (rfl) (vp_in_nI hn (by omega)) dX12_add_51 ?_
  rw [nI_c (by omega)]
  refine A_aload0 dX12_add_52 ?_
  refine A_getR gf_X12_85 rfl dX12_add_53 ?_
  refine A_aload0 dX12_add_56 ?_
  refine A_getI gf_X12_327 rfl dX12_add_57 ?_
  refine A_val (y := nI (nfc μ)) ht ?_
  refine A_aload0 dX12_add_60 ?_
  refine A_getI gf_X12_336 rfl dX12_add_61 ?_
  refine A_val (y := μ.1 0 43) rfl ?_
  refine A_iast (rfl) (vp_in_nI hn (by omega)) dX12_add_64 ?_
  rw [nI_c (by omega)]
  refine A_aload0 dX12_add_65 ?_
  refine A_getR gf_X12_88 rfl dX12_add_66 ?_
  refine A_aload0 dX12_add_69 ?_
  refine A_getI gf_X12_327 rfl dX12_add_70 ?_
  refine A_val (y := nI (nfc μ)) ht ?_
  refine A_iconst (v := -1) dX12_add_73 (by decide) ?_
  refine A_iast (rfl) (vp_in_nI hn (by omega)) dX12_add_74 ?_
  rw [nI_c (by omega)]
  refine A_aload0 dX12_add_75 ?_
  refine A_dup dX12_add_76 rfl ?_
  refine A_getI gf_X12_327 rfl dX12_add_77 ?_
  refine A_val (y := nI (nfc μ)) ht ?_
  refine A_iconst (v := 1) dX12_add_80 (by decide) ?_
  refine A_iadd dX12_add_81 ?_
  rw [nI_1]
  refine A_putI gf_X12_327 rfl dX12_add_82 ?_
  refine A_aload0 dX12_add_85 ?_
  refine A_getI gf_X12_327 rfl dX12_add_86 ?_
  rw [wI_same]
  refine A_iconst (v := 1) dX12_add_89 (by decide) ?_
  refine A_isub dX12_add_90 ?_
  rw [show nI (nfc μ + 1) - 1 = nI (nfc μ) from nI_pred _]
  refine A_iret dX12_add_91 ?_
  exact ⟨_, rfl, rfl, rfl⟩
abbrev isQt (q : Int32) : Prop := 0 ≤ q ∧ q ≤ 3
abbrev okFar (μ : Mem) (q d n : Int32) : Prop := isQt q ∧ isDy d ∧ lstOf q ≤ n ∧ n ≤ mstOf q ∧ μ.1 0 42 ≠ 300
def sp_far (μ : Mem) (q d n : Int32) : Int32 × Mem := if okFar μ q d n then (nI (nfc μ), add1 μ 1 q d 0 n) else (-1, μ)
theorem nfc_lt {μ : Mem} (h : WFc μ) (h2 : μ.1 0 42 ≠ 300) : nfc μ < 300 := by
  obtain ⟨h1, h3⟩ := h.t
  rcases Nat.lt_or_ge (nfc μ) 300 with a | a
  · exact a
  · have e : nfc μ = 300 := by omega
    rw [e] at h3
    exact absurd h3 h2
set_option maxHeartbeats 4000000 in
set_option maxRecDepth 100000 in
theorem T_X12_far {l : Launch} {G : Wd} {q d n : Int32} {μ : Mem} (hw : WFc μ) : Mt l G KM yX12_far cX12_far 4 (some .int) 2 [.ref (gA G 0), .int q, .int d, .int n] μ (Qi (fun v μ' => sp_far μ q d n = (v, μ'))) := by
  refine Mt.of (own := RX12) (n := 0) (by decide) rfl [some (.ref (gA G 0)), some (.int q), some (.int d), some (.int n)] rfl (Nat.le_of_ble_eq_true rfl) ?_
  refine A_iload1 dX12_far_0 ?_
  refine A_if_lt (tgt := 42) dX12_far_1 (by decide) (fun c_1 => ?_) (fun c_1 => ?_)
  · refine A_iconst (v := -1) dX12_far_42 (by decide) ?_
    refine A_iret dX12_far_43 ?_
    refine ⟨_, rfl, ?_⟩
    unfold sp_far okFar
    simp_all [i_lt, i_le, bz_0]
    try (intros; omega)
  · refine A_iload1 dX12_far_4 ?_
    refine A_iconst (v := 3) dX12_far_5 (by decide) ?_
    refine A_icmp_gt (tgt := 42) dX12_far_6 (by decide) (fun c_6 => ?_) (fun c_6 => ?_)
    · refine A_iconst (v := -1) dX12_far_42 (by decide) ?_
      refine A_iret dX12_far_43 ?_
      refine ⟨_, rfl, ?_⟩
      unfold sp_far okFar
      simp_all [i_lt, i_le, bz_0]
      try (intros; omega)
    · refine A_iload2 dX12_far_9 ?_
      refine A_si1 lk_X12_333 ys_X12_isDay dX12_far_10 (T_X12_isDay) (by decide) (Nat.le_of_ble_eq_true rfl) (fun r_10 μ_10 h_10 => ?_)
      obtain ⟨rfl, rfl⟩ := h_10
      refine A_if_eq (tgt := 42) dX12_far_13 (by decide) (fun c_13 => ?_) (fun c_13 => ?_)
      · refine A_iconst (v := -1) dX12_far_42 (by decide) ?_
        refine A_iret dX12_far_43 ?_
        refine ⟨_, rfl, ?_⟩
        unfold sp_far okFar
        simp_all [i_lt, i_le, bz_0]
        try (intros; omega)
      · refine A_iload3 dX12_far_16 ?_
        refine A_iload1 dX12_far_17 ?_
        refine A_si1 lk_X12_339 ys_X12_leastOf dX12_far_18 (T_X12_leastOf) (by decide) (Nat.le_of_ble_eq_true rfl) (fun r_18 μ_18 h_18 => ?_)
        obtain ⟨rfl, rfl⟩ := h_18
        refine A_icmp_lt (tgt := 42) dX12_far_21 (by decide) (fun c_21 => ?_) (fun c_21 => ?_)
        · refine A_iconst (v := -1) dX12_far_42 (by decide) ?_
          refine A_iret dX12_far_43 ?_
          refine ⟨_, rfl, ?_⟩
          unfold sp_far okFar
          simp_all [i_lt, i_le, bz_0]
          try (intros; omega)
        · refine A_iload3 dX12_far_24 ?_
          refine A_iload1 dX12_far_25 ?_
          refine A_si1 lk_X12_342 ys_X12_mostOf dX12_far_26 (T_X12_mostOf) (by decide) (Nat.le_of_ble_eq_true rfl) (fun r_26 μ_26 h_26 => ?_)
          obtain ⟨rfl, rfl⟩ := h_26
          refine A_icmp_gt (tgt := 42) dX12_far_29 (by decide) (fun c_29 => ?_) (fun c_29 => ?_)
          · refine A_iconst (v := -1) dX12_far_42 (by decide) ?_
            refine A_iret dX12_far_43 ?_
            refine ⟨_, rfl, ?_⟩
            unfold sp_far okFar
            simp_all [i_lt, i_le, bz_0]
            try (intros; omega)
          · refine A_aload0 dX12_far_32 ?_
            refine A_getI gf_X12_327 rfl dX12_far_33 ?_
            refine A_sipush (v := 300) dX12_far_36 (by decide) ?_
            refine A_icmp_ne (tgt := 44) dX12_far_39 (by decide) (fun c_39 => ?_) (fun c_39 => ?_)
            · refine A_aload0 dX12_far_44 ?_
              refine A_iconst (v := 1) dX12_far_45 (by decide) ?_
              refine A_iload1 dX12_far_46 ?_
              refine A_iload2 dX12_far_47 ?_
              refine A_iconst (v := 0) dX12_far_48 (by decide) ?_
              refine A_iload3 dX12_far_49 ?_
              refine A_vi5 lk_X12_345 yv_X12_add dX12_far_50 (rfl) (rfl) (T_X12_add (Or.inr rfl) (hw.t).2 (nfc_lt hw (by assumption))) (by decide) (Nat.le_of_ble_eq_true rfl) (fun r_50 μ_50 h_50 => ?_)
              obtain ⟨rfl, rfl⟩ := h_50
              refine A_iret dX12_far_53 ?_
              refine ⟨_, rfl, ?_⟩
              unfold sp_far okFar
              simp_all [i_lt, i_le, bz_0]
              try (intros; omega)
            · refine A_iconst (v := -1) dX12_far_42 (by decide) ?_
              refine A_iret dX12_far_43 ?_
              refine ⟨_, rfl, ?_⟩
              unfold sp_far okFar
              simp_all [i_lt, i_le, bz_0]
              try (intros; omega)
def WFb (μ : Mem) : Prop := ∃ t : Nat, t ≤ 5 ∧ μ.1 0 31 = nI t
theorem i_bx {μ : Mem} {x : Int32} (hb : WFb μ) (h : isBx μ x) : vp_in x 5 := by
  obtain ⟨t, h1, h2⟩ := hb
  refine i_in h.1 ?_
  have h3 := i_lt.mp h.2
  rw [h2, nI_i (by omega)] at h3
  omega
abbrev okRd (μ : Mem) (b d r n : Int32) : Prop := isBx μ b ∧ isDy d ∧ isRd r ∧ μ.1 0 42 ≠ 300 ∧ (if μ.1 7 b.toNatClampNeg = 3 then 0 ≤ n ∧ n ≤ 15 else -999 ≤ n ∧ n ≤ 999)
def sp_read (μ : Mem) (b d r n : Int32) : Int32 × Mem := if okRd μ b d r n then (nI (nfc μ), add1 μ 0 b d r n) else (-1, μ)
set_option maxHeartbeats 4000000 in
set_option maxRecDepth 100000 in
theorem T_X12_read {l : Launch} {G : Wd} {b d r n : Int32} {μ : Mem} (hw : WFc μ) (hb : WFb μ) : Mt l G KM yX12_read cX12_read 6 (some .int) 2 [.ref (gA G 0), .int b, .int d, .int r, .int n] μ (Qi (fun v μ' => sp_read μ b d r n = (v, μ'))) := by
  refine Mt.of (own := RX12) (n := 1) (by decide) rfl [some (.ref (gA G 0)), some (.int b), some (.int d), some (.int r), some (.int n), none] rfl (Nat.le_of_ble_eq_true rfl) ?_
  refine A_aload0 dX12_read_0 ?_
  refine A_iload1 dX12_read_1 ?_
  refine A_vi1 lk_X12_349 yv_X12_isBox dX12_read_2 (rfl) (rfl) (T_X12_isBox) (by decide) (Nat.le_of_ble_eq_true rfl) (fun r_2 μ_2 h_2 => ?_)
  obtain ⟨rfl, rfl⟩ := h_2
  refine A_if_eq (tgt := 35) dX12_read_5 (by decide) (fun c_5 => ?_) (fun c_5 => ?_)
  · refine A_iconst (v := -1) dX12_read_35 (by decide) ?_
    refine A_iret dX12_read_36 ?_
    refine ⟨_, rfl, ?_⟩
    unfold sp_read okRd isRd
    simp_all [i_lt, i_le, bz_0]
    try (intros; omega)
  · refine A_iload2 dX12_read_8 ?_
    refine A_si1 lk_X12_333 ys_X12_isDay dX12_read_9 (T_X12_isDay) (by decide) (Nat.le_of_ble_eq_true rfl) (fun r_9 μ_9 h_9 => ?_)
    obtain ⟨rfl, rfl⟩ := h_9
    refine A_if_eq (tgt := 35) dX12_read_12 (by decide) (fun c_12 => ?_) (fun c_12 => ?_)
    · refine A_iconst (v := -1) dX12_read_35 (by decide) ?_
      refine A_iret dX12_read_36 ?_
      refine ⟨_, rfl, ?_⟩
      unfold sp_read okRd isRd
      simp_all [i_lt, i_le, bz_0]
      try (intros; omega)
    · refine A_iload3 dX12_read_15 ?_
      refine A_if_lt (tgt := 35) dX12_read_16 (by decide) (fun c_16 => ?_) (fun c_16 => ?_)
      · refine A_iconst (v := -1) dX12_read_35 (by decide) ?_
        refine A_iret dX12_read_36 ?_
        refine ⟨_, rfl, ?_⟩
        unfold sp_read okRd isRd
        simp_all [i_lt, i_le, bz_0]
        try (intros; omega)
      · refine A_iload3 dX12_read_19 ?_
        refine A_bipush (v := 10) dX12_read_20 (by decide) ?_
        refine A_icmp_ge (tgt := 35) dX12_read_22 (by decide) (fun c_22 => ?_) (fun c_22 => ?_)
        · refine A_iconst (v := -1) dX12_read_35 (by decide) ?_
          refine A_iret dX12_read_36 ?_
          refine ⟨_, rfl, ?_⟩
          unfold sp_read okRd isRd
          simp_all [i_lt, i_le, bz_0]
          try (intros; omega)
        · refine A_aload0 dX12_read_25 ?_
          refine A_getI gf_X12_327 rfl dX12_read_26 ?_
          refine A_sipush (v := 300) dX12_read_29 (by decide) ?_
          refine A_icmp_ne (tgt := 37) dX12_read_32 (by decide) (fun c_32 => ?_) (fun c_32 => ?_)
          · refine A_aload0 dX12_read_37 ?_
            refine A_getR gf_X12_33 rfl dX12_read_38 ?_
            refine A_iload1 dX12_read_41 ?_
            refine A_iald (rfl) (i_bx hb (by simpa [bz_0] using c_5)) dX12_read_42 ?_
            refine A_iconst (v := 3) dX12_read_43 (by decide) ?_
            refine A_icmp_ne (tgt := 51) dX12_read_44 (by decide) (fun c_44 => ?_) (fun c_44 => ?_)
            · refine A_iconst (v := 0) dX12_read_51 (by decide) ?_
              refine A_istore5 dX12_read_52 rfl (by decide) ?_
              refine A_iload4 dX12_read_54 ?_
              refine A_iload5 dX12_read_56 ?_
              refine A_if_eq (tgt := 65) dX12_read_58 (by decide) (fun c_58 => ?_) (fun c_58 => ?_)
              · refine A_sipush (v := -999) dX12_read_65 (by decide) ?_
                refine A_icmp_lt (tgt := 89) dX12_read_68 (by decide) (fun c_68 => ?_) (fun c_68 => ?_)
                · refine A_iconst (v := -1) dX12_read_89 (by decide) ?_
                  refine A_goto (tgt := 103) dX12_read_90 (by decide) ?_
                  refine A_iret dX12_read_103 ?_
                  refine ⟨_, rfl, ?_⟩
                  unfold sp_read okRd isRd
                  simp_all [i_lt, i_le, bz_0]
                  try (intros; omega)
                · refine A_iload4 dX12_read_71 ?_
                  refine A_iload5 dX12_read_73 ?_
                  refine A_if_eq (tgt := 83) dX12_read_75 (by decide) (fun c_75 => ?_) (fun c_75 => ?_)
                  · refine A_sipush (v := 999) dX12_read_83 (by decide) ?_
                    refine A_icmp_le (tgt := 93) dX12_read_86 (by decide) (fun c_86 => ?_) (fun c_86 => ?_)
                    · refine A_aload0 dX12_read_93 ?_
                      refine A_iconst (v := 0) dX12_read_94 (by decide) ?_
                      refine A_iload1 dX12_read_95 ?_
                      refine A_iload2 dX12_read_96 ?_
                      refine A_iload3 dX12_read_97 ?_
                      refine A_iload4 dX12_read_98 ?_
                      refine A_vi5 lk_X12_345 yv_X12_add dX12_read_100 (rfl) (rfl) (T_X12_add (Or.inl rfl) (hw.t).2 (nfc_lt hw (by assumption))) (by decide) (Nat.le_of_ble_eq_true rfl) (fun r_100 μ_100 h_100 => ?_)
                      obtain ⟨rfl, rfl⟩ := h_100
                      refine A_iret dX12_read_103 ?_
                      refine ⟨_, rfl, ?_⟩
                      unfold sp_read okRd isRd
                      simp_all [i_lt, i_le, bz_0]
                      try (intros; omega)
                    · refine A_iconst (v := -1) dX12_read_89 (by decide) ?_
                      refine A_goto (tgt := 103) dX12_read_90 (by decide) ?_
                      refine A_iret dX12_read_103 ?_
                      refine ⟨_, rfl, ?_⟩
                      unfold sp_read okRd isRd
                      simp_all [i_lt, i_le, bz_0]
                      try (intros; omega)
                  · refine A_bipush (v := 15) dX12_read_78 (by decide) ?_
                    refine A_goto (tgt := 86) dX12_read_80 (by decide) ?_
                    refine A_icmp_le (tgt := 93) dX12_read_86 (by decide) (fun c_86 => ?_) (fun c_86 => ?_)
                    · refine A_aload0 dX12_read_93 ?_
                      refine A_iconst (v := 0) dX12_read_94 (by decide) ?_
                      refine A_iload1 dX12_read_95 ?_
                      refine A_iload2 dX12_read_96 ?_
                      refine A_iload3 dX12_read_97 ?_
                      refine A_iload4 dX12_read_98 ?_
                      refine A_vi5 lk_X12_345 yv_X12_add dX12_read_100 (rfl) (rfl) (T_X12_add (Or.inl rfl) (hw.t).2 (nfc_lt hw (by assumption))) (by decide) (Nat.le_of_ble_eq_true rfl) (fun r_100 μ_100 h_100 => ?_)
                      obtain ⟨rfl, rfl⟩ := h_100
                      refine A_iret dX12_read_103 ?_
                      refine ⟨_, rfl, ?_⟩
                      unfold sp_read okRd isRd
                      simp_all [i_lt, i_le, bz_0]
                      try (intros; omega)
                    · refine A_iconst (v := -1) dX12_read_89 (by decide) ?_
                      refine A_goto (tgt := 103) dX12_read_90 (by decide) ?_
                      refine A_iret dX12_read_103 ?_
                      refine ⟨_, rfl, ?_⟩
                      unfold sp_read okRd isRd
                      simp_all [i_lt, i_le, bz_0]
                      try (intros; omega)
              · refine A_iconst (v := 0) dX12_read_61 (by decide) ?_
                refine A_goto (tgt := 68) dX12_read_62 (by decide) ?_
                refine A_icmp_lt (tgt := 89) dX12_read_68 (by decide) (fun c_68 => ?_) (fun c_68 => ?_)
                · refine A_iconst (v := -1) dX12_read_89 (by decide) ?_
                  refine A_goto (tgt := 103) dX12_read_90 (by decide) ?_
                  refine A_iret dX12_read_103 ?_
                  refine ⟨_, rfl, ?_⟩
                  unfold sp_read okRd isRd
                  simp_all [i_lt, i_le, bz_0]
                  try (intros; omega)
                · refine A_iload4 dX12_read_71 ?_
                  refine A_iload5 dX12_read_73 ?_
                  refine A_if_eq (tgt := 83) dX12_read_75 (by decide) (fun c_75 => ?_) (fun c_75 => ?_)
                  · refine A_sipush (v := 999) dX12_read_83 (by decide) ?_
                    refine A_icmp_le (tgt := 93) dX12_read_86 (by decide) (fun c_86 => ?_) (fun c_86 => ?_)
                    · refine A_aload0 dX12_read_93 ?_
                      refine A_iconst (v := 0) dX12_read_94 (by decide) ?_
                      refine A_iload1 dX12_read_95 ?_
                      refine A_iload2 dX12_read_96 ?_
                      refine A_iload3 dX12_read_97 ?_
                      refine A_iload4 dX12_read_98 ?_
                      refine A_vi5 lk_X12_345 yv_X12_add dX12_read_100 (rfl) (rfl) (T_X12_add (Or.inl rfl) (hw.t).2 (nfc_lt hw (by assumption))) (by decide) (Nat.le_of_ble_eq_true rfl) (fun r_100 μ_100 h_100 => ?_)
                      obtain ⟨rfl, rfl⟩ := h_100
                      refine A_iret dX12_read_103 ?_
                      refine ⟨_, rfl, ?_⟩
                      unfold sp_read okRd isRd
                      simp_all [i_lt, i_le, bz_0]
                      try (intros; omega)
                    · refine A_iconst (v := -1) dX12_read_89 (by decide) ?_
                      refine A_goto (tgt := 103) dX12_read_90 (by decide) ?_
                      refine A_iret dX12_read_103 ?_
                      refine ⟨_, rfl, ?_⟩
                      unfold sp_read okRd isRd
                      simp_all [i_lt, i_le, bz_0]
                      try (intros; omega)
                  · refine A_bipush (v := 15) dX12_read_78 (by decide) ?_
                    refine A_goto (tgt := 86) dX12_read_80 (by decide) ?_
                    refine A_icmp_le (tgt := 93) dX12_read_86 (by decide) (fun c_86 => ?_) (fun c_86 => ?_)
                    · refine A_aload0 dX12_read_93 ?_
                      refine A_iconst (v := 0) dX12_read_94 (by decide) ?_
                      refine A_iload1 dX12_read_95 ?_
                      refine A_iload2 dX12_read_96 ?_
                      refine A_iload3 dX12_read_97 ?_
                      refine A_iload4 dX12_read_98 ?_
                      refine A_vi5 lk_X12_345 yv_X12_add dX12_read_100 (rfl) (rfl) (T_X12_add (Or.inl rfl) (hw.t).2 (nfc_lt hw (by assumption))) (by decide) (Nat.le_of_ble_eq_true rfl) (fun r_100 μ_100 h_100 => ?_)
                      obtain ⟨rfl, rfl⟩ := h_100
                      refine A_iret dX12_read_103 ?_
                      refine ⟨_, rfl, ?_⟩
                      unfold sp_read okRd isRd
                      simp_all [i_lt, i_le, bz_0]
                      try (intros; omega)
                    · refine A_iconst (v := -1) dX12_read_89 (by decide) ?_
                      refine A_goto (tgt := 103) dX12_read_90 (by decide) ?_
                      refine A_iret dX12_read_103 ?_
                      refine ⟨_, rfl, ?_⟩
                      unfold sp_read okRd isRd
                      simp_all [i_lt, i_le, bz_0]
                      try (intros; omega)
            · refine A_iconst (v := 1) dX12_read_47 (by decide) ?_
              refine A_goto (tgt := 52) dX12_read_48 (by decide) ?_
              refine A_istore5 dX12_read_52 rfl (by decide) ?_
              refine A_iload4 dX12_read_54 ?_
              refine A_iload5 dX12_read_56 ?_
              refine A_if_eq (tgt := 65) dX12_read_58 (by decide) (fun c_58 => ?_) (fun c_58 => ?_)
              · refine A_sipush (v := -999) dX12_read_65 (by decide) ?_
                refine A_icmp_lt (tgt := 89) dX12_read_68 (by decide) (fun c_68 => ?_) (fun c_68 => ?_)
                · refine A_iconst (v := -1) dX12_read_89 (by decide) ?_
                  refine A_goto (tgt := 103) dX12_read_90 (by decide) ?_
                  refine A_iret dX12_read_103 ?_
                  refine ⟨_, rfl, ?_⟩
                  unfold sp_read okRd isRd
                  simp_all [i_lt, i_le, bz_0]
                  try (intros; omega)
                · refine A_iload4 dX12_read_71 ?_
                  refine A_iload5 dX12_read_73 ?_
                  refine A_if_eq (tgt := 83) dX12_read_75 (by decide) (fun c_75 => ?_) (fun c_75 => ?_)
                  · refine A_sipush (v := 999) dX12_read_83 (by decide) ?_
                    refine A_icmp_le (tgt := 93) dX12_read_86 (by decide) (fun c_86 => ?_) (fun c_86 => ?_)
                    · refine A_aload0 dX12_read_93 ?_
                      refine A_iconst (v := 0) dX12_read_94 (by decide) ?_
                      refine A_iload1 dX12_read_95 ?_
                      refine A_iload2 dX12_read_96 ?_
                      refine A_iload3 dX12_read_97 ?_
                      refine A_iload4 dX12_read_98 ?_
                      refine A_vi5 lk_X12_345 yv_X12_add dX12_read_100 (rfl) (rfl) (T_X12_add (Or.inl rfl) (hw.t).2 (nfc_lt hw (by assumption))) (by decide) (Nat.le_of_ble_eq_true rfl) (fun r_100 μ_100 h_100 => ?_)
                      obtain ⟨rfl, rfl⟩ := h_100
                      refine A_iret dX12_read_103 ?_
                      refine ⟨_, rfl, ?_⟩
                      unfold sp_read okRd isRd
                      simp_all [i_lt, i_le, bz_0]
                      try (intros; omega)
                    · refine A_iconst (v := -1) dX12_read_89 (by decide) ?_
                      refine A_goto (tgt := 103) dX12_read_90 (by decide) ?_
                      refine A_iret dX12_read_103 ?_
                      refine ⟨_, rfl, ?_⟩
                      unfold sp_read okRd isRd
                      simp_all [i_lt, i_le, bz_0]
                      try (intros; omega)
                  · refine A_bipush (v := 15) dX12_read_78 (by decide) ?_
                    refine A_goto (tgt := 86) dX12_read_80 (by decide) ?_
                    refine A_icmp_le (tgt := 93) dX12_read_86 (by decide) (fun c_86 => ?_) (fun c_86 => ?_)
                    · refine A_aload0 dX12_read_93 ?_
                      refine A_iconst (v := 0) dX12_read_94 (by decide) ?_
                      refine A_iload1 dX12_read_95 ?_
                      refine A_iload2 dX12_read_96 ?_
                      refine A_iload3 dX12_read_97 ?_
                      refine A_iload4 dX12_read_98 ?_
                      refine A_vi5 lk_X12_345 yv_X12_add dX12_read_100 (rfl) (rfl) (T_X12_add (Or.inl rfl) (hw.t).2 (nfc_lt hw (by assumption))) (by decide) (Nat.le_of_ble_eq_true rfl) (fun r_100 μ_100 h_100 => ?_)
                      obtain ⟨rfl, rfl⟩ := h_100
                      refine A_iret dX12_read_103 ?_
                      refine ⟨_, rfl, ?_⟩
                      unfold sp_read okRd isRd
                      simp_all [i_lt, i_le, bz_0]
                      try (intros; omega)
                    · refine A_iconst (v := -1) dX12_read_89 (by decide) ?_
                      refine A_goto (tgt := 103) dX12_read_90 (by decide) ?_
                      refine A_iret dX12_read_103 ?_
                      refine ⟨_, rfl, ?_⟩
                      unfold sp_read okRd isRd
                      simp_all [i_lt, i_le, bz_0]
                      try (intros; omega)
              · refine A_iconst (v := 0) dX12_read_61 (by decide) ?_
                refine A_goto (tgt := 68) dX12_read_62 (by decide) ?_
                refine A_icmp_lt (tgt := 89) dX12_read_68 (by decide) (fun c_68 => ?_) (fun c_68 => ?_)
                · refine A_iconst (v := -1) dX12_read_89 (by decide) ?_
                  refine A_goto (tgt := 103) dX12_read_90 (by decide) ?_
                  refine A_iret dX12_read_103 ?_
                  refine ⟨_, rfl, ?_⟩
                  unfold sp_read okRd isRd
                  simp_all [i_lt, i_le, bz_0]
                  try (intros; omega)
                · refine A_iload4 dX12_read_71 ?_
                  refine A_iload5 dX12_read_73 ?_
                  refine A_if_eq (tgt := 83) dX12_read_75 (by decide) (fun c_75 => ?_) (fun c_75 => ?_)
                  · refine A_sipush (v := 999) dX12_read_83 (by decide) ?_
                    refine A_icmp_le (tgt := 93) dX12_read_86 (by decide) (fun c_86 => ?_) (fun c_86 => ?_)
                    · refine A_aload0 dX12_read_93 ?_
                      refine A_iconst (v := 0) dX12_read_94 (by decide) ?_
                      refine A_iload1 dX12_read_95 ?_
                      refine A_iload2 dX12_read_96 ?_
                      refine A_iload3 dX12_read_97 ?_
                      refine A_iload4 dX12_read_98 ?_
                      refine A_vi5 lk_X12_345 yv_X12_add dX12_read_100 (rfl) (rfl) (T_X12_add (Or.inl rfl) (hw.t).2 (nfc_lt hw (by assumption))) (by decide) (Nat.le_of_ble_eq_true rfl) (fun r_100 μ_100 h_100 => ?_)
                      obtain ⟨rfl, rfl⟩ := h_100
                      refine A_iret dX12_read_103 ?_
                      refine ⟨_, rfl, ?_⟩
                      unfold sp_read okRd isRd
                      simp_all [i_lt, i_le, bz_0]
                      try (intros; omega)
                    · refine A_iconst (v := -1) dX12_read_89 (by decide) ?_
                      refine A_goto (tgt := 103) dX12_read_90 (by decide) ?_
                      refine A_iret dX12_read_103 ?_
                      refine ⟨_, rfl, ?_⟩
                      unfold sp_read okRd isRd
                      simp_all [i_lt, i_le, bz_0]
                      try (intros; omega)
                  · refine A_bipush (v := 15) dX12_read_78 (by decide) ?_
                    refine A_goto (tgt := 86) dX12_read_80 (by decide) ?_
                    refine A_icmp_le (tgt := 93) dX12_read_86 (by decide) (fun c_86 => ?_) (fun c_86 => ?_)
                    · refine A_aload0 dX12_read_93 ?_
                      refine A_iconst (v := 0) dX12_read_94 (by decide) ?_
                      refine A_iload1 dX12_read_95 ?_
                      refine A_iload2 dX12_read_96 ?_
                      refine A_iload3 dX12_read_97 ?_
                      refine A_iload4 dX12_read_98 ?_
                      refine A_vi5 lk_X12_345 yv_X12_add dX12_read_100 (rfl) (rfl) (T_X12_add (Or.inl rfl) (hw.t).2 (nfc_lt hw (by assumption))) (by decide) (Nat.le_of_ble_eq_true rfl) (fun r_100 μ_100 h_100 => ?_)
                      obtain ⟨rfl, rfl⟩ := h_100
                      refine A_iret dX12_read_103 ?_
                      refine ⟨_, rfl, ?_⟩
                      unfold sp_read okRd isRd
                      simp_all [i_lt, i_le, bz_0]
                      try (intros; omega)
                    · refine A_iconst (v := -1) dX12_read_89 (by decide) ?_
                      refine A_goto (tgt := 103) dX12_read_90 (by decide) ?_
                      refine A_iret dX12_read_103 ?_
                      refine ⟨_, rfl, ?_⟩
                      unfold sp_read okRd isRd
                      simp_all [i_lt, i_le, bz_0]
                      try (intros; omega)
          · refine A_iconst (v := -1) dX12_read_35 (by decide) ?_
            refine A_iret dX12_read_36 ?_
            refine ⟨_, rfl, ?_⟩
            unfold sp_read okRd isRd
            simp_all [i_lt, i_le, bz_0]
            try (intros; omega)
def sp_untell (μ : Mem) (f : Int32) : Int32 × Mem := if 0 ≤ f ∧ f < μ.1 0 42 ∧ μ.1 25 f.toNatClampNeg < 0 then (1, wI μ 25 f.toNatClampNeg (μ.1 0 43)) else (0, μ)
theorem i_fc {μ : Mem} {x : Int32} (hb : WFc μ) (h : 0 ≤ x) (h3 : x < μ.1 0 42) : vp_in x 300 := by
  obtain ⟨t, h1, h2⟩ := hb
  refine i_in h ?_
  have h3 := i_lt.mp h3
  rw [h2, nI_i (by omega)] at h3
  omega
theorem i_nlt {x y : Int32} (h : ¬ x < y) : y ≤ x := by rw [i_le]; rw [i_lt] at h; omega
theorem i_nle {x y : Int32} (h : ¬ x ≤ y) : y < x := by rw [i_lt]; rw [i_le] at h; omega
set_option maxHeartbeats 4000000 in
set_option maxRecDepth 100000 in
theorem T_X12_untell {l : Launch} {G : Wd} {f : Int32} {μ : Mem} (hw : WFc μ) : Mt l G KM yX12_untell cX12_untell 2 (some .boolean) 1 [.ref (gA G 0), .int f] μ (Qi (fun v μ' => sp_untell μ f = (v, μ'))) := by
  refine Mt.of (own := RX12) (n := 0) (by decide) rfl [some (.ref (gA G 0)), some (.int f)] rfl (Nat.le_of_ble_eq_true rfl) ?_
  refine A_iload1 dX12_untell_0 ?_
  refine A_if_lt (tgt := 21) dX12_untell_1 (by decide) (fun c_1 => ?_) (fun c_1 => ?_)
  · refine A_iconst (v := 0) dX12_untell_21 (by decide) ?_
    refine A_zret dX12_untell_22 (by decide) ?_
    refine ⟨_, rfl, ?_⟩
    unfold sp_untell
    simp_all [i_lt, i_le, bz_0]
    try (intros; omega)
  · refine A_iload1 dX12_untell_4 ?_
    refine A_aload0 dX12_untell_5 ?_
    refine A_getI gf_X12_327 rfl dX12_untell_6 ?_
    refine A_icmp_ge (tgt := 21) dX12_untell_9 (by decide) (fun c_9 => ?_) (fun c_9 => ?_)
    · refine A_iconst (v := 0) dX12_untell_21 (by decide) ?_
      refine A_zret dX12_untell_22 (by decide) ?_
      refine ⟨_, rfl, ?_⟩
      unfold sp_untell
      simp_all [i_lt, i_le, bz_0]
      try (intros; omega)
    · refine A_aload0 dX12_untell_12 ?_
      refine A_getR gf_X12_88 rfl dX12_untell_13 ?_
      refine A_iload1 dX12_untell_16 ?_
      refine A_iald (rfl) (i_fc hw (i_nlt c_1) (i_nle c_9)) dX12_untell_17 ?_
      refine A_if_lt (tgt := 23) dX12_untell_18 (by decide) (fun c_18 => ?_) (fun c_18 => ?_)
      · refine A_aload0 dX12_untell_23 ?_
        refine A_getR gf_X12_88 rfl dX12_untell_24 ?_
        refine A_iload1 dX12_untell_27 ?_
        refine A_aload0 dX12_untell_28 ?_
        refine A_getI gf_X12_336 rfl dX12_untell_29 ?_
        refine A_iast (rfl) (i_fc hw (i_nlt c_1) (i_nle c_9)) dX12_untell_32 ?_
        refine A_iconst (v := 1) dX12_untell_33 (by decide) ?_
        refine A_zret dX12_untell_34 (by decide) ?_
        refine ⟨_, rfl, ?_⟩
        unfold sp_untell
        simp_all [i_lt, i_le, bz_0]
        try (intros; omega)
      · refine A_iconst (v := 0) dX12_untell_21 (by decide) ?_
        refine A_zret dX12_untell_22 (by decide) ?_
        refine ⟨_, rfl, ?_⟩
        unfold sp_untell
        simp_all [i_lt, i_le, bz_0]
        try (intros; omega)
def sp_later (μ : Mem) (b : Int32) : Int32 × Mem := if 0 ≤ b ∧ b ≤ 1000 ∧ μ.1 0 43 + b ≤ 100000 then (μ.1 0 43 + b, wI μ 0 43 (μ.1 0 43 + b)) else (-1, μ)
set_option maxHeartbeats 4000000 in
set_option maxRecDepth 100000 in
theorem T_X12_later {l : Launch} {G : Wd} {b : Int32} {μ : Mem}  : Mt l G KM yX12_later cX12_later 2 (some .int) 1 [.ref (gA G 0), .int b] μ (Qi (fun v μ' => sp_later μ b = (v, μ'))) := by
  refine Mt.of (own := RX12) (n := 0) (by decide) rfl [some (.ref (gA G 0)), some (.int b)] rfl (Nat.le_of_ble_eq_true rfl) ?_
  refine A_iload1 dX12_later_0 ?_
  refine A_if_lt (tgt := 23) dX12_later_1 (by decide) (fun c_1 => ?_) (fun c_1 => ?_)
  · refine A_iconst (v := -1) dX12_later_23 (by decide) ?_
    refine A_iret dX12_later_24 ?_
    refine ⟨_, rfl, ?_⟩
    unfold sp_later
    simp_all [i_lt, i_le, bz_0]
    try (intros; omega)
  · refine A_iload1 dX12_later_4 ?_
    refine A_sipush (v := 1000) dX12_later_5 (by decide) ?_
    refine A_icmp_gt (tgt := 23) dX12_later_8 (by decide) (fun c_8 => ?_) (fun c_8 => ?_)
    · refine A_iconst (v := -1) dX12_later_23 (by decide) ?_
      refine A_iret dX12_later_24 ?_
      refine ⟨_, rfl, ?_⟩
      unfold sp_later
      simp_all [i_lt, i_le, bz_0]
      try (intros; omega)
    · refine A_aload0 dX12_later_11 ?_
      refine A_getI gf_X12_336 rfl dX12_later_12 ?_
      refine A_iload1 dX12_later_15 ?_
      refine A_iadd dX12_later_16 ?_
      refine A_ldcw dX12_later_17 kc_X12_352 ?_
      refine A_icmp_le (tgt := 25) dX12_later_20 (by decide) (fun c_20 => ?_) (fun c_20 => ?_)
      · refine A_aload0 dX12_later_25 ?_
        refine A_dup dX12_later_26 rfl ?_
        refine A_getI gf_X12_336 rfl dX12_later_27 ?_
        refine A_iload1 dX12_later_30 ?_
        refine A_iadd dX12_later_31 ?_
        refine A_putI gf_X12_336 rfl dX12_later_32 ?_
        refine A_aload0 dX12_later_35 ?_
        refine A_getI gf_X12_336 rfl dX12_later_36 ?_
        rw [wI_same]
        refine A_iret dX12_later_39 ?_
        refine ⟨_, rfl, ?_⟩
        unfold sp_later
        simp_all [i_lt, i_le, bz_0]
        try (intros; omega)
      · refine A_iconst (v := -1) dX12_later_23 (by decide) ?_
        refine A_iret dX12_later_24 ?_
        refine ⟨_, rfl, ?_⟩
        unfold sp_later
        simp_all [i_lt, i_le, bz_0]
        try (intros; omega)
def cntSh (f : Nat → Int32) : Nat → Int32
  | 0 => 0
  | n + 1 => cntSh f n + (if f n = 0 then 0 else 1)
def bitD (f : Nat → Int32) : Nat → Int32
  | 0 => 0
  | n + 1 => bitD f n ||| (if f n = 0 then 0 else (1 : Int32) <<< (nI n &&& 31))
def sp_about (μ : Mem) (w : Int32) : Int32 := if w = 0 then μ.1 0 31 else if w = 1 then μ.1 0 32 else if w = 2 then μ.1 0 42 else if w = 3 then μ.1 0 43 else if w = 4 then μ.1 0 72 else if w = 5 then cntSh (μ.1 27) 60 else if w = 6 then μ.1 0 1 else if w = 7 then bitD (μ.1 28) 10 else -1
set_option maxHeartbeats 4000000 in
set_option maxRecDepth 100000 in
theorem L_X12_about_75 {l : Launch} {G : Wd} {w : Int32} {μ : Mem} {Q : Option Value → Mem → Prop} : ∀ (n i : Nat) (c x : Int32), i + n = 60 + 1 → i ≤ 60 → x = nI i → c = cntSh (μ.1 27) i → AW l G KM RX12 cX12_about 4 1 (some .int) Q 104 [some (.ref (gA G 0)), some (.int w), some (.int (cntSh (μ.1 27) 60)), some (.int 60)] [] μ → AW l G KM RX12 cX12_about 4 1 (some .int) Q 75 [some (.ref (gA G 0)), some (.int w), some (.int c), some (.int x)] [] μ := by
  intro n
  induction n with
  | zero => intro i c x h1 h2; omega
  | succ n ih =>
    intro i c x h1 h2 hx hc hk
    subst hx
    refine A_iload3 dX12_about_75 ?_
    refine A_bipush (v := 60) dX12_about_76 (by decide) ?_
    refine A_icmp_ge (tgt := 104) dX12_about_78 (by decide) (fun c_78 => ?_) (fun c_78 => ?_)
    · have e : i = 60 := by rw [show (60 : Int32) = nI 60 from rfl] at c_78; have := (nI_leI (a := 60) (b := i) (by omega) (by omega)).mp c_78; omega
      subst e
      subst hc
      exact hk
    · have hi : i < 60 := by rw [show (60 : Int32) = nI 60 from rfl] at c_78; rcases Nat.lt_or_ge i 60 with a | a; exact a; exact absurd (nI_le a (by omega)) c_78
      refine A_iload2 dX12_about_81 ?_
      refine A_aload0 dX12_about_82 ?_
      refine A_getR gf_X12_94 rfl dX12_about_83 ?_
      refine A_iload3 dX12_about_86 ?_
      refine A_zald (rfl) (vp_in_nI hi (by omega)) dX12_about_87 ?_
      rw [nI_c (n := i) (by omega)]
      refine A_if_eq (tgt := 95) dX12_about_88 (by decide) (fun c_88 => ?_) (fun c_88 => ?_)
      · refine A_iconst (v := 0) dX12_about_95 (by decide) ?_
        refine A_iadd dX12_about_96 ?_
        refine A_istore2 dX12_about_97 rfl (by decide) ?_
        refine A_iinc3 dX12_about_98 rfl rfl (by decide) ?_
        refine A_goto (tgt := 75) dX12_about_101 (by decide) ?_
        refine ih (i + 1) _ _ (by omega) (by omega) ?_ ?_ hk
        · exact nI_1 i
        · rw [hc]; show _ = cntSh (μ.1 27) i + (if μ.1 27 i = 0 then 0 else 1); simp [c_88]
      · refine A_iconst (v := 1) dX12_about_91 (by decide) ?_
        refine A_goto (tgt := 96) dX12_about_92 (by decide) ?_
        refine A_iadd dX12_about_96 ?_
        refine A_istore2 dX12_about_97 rfl (by decide) ?_
        refine A_iinc3 dX12_about_98 rfl rfl (by decide) ?_
        refine A_goto (tgt := 75) dX12_about_101 (by decide) ?_
        refine ih (i + 1) _ _ (by omega) (by omega) ?_ ?_ hk
        · exact nI_1 i
        · rw [hc]; show _ = cntSh (μ.1 27) i + (if μ.1 27 i = 0 then 0 else 1); simp [c_88]
set_option maxHeartbeats 4000000 in
set_option maxRecDepth 100000 in
theorem L_X12_about_113 {l : Launch} {G : Wd} {w : Int32} {μ : Mem} {Q : Option Value → Mem → Prop} : ∀ (n i : Nat) (c x : Int32), i + n = 10 + 1 → i ≤ 10 → x = nI i → c = bitD (μ.1 28) i → AW l G KM RX12 cX12_about 4 1 (some .int) Q 144 [some (.ref (gA G 0)), some (.int w), some (.int (bitD (μ.1 28) 10)), some (.int 10)] [] μ → AW l G KM RX12 cX12_about 4 1 (some .int) Q 113 [some (.ref (gA G 0)), some (.int w), some (.int c), some (.int x)] [] μ := by
  intro n
  induction n with
  | zero => intro i c x h1 h2; omega
  | succ n ih =>
    intro i c x h1 h2 hx hc hk
    subst hx
    refine A_iload3 dX12_about_113 ?_
    refine A_bipush (v := 10) dX12_about_114 (by decide) ?_
    refine A_icmp_ge (tgt := 144) dX12_about_116 (by decide) (fun c_116 => ?_) (fun c_116 => ?_)
    · have e : i = 10 := by rw [show (10 : Int32) = nI 10 from rfl] at c_116; have := (nI_leI (a := 10) (b := i) (by omega) (by omega)).mp c_116; omega
      subst e
      subst hc
      exact hk
    · have hi : i < 10 := by rw [show (10 : Int32) = nI 10 from rfl] at c_116; rcases Nat.lt_or_ge i 10 with a | a; exact a; exact absurd (nI_le a (by omega)) c_116
      refine A_iload2 dX12_about_119 ?_
      refine A_aload0 dX12_about_120 ?_
      refine A_getR gf_X12_97 rfl dX12_about_121 ?_
      refine A_iload3 dX12_about_124 ?_
      refine A_zald (rfl) (vp_in_nI hi (by omega)) dX12_about_125 ?_
      rw [nI_c (n := i) (by omega)]
      refine A_if_eq (tgt := 135) dX12_about_126 (by decide) (fun c_126 => ?_) (fun c_126 => ?_)
      · refine A_iconst (v := 0) dX12_about_135 (by decide) ?_
        refine A_ior dX12_about_136 ?_
        refine A_istore2 dX12_about_137 rfl (by decide) ?_
        refine A_iinc3 dX12_about_138 rfl rfl (by decide) ?_
        refine A_goto (tgt := 113) dX12_about_141 (by decide) ?_
        refine ih (i + 1) _ _ (by omega) (by omega) ?_ ?_ hk
        · exact nI_1 i
        · rw [hc]; show _ = bitD (μ.1 28) i ||| (if μ.1 28 i = 0 then 0 else (1 : Int32) <<< (nI i &&& 31)); simp [c_126]
      · refine A_iconst (v := 1) dX12_about_129 (by decide) ?_
        refine A_iload3 dX12_about_130 ?_
        refine A_ishl dX12_about_131 ?_
        refine A_goto (tgt := 136) dX12_about_132 (by decide) ?_
        refine A_ior dX12_about_136 ?_
        refine A_istore2 dX12_about_137 rfl (by decide) ?_
        refine A_iinc3 dX12_about_138 rfl rfl (by decide) ?_
        refine A_goto (tgt := 113) dX12_about_141 (by decide) ?_
        refine ih (i + 1) _ _ (by omega) (by omega) ?_ ?_ hk
        · exact nI_1 i
        · rw [hc]; show _ = bitD (μ.1 28) i ||| (if μ.1 28 i = 0 then 0 else (1 : Int32) <<< (nI i &&& 31)); simp [c_126]
set_option maxHeartbeats 4000000 in
set_option maxRecDepth 100000 in
theorem T_X12_about {l : Launch} {G : Wd} {w : Int32} {μ : Mem}  : Mt l G KM yX12_about cX12_about 4 (some .int) 1 [.ref (gA G 0), .int w] μ (Qi (fun v μ' => v = sp_about μ w ∧ μ' = μ)) := by
  refine Mt.of (own := RX12) (n := 2) (by decide) rfl [some (.ref (gA G 0)), some (.int w), none, none] rfl (Nat.le_of_ble_eq_true rfl) ?_
  refine A_iconst (v := 0) dX12_about_0 (by decide) ?_
  refine A_istore2 dX12_about_1 rfl (by decide) ?_
  refine A_iload1 dX12_about_2 ?_
  by_cases s_3_0 : w = 0
  · rw [s_3_0]
    refine A_tableIn (tgt := 48) dX12_about_3 (by decide) (by decide) rfl (by decide) ?_
    refine A_aload0 dX12_about_48 ?_
    refine A_getI gf_X12_321 rfl dX12_about_49 ?_
    refine A_iret dX12_about_52 ?_
    exact ⟨_, rfl, by simp_all [sp_about], rfl⟩
  by_cases s_3_1 : w = 1
  · rw [s_3_1]
    refine A_tableIn (tgt := 53) dX12_about_3 (by decide) (by decide) rfl (by decide) ?_
    refine A_aload0 dX12_about_53 ?_
    refine A_getI gf_X12_324 rfl dX12_about_54 ?_
    refine A_iret dX12_about_57 ?_
    exact ⟨_, rfl, by simp_all [sp_about], rfl⟩
  by_cases s_3_2 : w = 2
  · rw [s_3_2]
    refine A_tableIn (tgt := 58) dX12_about_3 (by decide) (by decide) rfl (by decide) ?_
    refine A_aload0 dX12_about_58 ?_
    refine A_getI gf_X12_327 rfl dX12_about_59 ?_
    refine A_iret dX12_about_62 ?_
    exact ⟨_, rfl, by simp_all [sp_about], rfl⟩
  by_cases s_3_3 : w = 3
  · rw [s_3_3]
    refine A_tableIn (tgt := 63) dX12_about_3 (by decide) (by decide) rfl (by decide) ?_
    refine A_aload0 dX12_about_63 ?_
    refine A_getI gf_X12_336 rfl dX12_about_64 ?_
    refine A_iret dX12_about_67 ?_
    exact ⟨_, rfl, by simp_all [sp_about], rfl⟩
  by_cases s_3_4 : w = 4
  · rw [s_3_4]
    refine A_tableIn (tgt := 68) dX12_about_3 (by decide) (by decide) rfl (by decide) ?_
    refine A_aload0 dX12_about_68 ?_
    refine A_getI gf_X12_330 rfl dX12_about_69 ?_
    refine A_iret dX12_about_72 ?_
    exact ⟨_, rfl, by simp_all [sp_about], rfl⟩
  by_cases s_3_5 : w = 5
  · rw [s_3_5]
    refine A_tableIn (tgt := 73) dX12_about_3 (by decide) (by decide) rfl (by decide) ?_
    refine A_iconst (v := 0) dX12_about_73 (by decide) ?_
    refine A_istore3 dX12_about_74 rfl (by decide) ?_
    refine L_X12_about_75 61 0 _ _ (by omega) (by omega) rfl rfl ?_
    refine A_iload2 dX12_about_104 ?_
    refine A_iret dX12_about_105 ?_
    exact ⟨_, rfl, by simp [sp_about], rfl⟩
  by_cases s_3_6 : w = 6
  · rw [s_3_6]
    refine A_tableIn (tgt := 106) dX12_about_3 (by decide) (by decide) rfl (by decide) ?_
    refine A_aload0 dX12_about_106 ?_
    refine A_getI gf_X12_166 rfl dX12_about_107 ?_
    refine A_iret dX12_about_110 ?_
    exact ⟨_, rfl, by simp_all [sp_about], rfl⟩
  by_cases s_3_7 : w = 7
  · rw [s_3_7]
    refine A_tableIn (tgt := 111) dX12_about_3 (by decide) (by decide) rfl (by decide) ?_
    refine A_iconst (v := 0) dX12_about_111 (by decide) ?_
    refine A_istore3 dX12_about_112 rfl (by decide) ?_
    refine L_X12_about_113 11 0 _ _ (by omega) (by omega) rfl rfl ?_
    refine A_iload2 dX12_about_144 ?_
    refine A_iret dX12_about_145 ?_
    exact ⟨_, rfl, by simp [sp_about], rfl⟩
  refine A_tableOut (tgt := 146) dX12_about_3 (i_out (lo := 0) (hi := 7) (fun j h1 h2 q => ?_)) (by decide) ?_
  · have h3 : j = 0 ∨ j = 1 ∨ j = 2 ∨ j = 3 ∨ j = 4 ∨ j = 5 ∨ j = 6 ∨ j = 7 := by omega
    rcases h3 with rfl | rfl | rfl | rfl | rfl | rfl | rfl | rfl
    · exact s_3_0 (by rw [i_eq, q]; decide)
    · exact s_3_1 (by rw [i_eq, q]; decide)
    · exact s_3_2 (by rw [i_eq, q]; decide)
    · exact s_3_3 (by rw [i_eq, q]; decide)
    · exact s_3_4 (by rw [i_eq, q]; decide)
    · exact s_3_5 (by rw [i_eq, q]; decide)
    · exact s_3_6 (by rw [i_eq, q]; decide)
    · exact s_3_7 (by rw [i_eq, q]; decide)
  refine A_iconst (v := -1) dX12_about_146 (by decide) ?_
  refine A_iret dX12_about_147 ?_
  exact ⟨_, rfl, by simp_all [sp_about], rfl⟩

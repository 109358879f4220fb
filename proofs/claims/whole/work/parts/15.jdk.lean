def imin (x y : Int32) : Int32 := if x ≤ y then x else y
def imax (x y : Int32) : Int32 := if y ≤ x then x else y
def iabs (x : Int32) : Int32 := if 0 ≤ x then x else -x
theorem imin_i (x y : Int32) : (imin x y).toInt = min x.toInt y.toInt := by unfold imin; split <;> rename_i h <;> rw [i_le] at h <;> omega
theorem imax_i (x y : Int32) : (imax x y).toInt = max x.toInt y.toInt := by unfold imax; split <;> rename_i h <;> rw [i_le] at h <;> omega
theorem imin_n {a b : Nat} (ha : a < 2147483648) (hb : b < 2147483648) : imin (nI a) (nI b) = nI (min a b) := by
  rw [i_eq, imin_i, nI_i ha, nI_i hb, nI_i (by omega)]; omega
theorem imax_n {a b : Nat} (ha : a < 2147483648) (hb : b < 2147483648) : imax (nI a) (nI b) = nI (max a b) := by
  rw [i_eq, imax_i, nI_i ha, nI_i hb, nI_i (by omega)]; omega
set_option maxHeartbeats 4000000 in
set_option maxRecDepth 100000 in
theorem T_min {l : Launch} {G : Wd} {K : List Kd} {x y : Int32} {μ : Mem}  : Mt l G K yJ9_min_7cf53 cJ9_min_7cf53 2 (some .int) 1 [.int x, .int y] μ (Qi (fun v μ' => v = imin x y ∧ μ' = μ)) := by
  refine Mt.ofF (own := RJ9) (n := 0) (by decide +kernel) rfl [some (.int x), some (.int y)] rfl (Nat.le_of_ble_eq_true rfl) ?_
  refine A_iload0 dJ9_min_7cf53_0 ?_
  refine A_iload1 dJ9_min_7cf53_1 ?_
  refine A_icmp_gt (tgt := 9) dJ9_min_7cf53_2 (by decide) (fun c_2 => ?_) (fun c_2 => ?_)
  · refine A_iload1 dJ9_min_7cf53_9 ?_
    refine A_iret dJ9_min_7cf53_10 ?_
    refine ⟨_, rfl, ?_, rfl⟩
    unfold imin
    simp_all [i_lt, i_le]
    try (intros; omega)
  · refine A_iload0 dJ9_min_7cf53_5 ?_
    refine A_goto (tgt := 10) dJ9_min_7cf53_6 (by decide) ?_
    refine A_iret dJ9_min_7cf53_10 ?_
    refine ⟨_, rfl, ?_, rfl⟩
    unfold imin
    simp_all [i_lt, i_le]
    try (intros; omega)
set_option maxHeartbeats 4000000 in
set_option maxRecDepth 100000 in
theorem T_max {l : Launch} {G : Wd} {K : List Kd} {x y : Int32} {μ : Mem}  : Mt l G K yJ9_max_7cf53 cJ9_max_7cf53 2 (some .int) 1 [.int x, .int y] μ (Qi (fun v μ' => v = imax x y ∧ μ' = μ)) := by
  refine Mt.ofF (own := RJ9) (n := 0) (by decide +kernel) rfl [some (.int x), some (.int y)] rfl (Nat.le_of_ble_eq_true rfl) ?_
  refine A_iload0 dJ9_max_7cf53_0 ?_
  refine A_iload1 dJ9_max_7cf53_1 ?_
  refine A_icmp_lt (tgt := 9) dJ9_max_7cf53_2 (by decide) (fun c_2 => ?_) (fun c_2 => ?_)
  · refine A_iload1 dJ9_max_7cf53_9 ?_
    refine A_iret dJ9_max_7cf53_10 ?_
    refine ⟨_, rfl, ?_, rfl⟩
    unfold imax
    simp_all [i_lt, i_le]
    try (intros; omega)
  · refine A_iload0 dJ9_max_7cf53_5 ?_
    refine A_goto (tgt := 10) dJ9_max_7cf53_6 (by decide) ?_
    refine A_iret dJ9_max_7cf53_10 ?_
    refine ⟨_, rfl, ?_, rfl⟩
    unfold imax
    simp_all [i_lt, i_le]
    try (intros; omega)
set_option maxHeartbeats 4000000 in
set_option maxRecDepth 100000 in
theorem T_abs {l : Launch} {G : Wd} {K : List Kd} {x : Int32} {μ : Mem}  : Mt l G K yJ9_abs_0f7a4 cJ9_abs_0f7a4 1 (some .int) 1 [.int x] μ (Qi (fun v μ' => v = iabs x ∧ μ' = μ)) := by
  refine Mt.ofF (own := RJ9) (n := 0) (by decide +kernel) rfl [some (.int x)] rfl (Nat.le_of_ble_eq_true rfl) ?_
  refine A_iload0 dJ9_abs_0f7a4_0 ?_
  refine A_if_ge (tgt := 9) dJ9_abs_0f7a4_1 (by decide) (fun c_1 => ?_) (fun c_1 => ?_)
  · refine A_iload0 dJ9_abs_0f7a4_9 ?_
    refine A_iret dJ9_abs_0f7a4_10 ?_
    refine ⟨_, rfl, ?_, rfl⟩
    unfold iabs
    simp_all [i_lt, i_le]
    try (intros; omega)
  · refine A_iload0 dJ9_abs_0f7a4_4 ?_
    refine A_ineg dJ9_abs_0f7a4_5 ?_
    refine A_goto (tgt := 10) dJ9_abs_0f7a4_6 (by decide) ?_
    refine A_iret dJ9_abs_0f7a4_10 ?_
    refine ⟨_, rfl, ?_, rfl⟩
    unfold iabs
    simp_all [i_lt, i_le]
    try (intros; omega)
def fdiv (x y : Int32) : Int32 := if x ^^^ y < 0 ∧ x / y * y ≠ x then x / y - 1 else x / y
def fmod (x y : Int32) : Int32 := if x ^^^ y < 0 ∧ x - x / y * y ≠ 0 then x - x / y * y + y else x - x / y * y
set_option maxHeartbeats 4000000 in
set_option maxRecDepth 100000 in
theorem T_floorDiv {l : Launch} {G : Wd} {K : List Kd} {x y : Int32} {μ : Mem} (hy : ¬ y = 0) : Mt l G K yJ9_floorDiv_7cf53 cJ9_floorDiv_7cf53 3 (some .int) 1 [.int x, .int y] μ (Qi (fun v μ' => v = fdiv x y ∧ μ' = μ)) := by
  refine Mt.ofF (own := RJ9) (n := 1) (by decide +kernel) rfl [some (.int x), some (.int y), none] rfl (Nat.le_of_ble_eq_true rfl) ?_
  refine A_iload0 dJ9_floorDiv_7cf53_0 ?_
  refine A_iload1 dJ9_floorDiv_7cf53_1 ?_
  refine A_idiv dJ9_floorDiv_7cf53_2 (hy) ?_
  refine A_istore2 dJ9_floorDiv_7cf53_3 rfl (by decide) ?_
  refine A_iload0 dJ9_floorDiv_7cf53_4 ?_
  refine A_iload1 dJ9_floorDiv_7cf53_5 ?_
  refine A_ixor dJ9_floorDiv_7cf53_6 ?_
  refine A_if_ge (tgt := 21) dJ9_floorDiv_7cf53_7 (by decide) (fun c_7 => ?_) (fun c_7 => ?_)
  · refine A_iload2 dJ9_floorDiv_7cf53_21 ?_
    refine A_iret dJ9_floorDiv_7cf53_22 ?_
    refine ⟨_, rfl, ?_, rfl⟩
    unfold fdiv
    simp_all [i_lt, i_le]
    try (intros; omega)
  · refine A_iload2 dJ9_floorDiv_7cf53_10 ?_
    refine A_iload1 dJ9_floorDiv_7cf53_11 ?_
    refine A_imul dJ9_floorDiv_7cf53_12 ?_
    refine A_iload0 dJ9_floorDiv_7cf53_13 ?_
    refine A_icmp_eq (tgt := 21) dJ9_floorDiv_7cf53_14 (by decide) (fun c_14 => ?_) (fun c_14 => ?_)
    · refine A_iload2 dJ9_floorDiv_7cf53_21 ?_
      refine A_iret dJ9_floorDiv_7cf53_22 ?_
      refine ⟨_, rfl, ?_, rfl⟩
      unfold fdiv
      simp_all [i_lt, i_le]
      try (intros; omega)
    · refine A_iload2 dJ9_floorDiv_7cf53_17 ?_
      refine A_iconst (v := 1) dJ9_floorDiv_7cf53_18 (by decide) ?_
      refine A_isub dJ9_floorDiv_7cf53_19 ?_
      refine A_iret dJ9_floorDiv_7cf53_20 ?_
      refine ⟨_, rfl, ?_, rfl⟩
      unfold fdiv
      simp_all [i_lt, i_le]
      try (intros; omega)
set_option maxHeartbeats 4000000 in
set_option maxRecDepth 100000 in
theorem T_floorMod {l : Launch} {G : Wd} {K : List Kd} {x y : Int32} {μ : Mem} (hy : ¬ y = 0) : Mt l G K yJ9_floorMod_7cf53 cJ9_floorMod_7cf53 3 (some .int) 1 [.int x, .int y] μ (Qi (fun v μ' => v = fmod x y ∧ μ' = μ)) := by
  refine Mt.ofF (own := RJ9) (n := 1) (by decide +kernel) rfl [some (.int x), some (.int y), none] rfl (Nat.le_of_ble_eq_true rfl) ?_
  refine A_iload0 dJ9_floorMod_7cf53_0 ?_
  refine A_iload1 dJ9_floorMod_7cf53_1 ?_
  refine A_irem dJ9_floorMod_7cf53_2 (hy) ?_
  refine A_istore2 dJ9_floorMod_7cf53_3 rfl (by decide) ?_
  refine A_iload0 dJ9_floorMod_7cf53_4 ?_
  refine A_iload1 dJ9_floorMod_7cf53_5 ?_
  refine A_ixor dJ9_floorMod_7cf53_6 ?_
  refine A_if_ge (tgt := 18) dJ9_floorMod_7cf53_7 (by decide) (fun c_7 => ?_) (fun c_7 => ?_)
  · refine A_iload2 dJ9_floorMod_7cf53_18 ?_
    refine A_iret dJ9_floorMod_7cf53_19 ?_
    refine ⟨_, rfl, ?_, rfl⟩
    unfold fmod
    simp_all [i_lt, i_le]
    try (intros; omega)
  · refine A_iload2 dJ9_floorMod_7cf53_10 ?_
    refine A_if_eq (tgt := 18) dJ9_floorMod_7cf53_11 (by decide) (fun c_11 => ?_) (fun c_11 => ?_)
    · refine A_iload2 dJ9_floorMod_7cf53_18 ?_
      refine A_iret dJ9_floorMod_7cf53_19 ?_
      refine ⟨_, rfl, ?_, rfl⟩
      unfold fmod
      simp_all [i_lt, i_le]
      try (intros; omega)
    · refine A_iload2 dJ9_floorMod_7cf53_14 ?_
      refine A_iload1 dJ9_floorMod_7cf53_15 ?_
      refine A_iadd dJ9_floorMod_7cf53_16 ?_
      refine A_iret dJ9_floorMod_7cf53_17 ?_
      refine ⟨_, rfl, ?_, rfl⟩
      unfold fmod
      simp_all [i_lt, i_le]
      try (intros; omega)
def wRow (μ : Mem) (i n : Nat) (v : Int32) : Mem := ((fun a b => if a = i ∧ b < n then v else μ.1 a b), μ.2.1, μ.2.2)
theorem wRow_0 (μ : Mem) (i : Nat) (v : Int32) : wRow μ i 0 v = μ := by
  unfold wRow
  refine Prod.ext ?_ rfl
  funext a b
  simp
theorem wRow_s (μ : Mem) (i n : Nat) (v : Int32) : wI (wRow μ i n v) i n v = wRow μ i (n + 1) v := by
  unfold wRow wI w2
  refine Prod.ext ?_ rfl
  funext a b
  by_cases h : a = i
  · subst h
    by_cases h2 : b = n
    · subst h2; simp
    · by_cases h3 : b < n
      · simp [h2, h3, Nat.lt_succ_of_lt h3]
      · have : ¬ b < n + 1 := by omega
        simp [h2, h3, this]
  · simp [h]
set_option maxHeartbeats 4000000 in
set_option maxRecDepth 100000 in
theorem L_fill {l : Launch} {G : Wd} {K : List Kd} {i n : Nat} {v : Int32} {fs : List (Nat × Nat)} {μ0 : Mem} {Q : Option Value → Mem → Prop} (hn : n < 2147483648) (hk0 : K[i]? = some (1, n, fs)) : ∀ (q j : Nat) (x : Int32) (μ : Mem), j + q = n + 1 → j ≤ n → x = nI j → μ = wRow μ0 i j v → AW l G K RJ7 cJ7_fill_53178 4 1 none Q 20 [some (.ref (gA G i)), some (.int v), some (.int (nI n)), some (.int (nI n))] [] (wRow μ0 i n v) → AW l G K RJ7 cJ7_fill_53178 4 1 none Q 5 [some (.ref (gA G i)), some (.int v), some (.int x), some (.int (nI n))] [] μ := by
  intro q
  induction q with
  | zero => intro j x μ h1 h2; omega
  | succ q ih =>
    intro j x μ h1 h2 hx hm hk
    subst hx
    refine A_iload2 dJ7_fill_53178_5 ?_
    refine A_iload3 dJ7_fill_53178_6 ?_
    refine A_icmp_ge (tgt := 20) dJ7_fill_53178_7 (by decide) (fun c_7 => ?_) (fun c_7 => ?_)
    · have e : j = n := by have := (nI_leI (a := n) (b := j) (by omega) (by omega)).mp c_7; omega
      subst e
      subst hm
      exact hk
    · have hj : j < n := by rcases Nat.lt_or_ge j n with q | q; exact q; exact absurd (nI_le q (by omega)) c_7
      refine A_aload0 dJ7_fill_53178_10 ?_
      refine A_iload2 dJ7_fill_53178_11 ?_
      refine A_iload1 dJ7_fill_53178_12 ?_
      refine A_iast (hk0) (vp_in_nI hj (by omega)) dJ7_fill_53178_13 ?_
      refine A_iinc2 dJ7_fill_53178_14 rfl rfl (by decide) ?_
      refine A_goto (tgt := 5) dJ7_fill_53178_17 (by decide) ?_
      refine ih (j + 1) _ _ (by omega) (by omega) (nI_1 j) ?_ hk
      rw [hm, nI_c (by omega)]
      exact wRow_s _ _ _ _
set_option maxHeartbeats 4000000 in
set_option maxRecDepth 100000 in
theorem T_fill {l : Launch} {G : Wd} {K : List Kd} {i n : Nat} {v : Int32} {fs : List (Nat × Nat)} {μ : Mem} (hn : n < 2147483648) (hk0 : K[i]? = some (1, n, fs)) : Mt l G K yJ7_fill_53178 cJ7_fill_53178 4 none 1 [.ref (gA G i), .int v] μ (Qv (fun μ' => μ' = wRow μ i n v)) := by
  refine Mt.ofF (own := RJ7) (n := 2) (by decide +kernel) rfl [some (.ref (gA G i)), some (.int v), none, none] rfl (Nat.le_of_ble_eq_true rfl) ?_
  refine A_iconst (v := 0) dJ7_fill_53178_0 (by decide) ?_
  refine A_istore2 dJ7_fill_53178_1 rfl (by decide) ?_
  refine A_aload0 dJ7_fill_53178_2 ?_
  refine A_alen hk0 (Or.inl rfl) rfl dJ7_fill_53178_3 ?_
  refine A_istore3 dJ7_fill_53178_4 rfl (by decide) ?_
  refine L_fill hn hk0 (n + 1) 0 _ _ (by omega) (by omega) rfl (wRow_0 _ _ _).symm ?_
  refine A_vret dJ7_fill_53178_20 ?_
  exact ⟨rfl, rfl⟩

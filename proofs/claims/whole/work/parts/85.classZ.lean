/-! choices by division, and a divisor within 200 steps -/
theorem ch_0 (n : Nat) : ch n 0 = 1 := by unfold ch; rfl
theorem ch_2 : ∀ n m, ch n m + ch n (m + 1) ≤ 2 ^ n := by
  intro n
  induction n with
  | zero => intro m; cases m with
    | zero => decide
    | succ m => exact Nat.zero_le _
  | succ n ih =>
    intro m
    have hp := Nat.one_le_two_pow (n := n)
    rw [Nat.pow_succ]
    cases m with
    | zero =>
      have h0 := ih 0
      rw [ch_0] at h0 ⊢
      show 1 + (ch n 0 + ch n 1) ≤ _
      rw [ch_0]
      have h1 : 1 + ch n 1 ≤ 2 ^ n := h0
      omega
    | succ m =>
      have h0 := ih m
      have h1 := ih (m + 1)
      show (ch n m + ch n (m + 1)) + (ch n (m + 1) + ch n (m + 1 + 1)) ≤ _
      omega
theorem ch_h (n m : Nat) : ch (n + 1) m ≤ 2 ^ n := by
  cases m with
  | zero => rw [ch_0]; exact Nat.one_le_two_pow
  | succ m => exact ch_2 n m
theorem ch_ab : ∀ a i, ch (a + 1) (i + 1) * (i + 1) = ch a i * (a + 1) := by
  intro a
  induction a with
  | zero =>
    intro i
    show (ch 0 i + ch 0 (i + 1)) * (i + 1) = ch 0 i * 1
    cases i with
    | zero => decide
    | succ i => show (0 + 0) * _ = 0 * 1; omega
  | succ a ih =>
    intro i
    show (ch (a + 1) i + ch (a + 1) (i + 1)) * (i + 1) = ch (a + 1) i * (a + 1 + 1)
    have h1 := ih i
    cases i with
    | zero =>
      rw [ch_0] at h1 ⊢
      have h2 : ch (a + 1) (0 + 1) = a + 1 := by omega
      rw [h2]
      omega
    | succ i =>
      have h0 := ih i
      rw [Nat.add_mul, h1]
      have e : ch (a + 1) (i + 1) = ch a i + ch a (i + 1) := rfl
      have h3 : ch (a + 1) (i + 1) * (a + 1) = ch a i * (a + 1) + ch a (i + 1) * (a + 1) := by rw [← Nat.add_mul, ← e]
      have h4 : ch (a + 1) (i + 1) * (i + 1 + 1) = ch (a + 1) (i + 1) * (i + 1) + ch (a + 1) (i + 1) := Nat.mul_succ _ _
      have h5 : ch (a + 1) (i + 1) * (a + 1 + 1) = ch (a + 1) (i + 1) * (a + 1) + ch (a + 1) (i + 1) := Nat.mul_succ _ _
      omega
theorem ch_st {a i : Nat} (ha : a < 59) : lN (ch a i) * lN (a + 1) / lN (i + 1) = lN (ch (a + 1) (i + 1)) ∨ 2 ^ 31 ≤ i + 1 := by
  rcases Nat.lt_or_ge (i + 1) (2 ^ 31) with hi | hi
  · left
    have hb : ch a i ≤ 2 ^ 57 := by
      cases a with
      | zero => exact Nat.le_trans (ch_le 0 i) (by decide)
      | succ a => exact Nat.le_trans (ch_h a i) (Nat.pow_le_pow_right (by decide) (by omega))
    have hm : ch a i * (a + 1) ≤ 2 ^ 57 * 59 := Nat.mul_le_mul hb (by omega)
    have e57 : (2 : Nat) ^ 57 * 59 < 2 ^ 63 := by decide
    rw [lN_mul, pk_lDiv (by omega) (by omega) (by omega), ← ch_ab, Nat.mul_div_cancel _ (by omega)]
  · right; exact hi
set_option maxHeartbeats 400000 in
set_option maxRecDepth 100000 in
theorem L_X10_choices_5 {l : Launch} {G : Wd} {n c : Nat} {μ : Mem} (hc : c ≤ n) (hn : n ≤ 59) : ∀ (q i : Nat), q + i = c → AW l G KC RX10 cX10_choices 5 1 (some .long) (Ql (fun v μ' => v = lN (ch n c) ∧ μ' = μ)) 5 [some (.int (nI n)), some (.int (nI c)), some (.long (lN (ch (n - c + i) i))), none, some (.int (nI (i + 1)))] [] μ := by
  intro q
  induction q with
  | zero =>
    intro i hq
    obtain rfl : i = c := by omega
    refine A_iload4 dX10_choices_5 ?_
    refine A_iload1 dX10_choices_7 ?_
    refine A_icmp_gt (tgt := 31) dX10_choices_8 (by decide) (fun c_8 => ?_) (fun c_8 => absurd c_8 (fun z => z (nI_lt (by omega) (by omega))))
    refine A_lload2 dX10_choices_31 ?_
    refine A_lret dX10_choices_32 ?_
    refine ⟨_, rfl, ?_, rfl⟩
    rw [show n - i + i = n by omega]
  | succ q ih =>
    intro i hq
    have est := (ch_st (a := n - c + i) (i := i) (by omega)).resolve_right (by omega)
    have e1 : nI n - nI c + nI (i + 1) = nI (n - c + i + 1) := by rw [pk_sub hc, nI_add]; rfl
    refine A_iload4 dX10_choices_5 ?_
    refine A_iload1 dX10_choices_7 ?_
    refine A_icmp_gt (tgt := 31) dX10_choices_8 (by decide) (fun c_8 => absurd c_8 (fun z => nI_nlt (by omega) (by omega) z)) (fun c_8 => ?_)
    refine A_lload2 dX10_choices_11 ?_
    refine A_iload0 dX10_choices_12 ?_
    refine A_iload1 dX10_choices_13 ?_
    refine A_isub dX10_choices_14 ?_
    refine A_iload4 dX10_choices_15 ?_
    refine A_iadd dX10_choices_17 ?_
    rw [e1]
    refine A_i2l dX10_choices_18 ?_
    rw [nI_l (by omega)]
    refine A_lmul dX10_choices_19 ?_
    refine A_iload4 dX10_choices_20 ?_
    refine A_i2l dX10_choices_22 ?_
    rw [nI_l (by omega)]
    refine A_ldiv dX10_choices_23 (fun z => by have h9 := (pk_lEQ (b := 0) (by omega) (by decide)).mp z; omega) ?_
    rw [est]
    refine A_lstore2 dX10_choices_24 rfl (by decide) ?_
    refine A_iinc4 dX10_choices_25 rfl rfl (by decide) ?_
    refine A_goto (tgt := 5) dX10_choices_28 (by decide) ?_
    rw [show nI (i + 1) + Int32.ofInt 1 = nI (i + 1 + 1) from nI_1 _]
    exact ih (i + 1) (by omega)
set_option maxHeartbeats 100000 in
set_option maxRecDepth 100000 in
theorem T_X10_choices {l : Launch} {G : Wd} {n c : Nat} {μ : Mem} (hc : c ≤ n) (hn : n ≤ 59) : Mt l G KC yX10_choices cX10_choices 5 (some .long) 1 [.int (nI n), .int (nI c)] μ (Ql (fun v μ' => v = lN (ch n c) ∧ μ' = μ)) := by
  refine Mt.of (own := RX10) (n := 3) (by decide) rfl [some (.int (nI n)), some (.int (nI c)), none, none, none] rfl (Nat.le_of_ble_eq_true rfl) ?_
  refine A_lconst (v := 1) dX10_choices_0 (by decide) ?_
  refine A_lstore2 dX10_choices_1 rfl (by decide) ?_
  refine A_iconst (v := 1) dX10_choices_2 (by decide) ?_
  refine A_istore4 dX10_choices_3 rfl (by decide) ?_
  have hh := L_X10_choices_5 (l := l) (G := G) (μ := μ) hc hn c 0 (by omega)
  rw [ch_0] at hh
  exact hh
theorem gd_h {x y q : Nat} (hy : 0 < y) (hxy : y ≤ x) (h : x * y < 2 ^ (q + 1)) : y * (x % y) < 2 ^ q := by
  have e := Nat.div_add_mod x y
  have hlt := Nat.mod_lt x hy
  have ht : 1 ≤ x / y := (Nat.one_le_div_iff hy).mpr hxy
  have h1 : y * 1 ≤ y * (x / y) := Nat.mul_le_mul_left y ht
  have h2 : 2 * (x % y) ≤ x := by omega
  have h3 : y * (2 * (x % y)) ≤ y * x := Nat.mul_le_mul_left y h2
  rw [Nat.mul_comm y x, Nat.mul_left_comm] at h3
  rw [Nat.pow_succ] at h
  omega
set_option maxHeartbeats 400000 in
set_option maxRecDepth 100000 in
theorem L_X10_cd_9 {l : Launch} {G : Wd} {a b : Int64} {g : Nat} {μ : Mem} : ∀ (q j x y : Nat) (x9 x10 : Option Value), q + j = 150 → x * y < 2 ^ q → y ≤ x → x < 2 ^ 63 → Nat.gcd x y = g → AW l G KC RX10 cX10_commonDivisor 11 1 (some .long) (Ql (fun v μ' => v = lN g ∧ μ' = μ)) 9 [some (.long a), none, some (.long b), none, some (.long (lN x)), none, some (.long (lN y)), none, some (.int (nI j)), x9, x10] [] μ := by
  intro q
  induction q with
  | zero =>
    intro j x y x9 x10 hq hxy hle hx hg
    have hy : y = 0 := by
      rcases Nat.eq_zero_or_pos y with z | z
      · exact z
      · have h1 : 1 * 1 ≤ x * y := Nat.mul_le_mul (by omega) z
        have e : (2 : Nat) ^ 0 = 1 := rfl
        omega
    subst hy
    rw [Nat.gcd_zero_right] at hg
    refine A_iload8 dX10_commonDivisor_9 ?_
    refine A_sipush (v := 200) dX10_commonDivisor_11 (by decide) ?_
    refine A_icmp_ge (tgt := 45) dX10_commonDivisor_14 (by decide) (fun c_14 => absurd c_14 (fun z => nI_ge (a := j) (b := 200) (by omega) (by decide) z)) (fun c_14 => ?_)
    refine A_lload6 dX10_commonDivisor_17 ?_
    refine A_lconst (v := 0) dX10_commonDivisor_19 (by decide) ?_
    refine A_lcmp dX10_commonDivisor_20 ?_
    refine A_if_eq (tgt := 45) dX10_commonDivisor_21 (by decide) (fun c_21 => ?_) (fun c_21 => absurd c_21 (fun z => z ((lg_cmp_eq _ _).mpr rfl)))
    refine A_lload4 dX10_commonDivisor_45 ?_
    refine A_lret dX10_commonDivisor_47 ?_
    exact ⟨_, rfl, by rw [hg], rfl⟩
  | succ q ih =>
    intro j x y x9 x10 hq hxy hle hx hg
    refine A_iload8 dX10_commonDivisor_9 ?_
    refine A_sipush (v := 200) dX10_commonDivisor_11 (by decide) ?_
    refine A_icmp_ge (tgt := 45) dX10_commonDivisor_14 (by decide) (fun c_14 => absurd c_14 (fun z => nI_ge (a := j) (b := 200) (by omega) (by decide) z)) (fun c_14 => ?_)
    refine A_lload6 dX10_commonDivisor_17 ?_
    refine A_lconst (v := 0) dX10_commonDivisor_19 (by decide) ?_
    refine A_lcmp dX10_commonDivisor_20 ?_
    refine A_if_eq (tgt := 45) dX10_commonDivisor_21 (by decide) (fun c_21 => ?_) (fun c_21 => ?_)
    · have hy0 : y = 0 := (pk_lEQ (b := 0) (by omega) (by decide)).mp ((lg_cmp_eq _ _).mp c_21)
      rw [hy0, Nat.gcd_zero_right] at hg
      refine A_lload4 dX10_commonDivisor_45 ?_
      refine A_lret dX10_commonDivisor_47 ?_
      exact ⟨_, rfl, by rw [hg], rfl⟩
    · have hy0 : 0 < y := by rcases Nat.eq_zero_or_pos y with z | z; exact absurd ((lg_cmp_eq _ _).mpr (by rw [z]; rfl)) c_21; exact z
      have hlt : x % y < y := Nat.mod_lt _ hy0
      refine A_lload4 dX10_commonDivisor_24 ?_
      refine A_lload6 dX10_commonDivisor_26 ?_
      refine A_lrem dX10_commonDivisor_28 (fun z => by have h9 := (pk_lEQ (b := 0) (by omega) (by decide)).mp z; omega) ?_
      rw [pk_lRem hx hy0 (by omega)]
      refine A_lstore9 dX10_commonDivisor_29 rfl (by decide) ?_
      refine A_lload6 dX10_commonDivisor_31 ?_
      refine A_lstore4 dX10_commonDivisor_33 rfl (by decide) ?_
      refine A_lload9 dX10_commonDivisor_35 ?_
      refine A_lstore6 dX10_commonDivisor_37 rfl (by decide) ?_
      refine A_iinc8 dX10_commonDivisor_39 rfl rfl (by decide) ?_
      refine A_goto (tgt := 9) dX10_commonDivisor_42 (by decide) ?_
      rw [show nI j + Int32.ofInt 1 = nI (j + 1) from nI_1 _]
      exact ih (j + 1) y (x % y) _ _ (by omega) (gd_h hy0 hle hxy) (by omega) (by omega) (by rw [← hg, Nat.gcd_comm x y, Nat.gcd_rec y x, Nat.gcd_comm])
set_option maxHeartbeats 400000 in
set_option maxRecDepth 100000 in
theorem T_X10_cd {l : Launch} {G : Wd} {x y : Nat} {μ : Mem} (hx : x < 2 ^ 60) (hy0 : 0 < y) (hy : y < 2 ^ 60) : Mt l G KC yX10_commonDivisor cX10_commonDivisor 11 (some .long) 1 [.long (lN x), .long (lN y)] μ (Ql (fun v μ' => v = lN (Nat.gcd x y) ∧ μ' = μ)) := by
  refine Mt.of (own := RX10) (n := 7) (by decide) rfl [some (.long (lN x)), none, some (.long (lN y)), none, none, none, none, none, none, none, none] rfl (Nat.le_of_ble_eq_true rfl) ?_
  have hlt : x % y < y := Nat.mod_lt _ hy0
  have hm : y * (x % y) ≤ 2 ^ 60 * 2 ^ 60 := Nat.mul_le_mul (by omega) (by omega)
  have e120 : (2 : Nat) ^ 60 * 2 ^ 60 < 2 ^ 149 := by decide
  refine A_lload0 dX10_commonDivisor_0 ?_
  refine A_lstore4 dX10_commonDivisor_1 rfl (by decide) ?_
  refine A_lload2 dX10_commonDivisor_3 ?_
  refine A_lstore6 dX10_commonDivisor_4 rfl (by decide) ?_
  refine A_iconst (v := 0) dX10_commonDivisor_6 (by decide) ?_
  refine A_istore8 dX10_commonDivisor_7 rfl (by decide) ?_
  refine A_iload8 dX10_commonDivisor_9 ?_
  refine A_sipush (v := 200) dX10_commonDivisor_11 (by decide) ?_
  refine A_icmp_ge (tgt := 45) dX10_commonDivisor_14 (by decide) (fun c_14 => absurd c_14 (by decide)) (fun c_14 => ?_)
  refine A_lload6 dX10_commonDivisor_17 ?_
  refine A_lconst (v := 0) dX10_commonDivisor_19 (by decide) ?_
  refine A_lcmp dX10_commonDivisor_20 ?_
  refine A_if_eq (tgt := 45) dX10_commonDivisor_21 (by decide) (fun c_21 => absurd c_21 (fun z => by have h9 := (pk_lEQ (b := 0) (by omega) (by decide)).mp ((lg_cmp_eq _ _).mp z); omega)) (fun c_21 => ?_)
  refine A_lload4 dX10_commonDivisor_24 ?_
  refine A_lload6 dX10_commonDivisor_26 ?_
  refine A_lrem dX10_commonDivisor_28 (fun z => by have h9 := (pk_lEQ (b := 0) (by omega) (by decide)).mp z; omega) ?_
  rw [pk_lRem (by omega) hy0 (by omega)]
  refine A_lstore9 dX10_commonDivisor_29 rfl (by decide) ?_
  refine A_lload6 dX10_commonDivisor_31 ?_
  refine A_lstore4 dX10_commonDivisor_33 rfl (by decide) ?_
  refine A_lload9 dX10_commonDivisor_35 ?_
  refine A_lstore6 dX10_commonDivisor_37 rfl (by decide) ?_
  refine A_iinc8 dX10_commonDivisor_39 rfl rfl (by decide) ?_
  refine A_goto (tgt := 9) dX10_commonDivisor_42 (by decide) ?_
  exact L_X10_cd_9 149 1 y (x % y) _ _ (by omega) (by omega) (by omega) (by omega) (by rw [Nat.gcd_comm x y, Nat.gcd_rec y x, Nat.gcd_comm])
theorem lk_min {t s w h n : Nat} : lkS t s w h (min (n + 1) (w + 1)) = if n ≤ w then lkS t s w h (min n (w + 1)) + (if w - n ≤ t - s ∧ h + s + w ≤ 2 * n + t then ch s n * ch (t - s) (w - n) else 0) else lkS t s w h (min n (w + 1)) := by
  by_cases q : n ≤ w
  · rw [if_pos q, show min (n + 1) (w + 1) = n + 1 by omega, show min n (w + 1) = n by omega, lkS]
  · rw [if_neg q, show min (n + 1) (w + 1) = w + 1 by omega, show min n (w + 1) = w + 1 by omega]
theorem lk_60 (σ : Mem) (k : Int32) : lkD σ k < 2 ^ 60 := by
  have h1 := trS_59 σ k
  have h5 := ch_le (trS σ k 60).1 (trS σ k 60).2.2.1
  have h6 : 2 ^ (trS σ k 60).1 ≤ 2 ^ 59 := Nat.pow_le_pow_right (by decide) h1
  have h7 : (2 : Nat) ^ 59 < 2 ^ 60 := by decide
  unfold lkD
  omega
set_option maxHeartbeats 400000 in
set_option maxRecDepth 100000 in
theorem L_X10_chance_102 {l : Launch} {G : Wd} {k part : Int32} {σ μ : Mem} {x6 x7 x8 : Option Value} : AW l G KC RX10 cX10_chance 9 2 (some .long) (Ql (fun v μ' => v = (if part = 0 then lN (lkN σ k / Nat.gcd (lkD σ k) (lkN σ k)) else lN (lkD σ k / Nat.gcd (lkD σ k) (lkN σ k))) ∧ μ' = μ)) 102 [some (.ref (gA G 80)), some (.int part), some (.long (lN (lkD σ k))), none, some (.long (lN (lkN σ k))), none, x6, x7, x8] [] μ := by
  have hb := lk_b σ k
  have hd := lk_60 σ k
  have hg := lk_g σ k
  rw [Nat.gcd_comm] at hg
  refine A_lload4 dX10_chance_102 ?_
  refine A_lload2 dX10_chance_104 ?_
  refine A_sl2 lk_X10_97 ys_X10_commonDivisor dX10_chance_105 (T_X10_cd (x := lkN σ k) (y := lkD σ k) (by omega) hb.2.2 hd) (by decide) (Nat.le_of_ble_eq_true rfl) (fun r_105 μ_105 h_105 => ?_)
  obtain ⟨v_105, e_105⟩ := h_105
  replace v_105 := Eq.symm v_105
  subst v_105
  replace e_105 := e_105.symm
  subst e_105
  refine A_lstore6 dX10_chance_108 rfl (by decide) ?_
  refine A_lload6 dX10_chance_110 ?_
  refine A_lconst (v := 0) dX10_chance_112 (by decide) ?_
  refine A_lcmp dX10_chance_113 ?_
  refine A_if_ne (tgt := 121) dX10_chance_114 (by decide) (fun c_114 => ?_) (fun c_114 => absurd c_114 (fun z => by have h9 := (pk_lEQ (b := 0) hg.2 (by decide)).mp ((lg_cmp_eq _ _).mp z); omega))
  refine A_iload1 dX10_chance_121 ?_
  refine A_if_ne (tgt := 133) dX10_chance_122 (by decide) (fun c_122 => ?_) (fun c_122 => ?_)
  · refine A_lload2 dX10_chance_133 ?_
    refine A_lload6 dX10_chance_134 ?_
    refine A_ldiv dX10_chance_136 (fun z => by have h9 := (pk_lEQ (b := 0) hg.2 (by decide)).mp z; omega) ?_
    refine A_lret dX10_chance_137 ?_
    refine ⟨_, rfl, ?_, rfl⟩
    rw [if_neg c_122, Nat.gcd_comm (lkD σ k)]
    exact pk_lDiv (by omega) hg.1 hg.2
  · refine A_lload4 dX10_chance_125 ?_
    refine A_lload6 dX10_chance_127 ?_
    refine A_ldiv dX10_chance_129 (fun z => by have h9 := (pk_lEQ (b := 0) hg.2 (by decide)).mp z; omega) ?_
    refine A_goto (tgt := 137) dX10_chance_130 (by decide) ?_
    refine A_lret dX10_chance_137 ?_
    refine ⟨_, rfl, ?_, rfl⟩
    rw [if_pos c_122, Nat.gcd_comm (lkD σ k)]
    exact pk_lDiv (by omega) hg.1 hg.2
set_option maxHeartbeats 400000 in
set_option maxRecDepth 100000 in
theorem L_X10_chance_18 {l : Launch} {G : Wd} {k part : Int32} {σ μ : Mem} (hI : TrI σ k 60 μ) : ∀ (q n : Nat) (x7 x8 : Option Value), q + n = (trS σ k 60).2.2.2 + 1 → AW l G KC RX10 cX10_chance 9 2 (some .long) (Ql (fun v μ' => v = (if part = 0 then lN (lkN σ k / Nat.gcd (lkD σ k) (lkN σ k)) else lN (lkD σ k / Nat.gcd (lkD σ k) (lkN σ k))) ∧ μ' = μ)) 18 [some (.ref (gA G 80)), some (.int part), some (.long (lN (lkD σ k))), none, some (.long (lN (lkS (trS σ k 60).1 (trS σ k 60).2.2.2 (trS σ k 60).2.2.1 (trS σ k 60).2.1 (min n ((trS σ k 60).2.2.1 + 1))))), none, some (.int (nI n)), x7, x8] [] μ := by
  have h1 := trS_59 σ k
  obtain ⟨h2, h3, h4⟩ := trS_c σ k 60
  obtain ⟨i3, i4, i5, i6, -⟩ := hI
  intro q
  induction q with
  | zero =>
    intro n x7 x8 hq
    obtain rfl : n = (trS σ k 60).2.2.2 + 1 := by omega
    rw [show (lkS (trS σ k 60).1 (trS σ k 60).2.2.2 (trS σ k 60).2.2.1 (trS σ k 60).2.1 (min ((trS σ k 60).2.2.2 + 1) ((trS σ k 60).2.2.1 + 1))) = lkN σ k by unfold lkN; congr 1; omega]
    refine A_iload6 dX10_chance_18 ?_
    refine A_aload0 dX10_chance_20 ?_
    refine A_getI gf_X10_55 rfl dX10_chance_21 ?_
    refine A_val (y := nI (trS σ k 60).2.2.2) (i6) ?_
    refine A_icmp_gt (tgt := 102) dX10_chance_24 (by decide) (fun c_24 => ?_) (fun c_24 => absurd c_24 (fun z => z (nI_lt (by omega) (by omega))))
    exact L_X10_chance_102
  | succ q ih =>
    intro n x7 x8 hq
    have hh := fun x y => ih (n + 1) x y (by omega)
    have elk := lk_min (t := (trS σ k 60).1) (s := (trS σ k 60).2.2.2) (w := (trS σ k 60).2.2.1) (h := (trS σ k 60).2.1) (n := n)
    have ed : nI (trS σ k 60).1 - nI (trS σ k 60).2.2.2 = nI ((trS σ k 60).1 - (trS σ k 60).2.2.2) := pk_sub h3
    have eu := pk_sub_toInt (a := (trS σ k 60).2.2.1) (b := n) (by omega) (by omega)
    refine A_iload6 dX10_chance_18 ?_
    refine A_aload0 dX10_chance_20 ?_
    refine A_getI gf_X10_55 rfl dX10_chance_21 ?_
    refine A_val (y := nI (trS σ k 60).2.2.2) (i6) ?_
    refine A_icmp_gt (tgt := 102) dX10_chance_24 (by decide) (fun c_24 => absurd c_24 (fun z => nI_nlt (by omega) (by omega) z)) (fun c_24 => ?_)
    refine A_aload0 dX10_chance_27 ?_
    refine A_getI gf_X10_52 rfl dX10_chance_28 ?_
    refine A_val (y := nI (trS σ k 60).2.2.1) (i5) ?_
    refine A_iload6 dX10_chance_31 ?_
    refine A_isub dX10_chance_33 ?_
    refine A_istore7 dX10_chance_34 rfl (by decide) ?_
    refine A_aload0 dX10_chance_36 ?_
    refine A_getI gf_X10_46 rfl dX10_chance_37 ?_
    refine A_val (y := nI (trS σ k 60).1) (i3) ?_
    refine A_aload0 dX10_chance_40 ?_
    refine A_getI gf_X10_55 rfl dX10_chance_41 ?_
    refine A_val (y := nI (trS σ k 60).2.2.2) (i6) ?_
    refine A_isub dX10_chance_44 ?_
    rw [ed]
    refine A_istore8 dX10_chance_45 rfl (by decide) ?_
    refine A_iload7 dX10_chance_47 ?_
    refine A_if_lt (tgt := 96) dX10_chance_49 (by decide) (fun c_49 => ?_) (fun c_49 => ?_)
    · refine A_iinc6 dX10_chance_96 rfl rfl (by decide) ?_
      refine A_goto (tgt := 18) dX10_chance_99 (by decide) ?_
      rw [show nI n + Int32.ofInt 1 = nI (n + 1) from nI_1 n]
      have hnw : ¬ n ≤ (trS σ k 60).2.2.1 := fun z => by have h9 := i_lt.mp c_49; rw [eu] at h9; have e0 : (0 : Int32).toInt = 0 := rfl; omega
      rw [if_neg hnw] at elk
      rw [elk] at hh
      exact hh _ _
    · have hnw : n ≤ (trS σ k 60).2.2.1 := by rcases Nat.lt_or_ge (trS σ k 60).2.2.1 n with z | z; exact absurd (i_lt.mpr (by rw [eu]; have e0 : (0 : Int32).toInt = 0 := rfl; omega)) c_49; exact z
      rw [pk_sub hnw]
      rw [pk_sub hnw] at c_49
      refine A_iload7 dX10_chance_52 ?_
      refine A_iload8 dX10_chance_54 ?_
      refine A_icmp_gt (tgt := 96) dX10_chance_56 (by decide) (fun c_56 => ?_) (fun c_56 => ?_)
      · refine A_iinc6 dX10_chance_96 rfl rfl (by decide) ?_
        refine A_goto (tgt := 18) dX10_chance_99 (by decide) ?_
        rw [show nI n + Int32.ofInt 1 = nI (n + 1) from nI_1 n]
        rw [if_pos hnw, if_neg (fun z => by have h9 := (nI_ltI (by omega) (by omega)).mp c_56; omega), Nat.add_zero] at elk
        rw [elk] at hh
        exact hh _ _
      · have hun : ((trS σ k 60).2.2.1 - n) ≤ ((trS σ k 60).1 - (trS σ k 60).2.2.2) := by rcases Nat.lt_or_ge ((trS σ k 60).1 - (trS σ k 60).2.2.2) ((trS σ k 60).2.2.1 - n) with z | z; exact absurd (nI_lt z (by omega)) c_56; exact z
        have ec : (nI n + nI ((trS σ k 60).1 - (trS σ k 60).2.2.2) - nI ((trS σ k 60).2.2.1 - n)).toInt = (n : Int) + ((trS σ k 60).1 - (trS σ k 60).2.2.2) - ((trS σ k 60).2.2.1 - n) := by rw [nI_add, pk_sub_toInt (by omega) (by omega)]; omega
        refine A_iload6 dX10_chance_59 ?_
        refine A_iload8 dX10_chance_61 ?_
        refine A_iadd dX10_chance_63 ?_
        refine A_iload7 dX10_chance_64 ?_
        refine A_isub dX10_chance_66 ?_
        refine A_aload0 dX10_chance_67 ?_
        refine A_getI gf_X10_49 rfl dX10_chance_68 ?_
        refine A_val (y := nI (trS σ k 60).2.1) (i4) ?_
        refine A_icmp_lt (tgt := 96) dX10_chance_71 (by decide) (fun c_71 => ?_) (fun c_71 => ?_)
        · refine A_iinc6 dX10_chance_96 rfl rfl (by decide) ?_
          refine A_goto (tgt := 18) dX10_chance_99 (by decide) ?_
          rw [show nI n + Int32.ofInt 1 = nI (n + 1) from nI_1 n]
          rw [if_pos hnw, if_neg (fun z => by have h9 := i_lt.mp c_71; rw [ec, nI_i (by omega)] at h9; omega), Nat.add_zero] at elk
          rw [elk] at hh
          exact hh _ _
        · refine A_lload4 dX10_chance_74 ?_
          refine A_aload0 dX10_chance_76 ?_
          refine A_getI gf_X10_55 rfl dX10_chance_77 ?_
          refine A_val (y := nI (trS σ k 60).2.2.2) (i6) ?_
          refine A_iload6 dX10_chance_80 ?_
          refine A_sl2 lk_X10_93 ys_X10_choices dX10_chance_82 (T_X10_choices (by omega) (by omega)) (by decide) (Nat.le_of_ble_eq_true rfl) (fun r_82 μ_82 h_82 => ?_)
          obtain ⟨v_82, e_82⟩ := h_82
          replace v_82 := Eq.symm v_82
          subst v_82
          replace e_82 := e_82.symm
          subst e_82
          refine A_iload8 dX10_chance_85 ?_
          refine A_iload7 dX10_chance_87 ?_
          refine A_sl2 lk_X10_93 ys_X10_choices dX10_chance_89 (T_X10_choices (by omega) (by omega)) (by decide) (Nat.le_of_ble_eq_true rfl) (fun r_89 μ_89 h_89 => ?_)
          obtain ⟨v_89, e_89⟩ := h_89
          replace v_89 := Eq.symm v_89
          subst v_89
          replace e_89 := e_89.symm
          subst e_89
          refine A_lmul dX10_chance_92 ?_
          rw [lN_mul]
          refine A_ladd dX10_chance_93 ?_
          rw [lN_add]
          refine A_lstore4 dX10_chance_94 rfl (by decide) ?_
          refine A_iinc6 dX10_chance_96 rfl rfl (by decide) ?_
          refine A_goto (tgt := 18) dX10_chance_99 (by decide) ?_
          rw [show nI n + Int32.ofInt 1 = nI (n + 1) from nI_1 n]
          rw [if_pos hnw, if_pos ⟨hun, by have h9 := mt i_lt.mpr c_71; rw [ec, nI_i (by omega)] at h9; omega⟩] at elk
          rw [elk] at hh
          exact hh _ _
set_option maxHeartbeats 400000 in
set_option maxRecDepth 100000 in
theorem T_X10_chance {l : Launch} {G : Wd} {k part : Int32} {σ μ : Mem} (hI : TrI σ k 60 μ) : Mt l G KC yX10_chance cX10_chance 9 (some .long) 2 [.ref (gA G 80), .int part] μ (Ql (fun v μ' => v = (if part = 0 then lN (lkN σ k / Nat.gcd (lkD σ k) (lkN σ k)) else lN (lkD σ k / Nat.gcd (lkD σ k) (lkN σ k))) ∧ μ' = μ)) := by
  refine Mt.of (own := RX10) (n := 7) (by decide) rfl [some (.ref (gA G 80)), some (.int part), none, none, none, none, none, none, none] rfl (Nat.le_of_ble_eq_true rfl) ?_
  have h1 := trS_59 σ k
  obtain ⟨h2, h3, h4⟩ := trS_c σ k 60
  refine A_aload0 dX10_chance_0 ?_
  refine A_getI gf_X10_46 rfl dX10_chance_1 ?_
  refine A_val (y := nI (trS σ k 60).1) (hI.1) ?_
  refine A_aload0 dX10_chance_4 ?_
  refine A_getI gf_X10_52 rfl dX10_chance_5 ?_
  refine A_val (y := nI (trS σ k 60).2.2.1) (hI.2.2.1) ?_
  refine A_sl2 lk_X10_93 ys_X10_choices dX10_chance_8 (T_X10_choices h2 h1) (by decide) (Nat.le_of_ble_eq_true rfl) (fun r_8 μ_8 h_8 => ?_)
  obtain ⟨v_8, e_8⟩ := h_8
  replace v_8 := Eq.symm v_8
  subst v_8
  replace e_8 := e_8.symm
  subst e_8
  refine A_lstore2 dX10_chance_11 rfl (by decide) ?_
  refine A_lconst (v := 0) dX10_chance_12 (by decide) ?_
  refine A_lstore4 dX10_chance_13 rfl (by decide) ?_
  refine A_iconst (v := 0) dX10_chance_15 (by decide) ?_
  refine A_istore6 dX10_chance_16 rfl (by decide) ?_
  have hh := L_X10_chance_18 (l := l) (G := G) (part := part) hI ((trS σ k 60).2.2.2 + 1) 0 none none (by omega)
  rw [show (lkS (trS σ k 60).1 (trS σ k 60).2.2.2 (trS σ k 60).2.2.1 (trS σ k 60).2.1 (min 0 ((trS σ k 60).2.2.1 + 1))) = 0 by rw [Nat.zero_min]; rfl] at hh
  exact hh
set_option maxHeartbeats 100000 in
set_option maxRecDepth 100000 in
theorem C_luck {l : Launch} {G : Wd} {p : Int32} {k : Int32} {n : Nat} {σ μ : Mem} (hE : WFe σ) (hR : Rc σ n μ) (hn : n + 1 ≤ 600) : Mt l G KC yX11_luck cX11_luck 3 (some .long) 9 [.ref (gA G 0), .int p, .int k] μ (Ql (fun v μ' => v = sp_luck σ p k ∧ Rc σ (n + 1) μ')) := by
  refine Mt.of (own := RX11) (n := 0) (by decide) rfl [some (.ref (gA G 0)), some (.int p), some (.int k)] rfl (Nat.le_of_ble_eq_true rfl) ?_
  refine A_iload1 dX11_luck_0 ?_
  refine A_if_eq (tgt := 13) dX11_luck_1 (by decide) (fun c_1 => ?_) (fun c_1 => ?_)
  · have hp : 0 ≤ p ∧ p ≤ 1 := by rw [c_1]; decide
    have hle := trS_59 σ k
    refine A_aload0 dX11_luck_13 ?_
    refine A_getR gf_X11_76 rfl dX11_luck_14 ?_
    refine A_iload2 dX11_luck_17 ?_
    refine A_vv1 lk_X11_201 yv_X4_at dX11_luck_18 (rfl) (rfl) (T_at hR) (by decide) (Nat.le_of_ble_eq_true rfl) (fun μ_18 h_18 => ?_)
    have hC := hR.at h_18
    refine A_aload0 dX11_luck_21 ?_
    refine A_getR gf_X11_110 rfl dX11_luck_22 ?_
    refine A_vv0 lk_X11_278 yv_X10_run dX11_luck_25 (rfl) (rfl) (T_X10_run hC.wk hR.2.1.2 hE) (by decide) (Nat.le_of_ble_eq_true rfl) (fun μ_25 h_25 => ?_)
    obtain ⟨hI, hF⟩ := h_25
    have hC2 := hC.st hF
    refine A_aload0 dX11_luck_28 ?_
    refine A_getR gf_X11_110 rfl dX11_luck_29 ?_
    refine A_getI gf_X11_284 rfl dX11_luck_32 ?_
    refine A_val (y := nI (trS σ k 60).1) (hI.1) ?_
    refine A_if_ne (tgt := 44) dX11_luck_35 (by decide) (fun c_35 => ?_) (fun c_35 => ?_)
    · refine A_aload0 dX11_luck_44 ?_
      refine A_getR gf_X11_110 rfl dX11_luck_45 ?_
      refine A_iload1 dX11_luck_48 ?_
      refine A_vl1 lk_X11_292 yv_X10_chance dX11_luck_49 (rfl) (rfl) (T_X10_chance hI) (by decide) (Nat.le_of_ble_eq_true rfl) (fun r_49 μ_49 h_49 => ?_)
      obtain ⟨v_49, e_49⟩ := h_49
      replace v_49 := Eq.symm v_49
      subst v_49
      replace e_49 := e_49.symm
      subst e_49
      refine A_lret dX11_luck_52 ?_
      refine ⟨_, rfl, ?_, hC2.rc hR.2.1 hn⟩
      have hcd : 0 ≤ p ∧ p ≤ 1 ∧ ¬ (trS σ k 60).1 = 0 := ⟨hp.1, hp.2, fun z => c_35 (by rw [z]; rfl)⟩
      unfold sp_luck
      rw [if_pos hcd]
    · refine A_ldc2 dX11_luck_38 kc_X11_290 ?_
      refine A_goto (tgt := 52) dX11_luck_41 (by decide) ?_
      refine A_lret dX11_luck_52 ?_
      refine ⟨_, rfl, ?_, hC2.rc hR.2.1 hn⟩
      unfold sp_luck
      rw [if_neg (fun z => z.2.2 ((nI_eq (b := 0) (by omega) (by decide)).mp c_35))]
  · refine A_iload1 dX11_luck_4 ?_
    refine A_iconst (v := 1) dX11_luck_5 (by decide) ?_
    refine A_icmp_eq (tgt := 13) dX11_luck_6 (by decide) (fun c_6 => ?_) (fun c_6 => ?_)
    · have hp : 0 ≤ p ∧ p ≤ 1 := by rw [c_6]; decide
      have hle := trS_59 σ k
      refine A_aload0 dX11_luck_13 ?_
      refine A_getR gf_X11_76 rfl dX11_luck_14 ?_
      refine A_iload2 dX11_luck_17 ?_
      refine A_vv1 lk_X11_201 yv_X4_at dX11_luck_18 (rfl) (rfl) (T_at hR) (by decide) (Nat.le_of_ble_eq_true rfl) (fun μ_18 h_18 => ?_)
      have hC := hR.at h_18
      refine A_aload0 dX11_luck_21 ?_
      refine A_getR gf_X11_110 rfl dX11_luck_22 ?_
      refine A_vv0 lk_X11_278 yv_X10_run dX11_luck_25 (rfl) (rfl) (T_X10_run hC.wk hR.2.1.2 hE) (by decide) (Nat.le_of_ble_eq_true rfl) (fun μ_25 h_25 => ?_)
      obtain ⟨hI, hF⟩ := h_25
      have hC2 := hC.st hF
      refine A_aload0 dX11_luck_28 ?_
      refine A_getR gf_X11_110 rfl dX11_luck_29 ?_
      refine A_getI gf_X11_284 rfl dX11_luck_32 ?_
      refine A_val (y := nI (trS σ k 60).1) (hI.1) ?_
      refine A_if_ne (tgt := 44) dX11_luck_35 (by decide) (fun c_35 => ?_) (fun c_35 => ?_)
      · refine A_aload0 dX11_luck_44 ?_
        refine A_getR gf_X11_110 rfl dX11_luck_45 ?_
        refine A_iload1 dX11_luck_48 ?_
        refine A_vl1 lk_X11_292 yv_X10_chance dX11_luck_49 (rfl) (rfl) (T_X10_chance hI) (by decide) (Nat.le_of_ble_eq_true rfl) (fun r_49 μ_49 h_49 => ?_)
        obtain ⟨v_49, e_49⟩ := h_49
        replace v_49 := Eq.symm v_49
        subst v_49
        replace e_49 := e_49.symm
        subst e_49
        refine A_lret dX11_luck_52 ?_
        refine ⟨_, rfl, ?_, hC2.rc hR.2.1 hn⟩
        have hcd : 0 ≤ p ∧ p ≤ 1 ∧ ¬ (trS σ k 60).1 = 0 := ⟨hp.1, hp.2, fun z => c_35 (by rw [z]; rfl)⟩
        unfold sp_luck
        rw [if_pos hcd]
      · refine A_ldc2 dX11_luck_38 kc_X11_290 ?_
        refine A_goto (tgt := 52) dX11_luck_41 (by decide) ?_
        refine A_lret dX11_luck_52 ?_
        refine ⟨_, rfl, ?_, hC2.rc hR.2.1 hn⟩
        unfold sp_luck
        rw [if_neg (fun z => z.2.2 ((nI_eq (b := 0) (by omega) (by decide)).mp c_35))]
    · have hno : 0 ≤ p → p ≤ 1 → False := fun z1 z2 => by have a := i_le.mp z1; have b := i_le.mp z2; have e0 : (0 : Int32).toInt = 0 := rfl; have e1 : (1 : Int32).toInt = 1 := rfl; have f0 : ¬ p.toInt = 0 := fun z => c_1 (i_eq.mpr z); have f1 : ¬ p.toInt = 1 := fun z => c_6 (i_eq.mpr z); omega
      refine A_ldc2 dX11_luck_9 kc_X11_290 ?_
      refine A_lret dX11_luck_12 ?_
      refine ⟨_, rfl, ?_, hR.up hn⟩
      unfold sp_luck
      rw [if_neg (fun z => hno z.1 z.2.1)]

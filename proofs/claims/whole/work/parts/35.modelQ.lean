/-! luck -/
theorem ch_le : ∀ n m, ch n m ≤ 2 ^ n := by
  intro n
  induction n with
  | zero =>
    intro m
    cases m with
    | zero => exact Nat.le_refl _
    | succ m => exact Nat.zero_le _
  | succ n ih =>
    intro m
    cases m with
    | zero => exact Nat.one_le_two_pow
    | succ m =>
      have h1 := ih m
      have h2 := ih (m + 1)
      show ch n m + ch n (m + 1) ≤ 2 ^ (n + 1)
      rw [Nat.pow_succ]
      omega
theorem ch_pos : ∀ n m, m ≤ n → 0 < ch n m := by
  intro n
  induction n with
  | zero =>
    intro m h
    obtain rfl : m = 0 := by omega
    exact Nat.one_pos
  | succ n ih =>
    intro m h
    cases m with
    | zero => exact Nat.one_pos
    | succ m => have := ih m (by omega); show 0 < ch n m + ch n (m + 1); omega
def smV (s u w : Nat) : Nat → Nat
  | 0 => 0
  | n + 1 => smV s u w n + ch s n * ch u (w - n)
theorem smV_0 (u w : Nat) : ∀ n, smV 0 u w n ≤ ch u w := by
  intro n
  induction n with
  | zero => exact Nat.zero_le _
  | succ n ih =>
    cases n with
    | zero => show 0 + ch 0 0 * ch u (w - 0) ≤ _; rw [Nat.sub_zero, Nat.zero_add]; show 1 * ch u w ≤ _; rw [Nat.one_mul]; exact Nat.le_refl _
    | succ n => show smV 0 u w (n + 1) + ch 0 (n + 1) * ch u (w - (n + 1)) ≤ _; rw [show ch 0 (n + 1) = 0 from rfl, Nat.zero_mul]; exact ih
theorem smV_s (s u w : Nat) : ∀ n, smV (s + 1) u (w + 1) (n + 1) = smV s u (w + 1) (n + 1) + smV s u w n := by
  intro n
  induction n with
  | zero => show 0 + ch (s + 1) 0 * _ = 0 + ch s 0 * _ + 0; rw [show ch (s + 1) 0 = 1 by unfold ch; rfl, show ch s 0 = 1 by unfold ch; rfl]; omega
  | succ n ih =>
    show smV (s + 1) u (w + 1) (n + 1) + ch (s + 1) (n + 1) * ch u (w + 1 - (n + 1)) = smV s u (w + 1) (n + 1) + ch s (n + 1) * ch u (w + 1 - (n + 1)) + (smV s u w n + ch s n * ch u (w - n))
    rw [ih, show ch (s + 1) (n + 1) = ch s n + ch s (n + 1) from rfl, Nat.add_mul, show w + 1 - (n + 1) = w - n by omega]
    omega
theorem smV_le : ∀ s u w n, n ≤ w + 1 → smV s u w n ≤ ch (s + u) w := by
  intro s
  induction s with
  | zero => intro u w n _; rw [Nat.zero_add]; exact smV_0 u w n
  | succ s ih =>
    intro u w n hn
    cases n with
    | zero => exact Nat.zero_le _
    | succ n =>
      cases w with
      | zero =>
        obtain rfl : n = 0 := by omega
        show 0 + ch (s + 1) 0 * ch u 0 ≤ ch (s + 1 + u) 0
        rw [show ch (s + 1) 0 = 1 by unfold ch; rfl, show ch u 0 = 1 by unfold ch; rfl, show ch (s + 1 + u) 0 = 1 by unfold ch; rfl]
        exact Nat.le_refl _
      | succ w =>
        rw [smV_s]
        have h1 := ih u (w + 1) (n + 1) (by omega)
        have h2 := ih u w n (by omega)
        rw [show s + 1 + u = (s + u) + 1 by omega]
        show _ ≤ ch (s + u) w + ch (s + u) (w + 1)
        omega
def lkS (t s w h : Nat) : Nat → Nat
  | 0 => 0
  | n + 1 => lkS t s w h n + (if w - n ≤ t - s ∧ h + s + w ≤ 2 * n + t then ch s n * ch (t - s) (w - n) else 0)
theorem lkS_le (t s w h : Nat) : ∀ n, lkS t s w h n ≤ smV s (t - s) w n := by
  intro n
  induction n with
  | zero => exact Nat.le_refl _
  | succ n ih => unfold lkS smV; split <;> omega
theorem trS_c (σ : Mem) (k : Int32) : ∀ n, (trS σ k n).2.2.1 ≤ (trS σ k n).1 ∧ (trS σ k n).2.2.2 ≤ (trS σ k n).1 ∧ (trS σ k n).2.1 ≤ (trS σ k n).1 := by
  intro n
  induction n with
  | zero => exact ⟨Nat.le_refl _, Nat.le_refl _, Nat.le_refl _⟩
  | succ n ih =>
    unfold trS
    split
    · refine ⟨?_, ?_, ?_⟩
      · show (trS σ k n).2.2.1 + _ ≤ (trS σ k n).1 + 1; split <;> omega
      · show (trS σ k n).2.2.2 + _ ≤ (trS σ k n).1 + 1; split <;> omega
      · show (trS σ k n).2.1 + _ ≤ (trS σ k n).1 + 1; split <;> omega
    · exact ih
theorem trS_59 (σ : Mem) (k : Int32) : (trS σ k 60).1 ≤ 59 := by
  have h1 := (trS_le σ k 59).1
  have h2 : ¬ trP σ k 59 := fun z => z.2.1 (by
    unfold wnS wnV
    rw [if_neg (show ¬ 59 + 1 < 60 by decide), if_pos rfl]
    decide)
  rw [trS, if_neg h2]
  exact h1
def lkN (σ : Mem) (k : Int32) : Nat := lkS (trS σ k 60).1 (trS σ k 60).2.2.2 (trS σ k 60).2.2.1 (trS σ k 60).2.1 (min (trS σ k 60).2.2.2 (trS σ k 60).2.2.1 + 1)
def lkD (σ : Mem) (k : Int32) : Nat := ch (trS σ k 60).1 (trS σ k 60).2.2.1
def sp_luck (σ : Mem) (p k : Int32) : Int64 := if 0 ≤ p ∧ p ≤ 1 ∧ ¬ (trS σ k 60).1 = 0 then (if p = 0 then lN (lkN σ k / Nat.gcd (lkD σ k) (lkN σ k)) else lN (lkD σ k / Nat.gcd (lkD σ k) (lkN σ k))) else -1
theorem lk_cmp {h j t s w : Nat} (h1 : h ≤ 60) (h2 : j ≤ 60) (h3 : t ≤ 60) (h4 : s ≤ 60) (h5 : w ≤ 60) : nI h ≤ 2 * nI j + nI t - nI s - nI w ↔ h + s + w ≤ 2 * j + t := by
  have e1 : 2 * nI j + nI t = nI (2 * j + t) := by rw [show (2 : Int32) = nI 2 from rfl, pk_mul, nI_add]
  have e2 := pk_sub_toInt (a := 2 * j + t) (b := s) (by omega) (by omega)
  rw [e1, i_le, nI_i (by omega), Int32.toInt_sub, e2, nI_i (by omega), Int.bmod_eq_of_le (by omega) (by omega)]
  omega
set_option maxHeartbeats 800000 in
set_option maxRecDepth 100000 in
theorem L_X12_luck {l : Launch} {G : Wd} {part k : Int32} {μ μ0 : Mem} {t : T4} {Q : Option Value → Mem → Prop} (hT : TF t μ) (hC : chI μ0 3600 μ) (ht : t.1 ≤ 59) (hst : t.2.2.2 ≤ t.1) (hwt : t.2.2.1 ≤ t.1) (hht : t.2.1 ≤ t.1) : ∀ (q j : Nat) (m : Int64) (x : Int32) (x6 x7 x8 : Option Value), j + q = min t.2.2.2 t.2.2.1 + 2 → j ≤ min t.2.2.2 t.2.2.1 + 1 → x = nI j → m = lN (lkS t.1 t.2.2.2 t.2.2.1 t.2.1 j) → (∀ (x : Int32) (x6 x7 x8 : Option Value), AW l G KM RX12 cX12_luck 9 6 (some .long) Q 153 [some (.ref (gA G 0)), some (.int part), some (.int k), some (.long (lN (lkS t.1 t.2.2.2 t.2.2.1 t.2.1 (min t.2.2.2 t.2.2.1 + 1)))), none, some (.int x), x6, x7, x8] [] μ) → AW l G KM RX12 cX12_luck 9 6 (some .long) Q 38 [some (.ref (gA G 0)), some (.int part), some (.int k), some (.long m), none, some (.int x), x6, x7, x8] [] μ := by
  intro q
  induction q with
  | zero => intro j m x x6 x7 x8 h1 h2; omega
  | succ q ih =>
    intro j m x x6 x7 x8 h1 h2 hx hm hk
    subst hx
    refine A_iload5 dX12_luck_38 ?_
    refine A_aload0 dX12_luck_40 ?_
    refine A_getI gf_X12_492 rfl dX12_luck_41 ?_
    rw [hT.2.2.2]
    refine A_icmp_gt (tgt := 153) dX12_luck_44 (by decide) (fun c_44 => ?_) (fun c_44 => ?_)
    · have e : j = min t.2.2.2 t.2.2.1 + 1 := by have h9 := (nI_ltI (by omega) (by omega)).mp c_44; omega
      subst e
      subst hm
      exact hk _ _ _ _
    · refine A_iload5 dX12_luck_47 ?_
      refine A_aload0 dX12_luck_49 ?_
      refine A_getI gf_X12_489 rfl dX12_luck_50 ?_
      rw [hT.2.2.1]
      refine A_icmp_gt (tgt := 153) dX12_luck_53 (by decide) (fun c_53 => ?_) (fun c_53 => ?_)
      · have e : j = min t.2.2.2 t.2.2.1 + 1 := by have h9 := (nI_ltI (by omega) (by omega)).mp c_53; omega
        subst e
        subst hm
        exact hk _ _ _ _
      · have hj1 : j ≤ t.2.2.2 := by rcases Nat.lt_or_ge t.2.2.2 j with z | z; exact absurd (nI_lt z (by omega)) c_44; exact z
        have hj2 : j ≤ t.2.2.1 := by rcases Nat.lt_or_ge t.2.2.1 j with z | z; exact absurd (nI_lt z (by omega)) c_53; exact z
        refine A_aload0 dX12_luck_56 ?_
        refine A_getI gf_X12_489 rfl dX12_luck_57 ?_
        rw [hT.2.2.1]
        refine A_iload5 dX12_luck_60 ?_
        refine A_isub dX12_luck_62 ?_
        rw [pk_sub hj2]
        refine A_istore6 dX12_luck_63 rfl (by decide) ?_
        refine A_iload6 dX12_luck_65 ?_
        refine A_aload0 dX12_luck_67 ?_
        refine A_getI gf_X12_483 rfl dX12_luck_68 ?_
        rw [hT.1]
        refine A_aload0 dX12_luck_71 ?_
        refine A_getI gf_X12_492 rfl dX12_luck_72 ?_
        rw [hT.2.2.2]
        refine A_isub dX12_luck_75 ?_
        rw [pk_sub hst]
        refine A_icmp_gt (tgt := 147) dX12_luck_76 (by decide) (fun c_76 => ?_) (fun c_76 => ?_)
        · refine A_iinc5 dX12_luck_147 rfl rfl (by decide) ?_
          refine A_goto (tgt := 38) dX12_luck_150 (by decide) ?_
          refine ih (j + 1) _ _ _ _ _ (by omega) (by omega) (nI_1 j) ?_ hk
          rw [hm, lkS, if_neg (fun z => by have h9 := (nI_ltI (by omega) (by omega)).mp c_76; omega)]
          rw [Nat.add_zero]
        · refine A_iconst (v := 2) dX12_luck_79 (by decide) ?_
          refine A_iload5 dX12_luck_80 ?_
          refine A_imul dX12_luck_82 ?_
          refine A_aload0 dX12_luck_83 ?_
          refine A_getI gf_X12_483 rfl dX12_luck_84 ?_
          rw [hT.1]
          refine A_iadd dX12_luck_87 ?_
          refine A_aload0 dX12_luck_88 ?_
          refine A_getI gf_X12_492 rfl dX12_luck_89 ?_
          rw [hT.2.2.2]
          refine A_isub dX12_luck_92 ?_
          refine A_aload0 dX12_luck_93 ?_
          refine A_getI gf_X12_489 rfl dX12_luck_94 ?_
          rw [hT.2.2.1]
          refine A_isub dX12_luck_97 ?_
          refine A_aload0 dX12_luck_98 ?_
          refine A_getI gf_X12_486 rfl dX12_luck_99 ?_
          rw [hT.2.1]
          refine A_icmp_ge (tgt := 108) dX12_luck_102 (by decide) (fun c_102 => ?_) (fun c_102 => ?_)
          · refine A_lload3 dX12_luck_108 ?_
            refine A_aload0 dX12_luck_109 ?_
            refine A_getR gf_X12_163 rfl dX12_luck_110 ?_
            refine A_bipush (v := 60) dX12_luck_113 (by decide) ?_
            refine A_aload0 dX12_luck_115 ?_
            refine A_getI gf_X12_492 rfl dX12_luck_116 ?_
            rw [hT.2.2.2]
            refine A_imul dX12_luck_119 ?_
            refine A_iload5 dX12_luck_120 ?_
            refine A_iadd dX12_luck_122 ?_
            rw [nI_60]
            refine A_lald (rfl) (vp_in_nI (by omega) (by omega)) dX12_luck_123 ?_
            rw [nI_c (by omega), hC.2.2.2 _ (by omega), (div60 (by omega)).1, (div60 (by omega)).2]
            refine A_aload0 dX12_luck_124 ?_
            refine A_getR gf_X12_163 rfl dX12_luck_125 ?_
            refine A_bipush (v := 60) dX12_luck_128 (by decide) ?_
            refine A_aload0 dX12_luck_130 ?_
            refine A_getI gf_X12_483 rfl dX12_luck_131 ?_
            rw [hT.1]
            refine A_aload0 dX12_luck_134 ?_
            refine A_getI gf_X12_492 rfl dX12_luck_135 ?_
            rw [hT.2.2.2]
            refine A_isub dX12_luck_138 ?_
            rw [pk_sub hst]
            refine A_imul dX12_luck_139 ?_
            refine A_iload6 dX12_luck_140 ?_
            refine A_iadd dX12_luck_142 ?_
            rw [nI_60]
            refine A_lald (rfl) (vp_in_nI (by omega) (by omega)) dX12_luck_143 ?_
            rw [nI_c (by omega), hC.2.2.2 _ (by omega), (div60 (by omega)).1, (div60 (by omega)).2]
            refine A_lmul dX12_luck_144 ?_
            refine A_ladd dX12_luck_145 ?_
            refine A_lstore3 dX12_luck_146 rfl (by decide) ?_
            refine A_iinc5 dX12_luck_147 rfl rfl (by decide) ?_
            refine A_goto (tgt := 38) dX12_luck_150 (by decide) ?_
            refine ih (j + 1) _ _ _ _ _ (by omega) (by omega) (nI_1 j) ?_ hk
            rw [hm, lkS, if_pos ⟨by rcases Nat.lt_or_ge (t.1 - t.2.2.2) (t.2.2.1 - j) with z | z; exact absurd (nI_lt z (by omega)) c_76; exact z, (lk_cmp (by omega) (by omega) (by omega) (by omega) (by omega)).mp c_102⟩]
            rw [lN_mul, lN_add]
          · refine A_goto (tgt := 147) dX12_luck_105 (by decide) ?_
            refine A_iinc5 dX12_luck_147 rfl rfl (by decide) ?_
            refine A_goto (tgt := 38) dX12_luck_150 (by decide) ?_
            refine ih (j + 1) _ _ _ _ _ (by omega) (by omega) (nI_1 j) ?_ hk
            rw [hm, lkS, if_neg (fun z => c_102 ((lk_cmp (by omega) (by omega) (by omega) (by omega) (by omega)).mpr z.2))]
            rw [Nat.add_zero]
theorem lk_b (σ : Mem) (k : Int32) : lkN σ k ≤ lkD σ k ∧ lkD σ k < 2 ^ 63 ∧ 0 < lkD σ k := by
  have h1 := trS_59 σ k
  have h2 := trS_c σ k 60
  refine ⟨?_, ?_, ch_pos _ _ h2.1⟩
  · have h3 := lkS_le (trS σ k 60).1 (trS σ k 60).2.2.2 (trS σ k 60).2.2.1 (trS σ k 60).2.1 (min (trS σ k 60).2.2.2 (trS σ k 60).2.2.1 + 1)
    have h4 := smV_le (trS σ k 60).2.2.2 ((trS σ k 60).1 - (trS σ k 60).2.2.2) (trS σ k 60).2.2.1 (min (trS σ k 60).2.2.2 (trS σ k 60).2.2.1 + 1) (by omega)
    rw [show (trS σ k 60).2.2.2 + ((trS σ k 60).1 - (trS σ k 60).2.2.2) = (trS σ k 60).1 by omega] at h4
    exact Nat.le_trans h3 h4
  · have h5 := ch_le (trS σ k 60).1 (trS σ k 60).2.2.1
    have h6 : 2 ^ (trS σ k 60).1 ≤ 2 ^ 59 := Nat.pow_le_pow_right (by decide) h1
    have h7 : (2 : Nat) ^ 59 < 2 ^ 63 := by decide
    unfold lkD
    omega
theorem lk_g (σ : Mem) (k : Int32) : 0 < Nat.gcd (lkD σ k) (lkN σ k) ∧ Nat.gcd (lkD σ k) (lkN σ k) < 2 ^ 63 := by
  have h := lk_b σ k
  have h1 := Nat.gcd_pos_of_pos_left (lkN σ k) h.2.2
  have h2 := Nat.gcd_le_left (lkN σ k) h.2.2
  omega
set_option maxHeartbeats 4000000 in
set_option maxRecDepth 100000 in
theorem T_X12_luck {l : Launch} {G : Wd} {p k : Int32} {μ : Mem} (hw : WFa μ) : Mt l G KM yX12_luck cX12_luck 9 (some .long) 6 [.ref (gA G 0), .int p, .int k] μ (Ql (fun v μ' => v = sp_luck μ p k ∧ Pm μ μ')) := by
  refine Mt.of (own := RX12) (n := 6) (by decide) rfl [some (.ref (gA G 0)), some (.int p), some (.int k), none, none, none, none, none, none] rfl (Nat.le_of_ble_eq_true rfl) ?_
  refine A_iload1 dX12_luck_0 ?_
  refine A_if_lt (tgt := 9) dX12_luck_1 (by decide) (fun c_1 => ?_) (fun c_1 => ?_)
  · refine A_ldc2 dX12_luck_9 kc_X12_501 ?_
    refine A_lret dX12_luck_12 ?_
    refine ⟨_, rfl, ?_, Pm.rf⟩
    unfold sp_luck
    rw [if_neg]
    rintro ⟨q1, q2, q3⟩
    exact absurd (i_le.mp q1) (by have h9 := i_lt.mp c_1; omega)
  · refine A_iload1 dX12_luck_4 ?_
    refine A_iconst (v := 1) dX12_luck_5 (by decide) ?_
    refine A_icmp_le (tgt := 13) dX12_luck_6 (by decide) (fun c_6 => ?_) (fun c_6 => ?_)
    · refine A_aload0 dX12_luck_13 ?_
      refine A_iload2 dX12_luck_14 ?_
      refine A_vv1 lk_X12_498 yv_X12_tryAll dX12_luck_15 (rfl) (rfl) (T_X12_tryAll hw) (by decide) (Nat.le_of_ble_eq_true rfl) (fun μ_15 h_15 => ?_)
      obtain ⟨hT, hL2⟩ := h_15
      have h1 := trS_59 μ k
      have h2 := trS_c μ k 60
      refine A_aload0 dX12_luck_18 ?_
      refine A_getI gf_X12_483 rfl dX12_luck_19 ?_
      rw [hT.1]
      refine A_if_ne (tgt := 29) dX12_luck_22 (by decide) (fun c_22 => ?_) (fun c_22 => ?_)
      · refine A_aload0 dX12_luck_29 ?_
        refine A_vv0 lk_X12_503 yv_X12_layChoices dX12_luck_30 (rfl) (rfl) (T_X12_layChoices) (by decide) (Nat.le_of_ble_eq_true rfl) (fun μc hC => ?_)
        have hTc : TF (trS μ k 60) μc := by unfold TF; rw [hC.1]; exact hT
        have hPm : Pm μ μc := ⟨fun i j h => by rw [hC.1]; exact hL2.1.1 i j h, fun j => by rw [hC.2.2.1 3 (by decide)]; exact hL2.1.2 j⟩
        refine A_lconst (v := 0) dX12_luck_33 (by decide) ?_
        refine A_lstore3 dX12_luck_34 rfl (by decide) ?_
        refine A_iconst (v := 0) dX12_luck_35 (by decide) ?_
        refine A_istore5 dX12_luck_36 rfl (by decide) ?_
        refine L_X12_luck (t := trS μ k 60) hTc hC h1 h2.2.1 h2.1 h2.2.2 (min (trS μ k 60).2.2.2 (trS μ k 60).2.2.1 + 2) 0 _ _ _ _ _ (by omega) (by omega) rfl rfl (fun x5 x6 x7 x8 => ?_)
        have hb := lk_b μ k
        have hg := lk_g μ k
        have hz : ¬ (trS μ k 60).1 = 0 := fun z => c_22 (by rw [z]; rfl)
        refine A_aload0 dX12_luck_153 ?_
        refine A_getR gf_X12_163 rfl dX12_luck_154 ?_
        refine A_bipush (v := 60) dX12_luck_157 (by decide) ?_
        refine A_aload0 dX12_luck_159 ?_
        refine A_getI gf_X12_483 rfl dX12_luck_160 ?_
        rw [hTc.1]
        refine A_imul dX12_luck_163 ?_
        refine A_aload0 dX12_luck_164 ?_
        refine A_getI gf_X12_489 rfl dX12_luck_165 ?_
        rw [hTc.2.2.1]
        refine A_iadd dX12_luck_168 ?_
        rw [nI_60]
        refine A_lald (rfl) (vp_in_nI (by omega) (by omega)) dX12_luck_169 ?_
        rw [nI_c (by omega), hC.2.2.2 _ (by omega), (div60 (by omega)).1, (div60 (by omega)).2]
        refine A_lstore5 dX12_luck_170 rfl (by decide) ?_
        refine A_lload5 dX12_luck_172 ?_
        refine A_lload3 dX12_luck_174 ?_
        refine A_sl2 lk_X12_506 ys_X12_common dX12_luck_175 (T_X12_common (x := lkD μ k) (y := lkN μ k) hb.2.1 (by omega)) (by decide) (Nat.le_of_ble_eq_true rfl) (fun r_175 μ_175 h_175 => ?_)
        obtain ⟨rfl, e_175⟩ := h_175
        replace e_175 := e_175.symm
        subst e_175
        refine A_lstore7 dX12_luck_178 rfl (by decide) ?_
        refine A_iload1 dX12_luck_180 ?_
        refine A_if_ne (tgt := 191) dX12_luck_181 (by decide) (fun c_181 => ?_) (fun c_181 => ?_)
        · refine A_lload5 dX12_luck_191 ?_
          refine A_lload7 dX12_luck_193 ?_
          refine A_ldiv dX12_luck_195 (fun z => by have h9 := (pk_lEQ (b := 0) hg.2 (by decide)).mp z; omega) ?_
          refine A_lret dX12_luck_196 ?_
          refine ⟨_, rfl, ?_, hPm⟩
          unfold sp_luck
          rw [if_pos ⟨i_nlt c_1, c_6, hz⟩, if_neg c_181]
          exact pk_lDiv (a := lkD μ k) (by omega) hg.1 hg.2
        · refine A_lload3 dX12_luck_184 ?_
          refine A_lload7 dX12_luck_185 ?_
          refine A_ldiv dX12_luck_187 (fun z => by have h9 := (pk_lEQ (b := 0) hg.2 (by decide)).mp z; omega) ?_
          refine A_goto (tgt := 196) dX12_luck_188 (by decide) ?_
          refine A_lret dX12_luck_196 ?_
          refine ⟨_, rfl, ?_, hPm⟩
          unfold sp_luck
          rw [if_pos ⟨i_nlt c_1, c_6, hz⟩, if_pos c_181]
          exact pk_lDiv (a := lkN μ k) (by omega) hg.1 hg.2
      · refine A_ldc2 dX12_luck_25 kc_X12_501 ?_
        refine A_lret dX12_luck_28 ?_
        refine ⟨_, rfl, ?_, hL2.1⟩
        unfold sp_luck
        rw [if_neg]
        rintro ⟨q1, q2, q3⟩
        exact q3 ((nI_eq (b := 0) (by omega) (by omega)).mp c_22)
    · refine A_ldc2 dX12_luck_9 kc_X12_501 ?_
      refine A_lret dX12_luck_12 ?_
      refine ⟨_, rfl, ?_, Pm.rf⟩
      unfold sp_luck
      rw [if_neg]
      rintro ⟨q1, q2, q3⟩
      exact c_6 q2

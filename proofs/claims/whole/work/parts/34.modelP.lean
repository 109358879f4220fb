/-! choices, and the greatest common divisor -/
def ch : Nat → Nat → Nat
  | _, 0 => 1
  | 0, _ + 1 => 0
  | n + 1, m + 1 => ch n m + ch n (m + 1)
/-- as it was but for the row of choices, laid up to p -/
def chI (μ0 : Mem) (p : Nat) (μ : Mem) : Prop := μ.1 = μ0.1 ∧ μ.2.2 = μ0.2.2 ∧ (∀ i, i ≠ 50 → μ.2.1 i = μ0.2.1 i) ∧ ∀ x, x < p → μ.2.1 50 x = lN (ch (x / 60) (x % 60))
theorem chI.s {μ0 μ : Mem} {n m : Nat} {v : Int64} (h : chI μ0 (60 * n + m) μ) (hm : m < 60) (hv : v = lN (ch n m)) : chI μ0 (60 * n + m + 1) (wL μ 50 (60 * n + m) v) := by
  obtain ⟨h1, h2, h3, h4⟩ := h
  refine ⟨h1, h2, fun i hi => ?_, fun x hx => ?_⟩
  · show w2 μ.2.1 50 (60 * n + m) v i = _; rw [w2_off hi]; exact h3 i hi
  · rw [wL_at]
    by_cases e : x = 60 * n + m
    · rw [if_pos ⟨rfl, e⟩, hv, e, (div60 hm).1, (div60 hm).2]
    · rw [if_neg (fun z => e z.2)]; exact h4 x (by omega)
set_option maxHeartbeats 800000 in
set_option maxRecDepth 100000 in
theorem L_X12_layChoices_10 {l : Launch} {G : Wd} {μ0 : Mem} {n : Nat} {Q : Option Value → Mem → Prop} (hn : n < 60) : ∀ (q m : Nat) (x : Int32) (μ : Mem), m + q = 60 + 1 → m ≤ 60 → x = nI m → chI μ0 (60 * n + m) μ → (∀ (x2 : Option Value) (μ : Mem), chI μ0 (60 * n + 60) μ → AW l G KM RX12 cX12_layChoices 3 1 none Q 78 [some (.ref (gA G 0)), some (.int (nI n)), x2] [] μ) → AW l G KM RX12 cX12_layChoices 3 1 none Q 10 [some (.ref (gA G 0)), some (.int (nI n)), some (.int x)] [] μ := by
  intro q
  induction q with
  | zero => intro m x μ h1 h2; omega
  | succ q ih =>
    intro m x μ h1 h2 hx hI hk
    subst hx
    refine A_iload2 dX12_layChoices_10 ?_
    refine A_bipush (v := 60) dX12_layChoices_11 (by decide) ?_
    refine A_icmp_ge (tgt := 78) dX12_layChoices_13 (by decide) (fun c_13 => ?_) (fun c_13 => ?_)
    · have e : m = 60 := by rw [show (60 : Int32) = nI 60 from rfl] at c_13; have h9 := (nI_leI (a := 60) (b := m) (by omega) (by omega)).mp c_13; omega
      subst e
      exact hk _ _ hI
    · have hm : m < 60 := by rw [show (60 : Int32) = nI 60 from rfl] at c_13; rcases Nat.lt_or_ge m 60 with z | z; exact z; exact absurd (nI_le z (by omega)) c_13
      refine A_aload0 dX12_layChoices_16 ?_
      refine A_getR gf_X12_163 rfl dX12_layChoices_17 ?_
      refine A_bipush (v := 60) dX12_layChoices_20 (by decide) ?_
      refine A_iload1 dX12_layChoices_22 ?_
      refine A_imul dX12_layChoices_23 ?_
      refine A_iload2 dX12_layChoices_24 ?_
      refine A_iadd dX12_layChoices_25 ?_
      rw [nI_60]
      refine A_iload2 dX12_layChoices_26 ?_
      refine A_if_ne (tgt := 34) dX12_layChoices_27 (by decide) (fun c_27 => ?_) (fun c_27 => ?_)
      · have hm1 : 1 ≤ m := by rcases Nat.eq_zero_or_pos m with z | z; exact absurd (by rw [z]; rfl) c_27; exact z
        refine A_iload1 dX12_layChoices_34 ?_
        refine A_if_ne (tgt := 42) dX12_layChoices_35 (by decide) (fun c_35 => ?_) (fun c_35 => ?_)
        · have hn1 : 1 ≤ n := by rcases Nat.eq_zero_or_pos n with z | z; exact absurd (by rw [z]; rfl) c_35; exact z
          have e1 : 60 * (nI n - 1) + nI m = nI (60 * (n - 1) + m) := by rw [show (1 : Int32) = nI 1 from rfl, pk_sub hn1, nI_60]
          have e2 : nI (60 * (n - 1) + m) - 1 = nI (60 * (n - 1) + (m - 1)) := by rw [show (1 : Int32) = nI 1 from rfl, pk_sub (by omega)]; congr 1; omega
          have hval : lN (ch (n - 1) (m - 1)) + lN (ch (n - 1) m) = lN (ch n m) := by obtain ⟨a, rfl⟩ : ∃ z, n = z + 1 := ⟨n - 1, by omega⟩; obtain ⟨c, rfl⟩ : ∃ z, m = z + 1 := ⟨m - 1, by omega⟩; rw [lN_add]; rfl
          refine A_aload0 dX12_layChoices_42 ?_
          refine A_getR gf_X12_163 rfl dX12_layChoices_43 ?_
          refine A_bipush (v := 60) dX12_layChoices_46 (by decide) ?_
          refine A_iload1 dX12_layChoices_48 ?_
          refine A_iconst (v := 1) dX12_layChoices_49 (by decide) ?_
          refine A_isub dX12_layChoices_50 ?_
          refine A_imul dX12_layChoices_51 ?_
          refine A_iload2 dX12_layChoices_52 ?_
          refine A_iadd dX12_layChoices_53 ?_
          rw [e1]
          refine A_iconst (v := 1) dX12_layChoices_54 (by decide) ?_
          refine A_isub dX12_layChoices_55 ?_
          rw [e2]
          refine A_lald (rfl) (vp_in_nI (by omega) (by omega)) dX12_layChoices_56 ?_
          rw [nI_c (by omega), hI.2.2.2 _ (by omega), (div60 (by omega)).1, (div60 (by omega)).2]
          refine A_aload0 dX12_layChoices_57 ?_
          refine A_getR gf_X12_163 rfl dX12_layChoices_58 ?_
          refine A_bipush (v := 60) dX12_layChoices_61 (by decide) ?_
          refine A_iload1 dX12_layChoices_63 ?_
          refine A_iconst (v := 1) dX12_layChoices_64 (by decide) ?_
          refine A_isub dX12_layChoices_65 ?_
          refine A_imul dX12_layChoices_66 ?_
          refine A_iload2 dX12_layChoices_67 ?_
          refine A_iadd dX12_layChoices_68 ?_
          rw [e1]
          refine A_lald (rfl) (vp_in_nI (by omega) (by omega)) dX12_layChoices_69 ?_
          rw [nI_c (by omega), hI.2.2.2 _ (by omega), (div60 (by omega)).1, (div60 (by omega)).2]
          refine A_ladd dX12_layChoices_70 ?_
          refine A_last (rfl) (vp_in_nI (by omega) (by omega)) dX12_layChoices_71 ?_
          rw [nI_c (by omega)]
          refine A_iinc2 dX12_layChoices_72 rfl rfl (by decide) ?_
          refine A_goto (tgt := 10) dX12_layChoices_75 (by decide) ?_
          have hI2 := hI.s (v := lN (ch (n - 1) (m - 1)) + lN (ch (n - 1) m)) hm (hval)
          refine ih (m + 1) _ _ (by omega) (by omega) (nI_1 m) ?_ hk
          exact hI2
        · refine A_lconst (v := 0) dX12_layChoices_38 (by decide) ?_
          refine A_goto (tgt := 71) dX12_layChoices_39 (by decide) ?_
          refine A_last (rfl) (vp_in_nI (by omega) (by omega)) dX12_layChoices_71 ?_
          rw [nI_c (by omega)]
          refine A_iinc2 dX12_layChoices_72 rfl rfl (by decide) ?_
          refine A_goto (tgt := 10) dX12_layChoices_75 (by decide) ?_
          have hI2 := hI.s (v := 0) hm (by obtain rfl : n = 0 := (nI_eq (a := n) (b := 0) (by omega) (by omega)).mp c_35; obtain ⟨m, rfl⟩ : ∃ z, m = z + 1 := ⟨m - 1, by omega⟩; rfl)
          refine ih (m + 1) _ _ (by omega) (by omega) (nI_1 m) ?_ hk
          exact hI2
      · refine A_lconst (v := 1) dX12_layChoices_30 (by decide) ?_
        refine A_goto (tgt := 71) dX12_layChoices_31 (by decide) ?_
        refine A_last (rfl) (vp_in_nI (by omega) (by omega)) dX12_layChoices_71 ?_
        rw [nI_c (by omega)]
        refine A_iinc2 dX12_layChoices_72 rfl rfl (by decide) ?_
        refine A_goto (tgt := 10) dX12_layChoices_75 (by decide) ?_
        have hI2 := hI.s (v := 1) hm (by obtain rfl : m = 0 := (nI_eq (a := m) (b := 0) (by omega) (by omega)).mp c_27; unfold ch; rfl)
        refine ih (m + 1) _ _ (by omega) (by omega) (nI_1 m) ?_ hk
        exact hI2
set_option maxHeartbeats 800000 in
set_option maxRecDepth 100000 in
theorem L_X12_layChoices_2 {l : Launch} {G : Wd} {μ0 : Mem} {Q : Option Value → Mem → Prop} : ∀ (q n : Nat) (x : Int32) (x2 : Option Value) (μ : Mem), n + q = 60 + 1 → n ≤ 60 → x = nI n → chI μ0 (60 * n) μ → (∀ μ : Mem, chI μ0 3600 μ → Q none μ) → AW l G KM RX12 cX12_layChoices 3 1 none Q 2 [some (.ref (gA G 0)), some (.int x), x2] [] μ := by
  intro q
  induction q with
  | zero => intro n x x2 μ h1 h2; omega
  | succ q ih =>
    intro n x x2 μ h1 h2 hx hI hk
    subst hx
    refine A_iload1 dX12_layChoices_2 ?_
    refine A_bipush (v := 60) dX12_layChoices_3 (by decide) ?_
    refine A_icmp_ge (tgt := 84) dX12_layChoices_5 (by decide) (fun c_5 => ?_) (fun c_5 => ?_)
    · have e : n = 60 := by rw [show (60 : Int32) = nI 60 from rfl] at c_5; have h9 := (nI_leI (a := 60) (b := n) (by omega) (by omega)).mp c_5; omega
      subst e
      refine A_vret dX12_layChoices_84 ?_
      exact hk _ hI
    · have hn : n < 60 := by rw [show (60 : Int32) = nI 60 from rfl] at c_5; rcases Nat.lt_or_ge n 60 with z | z; exact z; exact absurd (nI_le z (by omega)) c_5
      refine A_iconst (v := 0) dX12_layChoices_8 (by decide) ?_
      refine A_istore2 dX12_layChoices_9 rfl (by decide) ?_
      refine L_X12_layChoices_10 (μ0 := μ0) hn 61 0 _ _ (by omega) (by omega) rfl hI (fun x2 μ2 hI2 => ?_)
      refine A_iinc1 dX12_layChoices_78 rfl rfl (by decide) ?_
      refine A_goto (tgt := 2) dX12_layChoices_81 (by decide) ?_
      exact ih (n + 1) _ _ _ (by omega) (by omega) (nI_1 n) hI2 hk
set_option maxHeartbeats 4000000 in
set_option maxRecDepth 100000 in
theorem T_X12_layChoices {l : Launch} {G : Wd} {μ : Mem}  : Mt l G KM yX12_layChoices cX12_layChoices 3 none 1 [.ref (gA G 0)] μ (Qv (fun μ' => chI μ 3600 μ')) := by
  refine Mt.of (own := RX12) (n := 2) (by decide) rfl [some (.ref (gA G 0)), none, none] rfl (Nat.le_of_ble_eq_true rfl) ?_
  refine A_iconst (v := 0) dX12_layChoices_0 (by decide) ?_
  refine A_istore1 dX12_layChoices_1 rfl (by decide) ?_
  refine L_X12_layChoices_2 (μ0 := μ) 61 0 _ _ _ (by omega) (by omega) rfl ⟨rfl, rfl, fun _ _ => rfl, fun x hx => by omega⟩ (fun μ2 hI => ⟨rfl, hI⟩)
set_option maxHeartbeats 800000 in
set_option maxRecDepth 100000 in
theorem L_X12_common {l : Launch} {G : Wd} {a b : Int64} {g : Nat} {μ : Mem} {Q : Option Value → Mem → Prop} (hk0 : Q (some (.long (lN g))) μ) : ∀ (q x y : Nat) (x4 x6 : Int64) (x8 x9 : Option Value), y < q → x < 2 ^ 63 → y < 2 ^ 63 → x4 = lN x → x6 = lN y → Nat.gcd x y = g → AW l G KM RX12 cX12_common 10 1 (some .long) Q 6 [some (.long a), none, some (.long b), none, some (.long x4), none, some (.long x6), none, x8, x9] [] μ := by
  intro q
  induction q with
  | zero => intro x y x4 x6 x8 x9 hq; omega
  | succ q ih =>
    intro x y x4 x6 x8 x9 hq hx hy h4 h6 hg
    subst h4
    subst h6
    refine A_lload6 dX12_common_6 ?_
    refine A_lconst (v := 0) dX12_common_8 (by decide) ?_
    refine A_lcmp dX12_common_9 ?_
    refine A_if_le (tgt := 31) dX12_common_10 (by decide) (fun c_10 => ?_) (fun c_10 => ?_)
    · have hy0 : y = 0 := by have h9 := (pk_lLE (a := y) (b := 0) (by omega) (by omega)).mp ((lg_cmp_le _ _).mp c_10); omega
      subst hy0
      refine A_lload4 dX12_common_31 ?_
      refine A_lret dX12_common_33 ?_
      rw [Nat.gcd_zero_right] at hg; subst hg; exact hk0
    · have hy0 : 0 < y := by rcases Nat.eq_zero_or_pos y with z | z; exact absurd ((lg_cmp_le (lN y) 0).mpr ((pk_lLE (a := y) (b := 0) hy (by decide)).mpr (by omega))) c_10; exact z
      refine A_lload4 dX12_common_13 ?_
      refine A_lload6 dX12_common_15 ?_
      refine A_lrem dX12_common_17 (fun z => by have h9 := (pk_lEQ (a := y) (b := 0) (by omega) (by omega)).mp z; omega) ?_
      rw [pk_lRem hx hy0 hy]
      refine A_lstore8 dX12_common_18 rfl (by decide) ?_
      refine A_lload6 dX12_common_20 ?_
      refine A_lstore4 dX12_common_22 rfl (by decide) ?_
      refine A_lload8 dX12_common_24 ?_
      refine A_lstore6 dX12_common_26 rfl (by decide) ?_
      refine A_goto (tgt := 6) dX12_common_28 (by decide) ?_
      have hlt : x % y < y := Nat.mod_lt _ hy0
      refine ih y (x % y) _ _ _ _ (by omega) hy (by omega) rfl rfl ?_
      rw [← hg, Nat.gcd_comm x y, Nat.gcd_rec y x, Nat.gcd_comm]
set_option maxHeartbeats 4000000 in
set_option maxRecDepth 100000 in
theorem T_X12_common {l : Launch} {G : Wd} {x y : Nat} {μ : Mem} (hx : x < 2 ^ 63) (hy : y < 2 ^ 63) : Mt l G KM yX12_common cX12_common 10 (some .long) 1 [.long (lN x), .long (lN y)] μ (Ql (fun v μ' => v = lN (Nat.gcd x y) ∧ μ' = μ)) := by
  refine Mt.of (own := RX12) (n := 6) (by decide) rfl [some (.long (lN x)), none, some (.long (lN y)), none, none, none, none, none, none, none] rfl (Nat.le_of_ble_eq_true rfl) ?_
  refine A_lload0 dX12_common_0 ?_
  refine A_lstore4 dX12_common_1 rfl (by decide) ?_
  refine A_lload2 dX12_common_3 ?_
  refine A_lstore6 dX12_common_4 rfl (by decide) ?_
  refine L_X12_common (g := Nat.gcd x y) ⟨_, rfl, rfl, rfl⟩ (y + 1) x y _ _ _ _ (by omega) hx hy rfl rfl rfl

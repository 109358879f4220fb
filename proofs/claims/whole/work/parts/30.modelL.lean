/-! bounds learnt on the days that are made -/
def wnV (σ : Mem) (k : Int32) (d : Nat) : Int32 := if d + 1 < 60 then farN σ k 2 (d + 1) else -100000
def wnS (σ : Mem) (k : Int32) (d : Nat) : Int32 := if wnV σ k d = -100000 then -1 else if wnV σ k d ≤ 0 then 0 else 1
theorem wnS_01 (σ : Mem) (k : Int32) (d : Nat) : wnS σ k d = -1 ∨ wnS σ k d = 0 ∨ wnS σ k d = 1 := by
  unfold wnS
  split
  · exact Or.inl rfl
  · split
    · exact Or.inr (Or.inl rfl)
    · exact Or.inr (Or.inr rfl)
set_option maxHeartbeats 4000000 in
set_option maxRecDepth 100000 in
theorem T_X12_wetNext {l : Launch} {G : Wd} {d : Nat} {k : Int32} {F σ μ : Mem} (hL : Lay F σ k μ) (hd : d < 60) : Mt l G KM yX12_wetNext cX12_wetNext 3 (some .int) 1 [.ref (gA G 0), .int (nI d)] μ (Qi (fun v μ' => v = wnS σ k d ∧ μ' = μ)) := by
  refine Mt.of (own := RX12) (n := 1) (by decide) rfl [some (.ref (gA G 0)), some (.int (nI d)), none] rfl (Nat.le_of_ble_eq_true rfl) ?_
  refine A_iload1 dX12_wetNext_0 ?_
  refine A_iconst (v := 1) dX12_wetNext_1 (by decide) ?_
  refine A_iadd dX12_wetNext_2 ?_
  refine A_bipush (v := 60) dX12_wetNext_3 (by decide) ?_
  refine A_icmp_ge (tgt := 22) dX12_wetNext_5 (by decide) (fun c_5 => ?_) (fun c_5 => ?_)
  · have hd1 : ¬ d + 1 < 60 := by rw [nI_1, show (60 : Int32) = nI 60 from rfl] at c_5; have h9 := (nI_leI (a := 60) (b := d + 1) (by omega) (by omega)).mp c_5; omega
    refine A_ldcw dX12_wetNext_22 kc_X12_353 ?_
    refine A_val (y := wnV σ k d) (by unfold wnV; rw [if_neg hd1]) ?_
    refine A_istore2 dX12_wetNext_25 rfl (by decide) ?_
    refine A_iload2 dX12_wetNext_26 ?_
    refine A_ldcw dX12_wetNext_27 kc_X12_353 ?_
    refine A_icmp_ne (tgt := 37) dX12_wetNext_30 (by decide) (fun c_30 => ?_) (fun c_30 => ?_)
    · refine A_iload2 dX12_wetNext_37 ?_
      refine A_if_le (tgt := 45) dX12_wetNext_38 (by decide) (fun c_38 => ?_) (fun c_38 => ?_)
      · refine A_iconst (v := 0) dX12_wetNext_45 (by decide) ?_
        refine A_iret dX12_wetNext_46 ?_
        refine ⟨_, rfl, ?_, rfl⟩
        unfold wnS
        rw [if_neg c_30, if_pos c_38]
      · refine A_iconst (v := 1) dX12_wetNext_41 (by decide) ?_
        refine A_goto (tgt := 46) dX12_wetNext_42 (by decide) ?_
        refine A_iret dX12_wetNext_46 ?_
        refine ⟨_, rfl, ?_, rfl⟩
        unfold wnS
        rw [if_neg c_30, if_neg c_38]
    · refine A_iconst (v := -1) dX12_wetNext_33 (by decide) ?_
      refine A_goto (tgt := 46) dX12_wetNext_34 (by decide) ?_
      refine A_iret dX12_wetNext_46 ?_
      refine ⟨_, rfl, ?_, rfl⟩
      unfold wnS
      rw [if_pos c_30]
  · have hd1 : d + 1 < 60 := by rw [nI_1, show (60 : Int32) = nI 60 from rfl] at c_5; rcases Nat.lt_or_ge (d + 1) 60 with z | z; exact z; exact absurd (nI_le z (by omega)) c_5
    have ix : 120 + nI d + 1 = nI (60 * 2 + (d + 1)) := by rw [show (120 : Int32) = nI 120 from rfl, nI_add, nI_1, Nat.add_assoc]
    refine A_aload0 dX12_wetNext_8 ?_
    refine A_getR gf_X12_100 rfl dX12_wetNext_9 ?_
    refine A_bipush (v := 120) dX12_wetNext_12 (by decide) ?_
    refine A_iload1 dX12_wetNext_14 ?_
    refine A_iadd dX12_wetNext_15 ?_
    refine A_iconst (v := 1) dX12_wetNext_16 (by decide) ?_
    refine A_iadd dX12_wetNext_17 ?_
    refine A_iald (rfl) (by rw [ix]; exact vp_in_nI (by omega) (by omega)) dX12_wetNext_18 ?_
    rw [ix, nI_c (by omega), hL.2.1 _ (by omega)]
    refine A_val (y := wnV σ k d) (by unfold wnV; rw [if_pos hd1]; rfl) ?_
    refine A_goto (tgt := 25) dX12_wetNext_19 (by decide) ?_
    refine A_istore2 dX12_wetNext_25 rfl (by decide) ?_
    refine A_iload2 dX12_wetNext_26 ?_
    refine A_ldcw dX12_wetNext_27 kc_X12_353 ?_
    refine A_icmp_ne (tgt := 37) dX12_wetNext_30 (by decide) (fun c_30 => ?_) (fun c_30 => ?_)
    · refine A_iload2 dX12_wetNext_37 ?_
      refine A_if_le (tgt := 45) dX12_wetNext_38 (by decide) (fun c_38 => ?_) (fun c_38 => ?_)
      · refine A_iconst (v := 0) dX12_wetNext_45 (by decide) ?_
        refine A_iret dX12_wetNext_46 ?_
        refine ⟨_, rfl, ?_, rfl⟩
        unfold wnS
        rw [if_neg c_30, if_pos c_38]
      · refine A_iconst (v := 1) dX12_wetNext_41 (by decide) ?_
        refine A_goto (tgt := 46) dX12_wetNext_42 (by decide) ?_
        refine A_iret dX12_wetNext_46 ?_
        refine ⟨_, rfl, ?_, rfl⟩
        unfold wnS
        rw [if_neg c_30, if_neg c_38]
    · refine A_iconst (v := -1) dX12_wetNext_33 (by decide) ?_
      refine A_goto (tgt := 46) dX12_wetNext_34 (by decide) ?_
      refine A_iret dX12_wetNext_46 ?_
      refine ⟨_, rfl, ?_, rfl⟩
      unfold wnS
      rw [if_pos c_30]
abbrev cdP (σ : Mem) (k : Int32) (b : Nat) (m : Int32) (d : Nat) : Prop := σ.1 19 d = m ∧ ¬ rdN σ k b d = -100000 ∧ ¬ wnS σ k d < 0
def cdS (σ : Mem) (k : Int32) (b : Nat) (m : Int32) : Nat → Nat
  | 0 => 0
  | n + 1 => cdS σ k b m n + (if cdP σ k b m n then 1 else 0)
theorem cdS_le (σ : Mem) (k : Int32) (b : Nat) (m : Int32) : ∀ n, cdS σ k b m n ≤ n := by
  intro n
  induction n with
  | zero => exact Nat.le_refl _
  | succ n ih => unfold cdS; split <;> omega
set_option maxHeartbeats 800000 in
set_option maxRecDepth 100000 in
theorem L_X12_countDays {l : Launch} {G : Wd} {k m : Int32} {F σ μ : Mem} {b : Nat} {Q : Option Value → Mem → Prop} (hL : Lay F σ k μ) (hb : b < 5) : ∀ (q d : Nat) (c x : Int32), d + q = 60 + 1 → d ≤ 60 → x = nI d → c = nI (cdS σ k b m d) → (∀ x : Int32, AW l G KM RX12 cX12_countDays 5 2 (some .int) Q 64 [some (.ref (gA G 0)), some (.int (nI b)), some (.int m), some (.int (nI (cdS σ k b m 60))), some (.int x)] [] μ) → AW l G KM RX12 cX12_countDays 5 2 (some .int) Q 5 [some (.ref (gA G 0)), some (.int (nI b)), some (.int m), some (.int c), some (.int x)] [] μ := by
  intro q
  induction q with
  | zero => intro d c x h1 h2; omega
  | succ q ih =>
    intro d c x h1 h2 hx hc hk
    subst hx
    refine A_iload4 dX12_countDays_5 ?_
    refine A_bipush (v := 60) dX12_countDays_7 (by decide) ?_
    refine A_icmp_ge (tgt := 64) dX12_countDays_9 (by decide) (fun c_9 => ?_) (fun c_9 => ?_)
    · have e : d = 60 := by rw [show (60 : Int32) = nI 60 from rfl] at c_9; have h9 := (nI_leI (a := 60) (b := d) (by omega) (by omega)).mp c_9; omega
      subst e
      subst hc
      exact hk _
    · have hd : d < 60 := by rw [show (60 : Int32) = nI 60 from rfl] at c_9; rcases Nat.lt_or_ge d 60 with z | z; exact z; exact absurd (nI_le z (by omega)) c_9
      refine A_iload3 dX12_countDays_12 ?_
      refine A_aload0 dX12_countDays_13 ?_
      refine A_getR gf_X12_70 rfl dX12_countDays_14 ?_
      refine A_iload4 dX12_countDays_17 ?_
      refine A_zald (rfl) (vp_in_nI (by omega) (by omega)) dX12_countDays_19 ?_
      rw [nI_c (by omega), hL.1.1 19 _ rfl]
      refine A_iload2 dX12_countDays_20 ?_
      refine A_icmp_ne (tgt := 55) dX12_countDays_21 (by decide) (fun c_21 => ?_) (fun c_21 => ?_)
      · refine A_iconst (v := 0) dX12_countDays_55 (by decide) ?_
        refine A_iadd dX12_countDays_56 ?_
        refine A_istore3 dX12_countDays_57 rfl (by decide) ?_
        refine A_iinc4 dX12_countDays_58 rfl rfl (by decide) ?_
        refine A_goto (tgt := 5) dX12_countDays_61 (by decide) ?_
        refine ih (d + 1) _ _ (by omega) (by omega) (nI_1 d) ?_ hk
        rw [hc, cdS, if_neg (fun z => c_21 z.1)]
        rw [Int32.add_zero, Nat.add_zero]
      · refine A_aload0 dX12_countDays_24 ?_
        refine A_getR gf_X12_103 rfl dX12_countDays_25 ?_
        refine A_bipush (v := 60) dX12_countDays_28 (by decide) ?_
        refine A_iload1 dX12_countDays_30 ?_
        refine A_imul dX12_countDays_31 ?_
        refine A_iload4 dX12_countDays_32 ?_
        refine A_iadd dX12_countDays_34 ?_
        refine A_iald (rfl) (by rw [nI_60]; exact vp_in_nI (by omega) (by omega)) dX12_countDays_35 ?_
        rw [nI_60, nI_c (by omega), hL.2.2.1 _ (by omega)]
        refine A_val (y := rdN σ k b d) rfl ?_
        refine A_ldcw dX12_countDays_36 kc_X12_353 ?_
        refine A_icmp_eq (tgt := 55) dX12_countDays_39 (by decide) (fun c_39 => ?_) (fun c_39 => ?_)
        · refine A_iconst (v := 0) dX12_countDays_55 (by decide) ?_
          refine A_iadd dX12_countDays_56 ?_
          refine A_istore3 dX12_countDays_57 rfl (by decide) ?_
          refine A_iinc4 dX12_countDays_58 rfl rfl (by decide) ?_
          refine A_goto (tgt := 5) dX12_countDays_61 (by decide) ?_
          refine ih (d + 1) _ _ (by omega) (by omega) (nI_1 d) ?_ hk
          rw [hc, cdS, if_neg (fun z => z.2.1 c_39)]
          rw [Int32.add_zero, Nat.add_zero]
        · refine A_aload0 dX12_countDays_42 ?_
          refine A_iload4 dX12_countDays_43 ?_
          refine A_vi1 lk_X12_480 yv_X12_wetNext dX12_countDays_45 (rfl) (rfl) (T_X12_wetNext hL hd) (by decide) (Nat.le_of_ble_eq_true rfl) (fun r_45 μ_45 h_45 => ?_)
          obtain ⟨rfl, e_45⟩ := h_45
          replace e_45 := e_45.symm
          subst e_45
          refine A_if_lt (tgt := 55) dX12_countDays_48 (by decide) (fun c_48 => ?_) (fun c_48 => ?_)
          · refine A_iconst (v := 0) dX12_countDays_55 (by decide) ?_
            refine A_iadd dX12_countDays_56 ?_
            refine A_istore3 dX12_countDays_57 rfl (by decide) ?_
            refine A_iinc4 dX12_countDays_58 rfl rfl (by decide) ?_
            refine A_goto (tgt := 5) dX12_countDays_61 (by decide) ?_
            refine ih (d + 1) _ _ (by omega) (by omega) (nI_1 d) ?_ hk
            rw [hc, cdS, if_neg (fun z => z.2.2 c_48)]
            rw [Int32.add_zero, Nat.add_zero]
          · refine A_iconst (v := 1) dX12_countDays_51 (by decide) ?_
            refine A_goto (tgt := 56) dX12_countDays_52 (by decide) ?_
            refine A_iadd dX12_countDays_56 ?_
            refine A_istore3 dX12_countDays_57 rfl (by decide) ?_
            refine A_iinc4 dX12_countDays_58 rfl rfl (by decide) ?_
            refine A_goto (tgt := 5) dX12_countDays_61 (by decide) ?_
            refine ih (d + 1) _ _ (by omega) (by omega) (nI_1 d) ?_ hk
            rw [hc, cdS, if_pos ⟨c_21, c_39, c_48⟩]
            exact nI_1 _
set_option maxHeartbeats 4000000 in
set_option maxRecDepth 100000 in
theorem T_X12_countDays {l : Launch} {G : Wd} {b : Nat} {k m : Int32} {F σ μ : Mem} (hL : Lay F σ k μ) (hb : b < 5) : Mt l G KM yX12_countDays cX12_countDays 5 (some .int) 2 [.ref (gA G 0), .int (nI b), .int m] μ (Qi (fun v μ' => v = nI (cdS σ k b m 60) ∧ μ' = μ)) := by
  refine Mt.of (own := RX12) (n := 2) (by decide) rfl [some (.ref (gA G 0)), some (.int (nI b)), some (.int m), none, none] rfl (Nat.le_of_ble_eq_true rfl) ?_
  refine A_iconst (v := 0) dX12_countDays_0 (by decide) ?_
  refine A_istore3 dX12_countDays_1 rfl (by decide) ?_
  refine A_iconst (v := 0) dX12_countDays_2 (by decide) ?_
  refine A_istore4 dX12_countDays_3 rfl (by decide) ?_
  refine L_X12_countDays (σ := σ) (k := k) hL hb 61 0 _ _ (by omega) (by omega) rfl rfl (fun x => ?_)
  refine A_iload3 dX12_countDays_64 ?_
  refine A_iret dX12_countDays_65 ?_
  exact ⟨_, rfl, rfl, rfl⟩
abbrev saysW (c way own : Int32) : Prop := if way = 0 then c < own else own < c
def crS (σ : Mem) (k : Int32) (b : Nat) (c way m : Int32) : Nat → Nat
  | 0 => 0
  | n + 1 => crS σ k b c way m n + (if cdP σ k b m n ∧ (saysW c way (rdN σ k b n) ↔ wnS σ k n = 1) then 1 else 0)
theorem crS_le (σ : Mem) (k : Int32) (b : Nat) (c way m : Int32) : ∀ n, crS σ k b c way m n ≤ n := by
  intro n
  induction n with
  | zero => exact Nat.le_refl _
  | succ n ih => unfold crS; split <;> omega
theorem bz_iff {p q : Prop} [Decidable p] [Decidable q] : (bz p = bz q) ↔ (p ↔ q) := by
  unfold bz
  by_cases hp : p <;> by_cases hq : q <;> simp [hp, hq]
set_option maxHeartbeats 800000 in
set_option maxRecDepth 100000 in
theorem L_X12_countRight {l : Launch} {G : Wd} {k c way m : Int32} {F σ μ : Mem} {b : Nat} {Q : Option Value → Mem → Prop} (hL : Lay F σ k μ) (hb : b < 5) : ∀ (q d : Nat) (n x : Int32) (x7 x8 : Option Value), d + q = 60 + 1 → d ≤ 60 → x = nI d → n = nI (crS σ k b c way m d) → (∀ (x : Int32) (x7 x8 : Option Value), AW l G KM RX12 cX12_countRight 9 2 (some .int) Q 126 [some (.ref (gA G 0)), some (.int (nI b)), some (.int c), some (.int way), some (.int m), some (.int (nI (crS σ k b c way m 60))), some (.int x), x7, x8] [] μ) → AW l G KM RX12 cX12_countRight 9 2 (some .int) Q 6 [some (.ref (gA G 0)), some (.int (nI b)), some (.int c), some (.int way), some (.int m), some (.int n), some (.int x), x7, x8] [] μ := by
  intro q
  induction q with
  | zero => intro d n x x7 x8 h1 h2; omega
  | succ q ih =>
    intro d n x x7 x8 h1 h2 hx hc hk
    subst hx
    refine A_iload6 dX12_countRight_6 ?_
    refine A_bipush (v := 60) dX12_countRight_8 (by decide) ?_
    refine A_icmp_ge (tgt := 126) dX12_countRight_10 (by decide) (fun c_10 => ?_) (fun c_10 => ?_)
    · have e : d = 60 := by rw [show (60 : Int32) = nI 60 from rfl] at c_10; have h9 := (nI_leI (a := 60) (b := d) (by omega) (by omega)).mp c_10; omega
      subst e
      subst hc
      exact hk _ _ _
    · have hd : d < 60 := by rw [show (60 : Int32) = nI 60 from rfl] at c_10; rcases Nat.lt_or_ge d 60 with z | z; exact z; exact absurd (nI_le z (by omega)) c_10
      refine A_aload0 dX12_countRight_13 ?_
      refine A_getR gf_X12_103 rfl dX12_countRight_14 ?_
      refine A_bipush (v := 60) dX12_countRight_17 (by decide) ?_
      refine A_iload1 dX12_countRight_19 ?_
      refine A_imul dX12_countRight_20 ?_
      refine A_iload6 dX12_countRight_21 ?_
      refine A_iadd dX12_countRight_23 ?_
      refine A_iald (rfl) (by rw [nI_60]; exact vp_in_nI (by omega) (by omega)) dX12_countRight_24 ?_
      rw [nI_60, nI_c (by omega), hL.2.2.1 _ (by omega)]
      refine A_val (y := rdN σ k b d) rfl ?_
      refine A_istore7 dX12_countRight_25 rfl (by decide) ?_
      refine A_aload0 dX12_countRight_27 ?_
      refine A_getR gf_X12_70 rfl dX12_countRight_28 ?_
      refine A_iload6 dX12_countRight_31 ?_
      refine A_zald (rfl) (vp_in_nI (by omega) (by omega)) dX12_countRight_33 ?_
      rw [nI_c (by omega), hL.1.1 19 _ rfl]
      refine A_iload4 dX12_countRight_34 ?_
      refine A_icmp_ne (tgt := 120) dX12_countRight_36 (by decide) (fun c_36 => ?_) (fun c_36 => ?_)
      · refine A_iinc6 dX12_countRight_120 rfl rfl (by decide) ?_
        refine A_goto (tgt := 6) dX12_countRight_123 (by decide) ?_
        refine ih (d + 1) _ _ _ _ (by omega) (by omega) (nI_1 d) ?_ hk
        rw [hc, crS, if_neg (fun z => c_36 z.1.1)]
        rw [Nat.add_zero]
      · refine A_iload7 dX12_countRight_39 ?_
        refine A_ldcw dX12_countRight_41 kc_X12_353 ?_
        refine A_icmp_eq (tgt := 120) dX12_countRight_44 (by decide) (fun c_44 => ?_) (fun c_44 => ?_)
        · refine A_iinc6 dX12_countRight_120 rfl rfl (by decide) ?_
          refine A_goto (tgt := 6) dX12_countRight_123 (by decide) ?_
          refine ih (d + 1) _ _ _ _ (by omega) (by omega) (nI_1 d) ?_ hk
          rw [hc, crS, if_neg (fun z => z.1.2.1 c_44)]
          rw [Nat.add_zero]
        · refine A_aload0 dX12_countRight_47 ?_
          refine A_iload6 dX12_countRight_48 ?_
          refine A_vi1 lk_X12_480 yv_X12_wetNext dX12_countRight_50 (rfl) (rfl) (T_X12_wetNext hL hd) (by decide) (Nat.le_of_ble_eq_true rfl) (fun r_50 μ_50 h_50 => ?_)
          obtain ⟨rfl, e_50⟩ := h_50
          replace e_50 := e_50.symm
          subst e_50
          refine A_if_ge (tgt := 59) dX12_countRight_53 (by decide) (fun c_53 => ?_) (fun c_53 => ?_)
          · refine A_iload3 dX12_countRight_59 ?_
            refine A_if_ne (tgt := 77) dX12_countRight_60 (by decide) (fun c_60 => ?_) (fun c_60 => ?_)
            · refine A_iload7 dX12_countRight_77 ?_
              refine A_iload2 dX12_countRight_79 ?_
              refine A_icmp_ge (tgt := 87) dX12_countRight_80 (by decide) (fun c_80 => ?_) (fun c_80 => ?_)
              · refine A_iconst (v := 0) dX12_countRight_87 (by decide) ?_
                refine A_istore8 dX12_countRight_88 rfl (by decide) ?_
                refine A_iload5 dX12_countRight_90 ?_
                refine A_iload8 dX12_countRight_92 ?_
                refine A_aload0 dX12_countRight_94 ?_
                refine A_iload6 dX12_countRight_95 ?_
                refine A_vi1 lk_X12_480 yv_X12_wetNext dX12_countRight_97 (rfl) (rfl) (T_X12_wetNext hL hd) (by decide) (Nat.le_of_ble_eq_true rfl) (fun r_97 μ_97 h_97 => ?_)
                obtain ⟨rfl, e_97⟩ := h_97
                replace e_97 := e_97.symm
                subst e_97
                refine A_iconst (v := 1) dX12_countRight_100 (by decide) ?_
                refine A_icmp_ne (tgt := 108) dX12_countRight_101 (by decide) (fun c_101 => ?_) (fun c_101 => ?_)
                · refine A_iconst (v := 0) dX12_countRight_108 (by decide) ?_
                  refine A_icmp_ne (tgt := 116) dX12_countRight_109 (by decide) (fun c_109 => ?_) (fun c_109 => ?_)
                  · refine A_iconst (v := 0) dX12_countRight_116 (by decide) ?_
                    refine A_iadd dX12_countRight_117 ?_
                    refine A_istore5 dX12_countRight_118 rfl (by decide) ?_
                    refine A_iinc6 dX12_countRight_120 rfl rfl (by decide) ?_
                    refine A_goto (tgt := 6) dX12_countRight_123 (by decide) ?_
                    refine ih (d + 1) _ _ _ _ (by omega) (by omega) (nI_1 d) ?_ hk
                    have e1 := bz_f (p := saysW c way (rdN σ k b d)) (by unfold saysW; rw [if_neg c_60]; exact fun z => by have h8 := i_lt.mp z; have h9 := i_le.mp c_80; omega)
                    have e2 := bz_f (p := wnS σ k d = 1) c_101
                    have hq := bz_iff (p := saysW c way (rdN σ k b d)) (q := wnS σ k d = 1)
                    rw [e1, e2] at hq
                    rw [hc, crS, if_neg (fun z => c_109 (hq.mpr z.2))]
                    rw [Int32.add_zero, Nat.add_zero]
                  · refine A_iconst (v := 1) dX12_countRight_112 (by decide) ?_
                    refine A_goto (tgt := 117) dX12_countRight_113 (by decide) ?_
                    refine A_iadd dX12_countRight_117 ?_
                    refine A_istore5 dX12_countRight_118 rfl (by decide) ?_
                    refine A_iinc6 dX12_countRight_120 rfl rfl (by decide) ?_
                    refine A_goto (tgt := 6) dX12_countRight_123 (by decide) ?_
                    refine ih (d + 1) _ _ _ _ (by omega) (by omega) (nI_1 d) ?_ hk
                    have e1 := bz_f (p := saysW c way (rdN σ k b d)) (by unfold saysW; rw [if_neg c_60]; exact fun z => by have h8 := i_lt.mp z; have h9 := i_le.mp c_80; omega)
                    have e2 := bz_f (p := wnS σ k d = 1) c_101
                    have hq := bz_iff (p := saysW c way (rdN σ k b d)) (q := wnS σ k d = 1)
                    rw [e1, e2] at hq
                    rw [hc, crS, if_pos ⟨⟨c_36, c_44, fun z => by have h8 := i_lt.mp z; have h9 := i_le.mp c_53; omega⟩, hq.mp c_109⟩]
                    exact nI_1 _
                · refine A_iconst (v := 1) dX12_countRight_104 (by decide) ?_
                  refine A_goto (tgt := 109) dX12_countRight_105 (by decide) ?_
                  refine A_icmp_ne (tgt := 116) dX12_countRight_109 (by decide) (fun c_109 => ?_) (fun c_109 => ?_)
                  · refine A_iconst (v := 0) dX12_countRight_116 (by decide) ?_
                    refine A_iadd dX12_countRight_117 ?_
                    refine A_istore5 dX12_countRight_118 rfl (by decide) ?_
                    refine A_iinc6 dX12_countRight_120 rfl rfl (by decide) ?_
                    refine A_goto (tgt := 6) dX12_countRight_123 (by decide) ?_
                    refine ih (d + 1) _ _ _ _ (by omega) (by omega) (nI_1 d) ?_ hk
                    have e1 := bz_f (p := saysW c way (rdN σ k b d)) (by unfold saysW; rw [if_neg c_60]; exact fun z => by have h8 := i_lt.mp z; have h9 := i_le.mp c_80; omega)
                    have e2 := bz_t (p := wnS σ k d = 1) c_101
                    have hq := bz_iff (p := saysW c way (rdN σ k b d)) (q := wnS σ k d = 1)
                    rw [e1, e2] at hq
                    rw [hc, crS, if_neg (fun z => c_109 (hq.mpr z.2))]
                    rw [Int32.add_zero, Nat.add_zero]
                  · refine A_iconst (v := 1) dX12_countRight_112 (by decide) ?_
                    refine A_goto (tgt := 117) dX12_countRight_113 (by decide) ?_
                    refine A_iadd dX12_countRight_117 ?_
                    refine A_istore5 dX12_countRight_118 rfl (by decide) ?_
                    refine A_iinc6 dX12_countRight_120 rfl rfl (by decide) ?_
                    refine A_goto (tgt := 6) dX12_countRight_123 (by decide) ?_
                    refine ih (d + 1) _ _ _ _ (by omega) (by omega) (nI_1 d) ?_ hk
                    have e1 := bz_f (p := saysW c way (rdN σ k b d)) (by unfold saysW; rw [if_neg c_60]; exact fun z => by have h8 := i_lt.mp z; have h9 := i_le.mp c_80; omega)
                    have e2 := bz_t (p := wnS σ k d = 1) c_101
                    have hq := bz_iff (p := saysW c way (rdN σ k b d)) (q := wnS σ k d = 1)
                    rw [e1, e2] at hq
                    rw [hc, crS, if_pos ⟨⟨c_36, c_44, fun z => by have h8 := i_lt.mp z; have h9 := i_le.mp c_53; omega⟩, hq.mp c_109⟩]
                    exact nI_1 _
              · refine A_iconst (v := 1) dX12_countRight_83 (by decide) ?_
                refine A_goto (tgt := 88) dX12_countRight_84 (by decide) ?_
                refine A_istore8 dX12_countRight_88 rfl (by decide) ?_
                refine A_iload5 dX12_countRight_90 ?_
                refine A_iload8 dX12_countRight_92 ?_
                refine A_aload0 dX12_countRight_94 ?_
                refine A_iload6 dX12_countRight_95 ?_
                refine A_vi1 lk_X12_480 yv_X12_wetNext dX12_countRight_97 (rfl) (rfl) (T_X12_wetNext hL hd) (by decide) (Nat.le_of_ble_eq_true rfl) (fun r_97 μ_97 h_97 => ?_)
                obtain ⟨rfl, e_97⟩ := h_97
                replace e_97 := e_97.symm
                subst e_97
                refine A_iconst (v := 1) dX12_countRight_100 (by decide) ?_
                refine A_icmp_ne (tgt := 108) dX12_countRight_101 (by decide) (fun c_101 => ?_) (fun c_101 => ?_)
                · refine A_iconst (v := 0) dX12_countRight_108 (by decide) ?_
                  refine A_icmp_ne (tgt := 116) dX12_countRight_109 (by decide) (fun c_109 => ?_) (fun c_109 => ?_)
                  · refine A_iconst (v := 0) dX12_countRight_116 (by decide) ?_
                    refine A_iadd dX12_countRight_117 ?_
                    refine A_istore5 dX12_countRight_118 rfl (by decide) ?_
                    refine A_iinc6 dX12_countRight_120 rfl rfl (by decide) ?_
                    refine A_goto (tgt := 6) dX12_countRight_123 (by decide) ?_
                    refine ih (d + 1) _ _ _ _ (by omega) (by omega) (nI_1 d) ?_ hk
                    have e1 := bz_t (p := saysW c way (rdN σ k b d)) (by unfold saysW; rw [if_neg c_60]; exact i_nle c_80)
                    have e2 := bz_f (p := wnS σ k d = 1) c_101
                    have hq := bz_iff (p := saysW c way (rdN σ k b d)) (q := wnS σ k d = 1)
                    rw [e1, e2] at hq
                    rw [hc, crS, if_neg (fun z => c_109 (hq.mpr z.2))]
                    rw [Int32.add_zero, Nat.add_zero]
                  · refine A_iconst (v := 1) dX12_countRight_112 (by decide) ?_
                    refine A_goto (tgt := 117) dX12_countRight_113 (by decide) ?_
                    refine A_iadd dX12_countRight_117 ?_
                    refine A_istore5 dX12_countRight_118 rfl (by decide) ?_
                    refine A_iinc6 dX12_countRight_120 rfl rfl (by decide) ?_
                    refine A_goto (tgt := 6) dX12_countRight_123 (by decide) ?_
                    refine ih (d + 1) _ _ _ _ (by omega) (by omega) (nI_1 d) ?_ hk
                    have e1 := bz_t (p := saysW c way (rdN σ k b d)) (by unfold saysW; rw [if_neg c_60]; exact i_nle c_80)
                    have e2 := bz_f (p := wnS σ k d = 1) c_101
                    have hq := bz_iff (p := saysW c way (rdN σ k b d)) (q := wnS σ k d = 1)
                    rw [e1, e2] at hq
                    rw [hc, crS, if_pos ⟨⟨c_36, c_44, fun z => by have h8 := i_lt.mp z; have h9 := i_le.mp c_53; omega⟩, hq.mp c_109⟩]
                    exact nI_1 _
                · refine A_iconst (v := 1) dX12_countRight_104 (by decide) ?_
                  refine A_goto (tgt := 109) dX12_countRight_105 (by decide) ?_
                  refine A_icmp_ne (tgt := 116) dX12_countRight_109 (by decide) (fun c_109 => ?_) (fun c_109 => ?_)
                  · refine A_iconst (v := 0) dX12_countRight_116 (by decide) ?_
                    refine A_iadd dX12_countRight_117 ?_
                    refine A_istore5 dX12_countRight_118 rfl (by decide) ?_
                    refine A_iinc6 dX12_countRight_120 rfl rfl (by decide) ?_
                    refine A_goto (tgt := 6) dX12_countRight_123 (by decide) ?_
                    refine ih (d + 1) _ _ _ _ (by omega) (by omega) (nI_1 d) ?_ hk
                    have e1 := bz_t (p := saysW c way (rdN σ k b d)) (by unfold saysW; rw [if_neg c_60]; exact i_nle c_80)
                    have e2 := bz_t (p := wnS σ k d = 1) c_101
                    have hq := bz_iff (p := saysW c way (rdN σ k b d)) (q := wnS σ k d = 1)
                    rw [e1, e2] at hq
                    rw [hc, crS, if_neg (fun z => c_109 (hq.mpr z.2))]
                    rw [Int32.add_zero, Nat.add_zero]
                  · refine A_iconst (v := 1) dX12_countRight_112 (by decide) ?_
                    refine A_goto (tgt := 117) dX12_countRight_113 (by decide) ?_
                    refine A_iadd dX12_countRight_117 ?_
                    refine A_istore5 dX12_countRight_118 rfl (by decide) ?_
                    refine A_iinc6 dX12_countRight_120 rfl rfl (by decide) ?_
                    refine A_goto (tgt := 6) dX12_countRight_123 (by decide) ?_
                    refine ih (d + 1) _ _ _ _ (by omega) (by omega) (nI_1 d) ?_ hk
                    have e1 := bz_t (p := saysW c way (rdN σ k b d)) (by unfold saysW; rw [if_neg c_60]; exact i_nle c_80)
                    have e2 := bz_t (p := wnS σ k d = 1) c_101
                    have hq := bz_iff (p := saysW c way (rdN σ k b d)) (q := wnS σ k d = 1)
                    rw [e1, e2] at hq
                    rw [hc, crS, if_pos ⟨⟨c_36, c_44, fun z => by have h8 := i_lt.mp z; have h9 := i_le.mp c_53; omega⟩, hq.mp c_109⟩]
                    exact nI_1 _
            · refine A_iload7 dX12_countRight_63 ?_
              refine A_iload2 dX12_countRight_65 ?_
              refine A_icmp_le (tgt := 73) dX12_countRight_66 (by decide) (fun c_66 => ?_) (fun c_66 => ?_)
              · refine A_iconst (v := 0) dX12_countRight_73 (by decide) ?_
                refine A_goto (tgt := 88) dX12_countRight_74 (by decide) ?_
                refine A_istore8 dX12_countRight_88 rfl (by decide) ?_
                refine A_iload5 dX12_countRight_90 ?_
                refine A_iload8 dX12_countRight_92 ?_
                refine A_aload0 dX12_countRight_94 ?_
                refine A_iload6 dX12_countRight_95 ?_
                refine A_vi1 lk_X12_480 yv_X12_wetNext dX12_countRight_97 (rfl) (rfl) (T_X12_wetNext hL hd) (by decide) (Nat.le_of_ble_eq_true rfl) (fun r_97 μ_97 h_97 => ?_)
                obtain ⟨rfl, e_97⟩ := h_97
                replace e_97 := e_97.symm
                subst e_97
                refine A_iconst (v := 1) dX12_countRight_100 (by decide) ?_
                refine A_icmp_ne (tgt := 108) dX12_countRight_101 (by decide) (fun c_101 => ?_) (fun c_101 => ?_)
                · refine A_iconst (v := 0) dX12_countRight_108 (by decide) ?_
                  refine A_icmp_ne (tgt := 116) dX12_countRight_109 (by decide) (fun c_109 => ?_) (fun c_109 => ?_)
                  · refine A_iconst (v := 0) dX12_countRight_116 (by decide) ?_
                    refine A_iadd dX12_countRight_117 ?_
                    refine A_istore5 dX12_countRight_118 rfl (by decide) ?_
                    refine A_iinc6 dX12_countRight_120 rfl rfl (by decide) ?_
                    refine A_goto (tgt := 6) dX12_countRight_123 (by decide) ?_
                    refine ih (d + 1) _ _ _ _ (by omega) (by omega) (nI_1 d) ?_ hk
                    have e1 := bz_f (p := saysW c way (rdN σ k b d)) (by unfold saysW; rw [if_pos c_60]; exact fun z => by have h8 := i_lt.mp z; have h9 := i_le.mp c_66; omega)
                    have e2 := bz_f (p := wnS σ k d = 1) c_101
                    have hq := bz_iff (p := saysW c way (rdN σ k b d)) (q := wnS σ k d = 1)
                    rw [e1, e2] at hq
                    rw [hc, crS, if_neg (fun z => c_109 (hq.mpr z.2))]
                    rw [Int32.add_zero, Nat.add_zero]
                  · refine A_iconst (v := 1) dX12_countRight_112 (by decide) ?_
                    refine A_goto (tgt := 117) dX12_countRight_113 (by decide) ?_
                    refine A_iadd dX12_countRight_117 ?_
                    refine A_istore5 dX12_countRight_118 rfl (by decide) ?_
                    refine A_iinc6 dX12_countRight_120 rfl rfl (by decide) ?_
                    refine A_goto (tgt := 6) dX12_countRight_123 (by decide) ?_
                    refine ih (d + 1) _ _ _ _ (by omega) (by omega) (nI_1 d) ?_ hk
                    have e1 := bz_f (p := saysW c way (rdN σ k b d)) (by unfold saysW; rw [if_pos c_60]; exact fun z => by have h8 := i_lt.mp z; have h9 := i_le.mp c_66; omega)
                    have e2 := bz_f (p := wnS σ k d = 1) c_101
                    have hq := bz_iff (p := saysW c way (rdN σ k b d)) (q := wnS σ k d = 1)
                    rw [e1, e2] at hq
                    rw [hc, crS, if_pos ⟨⟨c_36, c_44, fun z => by have h8 := i_lt.mp z; have h9 := i_le.mp c_53; omega⟩, hq.mp c_109⟩]
                    exact nI_1 _
                · refine A_iconst (v := 1) dX12_countRight_104 (by decide) ?_
                  refine A_goto (tgt := 109) dX12_countRight_105 (by decide) ?_
                  refine A_icmp_ne (tgt := 116) dX12_countRight_109 (by decide) (fun c_109 => ?_) (fun c_109 => ?_)
                  · refine A_iconst (v := 0) dX12_countRight_116 (by decide) ?_
                    refine A_iadd dX12_countRight_117 ?_
                    refine A_istore5 dX12_countRight_118 rfl (by decide) ?_
                    refine A_iinc6 dX12_countRight_120 rfl rfl (by decide) ?_
                    refine A_goto (tgt := 6) dX12_countRight_123 (by decide) ?_
                    refine ih (d + 1) _ _ _ _ (by omega) (by omega) (nI_1 d) ?_ hk
                    have e1 := bz_f (p := saysW c way (rdN σ k b d)) (by unfold saysW; rw [if_pos c_60]; exact fun z => by have h8 := i_lt.mp z; have h9 := i_le.mp c_66; omega)
                    have e2 := bz_t (p := wnS σ k d = 1) c_101
                    have hq := bz_iff (p := saysW c way (rdN σ k b d)) (q := wnS σ k d = 1)
                    rw [e1, e2] at hq
                    rw [hc, crS, if_neg (fun z => c_109 (hq.mpr z.2))]
                    rw [Int32.add_zero, Nat.add_zero]
                  · refine A_iconst (v := 1) dX12_countRight_112 (by decide) ?_
                    refine A_goto (tgt := 117) dX12_countRight_113 (by decide) ?_
                    refine A_iadd dX12_countRight_117 ?_
                    refine A_istore5 dX12_countRight_118 rfl (by decide) ?_
                    refine A_iinc6 dX12_countRight_120 rfl rfl (by decide) ?_
                    refine A_goto (tgt := 6) dX12_countRight_123 (by decide) ?_
                    refine ih (d + 1) _ _ _ _ (by omega) (by omega) (nI_1 d) ?_ hk
                    have e1 := bz_f (p := saysW c way (rdN σ k b d)) (by unfold saysW; rw [if_pos c_60]; exact fun z => by have h8 := i_lt.mp z; have h9 := i_le.mp c_66; omega)
                    have e2 := bz_t (p := wnS σ k d = 1) c_101
                    have hq := bz_iff (p := saysW c way (rdN σ k b d)) (q := wnS σ k d = 1)
                    rw [e1, e2] at hq
                    rw [hc, crS, if_pos ⟨⟨c_36, c_44, fun z => by have h8 := i_lt.mp z; have h9 := i_le.mp c_53; omega⟩, hq.mp c_109⟩]
                    exact nI_1 _
              · refine A_iconst (v := 1) dX12_countRight_69 (by decide) ?_
                refine A_goto (tgt := 88) dX12_countRight_70 (by decide) ?_
                refine A_istore8 dX12_countRight_88 rfl (by decide) ?_
                refine A_iload5 dX12_countRight_90 ?_
                refine A_iload8 dX12_countRight_92 ?_
                refine A_aload0 dX12_countRight_94 ?_
                refine A_iload6 dX12_countRight_95 ?_
                refine A_vi1 lk_X12_480 yv_X12_wetNext dX12_countRight_97 (rfl) (rfl) (T_X12_wetNext hL hd) (by decide) (Nat.le_of_ble_eq_true rfl) (fun r_97 μ_97 h_97 => ?_)
                obtain ⟨rfl, e_97⟩ := h_97
                replace e_97 := e_97.symm
                subst e_97
                refine A_iconst (v := 1) dX12_countRight_100 (by decide) ?_
                refine A_icmp_ne (tgt := 108) dX12_countRight_101 (by decide) (fun c_101 => ?_) (fun c_101 => ?_)
                · refine A_iconst (v := 0) dX12_countRight_108 (by decide) ?_
                  refine A_icmp_ne (tgt := 116) dX12_countRight_109 (by decide) (fun c_109 => ?_) (fun c_109 => ?_)
                  · refine A_iconst (v := 0) dX12_countRight_116 (by decide) ?_
                    refine A_iadd dX12_countRight_117 ?_
                    refine A_istore5 dX12_countRight_118 rfl (by decide) ?_
                    refine A_iinc6 dX12_countRight_120 rfl rfl (by decide) ?_
                    refine A_goto (tgt := 6) dX12_countRight_123 (by decide) ?_
                    refine ih (d + 1) _ _ _ _ (by omega) (by omega) (nI_1 d) ?_ hk
                    have e1 := bz_t (p := saysW c way (rdN σ k b d)) (by unfold saysW; rw [if_pos c_60]; exact i_nle c_66)
                    have e2 := bz_f (p := wnS σ k d = 1) c_101
                    have hq := bz_iff (p := saysW c way (rdN σ k b d)) (q := wnS σ k d = 1)
                    rw [e1, e2] at hq
                    rw [hc, crS, if_neg (fun z => c_109 (hq.mpr z.2))]
                    rw [Int32.add_zero, Nat.add_zero]
                  · refine A_iconst (v := 1) dX12_countRight_112 (by decide) ?_
                    refine A_goto (tgt := 117) dX12_countRight_113 (by decide) ?_
                    refine A_iadd dX12_countRight_117 ?_
                    refine A_istore5 dX12_countRight_118 rfl (by decide) ?_
                    refine A_iinc6 dX12_countRight_120 rfl rfl (by decide) ?_
                    refine A_goto (tgt := 6) dX12_countRight_123 (by decide) ?_
                    refine ih (d + 1) _ _ _ _ (by omega) (by omega) (nI_1 d) ?_ hk
                    have e1 := bz_t (p := saysW c way (rdN σ k b d)) (by unfold saysW; rw [if_pos c_60]; exact i_nle c_66)
                    have e2 := bz_f (p := wnS σ k d = 1) c_101
                    have hq := bz_iff (p := saysW c way (rdN σ k b d)) (q := wnS σ k d = 1)
                    rw [e1, e2] at hq
                    rw [hc, crS, if_pos ⟨⟨c_36, c_44, fun z => by have h8 := i_lt.mp z; have h9 := i_le.mp c_53; omega⟩, hq.mp c_109⟩]
                    exact nI_1 _
                · refine A_iconst (v := 1) dX12_countRight_104 (by decide) ?_
                  refine A_goto (tgt := 109) dX12_countRight_105 (by decide) ?_
                  refine A_icmp_ne (tgt := 116) dX12_countRight_109 (by decide) (fun c_109 => ?_) (fun c_109 => ?_)
                  · refine A_iconst (v := 0) dX12_countRight_116 (by decide) ?_
                    refine A_iadd dX12_countRight_117 ?_
                    refine A_istore5 dX12_countRight_118 rfl (by decide) ?_
                    refine A_iinc6 dX12_countRight_120 rfl rfl (by decide) ?_
                    refine A_goto (tgt := 6) dX12_countRight_123 (by decide) ?_
                    refine ih (d + 1) _ _ _ _ (by omega) (by omega) (nI_1 d) ?_ hk
                    have e1 := bz_t (p := saysW c way (rdN σ k b d)) (by unfold saysW; rw [if_pos c_60]; exact i_nle c_66)
                    have e2 := bz_t (p := wnS σ k d = 1) c_101
                    have hq := bz_iff (p := saysW c way (rdN σ k b d)) (q := wnS σ k d = 1)
                    rw [e1, e2] at hq
                    rw [hc, crS, if_neg (fun z => c_109 (hq.mpr z.2))]
                    rw [Int32.add_zero, Nat.add_zero]
                  · refine A_iconst (v := 1) dX12_countRight_112 (by decide) ?_
                    refine A_goto (tgt := 117) dX12_countRight_113 (by decide) ?_
                    refine A_iadd dX12_countRight_117 ?_
                    refine A_istore5 dX12_countRight_118 rfl (by decide) ?_
                    refine A_iinc6 dX12_countRight_120 rfl rfl (by decide) ?_
                    refine A_goto (tgt := 6) dX12_countRight_123 (by decide) ?_
                    refine ih (d + 1) _ _ _ _ (by omega) (by omega) (nI_1 d) ?_ hk
                    have e1 := bz_t (p := saysW c way (rdN σ k b d)) (by unfold saysW; rw [if_pos c_60]; exact i_nle c_66)
                    have e2 := bz_t (p := wnS σ k d = 1) c_101
                    have hq := bz_iff (p := saysW c way (rdN σ k b d)) (q := wnS σ k d = 1)
                    rw [e1, e2] at hq
                    rw [hc, crS, if_pos ⟨⟨c_36, c_44, fun z => by have h8 := i_lt.mp z; have h9 := i_le.mp c_53; omega⟩, hq.mp c_109⟩]
                    exact nI_1 _
          · refine A_goto (tgt := 120) dX12_countRight_56 (by decide) ?_
            refine A_iinc6 dX12_countRight_120 rfl rfl (by decide) ?_
            refine A_goto (tgt := 6) dX12_countRight_123 (by decide) ?_
            refine ih (d + 1) _ _ _ _ (by omega) (by omega) (nI_1 d) ?_ hk
            rw [hc, crS, if_neg (fun z => z.1.2.2 (i_nle c_53))]
            rw [Nat.add_zero]
set_option maxHeartbeats 4000000 in
set_option maxRecDepth 100000 in
theorem T_X12_countRight {l : Launch} {G : Wd} {b : Nat} {k c way m : Int32} {F σ μ : Mem} (hL : Lay F σ k μ) (hb : b < 5) : Mt l G KM yX12_countRight cX12_countRight 9 (some .int) 2 [.ref (gA G 0), .int (nI b), .int c, .int way, .int m] μ (Qi (fun v μ' => v = nI (crS σ k b c way m 60) ∧ μ' = μ)) := by
  refine Mt.of (own := RX12) (n := 4) (by decide) rfl [some (.ref (gA G 0)), some (.int (nI b)), some (.int c), some (.int way), some (.int m), none, none, none, none] rfl (Nat.le_of_ble_eq_true rfl) ?_
  refine A_iconst (v := 0) dX12_countRight_0 (by decide) ?_
  refine A_istore5 dX12_countRight_1 rfl (by decide) ?_
  refine A_iconst (v := 0) dX12_countRight_3 (by decide) ?_
  refine A_istore6 dX12_countRight_4 rfl (by decide) ?_
  refine L_X12_countRight (σ := σ) (k := k) hL hb 61 0 _ _ _ _ (by omega) (by omega) rfl rfl (fun x x7 x8 => ?_)
  refine A_iload5 dX12_countRight_126 ?_
  refine A_iret dX12_countRight_128 ?_
  exact ⟨_, rfl, rfl, rfl⟩
abbrev Ls : Type := Int32 × Int32 × Int32
def lcS (σ : Mem) (k : Int32) (b : Nat) (way : Int32) (S : Ls) : Nat → Ls
  | 0 => S
  | n + 1 => if (lcS σ k b way S n).2.2 < nI (crS σ k b (-50 + nI n) way 1 60) then (-50 + nI n, way, nI (crS σ k b (-50 + nI n) way 1 60)) else lcS σ k b way S n
def lrS (σ : Mem) (k : Int32) (b : Nat) : Ls := lcS σ k b 1 (lcS σ k b 0 (0, 0, -1) 161) 161
def sp_learnt (σ : Mem) (b w k : Int32) : Int32 := if isBx σ b ∧ 0 ≤ w ∧ w ≤ 4 ∧ ¬ cdS σ k b.toNatClampNeg 1 60 = 0 then (if w = 0 then (lrS σ k b.toNatClampNeg).1 else if w = 1 then (lrS σ k b.toNatClampNeg).2.1 else if w = 2 then (lrS σ k b.toNatClampNeg).2.2 else if w = 3 then nI (crS σ k b.toNatClampNeg (lrS σ k b.toNatClampNeg).1 (lrS σ k b.toNatClampNeg).2.1 0 60) else nI (cdS σ k b.toNatClampNeg 0 60)) else -100000
theorem c50 {n : Nat} (h : n ≤ 200) : ((-50 : Int32) + nI n).toInt = (n : Int) - 50 := by
  have h1 : (-50 : Int32).toInt = -50 := by decide
  rw [Int32.toInt_add, h1, nI_i (by omega), Int.bmod_eq_of_le (by omega) (by omega)]
  omega
theorem c50s (n : Nat) : (-50 : Int32) + nI n + Int32.ofInt 1 = -50 + nI (n + 1) := by
  rw [Int32.add_assoc]
  congr 1
  exact nI_1 n
theorem ln {n : Nat} (h : ¬ (110 : Int32) < -50 + nI n) (h2 : n ≤ 161) : n < 161 := by
  have h9 := c50 (n := n) (by omega)
  rw [i_lt, h9] at h
  have e1 : (110 : Int32).toInt = 110 := by decide
  omega
theorem en {n : Nat} (h : (110 : Int32) < -50 + nI n) (h2 : n ≤ 161) : n = 161 := by
  have h9 := c50 (n := n) (by omega)
  rw [i_lt, h9] at h
  have e1 : (110 : Int32).toInt = 110 := by decide
  omega
set_option maxHeartbeats 800000 in
set_option maxRecDepth 100000 in
theorem L_X12_learnt_61 {l : Launch} {G : Wd} {k w way : Int32} {F σ μ : Mem} {b : Nat} {S0 : Ls} {Q : Option Value → Mem → Prop} (hL : Lay F σ k μ) (hb : b < 5) : ∀ (q n : Nat) (s1 s2 s3 x : Int32) (x9 : Option Value), n + q = 161 + 1 → n ≤ 161 → x = -50 + nI n → (s1, s2, s3) = lcS σ k b way S0 n → (∀ (x8 x9 : Option Value), AW l G KM RX12 cX12_learnt 10 3 (some .int) Q 108 [some (.ref (gA G 0)), some (.int (nI b)), some (.int w), some (.int k), some (.int (lcS σ k b way S0 161).1), some (.int (lcS σ k b way S0 161).2.1), some (.int (lcS σ k b way S0 161).2.2), some (.int way), x8, x9] [] μ) → AW l G KM RX12 cX12_learnt 10 3 (some .int) Q 61 [some (.ref (gA G 0)), some (.int (nI b)), some (.int w), some (.int k), some (.int s1), some (.int s2), some (.int s3), some (.int way), some (.int x), x9] [] μ := by
  intro q
  induction q with
  | zero => intro n s1 s2 s3 x x9 h1 h2; omega
  | succ q ih =>
    intro n s1 s2 s3 x x9 h1 h2 hx hS hk
    subst hx
    refine A_iload8 dX12_learnt_61 ?_
    refine A_bipush (v := 110) dX12_learnt_63 (by decide) ?_
    refine A_icmp_gt (tgt := 108) dX12_learnt_65 (by decide) (fun c_65 => ?_) (fun c_65 => ?_)
    · have e : n = 161 := en c_65 h2
      subst e
      obtain ⟨rfl, rfl, rfl⟩ : s1 = (lcS σ k b way S0 161).1 ∧ s2 = (lcS σ k b way S0 161).2.1 ∧ s3 = (lcS σ k b way S0 161).2.2 := by rw [← hS]; exact ⟨rfl, rfl, rfl⟩
      exact hk _ _
    · have hn : n < 161 := ln c_65 h2
      refine A_aload0 dX12_learnt_68 ?_
      refine A_iload1 dX12_learnt_69 ?_
      refine A_iload8 dX12_learnt_70 ?_
      refine A_iload7 dX12_learnt_72 ?_
      refine A_iconst (v := 1) dX12_learnt_74 (by decide) ?_
      refine A_vi4 lk_X12_514 yv_X12_countRight dX12_learnt_75 (rfl) (rfl) (T_X12_countRight hL hb) (by decide) (Nat.le_of_ble_eq_true rfl) (fun r_75 μ_75 h_75 => ?_)
      obtain ⟨rfl, e_75⟩ := h_75
      replace e_75 := e_75.symm
      subst e_75
      refine A_istore9 dX12_learnt_78 rfl (by decide) ?_
      refine A_iload9 dX12_learnt_80 ?_
      refine A_iload6 dX12_learnt_82 ?_
      refine A_icmp_gt (tgt := 90) dX12_learnt_84 (by decide) (fun c_84 => ?_) (fun c_84 => ?_)
      · refine A_iload9 dX12_learnt_90 ?_
        refine A_istore6 dX12_learnt_92 rfl (by decide) ?_
        refine A_iload8 dX12_learnt_94 ?_
        refine A_istore4 dX12_learnt_96 rfl (by decide) ?_
        refine A_iload7 dX12_learnt_98 ?_
        refine A_istore5 dX12_learnt_100 rfl (by decide) ?_
        refine A_iinc8 dX12_learnt_102 rfl rfl (by decide) ?_
        refine A_goto (tgt := 61) dX12_learnt_105 (by decide) ?_
        refine ih (n + 1) _ _ _ _ _ (by omega) (by omega) (c50s n) ?_ hk
        rw [lcS, if_pos (by rw [← hS]; exact c_84)]
      · refine A_goto (tgt := 102) dX12_learnt_87 (by decide) ?_
        refine A_iinc8 dX12_learnt_102 rfl rfl (by decide) ?_
        refine A_goto (tgt := 61) dX12_learnt_105 (by decide) ?_
        refine ih (n + 1) _ _ _ _ _ (by omega) (by omega) (c50s n) ?_ hk
        rw [lcS, if_neg (by rw [← hS]; exact c_84)]
        exact hS
set_option maxHeartbeats 4000000 in
set_option maxRecDepth 100000 in
theorem T_X12_learnt {l : Launch} {G : Wd} {b w k : Int32} {μ : Mem} (hw : WF μ) : Mt l G KM yX12_learnt cX12_learnt 10 (some .int) 3 [.ref (gA G 0), .int b, .int w, .int k] μ (Qi (fun v μ' => v = sp_learnt μ b w k ∧ Pm μ μ')) := by
  refine Mt.of (own := RX12) (n := 6) (by decide) rfl [some (.ref (gA G 0)), some (.int b), some (.int w), some (.int k), none, none, none, none, none, none] rfl (Nat.le_of_ble_eq_true rfl) ?_
  refine A_aload0 dX12_learnt_0 ?_
  refine A_iload1 dX12_learnt_1 ?_
  refine A_vi1 lk_X12_349 yv_X12_isBox dX12_learnt_2 (rfl) (rfl) (T_X12_isBox) (by decide) (Nat.le_of_ble_eq_true rfl) (fun r_2 μ_2 h_2 => ?_)
  obtain ⟨rfl, e_2⟩ := h_2
  replace e_2 := e_2.symm
  subst e_2
  refine A_if_eq (tgt := 17) dX12_learnt_5 (by decide) (fun c_5 => ?_) (fun c_5 => ?_)
  · refine A_ldcw dX12_learnt_17 kc_X12_353 ?_
    refine A_iret dX12_learnt_20 ?_
    refine ⟨_, rfl, ?_, Pm.rf⟩
    unfold sp_learnt
    rw [if_neg]
    rintro ⟨q1, q2, q3, q4⟩
    exact bz_0.mp c_5 q1
  · refine A_iload2 dX12_learnt_8 ?_
    refine A_if_lt (tgt := 17) dX12_learnt_9 (by decide) (fun c_9 => ?_) (fun c_9 => ?_)
    · refine A_ldcw dX12_learnt_17 kc_X12_353 ?_
      refine A_iret dX12_learnt_20 ?_
      refine ⟨_, rfl, ?_, Pm.rf⟩
      unfold sp_learnt
      rw [if_neg]
      rintro ⟨q1, q2, q3, q4⟩
      exact absurd (i_le.mp q2) (by have h9 := i_lt.mp c_9; omega)
    · refine A_iload2 dX12_learnt_12 ?_
      refine A_iconst (v := 4) dX12_learnt_13 (by decide) ?_
      refine A_icmp_le (tgt := 21) dX12_learnt_14 (by decide) (fun c_14 => ?_) (fun c_14 => ?_)
      · have hp : isBx μ b := Classical.not_not.mp (fun z => c_5 (bz_0.mpr z))
        obtain ⟨bn, dn, rfl, -, hb5, -, hok, eb, -, hbn⟩ := i_pl hw.2.2 (d := 0) ⟨hp, by decide⟩
        have hle := cdS_le μ k bn 1 60
        refine A_aload0 dX12_learnt_21 ?_
        refine A_iload3 dX12_learnt_22 ?_
        refine A_vv1 lk_X12_354 yv_X12_layOut dX12_learnt_23 (rfl) (rfl) (T_X12_layOut hw.2.1) (by decide) (Nat.le_of_ble_eq_true rfl) (fun μ_23 h_23 => ?_)
        refine A_aload0 dX12_learnt_26 ?_
        refine A_iload1 dX12_learnt_27 ?_
        refine A_iconst (v := 1) dX12_learnt_28 (by decide) ?_
        refine A_vi2 lk_X12_510 yv_X12_countDays dX12_learnt_29 (rfl) (rfl) (T_X12_countDays h_23 hb5) (by decide) (Nat.le_of_ble_eq_true rfl) (fun r_29 μ_29 h_29 => ?_)
        obtain ⟨rfl, e_29⟩ := h_29
        replace e_29 := e_29.symm
        subst e_29
        refine A_if_ne (tgt := 39) dX12_learnt_32 (by decide) (fun c_32 => ?_) (fun c_32 => ?_)
        · refine A_iconst (v := 0) dX12_learnt_39 (by decide) ?_
          refine A_istore4 dX12_learnt_40 rfl (by decide) ?_
          refine A_iconst (v := 0) dX12_learnt_42 (by decide) ?_
          refine A_istore5 dX12_learnt_43 rfl (by decide) ?_
          refine A_iconst (v := -1) dX12_learnt_45 (by decide) ?_
          refine A_istore6 dX12_learnt_46 rfl (by decide) ?_
          refine A_iconst (v := 0) dX12_learnt_48 (by decide) ?_
          refine A_istore7 dX12_learnt_49 rfl (by decide) ?_
          refine A_iload7 dX12_learnt_51 ?_
          refine A_iconst (v := 2) dX12_learnt_53 (by decide) ?_
          refine A_icmp_ge (tgt := 114) dX12_learnt_54 (by decide) (fun c_54 => absurd c_54 (by first | decide | assumption | (simp_all; done))) (fun c_54 => ?_)
          refine A_bipush (v := -50) dX12_learnt_57 (by decide) ?_
          refine A_istore8 dX12_learnt_59 rfl (by decide) ?_
          refine L_X12_learnt_61 (σ := μ) (k := k) (S0 := (0, 0, -1)) h_23 hb5 162 0 _ _ _ _ _ (by omega) (by omega) rfl rfl (fun x8 x9 => ?_)
          refine A_iinc7 dX12_learnt_108 rfl rfl (by decide) ?_
          refine A_goto (tgt := 51) dX12_learnt_111 (by decide) ?_
          refine A_iload7 dX12_learnt_51 ?_
          refine A_iconst (v := 2) dX12_learnt_53 (by decide) ?_
          refine A_icmp_ge (tgt := 114) dX12_learnt_54 (by decide) (fun c => absurd c (by decide)) (fun _ => ?_)
          refine A_bipush (v := -50) dX12_learnt_57 (by decide) ?_
          refine A_istore8 dX12_learnt_59 rfl (by decide) ?_
          refine L_X12_learnt_61 (σ := μ) (k := k) (way := 1) (S0 := lcS μ k bn 0 (0, 0, -1) 161) h_23 hb5 162 0 _ _ _ _ _ (by omega) (by omega) rfl rfl (fun x8 x9 => ?_)
          refine A_iinc7 dX12_learnt_108 rfl rfl (by decide) ?_
          refine A_goto (tgt := 51) dX12_learnt_111 (by decide) ?_
          refine A_iload7 dX12_learnt_51 ?_
          refine A_iconst (v := 2) dX12_learnt_53 (by decide) ?_
          refine A_icmp_ge (tgt := 114) dX12_learnt_54 (by decide) (fun _ => ?_) (fun c => absurd (by decide) c)
          have hcd : ¬ cdS μ k bn 1 60 = 0 := fun z => c_32 (by rw [z]; rfl)
          have hA : isBx μ (nI bn) ∧ 0 ≤ w ∧ w ≤ 4 ∧ ¬ cdS μ k (nI bn).toNatClampNeg 1 60 = 0 := ⟨hp, i_nlt c_9, c_14, by rw [eb]; exact hcd⟩
          refine A_iload2 dX12_learnt_114 ?_
          by_cases s_115_0 : w = 0
          · rw [s_115_0]
            refine A_tableIn (tgt := 144) dX12_learnt_115 (by decide) (by decide) rfl (by decide) ?_
            refine A_iload4 dX12_learnt_144 ?_
            refine A_iret dX12_learnt_146 ?_
            refine ⟨_, rfl, ?_, h_23.1⟩
            unfold sp_learnt
            rw [if_pos (by rw [s_115_0] at hA; exact hA), eb]
            rw [if_pos rfl]; rfl
          by_cases s_115_1 : w = 1
          · rw [s_115_1]
            refine A_tableIn (tgt := 147) dX12_learnt_115 (by decide) (by decide) rfl (by decide) ?_
            refine A_iload5 dX12_learnt_147 ?_
            refine A_iret dX12_learnt_149 ?_
            refine ⟨_, rfl, ?_, h_23.1⟩
            unfold sp_learnt
            rw [if_pos (by rw [s_115_1] at hA; exact hA), eb]
            rw [if_neg (by decide), if_pos rfl]; rfl
          by_cases s_115_2 : w = 2
          · rw [s_115_2]
            refine A_tableIn (tgt := 150) dX12_learnt_115 (by decide) (by decide) rfl (by decide) ?_
            refine A_iload6 dX12_learnt_150 ?_
            refine A_iret dX12_learnt_152 ?_
            refine ⟨_, rfl, ?_, h_23.1⟩
            unfold sp_learnt
            rw [if_pos (by rw [s_115_2] at hA; exact hA), eb]
            rw [if_neg (by decide), if_neg (by decide), if_pos rfl]; rfl
          by_cases s_115_3 : w = 3
          · rw [s_115_3]
            refine A_tableIn (tgt := 153) dX12_learnt_115 (by decide) (by decide) rfl (by decide) ?_
            refine A_aload0 dX12_learnt_153 ?_
            refine A_iload1 dX12_learnt_154 ?_
            refine A_iload4 dX12_learnt_155 ?_
            refine A_iload5 dX12_learnt_157 ?_
            refine A_iconst (v := 0) dX12_learnt_159 (by decide) ?_
            refine A_vi4 lk_X12_514 yv_X12_countRight dX12_learnt_160 (rfl) (rfl) (T_X12_countRight h_23 hb5) (by decide) (Nat.le_of_ble_eq_true rfl) (fun r_160 μ_160 h_160 => ?_)
            obtain ⟨rfl, e_160⟩ := h_160
            replace e_160 := e_160.symm
            subst e_160
            refine A_iret dX12_learnt_163 ?_
            refine ⟨_, rfl, ?_, h_23.1⟩
            unfold sp_learnt
            rw [if_pos (by rw [s_115_3] at hA; exact hA), eb]
            rw [if_neg (by decide), if_neg (by decide), if_neg (by decide), if_pos rfl]; rfl
          refine A_tableOut (tgt := 164) dX12_learnt_115 (i_out (lo := 0) (hi := 3) (fun j h1 h2 q => ?_)) (by decide) ?_
          · have h3 : j = 0 ∨ j = 1 ∨ j = 2 ∨ j = 3 := by omega
            rcases h3 with rfl | rfl | rfl | rfl
            · exact s_115_0 (by rw [i_eq, q]; decide)
            · exact s_115_1 (by rw [i_eq, q]; decide)
            · exact s_115_2 (by rw [i_eq, q]; decide)
            · exact s_115_3 (by rw [i_eq, q]; decide)
          refine A_aload0 dX12_learnt_164 ?_
          refine A_iload1 dX12_learnt_165 ?_
          refine A_iconst (v := 0) dX12_learnt_166 (by decide) ?_
          refine A_vi2 lk_X12_510 yv_X12_countDays dX12_learnt_167 (rfl) (rfl) (T_X12_countDays h_23 hb5) (by decide) (Nat.le_of_ble_eq_true rfl) (fun r_167 μ_167 h_167 => ?_)
          obtain ⟨rfl, e_167⟩ := h_167
          replace e_167 := e_167.symm
          subst e_167
          refine A_iret dX12_learnt_170 ?_
          refine ⟨_, rfl, ?_, h_23.1⟩
          unfold sp_learnt
          rw [if_pos hA, eb]
          rw [if_neg s_115_0, if_neg s_115_1, if_neg s_115_2, if_neg s_115_3]
        · refine A_ldcw dX12_learnt_35 kc_X12_353 ?_
          refine A_iret dX12_learnt_38 ?_
          refine ⟨_, rfl, ?_, h_23.1⟩
          unfold sp_learnt
          rw [if_neg]
          rintro ⟨q1, q2, q3, q4⟩
          rw [eb] at q4
          exact q4 ((nI_eq (by omega) (by omega)).mp c_32)
      · refine A_ldcw dX12_learnt_17 kc_X12_353 ?_
        refine A_iret dX12_learnt_20 ?_
        refine ⟨_, rfl, ?_, Pm.rf⟩
        unfold sp_learnt
        rw [if_neg]
        rintro ⟨q1, q2, q3, q4⟩
        exact c_14 q3

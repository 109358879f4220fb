/-! the surest day -/
theorem OkS.t {S : Sp} {t : Int32} (h : OkS S) (h1 : -20 ≤ t.toInt) (h2 : t.toInt ≤ 100) : OkS (inc1 S t) := by
  rw [← inc_tt h1]; exact h.inc h1 (by omega) h2
theorem rgt_ok (σ : Mem) (k : Int32) (b d : Nat) : OkS (rgt σ k b d) := by
  unfold rgt
  refine fold_inv _ _ (fun S lg _ hS => ?_) OkS.g
  unfold rLg
  split
  · refine fold_inv _ _ (fun S x _ hS => ?_) hS
    unfold rLw
    split
    · have hlm := lm_r (σ.1 7 b)
      refine fold_inv _ _ (fun S t ht hS => ?_) hS
      have := iv_ok _ _ _ (by omega) ht
      unfold rT1
      split
      · exact hS.t (by omega) (by omega)
      · exact hS
    · exact hS
  · exact hS
/-- the greatest beside a day -/
def gB (σ : Mem) (k : Int32) (b f e : Nat) : Nat → Int32
  | 0 => -100000
  | m + 1 => if f + m = e then gB σ k b f e m else imax (gB σ k b f e m) (rgt σ k b (f + m)).2
theorem sur_g (σ : Mem) (k : Int32) (b f e : Nat) : ∀ m, -100000 ≤ (gB σ k b f e m).toInt ∧ ((gB σ k b f e m).toInt = -100000 ↔ (surI σ k b f e m).2 = 0) ∧ ((surI σ k b f e m).1 = true ↔ ¬ (rgt σ k b e).1.toInt = -100000 ∧ (gB σ k b f e m).toInt ≤ (rgt σ k b e).1.toInt) := by
  have he := rgt_ok σ k b e
  intro m
  induction m with
  | zero =>
    refine ⟨by rw [gB, g_i]; omega, ?_, ?_⟩
    · rw [gB, g_i]; exact ⟨fun _ => rfl, fun _ => rfl⟩
    · show (!decide ((rgt σ k b e).1 = -100000)) = true ↔ _
      rw [gB, g_i, Bool.not_eq_true', decide_eq_false_iff_not, g_e]
      constructor
      · intro h; refine ⟨h, ?_⟩; rcases he with z | z <;> omega
      · intro h; exact h.1
  | succ m ih =>
    obtain ⟨i1, i2, i3⟩ := ih
    have hm := rgt_ok σ k b (f + m)
    by_cases q : f + m = e
    · rw [gB, if_pos q, surI, if_pos (Or.inl q)]; exact ⟨i1, i2, i3⟩
    · rw [gB, if_neg q, imax_i]
      by_cases q2 : (rgt σ k b (f + m)).2 = -100000
      · rw [surI, if_pos (Or.inr q2)]
        rw [g_e] at q2
        rw [show max (gB σ k b f e m).toInt (rgt σ k b (f + m)).2.toInt = (gB σ k b f e m).toInt by omega]
        exact ⟨i1, i2, i3⟩
      · rw [surI, if_neg (fun z => z.elim q q2)]
        rw [g_e] at q2
        refine ⟨by omega, ?_, ?_⟩
        · show _ ↔ (surI σ k b f e m).2 + 1 = 0
          rcases hm with z | z <;> omega
        · show ((surI σ k b f e m).1 && decide ((rgt σ k b (f + m)).2 ≤ (rgt σ k b e).1)) = true ↔ _
          rw [Bool.and_eq_true, i3, decide_eq_true_iff, i_le]
          omega
theorem sur_e {σ : Mem} {k : Int32} {b f e m : Nat} : ((surI σ k b f e m).1 = true ∧ 0 < (surI σ k b f e m).2) ↔ ¬ (rgt σ k b e).1 = -100000 ∧ ¬ gB σ k b f e m = -100000 ∧ gB σ k b f e m ≤ (rgt σ k b e).1 := by
  obtain ⟨g1, g2, g3⟩ := sur_g σ k b f e m
  rw [g3, g_e, g_e, i_le, g2]
  omega
def SpD (σ : Mem) (k : Int32) (b f e : Nat) (μ : Mem) : Prop := ∀ x, f ≤ x → x < e → μ.1 74 x = (rgt σ k b x).1 ∧ μ.1 75 x = (rgt σ k b x).2
set_option maxHeartbeats 400000 in
set_option maxRecDepth 100000 in
theorem L_X8_gb_7 {l : Launch} {G : Wd} {k : Int32} {b f t e : Nat} {σ μ : Mem} (hft : f ≤ t) (ht : t < 60) (he : e < 60) (hS : SpD σ k b f (t + 1) μ) : ∀ (q j : Nat), q + j = t + 1 - f → AW l G KC RX8 cX8_greatestBeside 6 2 (some .int) (Qi (fun v μ' => v = gB σ k b f e (t + 1 - f) ∧ μ' = μ)) 7 [some (.ref (gA G 73)), some (.int (nI e)), some (.int (nI f)), some (.int (nI t)), some (.int (gB σ k b f e j)), some (.int (nI (f + j)))] [] μ := by
  intro q
  induction q with
  | zero =>
    intro j hq
    obtain rfl : j = t + 1 - f := by omega
    refine A_iload5 dX8_greatestBeside_7 ?_
    refine A_iload3 dX8_greatestBeside_9 ?_
    refine A_icmp_gt (tgt := 39) dX8_greatestBeside_10 (by decide) (fun c_10 => ?_) (fun c_10 => absurd c_10 (fun z => z (nI_lt (by omega) (by omega))))
    refine A_iload4 dX8_greatestBeside_39 ?_
    refine A_iret dX8_greatestBeside_41 ?_
    exact ⟨_, rfl, rfl, rfl⟩
  | succ q ih =>
    intro j hq
    have hj := hS (f + j) (by omega) (by omega)
    have hh := ih (j + 1) (by omega)
    refine A_iload5 dX8_greatestBeside_7 ?_
    refine A_iload3 dX8_greatestBeside_9 ?_
    refine A_icmp_gt (tgt := 39) dX8_greatestBeside_10 (by decide) (fun c_10 => absurd c_10 (fun z => nI_nlt (by omega) (by omega) z)) (fun c_10 => ?_)
    refine A_iload5 dX8_greatestBeside_13 ?_
    refine A_iload1 dX8_greatestBeside_15 ?_
    refine A_icmp_eq (tgt := 33) dX8_greatestBeside_16 (by decide) (fun c_16 => ?_) (fun c_16 => ?_)
    · refine A_iinc5 dX8_greatestBeside_33 rfl rfl (by decide) ?_
      refine A_goto (tgt := 7) dX8_greatestBeside_36 (by decide) ?_
      rw [show nI (f + j) + Int32.ofInt 1 = nI (f + (j + 1)) from nI_1 _]
      rw [show gB σ k b f e (j + 1) = _ from if_pos ((nI_eq (by omega) (by omega)).mp c_16)] at hh
      exact hh
    · refine A_iload4 dX8_greatestBeside_19 ?_
      refine A_aload0 dX8_greatestBeside_21 ?_
      refine A_getR gf_X8_27 rfl dX8_greatestBeside_22 ?_
      refine A_iload5 dX8_greatestBeside_25 ?_
      refine A_iald (rfl) (vp_in_nI (n := f + j) (by omega) (by omega)) dX8_greatestBeside_27 ?_
      refine A_val (y := (rgt σ k b (f + j)).2) (by rw [nI_c (by omega)]; exact hj.2) ?_
      refine A_si2 lk_X8_120 ys_J9_max_7cf53 dX8_greatestBeside_28 (T_max) (by decide) (Nat.le_of_ble_eq_true rfl) (fun r_28 μ_28 h_28 => ?_)
      obtain ⟨v_28, e_28⟩ := h_28
      replace v_28 := Eq.symm v_28
      subst v_28
      replace e_28 := e_28.symm
      subst e_28
      refine A_istore4 dX8_greatestBeside_31 rfl (by decide) ?_
      refine A_iinc5 dX8_greatestBeside_33 rfl rfl (by decide) ?_
      refine A_goto (tgt := 7) dX8_greatestBeside_36 (by decide) ?_
      rw [show nI (f + j) + Int32.ofInt 1 = nI (f + (j + 1)) from nI_1 _]
      rw [show gB σ k b f e (j + 1) = _ from if_neg (fun z => c_16 (by rw [z]))] at hh
      exact hh
set_option maxHeartbeats 100000 in
set_option maxRecDepth 100000 in
theorem T_X8_gb {l : Launch} {G : Wd} {k : Int32} {b f t e : Nat} {σ μ : Mem} (hft : f ≤ t) (ht : t < 60) (he : e < 60) (hS : SpD σ k b f (t + 1) μ) : Mt l G KC yX8_greatestBeside cX8_greatestBeside 6 (some .int) 2 [.ref (gA G 73), .int (nI e), .int (nI f), .int (nI t)] μ (Qi (fun v μ' => v = gB σ k b f e (t + 1 - f) ∧ μ' = μ)) := by
  refine Mt.of (own := RX8) (n := 2) (by decide) rfl [some (.ref (gA G 73)), some (.int (nI e)), some (.int (nI f)), some (.int (nI t)), none, none] rfl (Nat.le_of_ble_eq_true rfl) ?_
  refine A_ldc dX8_greatestBeside_0 kc_X8_30 ?_
  refine A_istore4 dX8_greatestBeside_2 rfl (by decide) ?_
  refine A_iload2 dX8_greatestBeside_4 ?_
  refine A_istore5 dX8_greatestBeside_5 rfl (by decide) ?_
  exact L_X8_gb_7 (e := e) hft ht he hS (t + 1 - f) 0 (by omega)
set_option maxHeartbeats 400000 in
set_option maxRecDepth 100000 in
theorem L_X8_surest_48 {l : Launch} {G : Wd} {k : Int32} {n b f t : Nat} {σ m : Mem} (hft : f ≤ t) (ht : t < 60) (hC : Ca σ k n m) (hS : SpD σ k b f (t + 1) m) : ∀ (q e : Nat) (x5 : Option Value), q + e = t + 1 → f ≤ e → srS σ k b f t q e = srS σ k b f t (t + 1 - f) f → AW l G KC RX8 cX8_surest 6 7 (some .int) (Qi (fun v μ' => v = srS σ k b f t (t + 1 - f) f ∧ Ca σ k n μ')) 48 [some (.ref (gA G 73)), some (.int (nI b)), some (.int (nI f)), some (.int (nI t)), some (.int (nI e)), x5] [] m := by
  intro q
  induction q with
  | zero =>
    intro e x5 hq hf he
    have he2 : -1 = srS σ k b f t (t + 1 - f) f := he
    refine A_iload4 dX8_surest_48 ?_
    refine A_iload3 dX8_surest_50 ?_
    refine A_icmp_gt (tgt := 104) dX8_surest_51 (by decide) (fun c_51 => ?_) (fun c_51 => absurd c_51 (fun z => z (nI_lt (by omega) (by omega))))
    refine A_iconst (v := -1) dX8_surest_104 (by decide) ?_
    refine A_iret dX8_surest_105 ?_
    exact ⟨_, rfl, he2, hC⟩
  | succ q ih =>
    intro e x5 hq hf he
    have hj := hS e (by omega) (by omega)
    have se := sur_e (σ := σ) (k := k) (b := b) (f := f) (e := e) (m := t + 1 - f)
    refine A_iload4 dX8_surest_48 ?_
    refine A_iload3 dX8_surest_50 ?_
    refine A_icmp_gt (tgt := 104) dX8_surest_51 (by decide) (fun c_51 => absurd c_51 (fun z => nI_nlt (by omega) (by omega) z)) (fun c_51 => ?_)
    refine A_aload0 dX8_surest_54 ?_
    refine A_iload4 dX8_surest_55 ?_
    refine A_iload2 dX8_surest_57 ?_
    refine A_iload3 dX8_surest_58 ?_
    refine A_vi3 lk_X8_136 yv_X8_greatestBeside dX8_surest_59 (rfl) (rfl) (T_X8_gb hft ht (by omega) hS) (by decide) (Nat.le_of_ble_eq_true rfl) (fun r_59 μ_59 h_59 => ?_)
    obtain ⟨v_59, e_59⟩ := h_59
    replace v_59 := Eq.symm v_59
    subst v_59
    replace e_59 := e_59.symm
    subst e_59
    refine A_istore5 dX8_surest_62 rfl (by decide) ?_
    refine A_aload0 dX8_surest_64 ?_
    refine A_getR gf_X8_23 rfl dX8_surest_65 ?_
    refine A_iload4 dX8_surest_68 ?_
    refine A_iald (rfl) (vp_in_nI (by omega) (by omega)) dX8_surest_70 ?_
    refine A_val (y := (rgt σ k b e).1) (by rw [nI_c (by omega)]; exact hj.1) ?_
    refine A_ldc dX8_surest_71 kc_X8_30 ?_
    refine A_icmp_eq (tgt := 98) dX8_surest_73 (by decide) (fun c_73 => ?_) (fun c_73 => ?_)
    · refine A_iinc4 dX8_surest_98 rfl rfl (by decide) ?_
      refine A_goto (tgt := 48) dX8_surest_101 (by decide) ?_
      rw [show nI e + Int32.ofInt 1 = nI (e + 1) from nI_1 e]
      rw [srS, if_neg (fun z => (se.mp z).1 c_73)] at he
      exact ih (e + 1) _ (by omega) (by omega) he
    · refine A_iload5 dX8_surest_76 ?_
      refine A_ldc dX8_surest_78 kc_X8_30 ?_
      refine A_icmp_eq (tgt := 98) dX8_surest_80 (by decide) (fun c_80 => ?_) (fun c_80 => ?_)
      · refine A_iinc4 dX8_surest_98 rfl rfl (by decide) ?_
        refine A_goto (tgt := 48) dX8_surest_101 (by decide) ?_
        rw [show nI e + Int32.ofInt 1 = nI (e + 1) from nI_1 e]
        rw [srS, if_neg (fun z => (se.mp z).2.1 c_80)] at he
        exact ih (e + 1) _ (by omega) (by omega) he
      · refine A_aload0 dX8_surest_83 ?_
        refine A_getR gf_X8_23 rfl dX8_surest_84 ?_
        refine A_iload4 dX8_surest_87 ?_
        refine A_iald (rfl) (vp_in_nI (by omega) (by omega)) dX8_surest_89 ?_
        refine A_val (y := (rgt σ k b e).1) (by rw [nI_c (by omega)]; exact hj.1) ?_
        refine A_iload5 dX8_surest_90 ?_
        refine A_icmp_lt (tgt := 98) dX8_surest_92 (by decide) (fun c_92 => ?_) (fun c_92 => ?_)
        · refine A_iinc4 dX8_surest_98 rfl rfl (by decide) ?_
          refine A_goto (tgt := 48) dX8_surest_101 (by decide) ?_
          rw [show nI e + Int32.ofInt 1 = nI (e + 1) from nI_1 e]
          rw [srS, if_neg (fun z => absurd (se.mp z).2.2 (Int32.not_le.mpr c_92))] at he
          exact ih (e + 1) _ (by omega) (by omega) he
        · refine A_iload4 dX8_surest_95 ?_
          refine A_iret dX8_surest_97 ?_
          rw [srS, if_pos (se.mpr ⟨c_73, c_80, Int32.not_lt.mp c_92⟩)] at he
          exact ⟨_, rfl, he, hC⟩
set_option maxHeartbeats 400000 in
set_option maxRecDepth 100000 in
theorem L_X8_surest_3 {l : Launch} {G : Wd} {k : Int32} {n b f t : Nat} {σ : Mem} (hG : okZ G) (hw : WFw σ) (hbn : b < nbx σ) (hb : b < 5) (hft : f ≤ t) (ht : t < 60) {x5 : Option Value} : ∀ (q e : Nat) (m : Mem), q + e = t + 1 → f ≤ e → Ca σ k n m → SpD σ k b f e m → AW l G KC RX8 cX8_surest 6 7 (some .int) (Qi (fun v μ' => v = srS σ k b f t (t + 1 - f) f ∧ Ca σ k n μ')) 3 [some (.ref (gA G 73)), some (.int (nI b)), some (.int (nI f)), some (.int (nI t)), some (.int (nI e)), x5] [] m := by
  intro q
  induction q with
  | zero =>
    intro e m hq hf hC hS
    obtain rfl : e = t + 1 := by omega
    refine A_iload4 dX8_surest_3 ?_
    refine A_iload3 dX8_surest_5 ?_
    refine A_icmp_gt (tgt := 45) dX8_surest_6 (by decide) (fun c_6 => ?_) (fun c_6 => absurd c_6 (fun z => z (nI_lt (by omega) (by omega))))
    refine A_iload2 dX8_surest_45 ?_
    refine A_istore4 dX8_surest_46 rfl (by decide) ?_
    exact L_X8_surest_48 hft ht hC hS (t + 1 - f) f _ (by omega) (by omega) rfl
  | succ q ih =>
    intro e m hq hf hC hS
    refine A_iload4 dX8_surest_3 ?_
    refine A_iload3 dX8_surest_5 ?_
    refine A_icmp_gt (tgt := 45) dX8_surest_6 (by decide) (fun c_6 => absurd c_6 (fun z => nI_nlt (by omega) (by omega) z)) (fun c_6 => ?_)
    refine A_aload0 dX8_surest_9 ?_
    refine A_iload1 dX8_surest_10 ?_
    refine A_iload4 dX8_surest_11 ?_
    refine A_vi2 lk_X8_132 yv_X8_find dX8_surest_13 (rfl) (rfl) (T_X8_find hG hw hbn hb (by omega) hC) (by decide) (Nat.le_of_ble_eq_true rfl) (fun r_13 μ_13 h_13 => ?_)
    obtain ⟨-, hC2, hS2, hF2⟩ := h_13
    refine A_pop dX8_surest_16 rfl ?_
    refine A_aload0 dX8_surest_17 ?_
    refine A_getR gf_X8_23 rfl dX8_surest_18 ?_
    refine A_iload4 dX8_surest_21 ?_
    refine A_aload0 dX8_surest_23 ?_
    refine A_getI gf_X8_31 rfl dX8_surest_24 ?_
    refine A_val (y := (rgt σ k b e).1) hS2.1 ?_
    refine A_iast (rfl) (vp_in_nI (by omega) (by omega)) dX8_surest_27 ?_
    rw [nI_c (by omega)]
    refine A_aload0 dX8_surest_28 ?_
    refine A_getR gf_X8_27 rfl dX8_surest_29 ?_
    refine A_iload4 dX8_surest_32 ?_
    refine A_aload0 dX8_surest_34 ?_
    refine A_getI gf_X8_35 rfl dX8_surest_35 ?_
    refine A_val (y := (rgt σ k b e).2) ((wI_ne (by omega)).trans hS2.2.1) ?_
    refine A_iast (rfl) (vp_in_nI (by omega) (by omega)) dX8_surest_38 ?_
    rw [nI_c (by omega)]
    refine A_iinc4 dX8_surest_39 rfl rfl (by decide) ?_
    refine A_goto (tgt := 3) dX8_surest_42 (by decide) ?_
    rw [show nI e + Int32.ofInt 1 = nI (e + 1) from nI_1 e]
    refine ih (e + 1) _ (by omega) (by omega) (hC2.sf ((Sf.rf.w (by decide)).w (by decide))) (fun x h1 h2 => ?_)
    by_cases ex : x = e
    · subst ex; exact ⟨(wI_ne (by omega)).trans wI_same, wI_same⟩
    · obtain ⟨a1, a2⟩ := hS x h1 (by omega)
      exact ⟨((wI_ne (by omega)).trans (wI_ne (by omega))).trans ((hF2 74 x (by omega) (by omega)).trans a1), ((wI_ne (by omega)).trans (wI_ne (by omega))).trans ((hF2 75 x (by omega) (by omega)).trans a2)⟩
set_option maxHeartbeats 100000 in
set_option maxRecDepth 100000 in
theorem T_X8_surest {l : Launch} {G : Wd} {k : Int32} {n b f t : Nat} {σ M : Mem} (hG : okZ G) (hw : WFw σ) (hbn : b < nbx σ) (hb : b < 5) (hft : f ≤ t) (ht : t < 60) (hC : Ca σ k n M) : Mt l G KC yX8_surest cX8_surest 6 (some .int) 7 [.ref (gA G 73), .int (nI b), .int (nI f), .int (nI t)] M (Qi (fun v μ' => v = srS σ k b f t (t + 1 - f) f ∧ Ca σ k n μ')) := by
  refine Mt.of (own := RX8) (n := 2) (by decide) rfl [some (.ref (gA G 73)), some (.int (nI b)), some (.int (nI f)), some (.int (nI t)), none, none] rfl (Nat.le_of_ble_eq_true rfl) ?_
  refine A_iload2 dX8_surest_0 ?_
  refine A_istore4 dX8_surest_1 rfl (by decide) ?_
  exact L_X8_surest_3 hG hw hbn hb hft ht (t + 1 - f) f M (by omega) (by omega) hC (fun x h1 h2 => by omega)
set_option maxHeartbeats 100000 in
set_option maxRecDepth 100000 in
theorem C_sure {l : Launch} {G : Wd} {b f t : Int32} {k : Int32} {n : Nat} {σ μ : Mem} (hG : okZ G) (hw : WFw σ) (hR : Rc σ n μ) (hn : n + 1 ≤ 600) : Mt l G KC yX11_sure cX11_sure 5 (some .int) 9 [.ref (gA G 0), .int b, .int f, .int t, .int k] μ (Qi (fun v μ' => v = sp_sure σ b f t k ∧ Rc σ (n + 1) μ')) := by
  refine Mt.of (own := RX11) (n := 0) (by decide) rfl [some (.ref (gA G 0)), some (.int b), some (.int f), some (.int t), some (.int k)] rfl (Nat.le_of_ble_eq_true rfl) ?_
  refine A_aload0 dX11_sure_0 ?_
  refine A_iload1 dX11_sure_1 ?_
  refine A_iload2 dX11_sure_2 ?_
  refine A_iload3 dX11_sure_3 ?_
  refine A_vi3 lk_X11_259 yv_X11_isRange dX11_sure_4 (rfl) (rfl) (T_X11_isRange) (by decide) (Nat.le_of_ble_eq_true rfl) (fun r_4 μ_4 h_4 => ?_)
  obtain ⟨v_4, e_4⟩ := h_4
  replace v_4 := Eq.symm v_4
  subst v_4
  replace e_4 := e_4.symm
  subst e_4
  refine A_if_ne (tgt := 12) dX11_sure_7 (by decide) (fun c_7 => ?_) (fun c_7 => ?_)
  · have hz := bz_y c_7
    have hp : isRg σ b f t := ⟨(bc_bx hR.1 b).mp hz.1, hz.2.1, hz.2.2.1, Int32.not_lt.mpr hz.2.2.2⟩
    obtain ⟨x, y, z, rfl, rfl, rfl, hb, hyz, hz6, hok, ex, ey, ez⟩ := i_rg hR.2.1.1.2.2 hp
    have hbn : x < nbx σ := (i_bn hR.2.1.1.2.2 hp.1 ex)
    refine A_aload0 dX11_sure_12 ?_
    refine A_getR gf_X11_76 rfl dX11_sure_13 ?_
    refine A_iload4 dX11_sure_16 ?_
    refine A_vv1 lk_X11_201 yv_X4_at dX11_sure_18 (rfl) (rfl) (T_at hR) (by decide) (Nat.le_of_ble_eq_true rfl) (fun μ_18 h_18 => ?_)
    have hC := hR.at h_18
    refine A_aload0 dX11_sure_21 ?_
    refine A_getR gf_X11_94 rfl dX11_sure_22 ?_
    refine A_iload1 dX11_sure_25 ?_
    refine A_iload2 dX11_sure_26 ?_
    refine A_iload3 dX11_sure_27 ?_
    refine A_vi3 lk_X11_262 yv_X8_surest dX11_sure_28 (rfl) (rfl) (T_X8_surest hG hw hbn hb hyz hz6 hC) (by decide) (Nat.le_of_ble_eq_true rfl) (fun r_28 μ_28 h_28 => ?_)
    obtain ⟨v_28, hC2⟩ := h_28
    refine A_iret dX11_sure_31 ?_
    refine ⟨_, rfl, ?_, hC2.rc hR.2.1 hn⟩
    unfold sp_sure
    rw [if_pos hp, ex, ey, ez, v_28]
  · refine A_iconst (v := -1) dX11_sure_10 (by decide) ?_
    refine A_iret dX11_sure_11 ?_
    refine ⟨_, rfl, ?_, hR.up hn⟩
    unfold sp_sure
    rw [if_neg (fun z => bz_0.mp c_7 ⟨(bc_bx hR.1 b).mpr z.1, z.2.1, z.2.2.1, Int32.not_lt.mp z.2.2.2⟩)]
/-! which box lies beside two others -/
def hgC (σ : Mem) (k q : Int32) (d b : Nat) : Int32 := if σ.1 7 b = q then (rgt σ k b d).2 else -100000
def LsD (σ : Mem) (k q : Int32) (d n : Nat) (μ : Mem) : Prop := ∀ b, b < n → μ.1 74 b = lwq σ k q d b ∧ μ.1 75 b = hgC σ k q d b
abbrev apS (σ : Mem) (k q : Int32) (d a b : Nat) : Prop := ¬ lwq σ k q d a = -100000 ∧ ¬ lwq σ k q d b = -100000 ∧ (hgC σ k q d a < lwq σ k q d b ∨ hgC σ k q d b < lwq σ k q d a)
abbrev besP (σ : Mem) (k q : Int32) (d b x y : Nat) : Prop := apS σ k q d b x ∧ apS σ k q d b y ∧ ¬ apS σ k q d x y
theorem lw_hg {σ : Mem} {k q : Int32} {d b : Nat} (h : ¬ lwq σ k q d b = -100000) : hgC σ k q d b = hgq σ k d b ∧ (lwq σ k q d b).toInt ≤ (hgq σ k d b).toInt := by
  have e := lwq_k h
  have e2 : lwq σ k q d b = (rgt σ k b d).1 := if_pos e
  refine ⟨if_pos e, ?_⟩
  rw [e2] at h ⊢
  rw [g_e] at h
  show _ ≤ (rgt σ k b d).2.toInt
  rcases rgt_ok σ k b d with z | z <;> omega
theorem ap_mt {σ : Mem} {k q : Int32} {d a b : Nat} (h1 : ¬ lwq σ k q d a = -100000) (h2 : ¬ lwq σ k q d b = -100000) : apS σ k q d a b ↔ ¬ mtS σ k q d a b := by
  obtain ⟨a1, a2⟩ := lw_hg h1
  obtain ⟨b1, b2⟩ := lw_hg h2
  show (_ ∧ _ ∧ _) ↔ ¬ (_ ∧ _)
  rw [a1, b1, i_lt, i_lt, i_le, i_le]
  constructor
  · rintro ⟨-, -, z⟩; omega
  · intro z; exact ⟨h1, h2, by omega⟩
theorem bes_lie {σ : Mem} {k q : Int32} {d b x y : Nat} (h : ¬ lwq σ k q d b = -100000) : besP σ k q d b x y ↔ lieP σ k q d b x y := by
  obtain ⟨a1, a2⟩ := lw_hg h
  have hbb : mtS σ k q d b b := ⟨i_le.mpr a2, i_le.mpr a2⟩
  constructor
  · rintro ⟨p1, p2, p3⟩
    have m1 := (ap_mt h p1.2.1).mp p1
    have m2 := (ap_mt h p2.2.1).mp p2
    refine ⟨fun z => ?_, fun z => ?_, p1.2.1, p2.2.1, Classical.not_not.mp (fun z => p3 ((ap_mt p1.2.1 p2.2.1).mpr z)), m1, m2⟩
    · rw [z] at m1; exact m1 hbb
    · rw [z] at m2; exact m2 hbb
  · rintro ⟨-, -, x1, y1, z1, z2, z3⟩
    exact ⟨(ap_mt h x1).mpr z2, (ap_mt h y1).mpr z3, fun z => (ap_mt x1 y1).mp z z1⟩
theorem anyU_c {p r : Nat → Bool} : ∀ n a, (∀ x, a ≤ x → x < a + n → p x = r x) → anyU p n a = anyU r n a := by
  intro n
  induction n with
  | zero => intro a _; rfl
  | succ n ih => intro a h; rw [anyU, anyU, h a (by omega) (by omega), ih (a + 1) (fun x h1 h2 => h x (by omega) (by omega))]
def besY (σ : Mem) (k q : Int32) (d b x : Nat) : Bool := anyU (fun y => decide (besP σ k q d b x y)) (nbx σ - (x + 1)) (x + 1)
theorem lieX_e {σ : Mem} {k q : Int32} {d b : Nat} : lieX σ k q d b = true ↔ ¬ lwq σ k q d b = -100000 ∧ anyU (besY σ k q d b) (nbx σ) 0 = true := by
  unfold lieX
  rw [Bool.and_eq_true, Bool.not_eq_true', decide_eq_false_iff_not]
  refine and_congr_right (fun h => ?_)
  rw [anyU_c (p := lieY σ k q d b) (r := besY σ k q d b)]
  intro x _ _
  unfold lieY besY
  exact anyU_c _ _ (fun y _ _ => by rw [decide_eq_decide]; exact (bes_lie h).symm)
set_option maxHeartbeats 100000 in
set_option maxRecDepth 100000 in
theorem T_X8_isApart {l : Launch} {G : Wd} {k q : Int32} {d n a b : Nat} {σ μ : Mem} (ha : a < n) (hb : b < n) (hn : n ≤ 5) (hL : LsD σ k q d n μ) : Mt l G KC yX8_isApart cX8_isApart 4 (some .boolean) 1 [.ref (gA G 73), .int (nI a), .int (nI b)] μ (Qi (fun v μ' => v = bz (apS σ k q d a b) ∧ μ' = μ)) := by
  refine Mt.of (own := RX8) (n := 1) (by decide) rfl [some (.ref (gA G 73)), some (.int (nI a)), some (.int (nI b)), none] rfl (Nat.le_of_ble_eq_true rfl) ?_
  refine A_aload0 dX8_isApart_0 ?_
  refine A_getR gf_X8_23 rfl dX8_isApart_1 ?_
  refine A_iload1 dX8_isApart_4 ?_
  refine A_iald (rfl) (vp_in_nI (by omega) (by omega)) dX8_isApart_5 ?_
  refine A_val (y := lwq σ k q d a) (by rw [nI_c (by omega)]; exact (hL a (by omega)).1) ?_
  refine A_ldc dX8_isApart_6 kc_X8_30 ?_
  refine A_icmp_eq (tgt := 26) dX8_isApart_8 (by decide) (fun c_8 => ?_) (fun c_8 => ?_)
  · refine A_iconst (v := 0) dX8_isApart_26 (by decide) ?_
    refine A_istore3 dX8_isApart_27 rfl (by decide) ?_
    refine A_iload3 dX8_isApart_28 ?_
    refine A_if_eq (tgt := 66) dX8_isApart_29 (by decide) (fun c_29 => ?_) (fun c_29 => absurd c_29 (fun z => z rfl))
    refine A_iconst (v := 0) dX8_isApart_66 (by decide) ?_
    refine A_zret dX8_isApart_67 (by decide) ?_
    exact ⟨_, rfl, (bz_f (fun z => z.1 c_8)).symm, rfl⟩
  · refine A_aload0 dX8_isApart_11 ?_
    refine A_getR gf_X8_23 rfl dX8_isApart_12 ?_
    refine A_iload2 dX8_isApart_15 ?_
    refine A_iald (rfl) (vp_in_nI (by omega) (by omega)) dX8_isApart_16 ?_
    refine A_val (y := lwq σ k q d b) (by rw [nI_c (by omega)]; exact (hL b (by omega)).1) ?_
    refine A_ldc dX8_isApart_17 kc_X8_30 ?_
    refine A_icmp_eq (tgt := 26) dX8_isApart_19 (by decide) (fun c_19 => ?_) (fun c_19 => ?_)
    · refine A_iconst (v := 0) dX8_isApart_26 (by decide) ?_
      refine A_istore3 dX8_isApart_27 rfl (by decide) ?_
      refine A_iload3 dX8_isApart_28 ?_
      refine A_if_eq (tgt := 66) dX8_isApart_29 (by decide) (fun c_29 => ?_) (fun c_29 => absurd c_29 (fun z => z rfl))
      refine A_iconst (v := 0) dX8_isApart_66 (by decide) ?_
      refine A_zret dX8_isApart_67 (by decide) ?_
      exact ⟨_, rfl, (bz_f (fun z => z.2.1 c_19)).symm, rfl⟩
    · refine A_iconst (v := 1) dX8_isApart_22 (by decide) ?_
      refine A_goto (tgt := 27) dX8_isApart_23 (by decide) ?_
      refine A_istore3 dX8_isApart_27 rfl (by decide) ?_
      refine A_iload3 dX8_isApart_28 ?_
      refine A_if_eq (tgt := 66) dX8_isApart_29 (by decide) (fun c_29 => absurd c_29 (fun z => absurd z (by decide))) (fun c_29 => ?_)
      refine A_aload0 dX8_isApart_32 ?_
      refine A_getR gf_X8_27 rfl dX8_isApart_33 ?_
      refine A_iload1 dX8_isApart_36 ?_
      refine A_iald (rfl) (vp_in_nI (by omega) (by omega)) dX8_isApart_37 ?_
      refine A_val (y := hgC σ k q d a) (by rw [nI_c (by omega)]; exact (hL a (by omega)).2) ?_
      refine A_aload0 dX8_isApart_38 ?_
      refine A_getR gf_X8_23 rfl dX8_isApart_39 ?_
      refine A_iload2 dX8_isApart_42 ?_
      refine A_iald (rfl) (vp_in_nI (by omega) (by omega)) dX8_isApart_43 ?_
      refine A_val (y := lwq σ k q d b) (by rw [nI_c (by omega)]; exact (hL b (by omega)).1) ?_
      refine A_icmp_lt (tgt := 62) dX8_isApart_44 (by decide) (fun c_44 => ?_) (fun c_44 => ?_)
      · refine A_iconst (v := 1) dX8_isApart_62 (by decide) ?_
        refine A_goto (tgt := 67) dX8_isApart_63 (by decide) ?_
        refine A_zret dX8_isApart_67 (by decide) ?_
        exact ⟨_, rfl, (bz_t ⟨c_8, c_19, Or.inl c_44⟩).symm, rfl⟩
      · refine A_aload0 dX8_isApart_47 ?_
        refine A_getR gf_X8_27 rfl dX8_isApart_48 ?_
        refine A_iload2 dX8_isApart_51 ?_
        refine A_iald (rfl) (vp_in_nI (by omega) (by omega)) dX8_isApart_52 ?_
        refine A_val (y := hgC σ k q d b) (by rw [nI_c (by omega)]; exact (hL b (by omega)).2) ?_
        refine A_aload0 dX8_isApart_53 ?_
        refine A_getR gf_X8_23 rfl dX8_isApart_54 ?_
        refine A_iload1 dX8_isApart_57 ?_
        refine A_iald (rfl) (vp_in_nI (by omega) (by omega)) dX8_isApart_58 ?_
        refine A_val (y := lwq σ k q d a) (by rw [nI_c (by omega)]; exact (hL a (by omega)).1) ?_
        refine A_icmp_ge (tgt := 66) dX8_isApart_59 (by decide) (fun c_59 => ?_) (fun c_59 => ?_)
        · refine A_iconst (v := 0) dX8_isApart_66 (by decide) ?_
          refine A_zret dX8_isApart_67 (by decide) ?_
          exact ⟨_, rfl, (bz_f (fun z => z.2.2.elim c_44 (Int32.not_lt.mpr c_59))).symm, rfl⟩
        · refine A_iconst (v := 1) dX8_isApart_62 (by decide) ?_
          refine A_goto (tgt := 67) dX8_isApart_63 (by decide) ?_
          refine A_zret dX8_isApart_67 (by decide) ?_
          exact ⟨_, rfl, (bz_t ⟨c_8, c_19, Or.inr (Int32.not_le.mp c_59)⟩).symm, rfl⟩
set_option maxHeartbeats 400000 in
set_option maxRecDepth 100000 in
theorem L_X8_bes_17 {l : Launch} {G : Wd} {k q : Int32} {d b x : Nat} {σ μ : Mem} (hW : Wk σ k μ) (hb : b < nbx σ) (hL : LsD σ k q d (nbx σ) μ) (hx : x < nbx σ) (hy : besY σ k q d b x = true → anyU (besY σ k q d b) (nbx σ) 0 = true) (hk : ∀ x3 : Option Value, besY σ k q d b x = false → AW l G KC RX8 cX8_isBesideTwo 4 2 (some .boolean) (Qi (fun v μ' => v = bz (anyU (besY σ k q d b) (nbx σ) 0 = true) ∧ μ' = μ)) 63 [some (.ref (gA G 73)), some (.int (nI b)), some (.int (nI x)), x3] [] μ) : ∀ (p y : Nat), p + y = nbx σ → x < y → anyU (fun y => decide (besP σ k q d b x y)) p y = besY σ k q d b x → AW l G KC RX8 cX8_isBesideTwo 4 2 (some .boolean) (Qi (fun v μ' => v = bz (anyU (besY σ k q d b) (nbx σ) 0 = true) ∧ μ' = μ)) 17 [some (.ref (gA G 73)), some (.int (nI b)), some (.int (nI x)), some (.int (nI y))] [] μ := by
  have h5 := hW.2.2.2.2.1.t.1
  have e0 := hW.no
  intro p
  induction p with
  | zero =>
    intro y hp hxy he
    obtain rfl : y = nbx σ := by omega
    have he2 : false = besY σ k q d b x := he
    refine A_iload3 dX8_isBesideTwo_17 ?_
    refine A_aload0 dX8_isBesideTwo_18 ?_
    refine A_getR gf_X8_19 rfl dX8_isBesideTwo_19 ?_
    refine A_getI gf_X8_140 rfl dX8_isBesideTwo_22 ?_
    rw [e0]
    refine A_icmp_ge (tgt := 63) dX8_isBesideTwo_25 (by decide) (fun c_25 => ?_) (fun c_25 => absurd c_25 (fun z => z (Int32.le_refl _)))
    exact hk _ he2.symm
  | succ p ih =>
    intro y hp hxy he
    rw [anyU] at he
    refine A_iload3 dX8_isBesideTwo_17 ?_
    refine A_aload0 dX8_isBesideTwo_18 ?_
    refine A_getR gf_X8_19 rfl dX8_isBesideTwo_19 ?_
    refine A_getI gf_X8_140 rfl dX8_isBesideTwo_22 ?_
    rw [e0]
    refine A_icmp_ge (tgt := 63) dX8_isBesideTwo_25 (by decide) (fun c_25 => absurd c_25 (fun z => nI_ge (by omega) (by omega) z)) (fun c_25 => ?_)
    refine A_aload0 dX8_isBesideTwo_28 ?_
    refine A_iload1 dX8_isBesideTwo_29 ?_
    refine A_iload2 dX8_isBesideTwo_30 ?_
    refine A_vi2 lk_X8_146 yv_X8_isApart dX8_isBesideTwo_31 (rfl) (rfl) (T_X8_isApart (n := nbx σ) (q := q) (d := d) (by omega) (by omega) h5 hL) (by decide) (Nat.le_of_ble_eq_true rfl) (fun r_31 μ_31 h_31 => ?_)
    obtain ⟨v_31, e_31⟩ := h_31
    replace v_31 := Eq.symm v_31
    subst v_31
    replace e_31 := e_31.symm
    subst e_31
    refine A_if_eq (tgt := 57) dX8_isBesideTwo_34 (by decide) (fun c_34 => ?_) (fun c_34 => ?_)
    · refine A_iinc3 dX8_isBesideTwo_57 rfl rfl (by decide) ?_
      refine A_goto (tgt := 17) dX8_isBesideTwo_60 (by decide) ?_
      rw [show nI y + Int32.ofInt 1 = nI (y + 1) from nI_1 y]
      rw [decide_eq_false (fun z => bz_0.mp c_34 z.1), Bool.false_or] at he
      exact ih (y + 1) (by omega) (by omega) he
    · refine A_aload0 dX8_isBesideTwo_37 ?_
      refine A_iload1 dX8_isBesideTwo_38 ?_
      refine A_iload3 dX8_isBesideTwo_39 ?_
      refine A_vi2 lk_X8_146 yv_X8_isApart dX8_isBesideTwo_40 (rfl) (rfl) (T_X8_isApart (n := nbx σ) (q := q) (d := d) (by omega) (by omega) h5 hL) (by decide) (Nat.le_of_ble_eq_true rfl) (fun r_40 μ_40 h_40 => ?_)
      obtain ⟨v_40, e_40⟩ := h_40
      replace v_40 := Eq.symm v_40
      subst v_40
      replace e_40 := e_40.symm
      subst e_40
      refine A_if_eq (tgt := 57) dX8_isBesideTwo_43 (by decide) (fun c_43 => ?_) (fun c_43 => ?_)
      · refine A_iinc3 dX8_isBesideTwo_57 rfl rfl (by decide) ?_
        refine A_goto (tgt := 17) dX8_isBesideTwo_60 (by decide) ?_
        rw [show nI y + Int32.ofInt 1 = nI (y + 1) from nI_1 y]
        rw [decide_eq_false (fun z => bz_0.mp c_43 z.2.1), Bool.false_or] at he
        exact ih (y + 1) (by omega) (by omega) he
      · refine A_aload0 dX8_isBesideTwo_46 ?_
        refine A_iload2 dX8_isBesideTwo_47 ?_
        refine A_iload3 dX8_isBesideTwo_48 ?_
        refine A_vi2 lk_X8_146 yv_X8_isApart dX8_isBesideTwo_49 (rfl) (rfl) (T_X8_isApart (n := nbx σ) (q := q) (d := d) (by omega) (by omega) h5 hL) (by decide) (Nat.le_of_ble_eq_true rfl) (fun r_49 μ_49 h_49 => ?_)
        obtain ⟨v_49, e_49⟩ := h_49
        replace v_49 := Eq.symm v_49
        subst v_49
        replace e_49 := e_49.symm
        subst e_49
        refine A_if_ne (tgt := 57) dX8_isBesideTwo_52 (by decide) (fun c_52 => ?_) (fun c_52 => ?_)
        · refine A_iinc3 dX8_isBesideTwo_57 rfl rfl (by decide) ?_
          refine A_goto (tgt := 17) dX8_isBesideTwo_60 (by decide) ?_
          rw [show nI y + Int32.ofInt 1 = nI (y + 1) from nI_1 y]
          rw [decide_eq_false (fun z => z.2.2 (bz_y c_52)), Bool.false_or] at he
          exact ih (y + 1) (by omega) (by omega) he
        · refine A_iconst (v := 1) dX8_isBesideTwo_55 (by decide) ?_
          refine A_zret dX8_isBesideTwo_56 (by decide) ?_
          rw [decide_eq_true (⟨bz_y c_34, bz_y c_43, bz_0.mp c_52⟩ : besP σ k q d b x y), Bool.true_or] at he
          exact ⟨_, rfl, (bz_t (hy he.symm)).symm, rfl⟩
set_option maxHeartbeats 400000 in
set_option maxRecDepth 100000 in
theorem L_X8_bes_2 {l : Launch} {G : Wd} {k q : Int32} {d b : Nat} {σ μ : Mem} (hW : Wk σ k μ) (hb : b < nbx σ) (hL : LsD σ k q d (nbx σ) μ) : ∀ (p x : Nat) (x3 : Option Value), p + x = nbx σ → anyU (besY σ k q d b) p x = anyU (besY σ k q d b) (nbx σ) 0 → AW l G KC RX8 cX8_isBesideTwo 4 2 (some .boolean) (Qi (fun v μ' => v = bz (anyU (besY σ k q d b) (nbx σ) 0 = true) ∧ μ' = μ)) 2 [some (.ref (gA G 73)), some (.int (nI b)), some (.int (nI x)), x3] [] μ := by
  have h5 := hW.2.2.2.2.1.t.1
  have e0 := hW.no
  intro p
  induction p with
  | zero =>
    intro x x3 hp he
    obtain rfl : x = nbx σ := by omega
    have he2 : false = anyU (besY σ k q d b) (nbx σ) 0 := he
    refine A_iload2 dX8_isBesideTwo_2 ?_
    refine A_aload0 dX8_isBesideTwo_3 ?_
    refine A_getR gf_X8_19 rfl dX8_isBesideTwo_4 ?_
    refine A_getI gf_X8_140 rfl dX8_isBesideTwo_7 ?_
    rw [e0]
    refine A_icmp_ge (tgt := 69) dX8_isBesideTwo_10 (by decide) (fun c_10 => ?_) (fun c_10 => absurd c_10 (fun z => z (Int32.le_refl _)))
    refine A_iconst (v := 0) dX8_isBesideTwo_69 (by decide) ?_
    refine A_zret dX8_isBesideTwo_70 (by decide) ?_
    exact ⟨_, rfl, (bz_f (by rw [← he2]; decide)).symm, rfl⟩
  | succ p ih =>
    intro x x3 hp he
    rw [anyU] at he
    refine A_iload2 dX8_isBesideTwo_2 ?_
    refine A_aload0 dX8_isBesideTwo_3 ?_
    refine A_getR gf_X8_19 rfl dX8_isBesideTwo_4 ?_
    refine A_getI gf_X8_140 rfl dX8_isBesideTwo_7 ?_
    rw [e0]
    refine A_icmp_ge (tgt := 69) dX8_isBesideTwo_10 (by decide) (fun c_10 => absurd c_10 (fun z => nI_ge (by omega) (by omega) z)) (fun c_10 => ?_)
    refine A_iload2 dX8_isBesideTwo_13 ?_
    refine A_iconst (v := 1) dX8_isBesideTwo_14 (by decide) ?_
    refine A_iadd dX8_isBesideTwo_15 ?_
    rw [show nI x + 1 = nI (x + 1) from nI_1 x]
    refine A_istore3 dX8_isBesideTwo_16 rfl (by decide) ?_
    refine L_X8_bes_17 hW hb hL (x := x) (by omega) (fun z => by rw [← he, z, Bool.true_or]) (fun y3 hf => ?_) (nbx σ - (x + 1)) (x + 1) (by omega) (by omega) rfl
    refine A_iinc2 dX8_isBesideTwo_63 rfl rfl (by decide) ?_
    refine A_goto (tgt := 2) dX8_isBesideTwo_66 (by decide) ?_
    rw [show nI x + Int32.ofInt 1 = nI (x + 1) from nI_1 x]
    rw [hf, Bool.false_or] at he
    exact ih (x + 1) _ (by omega) he
set_option maxHeartbeats 100000 in
set_option maxRecDepth 100000 in
theorem T_X8_bes {l : Launch} {G : Wd} {k q : Int32} {d b : Nat} {σ μ : Mem} (hW : Wk σ k μ) (hb : b < nbx σ) (hL : LsD σ k q d (nbx σ) μ) : Mt l G KC yX8_isBesideTwo cX8_isBesideTwo 4 (some .boolean) 2 [.ref (gA G 73), .int (nI b)] μ (Qi (fun v μ' => v = bz (anyU (besY σ k q d b) (nbx σ) 0 = true) ∧ μ' = μ)) := by
  refine Mt.of (own := RX8) (n := 2) (by decide) rfl [some (.ref (gA G 73)), some (.int (nI b)), none, none] rfl (Nat.le_of_ble_eq_true rfl) ?_
  refine A_iconst (v := 0) dX8_isBesideTwo_0 (by decide) ?_
  refine A_istore2 dX8_isBesideTwo_1 rfl (by decide) ?_
  exact L_X8_bes_2 hW hb hL (nbx σ) 0 _ (by omega) rfl
set_option maxHeartbeats 400000 in
set_option maxRecDepth 100000 in
theorem L_X8_liar_90 {l : Launch} {G : Wd} {k q : Int32} {n d : Nat} {σ m : Mem} (hC : Ca σ k n m) (hL : LsD σ k q d (nbx σ) m) {x4 : Option Value} : ∀ (p b : Nat), p + b = nbx σ → lsS σ k q d p b = lsS σ k q d (nbx σ) 0 → AW l G KC RX8 cX8_liar 5 7 (some .int) (Qi (fun v μ' => v = lsS σ k q d (nbx σ) 0 ∧ Ca σ k n μ')) 90 [some (.ref (gA G 73)), some (.int q), some (.int (nI d)), some (.int (nI b)), x4] [] m := by
  have h5 := hC.wk.2.2.2.2.1.t.1
  have e0 := hC.wk.no
  intro p
  induction p with
  | zero =>
    intro b hp he
    obtain rfl : b = nbx σ := by omega
    have he2 : -1 = lsS σ k q d (nbx σ) 0 := he
    refine A_iload3 dX8_liar_90 ?_
    refine A_aload0 dX8_liar_91 ?_
    refine A_getR gf_X8_19 rfl dX8_liar_92 ?_
    refine A_getI gf_X8_140 rfl dX8_liar_95 ?_
    rw [e0]
    refine A_icmp_ge (tgt := 128) dX8_liar_98 (by decide) (fun c_98 => ?_) (fun c_98 => absurd c_98 (fun z => z (Int32.le_refl _)))
    refine A_iconst (v := -1) dX8_liar_128 (by decide) ?_
    refine A_iret dX8_liar_129 ?_
    exact ⟨_, rfl, he2, hC⟩
  | succ p ih =>
    intro b hp he
    rw [lsS] at he
    refine A_iload3 dX8_liar_90 ?_
    refine A_aload0 dX8_liar_91 ?_
    refine A_getR gf_X8_19 rfl dX8_liar_92 ?_
    refine A_getI gf_X8_140 rfl dX8_liar_95 ?_
    rw [e0]
    refine A_icmp_ge (tgt := 128) dX8_liar_98 (by decide) (fun c_98 => absurd c_98 (fun z => nI_ge (by omega) (by omega) z)) (fun c_98 => ?_)
    refine A_aload0 dX8_liar_101 ?_
    refine A_getR gf_X8_23 rfl dX8_liar_102 ?_
    refine A_iload3 dX8_liar_105 ?_
    refine A_iald (rfl) (vp_in_nI (by omega) (by omega)) dX8_liar_106 ?_
    refine A_val (y := lwq σ k q d b) (by rw [nI_c (by omega)]; exact (hL b (by omega)).1) ?_
    refine A_ldc dX8_liar_107 kc_X8_30 ?_
    refine A_icmp_eq (tgt := 122) dX8_liar_109 (by decide) (fun c_109 => ?_) (fun c_109 => ?_)
    · refine A_iinc3 dX8_liar_122 rfl rfl (by decide) ?_
      refine A_goto (tgt := 90) dX8_liar_125 (by decide) ?_
      rw [show nI b + Int32.ofInt 1 = nI (b + 1) from nI_1 b]
      rw [if_neg (fun z => (lieX_e.mp z).1 c_109)] at he
      exact ih (b + 1) (by omega) he
    · refine A_aload0 dX8_liar_112 ?_
      refine A_iload3 dX8_liar_113 ?_
      refine A_vi1 lk_X8_143 yv_X8_isBesideTwo dX8_liar_114 (rfl) (rfl) (T_X8_bes hC.wk (by omega) hL) (by decide) (Nat.le_of_ble_eq_true rfl) (fun r_114 μ_114 h_114 => ?_)
      obtain ⟨v_114, e_114⟩ := h_114
      replace v_114 := Eq.symm v_114
      subst v_114
      replace e_114 := e_114.symm
      subst e_114
      refine A_if_eq (tgt := 122) dX8_liar_117 (by decide) (fun c_117 => ?_) (fun c_117 => ?_)
      · refine A_iinc3 dX8_liar_122 rfl rfl (by decide) ?_
        refine A_goto (tgt := 90) dX8_liar_125 (by decide) ?_
        rw [show nI b + Int32.ofInt 1 = nI (b + 1) from nI_1 b]
        rw [if_neg (fun z => bz_0.mp c_117 (lieX_e.mp z).2)] at he
        exact ih (b + 1) (by omega) he
      · refine A_iload3 dX8_liar_120 ?_
        refine A_iret dX8_liar_121 ?_
        rw [if_pos (lieX_e.mpr ⟨c_109, bz_y c_117⟩)] at he
        exact ⟨_, rfl, he, hC⟩
theorem LsD.add {σ m : Mem} {k q : Int32} {d b : Nat} {u v : Int32} (h : LsD σ k q d b m) (hu : u = lwq σ k q d b) (hv : v = hgC σ k q d b) : LsD σ k q d (b + 1) (wI (wI m 74 b u) 75 b v) := by
  intro x hx
  by_cases e : x = b
  · subst e; exact ⟨(wI_ne (by omega)).trans (wI_same.trans hu), wI_same.trans hv⟩
  · obtain ⟨a1, a2⟩ := h x (by omega)
    exact ⟨((wI_ne (by omega)).trans (wI_ne (by omega))).trans a1, ((wI_ne (by omega)).trans (wI_ne (by omega))).trans a2⟩
theorem LsD.fd {σ a c : Mem} {k q : Int32} {d b : Nat} (h : LsD σ k q d b a) (g : FdS a c) : LsD σ k q d b c := fun x hx => ⟨(g 74 x (by omega) (by omega)).trans (h x hx).1, (g 75 x (by omega) (by omega)).trans (h x hx).2⟩
set_option maxHeartbeats 400000 in
set_option maxRecDepth 100000 in
theorem L_X8_liar_2 {l : Launch} {G : Wd} {k q : Int32} {n d : Nat} {σ : Mem} (hG : okZ G) (hw : WFw σ) (hd : d < 60) (h5 : nbx σ ≤ 5) : ∀ (p b : Nat) (m : Mem) (x4 : Option Value), p + b = nbx σ → Ca σ k n m → LsD σ k q d b m → AW l G KC RX8 cX8_liar 5 7 (some .int) (Qi (fun v μ' => v = lsS σ k q d (nbx σ) 0 ∧ Ca σ k n μ')) 2 [some (.ref (gA G 73)), some (.int q), some (.int (nI d)), some (.int (nI b)), x4] [] m := by
  intro p
  induction p with
  | zero =>
    intro b m x4 hp hC hL
    obtain rfl : b = nbx σ := by omega
    have e0 := hC.wk.no
    refine A_iload3 dX8_liar_2 ?_
    refine A_aload0 dX8_liar_3 ?_
    refine A_getR gf_X8_19 rfl dX8_liar_4 ?_
    refine A_getI gf_X8_140 rfl dX8_liar_7 ?_
    rw [e0]
    refine A_icmp_ge (tgt := 88) dX8_liar_10 (by decide) (fun c_10 => ?_) (fun c_10 => absurd c_10 (fun z => z (Int32.le_refl _)))
    refine A_iconst (v := 0) dX8_liar_88 (by decide) ?_
    refine A_istore3 dX8_liar_89 rfl (by decide) ?_
    exact L_X8_liar_90 hC hL (nbx σ) 0 (by omega) rfl
  | succ p ih =>
    intro b m x4 hp hC hL
    have e0 := hC.wk.no
    have hb5 : b < 5 := by omega
    have hbn : b < nbx σ := by omega
    refine A_iload3 dX8_liar_2 ?_
    refine A_aload0 dX8_liar_3 ?_
    refine A_getR gf_X8_19 rfl dX8_liar_4 ?_
    refine A_getI gf_X8_140 rfl dX8_liar_7 ?_
    rw [e0]
    refine A_icmp_ge (tgt := 88) dX8_liar_10 (by decide) (fun c_10 => absurd c_10 (fun z => nI_ge (by omega) (by omega) z)) (fun c_10 => ?_)
    refine A_aload0 dX8_liar_13 ?_
    refine A_getR gf_X8_19 rfl dX8_liar_14 ?_
    refine A_getR gf_X8_108 rfl dX8_liar_17 ?_
    refine A_iload3 dX8_liar_20 ?_
    refine A_iald (rfl) (vp_in_nI (by omega) (by omega)) dX8_liar_21 ?_
    refine A_val (y := σ.1 7 b) (by rw [nI_c (by omega)]; exact (hC.wk.bx hbn).2.1) ?_
    refine A_iload1 dX8_liar_22 ?_
    refine A_icmp_ne (tgt := 39) dX8_liar_23 (by decide) (fun c_23 => ?_) (fun c_23 => ?_)
    · refine A_iconst (v := 0) dX8_liar_39 (by decide) ?_
      refine A_istore4 dX8_liar_40 rfl (by decide) ?_
      refine A_aload0 dX8_liar_42 ?_
      refine A_getR gf_X8_23 rfl dX8_liar_43 ?_
      refine A_iload3 dX8_liar_46 ?_
      refine A_iload4 dX8_liar_47 ?_
      refine A_if_eq (tgt := 59) dX8_liar_49 (by decide) (fun c_49 => ?_) (fun c_49 => absurd c_49 (fun z => z rfl))
      refine A_ldc dX8_liar_59 kc_X8_30 ?_
      refine A_iast (rfl) (vp_in_nI (by omega) (by omega)) dX8_liar_61 ?_
      rw [nI_c (by omega)]
      refine A_aload0 dX8_liar_62 ?_
      refine A_getR gf_X8_27 rfl dX8_liar_63 ?_
      refine A_iload3 dX8_liar_66 ?_
      refine A_iload4 dX8_liar_67 ?_
      refine A_if_eq (tgt := 79) dX8_liar_69 (by decide) (fun c_69 => ?_) (fun c_69 => absurd c_69 (fun z => z rfl))
      refine A_ldc dX8_liar_79 kc_X8_30 ?_
      refine A_iast (rfl) (vp_in_nI (by omega) (by omega)) dX8_liar_81 ?_
      rw [nI_c (by omega)]
      refine A_iinc3 dX8_liar_82 rfl rfl (by decide) ?_
      refine A_goto (tgt := 2) dX8_liar_85 (by decide) ?_
      rw [show nI b + Int32.ofInt 1 = nI (b + 1) from nI_1 b]
      exact ih (b + 1) _ _ (by omega) (hC.sf ((Sf.rf.w (by decide)).w (by decide))) (hL.add (if_neg c_23).symm (if_neg c_23).symm)
    · refine A_aload0 dX8_liar_26 ?_
      refine A_iload3 dX8_liar_27 ?_
      refine A_iload2 dX8_liar_28 ?_
      refine A_vi2 lk_X8_132 yv_X8_find dX8_liar_29 (rfl) (rfl) (T_X8_find hG hw hbn hb5 hd hC) (by decide) (Nat.le_of_ble_eq_true rfl) (fun r_29 μ_29 h_29 => ?_)
      obtain ⟨v_29, hC2, hS2, hF2⟩ := h_29
      replace v_29 := Eq.symm v_29
      subst v_29
      refine A_if_eq (tgt := 39) dX8_liar_32 (by decide) (fun c_32 => ?_) (fun c_32 => ?_)
      · refine A_iconst (v := 0) dX8_liar_39 (by decide) ?_
        refine A_istore4 dX8_liar_40 rfl (by decide) ?_
        refine A_aload0 dX8_liar_42 ?_
        refine A_getR gf_X8_23 rfl dX8_liar_43 ?_
        refine A_iload3 dX8_liar_46 ?_
        refine A_iload4 dX8_liar_47 ?_
        refine A_if_eq (tgt := 59) dX8_liar_49 (by decide) (fun c_49 => ?_) (fun c_49 => absurd c_49 (fun z => z rfl))
        refine A_ldc dX8_liar_59 kc_X8_30 ?_
        refine A_iast (rfl) (vp_in_nI (by omega) (by omega)) dX8_liar_61 ?_
        rw [nI_c (by omega)]
        refine A_aload0 dX8_liar_62 ?_
        refine A_getR gf_X8_27 rfl dX8_liar_63 ?_
        refine A_iload3 dX8_liar_66 ?_
        refine A_iload4 dX8_liar_67 ?_
        refine A_if_eq (tgt := 79) dX8_liar_69 (by decide) (fun c_69 => ?_) (fun c_69 => absurd c_69 (fun z => z rfl))
        refine A_ldc dX8_liar_79 kc_X8_30 ?_
        refine A_iast (rfl) (vp_in_nI (by omega) (by omega)) dX8_liar_81 ?_
        rw [nI_c (by omega)]
        refine A_iinc3 dX8_liar_82 rfl rfl (by decide) ?_
        refine A_goto (tgt := 2) dX8_liar_85 (by decide) ?_
        rw [show nI b + Int32.ofInt 1 = nI (b + 1) from nI_1 b]
        have g1 : (rgt σ k b d).1 = -100000 := Classical.not_not.mp (bz_0.mp c_32)
        have g2 : (rgt σ k b d).2 = -100000 := by rw [g_e] at g1 ⊢; rcases hS2.2.2 with z | z <;> omega
        exact ih (b + 1) _ _ (by omega) (hC2.sf ((Sf.rf.w (by decide)).w (by decide))) ((hL.fd hF2).add (g1.symm.trans (if_pos c_23).symm) (g2.symm.trans (if_pos c_23).symm))
      · refine A_iconst (v := 1) dX8_liar_35 (by decide) ?_
        refine A_goto (tgt := 40) dX8_liar_36 (by decide) ?_
        refine A_istore4 dX8_liar_40 rfl (by decide) ?_
        refine A_aload0 dX8_liar_42 ?_
        refine A_getR gf_X8_23 rfl dX8_liar_43 ?_
        refine A_iload3 dX8_liar_46 ?_
        refine A_iload4 dX8_liar_47 ?_
        refine A_if_eq (tgt := 59) dX8_liar_49 (by decide) (fun c_49 => absurd c_49 (fun z => absurd z (by decide))) (fun c_49 => ?_)
        refine A_aload0 dX8_liar_52 ?_
        refine A_getI gf_X8_31 rfl dX8_liar_53 ?_
        refine A_val (y := (rgt σ k b d).1) hS2.1 ?_
        refine A_goto (tgt := 61) dX8_liar_56 (by decide) ?_
        refine A_iast (rfl) (vp_in_nI (by omega) (by omega)) dX8_liar_61 ?_
        rw [nI_c (by omega)]
        refine A_aload0 dX8_liar_62 ?_
        refine A_getR gf_X8_27 rfl dX8_liar_63 ?_
        refine A_iload3 dX8_liar_66 ?_
        refine A_iload4 dX8_liar_67 ?_
        refine A_if_eq (tgt := 79) dX8_liar_69 (by decide) (fun c_69 => absurd c_69 (fun z => absurd z (by decide))) (fun c_69 => ?_)
        refine A_aload0 dX8_liar_72 ?_
        refine A_getI gf_X8_35 rfl dX8_liar_73 ?_
        refine A_val (y := (rgt σ k b d).2) ((wI_ne (by omega)).trans hS2.2.1) ?_
        refine A_goto (tgt := 81) dX8_liar_76 (by decide) ?_
        refine A_iast (rfl) (vp_in_nI (by omega) (by omega)) dX8_liar_81 ?_
        rw [nI_c (by omega)]
        refine A_iinc3 dX8_liar_82 rfl rfl (by decide) ?_
        refine A_goto (tgt := 2) dX8_liar_85 (by decide) ?_
        rw [show nI b + Int32.ofInt 1 = nI (b + 1) from nI_1 b]
        exact ih (b + 1) _ _ (by omega) (hC2.sf ((Sf.rf.w (by decide)).w (by decide))) ((hL.fd hF2).add (if_pos c_23).symm (if_pos c_23).symm)
set_option maxHeartbeats 100000 in
set_option maxRecDepth 100000 in
theorem T_X8_liar {l : Launch} {G : Wd} {k q : Int32} {n d : Nat} {σ M : Mem} (hG : okZ G) (hw : WFw σ) (hd : d < 60) (hC : Ca σ k n M) : Mt l G KC yX8_liar cX8_liar 5 (some .int) 7 [.ref (gA G 73), .int q, .int (nI d)] M (Qi (fun v μ' => v = lsS σ k q d (nbx σ) 0 ∧ Ca σ k n μ')) := by
  refine Mt.of (own := RX8) (n := 2) (by decide) rfl [some (.ref (gA G 73)), some (.int q), some (.int (nI d)), none, none] rfl (Nat.le_of_ble_eq_true rfl) ?_
  refine A_iconst (v := 0) dX8_liar_0 (by decide) ?_
  refine A_istore3 dX8_liar_1 rfl (by decide) ?_
  exact L_X8_liar_2 hG hw hd hC.wk.2.2.2.2.1.t.1 (nbx σ) 0 M _ (by omega) hC (fun b hb => by omega)
set_option maxHeartbeats 100000 in
set_option maxRecDepth 100000 in
theorem C_lies {l : Launch} {G : Wd} {q d : Int32} {k : Int32} {n : Nat} {σ μ : Mem} (hG : okZ G) (hw : WFw σ) (hR : Rc σ n μ) (hn : n + 1 ≤ 600) : Mt l G KC yX11_lies cX11_lies 4 (some .int) 9 [.ref (gA G 0), .int q, .int d, .int k] μ (Qi (fun v μ' => v = sp_lies σ q d k ∧ Rc σ (n + 1) μ')) := by
  refine Mt.of (own := RX11) (n := 0) (by decide) rfl [some (.ref (gA G 0)), some (.int q), some (.int d), some (.int k)] rfl (Nat.le_of_ble_eq_true rfl) ?_
  refine A_iload1 dX11_lies_0 ?_
  refine A_si1 lk_X11_167 ys_X11_isQuantity dX11_lies_1 (T_X11_isQuantity) (by decide) (Nat.le_of_ble_eq_true rfl) (fun r_1 μ_1 h_1 => ?_)
  obtain ⟨v_1, e_1⟩ := h_1
  replace v_1 := Eq.symm v_1
  subst v_1
  replace e_1 := e_1.symm
  subst e_1
  refine A_if_eq (tgt := 14) dX11_lies_4 (by decide) (fun c_4 => ?_) (fun c_4 => ?_)
  · refine A_iconst (v := -1) dX11_lies_14 (by decide) ?_
    refine A_iret dX11_lies_15 ?_
    refine ⟨_, rfl, ?_, hR.up hn⟩
    unfold sp_lies
    rw [if_neg (fun z => bz_0.mp c_4 ⟨z.1.1, q_lt.mpr z.1.2⟩)]
  · refine A_iload2 dX11_lies_7 ?_
    refine A_si1 lk_X11_159 ys_X11_isDay dX11_lies_8 (T_X11_isDay) (by decide) (Nat.le_of_ble_eq_true rfl) (fun r_8 μ_8 h_8 => ?_)
    obtain ⟨v_8, e_8⟩ := h_8
    replace v_8 := Eq.symm v_8
    subst v_8
    replace e_8 := e_8.symm
    subst e_8
    refine A_if_ne (tgt := 16) dX11_lies_11 (by decide) (fun c_11 => ?_) (fun c_11 => ?_)
    · have hz := bz_y c_11
      obtain ⟨y, hd6, rfl⟩ := nI_rng (n := 60) hz.1 hz.2 (by decide)
      have ey : (nI y).toNatClampNeg = y := nI_c (by omega)
      refine A_aload0 dX11_lies_16 ?_
      refine A_getR gf_X11_76 rfl dX11_lies_17 ?_
      refine A_iload3 dX11_lies_20 ?_
      refine A_vv1 lk_X11_201 yv_X4_at dX11_lies_21 (rfl) (rfl) (T_at hR) (by decide) (Nat.le_of_ble_eq_true rfl) (fun μ_21 h_21 => ?_)
      have hC := hR.at h_21
      refine A_aload0 dX11_lies_24 ?_
      refine A_getR gf_X11_94 rfl dX11_lies_25 ?_
      refine A_iload1 dX11_lies_28 ?_
      refine A_iload2 dX11_lies_29 ?_
      refine A_vi2 lk_X11_266 yv_X8_liar dX11_lies_30 (rfl) (rfl) (T_X8_liar hG hw hd6 hC) (by decide) (Nat.le_of_ble_eq_true rfl) (fun r_30 μ_30 h_30 => ?_)
      obtain ⟨v_30, hC2⟩ := h_30
      refine A_iret dX11_lies_33 ?_
      refine ⟨_, rfl, ?_, hC2.rc hR.2.1 hn⟩
      have hcd : isQt q ∧ isDy (nI y) := ⟨⟨(bz_y c_4).1, q_lt.mp (bz_y c_4).2⟩, hz⟩
      unfold sp_lies
      rw [if_pos hcd, ey, v_30]
    · refine A_iconst (v := -1) dX11_lies_14 (by decide) ?_
      refine A_iret dX11_lies_15 ?_
      refine ⟨_, rfl, ?_, hR.up hn⟩
      unfold sp_lies
      rw [if_neg (fun z => bz_0.mp c_11 z.2)]

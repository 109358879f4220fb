/-! what the boxes show first -/
def fsV (σ : Mem) (k : Int32) (b d : Nat) : Int32 := if rdN σ k b d = -100000 then -100000 else sh1 σ k b d
theorem sh1_b {σ : Mem} {k : Int32} {b d : Nat} (hw : WFf σ) (h : okBx σ b) (hd : d < 60) : sh1 σ k b d = -100000 ∨ (-3000 ≤ (sh1 σ k b d).toInt ∧ (sh1 σ k b d).toInt ≤ 3000) := by
  unfold sh1
  cases e : (fnd σ k b d).1[0]? with
  | none => exact Or.inl rfl
  | some x =>
    obtain ⟨o1, o2⟩ := fnd_ok h hd (List.mem_of_getElem? e)
    obtain ⟨s1, s2⟩ := shO_b (k := k) (b := b) hw o1 o2 hd
    by_cases q : bnt σ k b d x.2 = -100000
    · exact Or.inl (s1.mpr q)
    · have := s2 q; exact Or.inr ⟨this.1, this.2.1⟩
theorem rd_b {σ : Mem} {k : Int32} {b d : Nat} (hw : WFf σ) (hr : ¬ rdN σ k b d = -100000) : -999 ≤ (rdN σ k b d).toInt ∧ (rdN σ k b d).toInt ≤ 999 := (layR_b (k := k) (nfc σ) hw.2 (60 * b + d)).resolve_left hr
theorem fit_same {σ μ : Mem} {k : Int32} {b : Nat} {s r : Int32} (h : Wk σ k μ) (hb : b < nbx σ) (h1 : -10000 ≤ s.toInt ∧ s.toInt ≤ 10000) (h2 : -10000 ≤ r.toInt ∧ r.toInt ≤ 10000) : fitC μ b s r ↔ fitS σ b s r := fitC_i (h.bx hb).2.1 (h.bx hb).2.2.1 (by omega) (by omega) (by split <;> rfl)
def LkI (σ : Mem) (k : Int32) (f t : Nat) (μ : Mem) : Prop := ∀ b d, b < nbx σ → f ≤ d → d ≤ t → μ.1 77 (60 * b + d) = fsV σ k b d
set_option maxHeartbeats 400000 in
set_option maxRecDepth 100000 in
theorem L_X0_look_16 {l : Launch} {G : Wd} {k : Int32} {n f t b : Nat} {σ : Mem} (hft : f ≤ t) (ht : t < 60) (hbn : b < nbx σ) (hb : b < 5) (hk : ∀ (x4 x5 : Option Value) (m : Mem), Ca σ k n m → (∀ b2 d2, b2 < b + 1 → f ≤ d2 → d2 ≤ t → m.1 77 (60 * b2 + d2) = fsV σ k b2 d2) → AW l G KC RX0 cX0_look 6 6 none (Qv (fun μ' => Ca σ k n μ' ∧ LkI σ k f t μ')) 85 [some (.ref (gA G 76)), some (.int (nI f)), some (.int (nI t)), some (.int (nI b)), x4, x5] [] m) : ∀ (q d : Nat) (m : Mem) (x5 : Option Value), q + d = t + 1 → f ≤ d → Ca σ k n m → (∀ b2 d2, b2 < b → f ≤ d2 → d2 ≤ t → m.1 77 (60 * b2 + d2) = fsV σ k b2 d2) → (∀ d2, f ≤ d2 → d2 < d → m.1 77 (60 * b + d2) = fsV σ k b d2) → AW l G KC RX0 cX0_look 6 6 none (Qv (fun μ' => Ca σ k n μ' ∧ LkI σ k f t μ')) 16 [some (.ref (gA G 76)), some (.int (nI f)), some (.int (nI t)), some (.int (nI b)), some (.int (nI d)), x5] [] m := by
  intro q
  induction q with
  | zero =>
    intro d m x5 hq hf hC hD hE
    refine A_iload4 dX0_look_16 ?_
    refine A_iload2 dX0_look_18 ?_
    refine A_icmp_gt (tgt := 85) dX0_look_19 (by decide) (fun c_19 => ?_) (fun c_19 => absurd c_19 (fun z => z (nI_lt (by omega) (by omega))))
    refine hk _ _ m hC (fun b2 d2 h1 h2 h3 => ?_)
    by_cases e : b2 = b
    · rw [e]; exact hE d2 h2 (by omega)
    · exact hD b2 d2 (by omega) h2 h3
  | succ q ih =>
    intro d m x5 hq hf hC hD hE
    have hd : d < 60 := by omega
    refine A_iload4 dX0_look_16 ?_
    refine A_iload2 dX0_look_18 ?_
    refine A_icmp_gt (tgt := 85) dX0_look_19 (by decide) (fun c_19 => absurd c_19 (fun z => nI_nlt (by omega) (by omega) z)) (fun c_19 => ?_)
    refine A_ldc dX0_look_22 kc_X0_39 ?_
    refine A_istore5 dX0_look_24 rfl (by decide) ?_
    refine A_aload0 dX0_look_26 ?_
    refine A_getR gf_X0_15 rfl dX0_look_27 ?_
    refine A_iload3 dX0_look_30 ?_
    refine A_iload4 dX0_look_31 ?_
    refine A_vi2 lk_X0_40 yv_X4_number dX0_look_33 (rfl) (rfl) (T_X4_number hC.wk.n5) (by decide) (Nat.le_of_ble_eq_true rfl) (fun r_33 μ_33 h_33 => ?_)
    obtain ⟨v_33, e_33⟩ := h_33
    replace v_33 := Eq.symm v_33
    subst v_33
    replace e_33 := e_33.symm
    subst e_33
    rw [num_e hC.wk hbn hd]
    refine A_ldc dX0_look_36 kc_X0_39 ?_
    refine A_icmp_eq (tgt := 65) dX0_look_38 (by decide) (fun c_38 => ?_) (fun c_38 => ?_)
    · refine A_aload0 dX0_look_65 ?_
      refine A_getR gf_X0_25 rfl dX0_look_66 ?_
      refine A_iload3 dX0_look_69 ?_
      refine A_bipush (v := 60) dX0_look_70 (by decide) ?_
      refine A_imul dX0_look_72 ?_
      refine A_iload4 dX0_look_73 ?_
      refine A_iadd dX0_look_75 ?_
      rw [show nI b * 60 + nI d = nI (60 * b + d) by rw [Int32.mul_comm]; exact nI_60 b d]
      refine A_iload5 dX0_look_76 ?_
      refine A_iast (rfl) (vp_in_nI (by omega) (by omega)) dX0_look_78 ?_
      rw [nI_c (by omega)]
      refine A_iinc4 dX0_look_79 rfl rfl (by decide) ?_
      refine A_goto (tgt := 16) dX0_look_82 (by decide) ?_
      rw [show nI d + Int32.ofInt 1 = nI (d + 1) from nI_1 d]
      refine ih (d + 1) _ _ (by omega) (by omega) (hC.sf (Sf.rf.w (by decide))) (fun b2 d2 h1 h2 h3 => (wI_ne (by omega)).trans ((hD b2 d2 h1 h2 h3))) (fun d2 h1 h2 => ?_)
      by_cases e : d2 = d
      · subst e; rw [wI_same]; exact (if_pos c_38).symm
      · exact (wI_ne (by omega)).trans ((hE d2 h1 (by omega)))
    · refine A_aload0 dX0_look_41 ?_
      refine A_getR gf_X0_9 rfl dX0_look_42 ?_
      refine A_iload3 dX0_look_45 ?_
      refine A_aald (n := 5) rfl (vp_in_nI (by omega) (by omega)) (aL hb) dX0_look_46 ?_
      refine A_iload4 dX0_look_47 ?_
      refine A_vv1 lk_X0_46 yv_X5_fit dX0_look_49 (oL hb) (rfl) (T_X5_fit hC.wk hbn hb hd (hC.V hbn hb)) (by decide) (Nat.le_of_ble_eq_true rfl) (fun μ_49 h_49 => ?_)
      obtain ⟨f1, f2, f3⟩ := h_49
      have hC2 := hC.fit hb hd f1 f2 f3
      refine A_aload0 dX0_look_52 ?_
      refine A_getR gf_X0_9 rfl dX0_look_53 ?_
      refine A_iload3 dX0_look_56 ?_
      refine A_aald (n := 5) rfl (vp_in_nI (by omega) (by omega)) (aL hb) dX0_look_57 ?_
      refine A_iload4 dX0_look_58 ?_
      refine A_vi1 lk_X0_52 yv_X5_byFirst dX0_look_60 (oL hb) (rfl) (T_X5_byFirst hC2.wk hbn hb hd f1) (by decide) (Nat.le_of_ble_eq_true rfl) (fun r_60 μ_60 h_60 => ?_)
      obtain ⟨v_60, e_60⟩ := h_60
      replace v_60 := Eq.symm v_60
      subst v_60
      replace e_60 := e_60.symm
      subst e_60
      refine A_istore5 dX0_look_63 rfl (by decide) ?_
      refine A_aload0 dX0_look_65 ?_
      refine A_getR gf_X0_25 rfl dX0_look_66 ?_
      refine A_iload3 dX0_look_69 ?_
      refine A_bipush (v := 60) dX0_look_70 (by decide) ?_
      refine A_imul dX0_look_72 ?_
      refine A_iload4 dX0_look_73 ?_
      refine A_iadd dX0_look_75 ?_
      rw [show nI b * 60 + nI d = nI (60 * b + d) by rw [Int32.mul_comm]; exact nI_60 b d]
      refine A_iload5 dX0_look_76 ?_
      refine A_iast (rfl) (vp_in_nI (by omega) (by omega)) dX0_look_78 ?_
      rw [nI_c (by omega)]
      refine A_iinc4 dX0_look_79 rfl rfl (by decide) ?_
      refine A_goto (tgt := 16) dX0_look_82 (by decide) ?_
      rw [show nI d + Int32.ofInt 1 = nI (d + 1) from nI_1 d]
      refine ih (d + 1) _ _ (by omega) (by omega) (hC2.sf (Sf.rf.w (by decide))) (fun b2 d2 h1 h2 h3 => (wI_ne (by omega)).trans ((f3.2 77 _ (by omega) (by omega)).trans (hD b2 d2 h1 h2 h3))) (fun d2 h1 h2 => ?_)
      by_cases e : d2 = d
      · subst e; rw [wI_same]; exact (if_neg c_38).symm
      · exact (wI_ne (by omega)).trans ((f3.2 77 _ (by omega) (by omega)).trans (hE d2 h1 (by omega)))
set_option maxHeartbeats 400000 in
set_option maxRecDepth 100000 in
theorem L_X0_look_2 {l : Launch} {G : Wd} {k : Int32} {n f t : Nat} {σ : Mem} (hft : f ≤ t) (ht : t < 60) (h5 : nbx σ ≤ 5) : ∀ (q b : Nat) (m : Mem) (x4 x5 : Option Value), q + b = nbx σ → Ca σ k n m → (∀ b2 d2, b2 < b → f ≤ d2 → d2 ≤ t → m.1 77 (60 * b2 + d2) = fsV σ k b2 d2) → AW l G KC RX0 cX0_look 6 6 none (Qv (fun μ' => Ca σ k n μ' ∧ LkI σ k f t μ')) 2 [some (.ref (gA G 76)), some (.int (nI f)), some (.int (nI t)), some (.int (nI b)), x4, x5] [] m := by
  intro q
  induction q with
  | zero =>
    intro b m x4 x5 hq hC hD
    obtain rfl : b = nbx σ := by omega
    have e0 := hC.wk.no
    refine A_iload3 dX0_look_2 ?_
    refine A_aload0 dX0_look_3 ?_
    refine A_getR gf_X0_19 rfl dX0_look_4 ?_
    refine A_getI gf_X0_35 rfl dX0_look_7 ?_
    rw [e0]
    refine A_icmp_ge (tgt := 91) dX0_look_10 (by decide) (fun c_10 => ?_) (fun c_10 => absurd c_10 (fun z => z (Int32.le_refl _)))
    refine A_vret dX0_look_91 ?_
    exact ⟨rfl, hC, fun b2 d2 h1 h2 h3 => hD b2 d2 h1 h2 h3⟩
  | succ q ih =>
    intro b m x4 x5 hq hC hD
    have e0 := hC.wk.no
    refine A_iload3 dX0_look_2 ?_
    refine A_aload0 dX0_look_3 ?_
    refine A_getR gf_X0_19 rfl dX0_look_4 ?_
    refine A_getI gf_X0_35 rfl dX0_look_7 ?_
    rw [e0]
    refine A_icmp_ge (tgt := 91) dX0_look_10 (by decide) (fun c_10 => absurd c_10 (fun z => nI_ge (by omega) (by omega) z)) (fun c_10 => ?_)
    refine A_iload1 dX0_look_13 ?_
    refine A_istore4 dX0_look_14 rfl (by decide) ?_
    refine L_X0_look_16 hft ht (by omega) (by omega) (fun y4 y5 m2 hC2 hD2 => ?_) (t + 1 - f) f m _ (by omega) (by omega) hC hD (fun d2 h1 h2 => absurd h2 (by omega))
    refine A_iinc3 dX0_look_85 rfl rfl (by decide) ?_
    refine A_goto (tgt := 2) dX0_look_88 (by decide) ?_
    rw [show nI b + Int32.ofInt 1 = nI (b + 1) from nI_1 b]
    exact ih (b + 1) m2 _ _ (by omega) hC2 hD2
set_option maxHeartbeats 100000 in
set_option maxRecDepth 100000 in
theorem T_X0_look {l : Launch} {G : Wd} {f t : Nat} {k : Int32} {n : Nat} {σ μ : Mem} (hC : Ca σ k n μ) (hft : f ≤ t) (ht : t < 60) : Mt l G KC yX0_look cX0_look 6 none 6 [.ref (gA G 76), .int (nI f), .int (nI t)] μ (Qv (fun μ' => Ca σ k n μ' ∧ LkI σ k f t μ')) := by
  refine Mt.of (own := RX0) (n := 3) (by decide) rfl [some (.ref (gA G 76)), some (.int (nI f)), some (.int (nI t)), none, none, none] rfl (Nat.le_of_ble_eq_true rfl) ?_
  refine A_iconst (v := 0) dX0_look_0 (by decide) ?_
  refine A_istore3 dX0_look_1 rfl (by decide) ?_
  exact L_X0_look_2 hft ht hC.wk.2.2.2.2.1.t.1 (nbx σ) 0 μ _ _ (by omega) hC (fun b2 d2 h1 => absurd h1 (by omega))
set_option maxHeartbeats 400000 in
set_option maxRecDepth 100000 in
theorem L_X0_row_16 {l : Launch} {G : Wd} {k : Int32} {b d : Nat} {σ μ : Mem} (h : Wk σ k μ) (hbn : b < nbx σ) (hb : b < 5) (hd : d < 60) (hL : LkI σ k d d μ) (hr : ¬ rdN σ k b d = -100000) (hs : ¬ sh1 σ k b d = -100000) : ∀ (q x : Nat) (x6 x7 x8 : Option Value), q + x = nbx σ → rowB σ k b d (sh1 σ k b d) (rdN σ k b d) x = false → AW l G KC RX0 cX0_isInAnotherRow 9 3 (some .boolean) (Qi (fun v μ' => v = bz (rowB σ k b d (sh1 σ k b d) (rdN σ k b d) (nbx σ) = true) ∧ μ' = μ)) 16 [some (.ref (gA G 76)), some (.int (nI b)), some (.int (nI d)), some (.int (rdN σ k b d)), some (.int (sh1 σ k b d)), some (.int (nI x)), x6, x7, x8] [] μ := by
  have h5 := h.2.2.2.2.1.t.1
  have e0 := h.no
  have hrb := rd_b h.2.2.2.1 hr
  have hsb := (sh1_b h.2.2.2.1 (h.ok hbn).1 hd).resolve_left hs
  intro q
  induction q with
  | zero =>
    intro x x6 x7 x8 hq hx
    obtain rfl : x = nbx σ := by omega
    refine A_iload5 dX0_isInAnotherRow_16 ?_
    refine A_aload0 dX0_isInAnotherRow_18 ?_
    refine A_getR gf_X0_19 rfl dX0_isInAnotherRow_19 ?_
    refine A_getI gf_X0_35 rfl dX0_isInAnotherRow_22 ?_
    rw [e0]
    refine A_icmp_ge (tgt := 124) dX0_isInAnotherRow_25 (by decide) (fun c_25 => ?_) (fun c_25 => absurd c_25 (fun z => z (Int32.le_refl _)))
    refine A_iconst (v := 0) dX0_isInAnotherRow_124 (by decide) ?_
    refine A_zret dX0_isInAnotherRow_125 (by decide) ?_
    exact ⟨_, rfl, (bz_f (by rw [hx]; decide)).symm, rfl⟩
  | succ q ih =>
    intro x x6 x7 x8 hq hx
    have hxn : x < nbx σ := by omega
    have e77 := hL x d hxn (Nat.le_refl _) (Nat.le_refl _)
    have eF : ¬ rdN σ k x d = -100000 → fsV σ k x d = sh1 σ k x d := fun z => if_neg z
    have nxt : ¬ rowP σ k b d (sh1 σ k b d) (rdN σ k b d) x → rowB σ k b d (sh1 σ k b d) (rdN σ k b d) (x + 1) = false := fun z => by rw [rowB, hx, decide_eq_false z]; rfl
    refine A_iload5 dX0_isInAnotherRow_16 ?_
    refine A_aload0 dX0_isInAnotherRow_18 ?_
    refine A_getR gf_X0_19 rfl dX0_isInAnotherRow_19 ?_
    refine A_getI gf_X0_35 rfl dX0_isInAnotherRow_22 ?_
    rw [e0]
    refine A_icmp_ge (tgt := 124) dX0_isInAnotherRow_25 (by decide) (fun c_25 => absurd c_25 (fun z => nI_ge (by omega) (by omega) z)) (fun c_25 => ?_)
    refine A_aload0 dX0_isInAnotherRow_28 ?_
    refine A_getR gf_X0_25 rfl dX0_isInAnotherRow_29 ?_
    refine A_iload5 dX0_isInAnotherRow_32 ?_
    refine A_bipush (v := 60) dX0_isInAnotherRow_34 (by decide) ?_
    refine A_imul dX0_isInAnotherRow_36 ?_
    refine A_iload2 dX0_isInAnotherRow_37 ?_
    refine A_iadd dX0_isInAnotherRow_38 ?_
    rw [show nI x * 60 + nI d = nI (60 * x + d) by rw [Int32.mul_comm]; exact nI_60 x d]
    refine A_iald (rfl) (vp_in_nI (by omega) (by omega)) dX0_isInAnotherRow_39 ?_
    rw [nI_c (by omega), e77]
    refine A_istore6 dX0_isInAnotherRow_40 rfl (by decide) ?_
    refine A_aload0 dX0_isInAnotherRow_42 ?_
    refine A_getR gf_X0_15 rfl dX0_isInAnotherRow_43 ?_
    refine A_iload5 dX0_isInAnotherRow_46 ?_
    refine A_iload2 dX0_isInAnotherRow_48 ?_
    refine A_vi2 lk_X0_40 yv_X4_number dX0_isInAnotherRow_49 (rfl) (rfl) (T_X4_number h.n5) (by decide) (Nat.le_of_ble_eq_true rfl) (fun r_49 μ_49 h_49 => ?_)
    obtain ⟨v_49, e_49⟩ := h_49
    replace v_49 := Eq.symm v_49
    subst v_49
    replace e_49 := e_49.symm
    subst e_49
    rw [num_e h hxn hd]
    refine A_istore7 dX0_isInAnotherRow_52 rfl (by decide) ?_
    refine A_iload5 dX0_isInAnotherRow_54 ?_
    refine A_iload1 dX0_isInAnotherRow_56 ?_
    refine A_icmp_eq (tgt := 78) dX0_isInAnotherRow_57 (by decide) (fun c_57 => ?_) (fun c_57 => ?_)
    · refine A_iconst (v := 0) dX0_isInAnotherRow_78 (by decide) ?_
      refine A_istore8 dX0_isInAnotherRow_79 rfl (by decide) ?_
      refine A_iload8 dX0_isInAnotherRow_81 ?_
      refine A_if_eq (tgt := 118) dX0_isInAnotherRow_83 (by decide) (fun c_83 => ?_) (fun c_83 => absurd c_83 (fun z => z rfl))
      refine A_iinc5 dX0_isInAnotherRow_118 rfl rfl (by decide) ?_
      refine A_goto (tgt := 16) dX0_isInAnotherRow_121 (by decide) ?_
      rw [show nI x + Int32.ofInt 1 = nI (x + 1) from nI_1 x]
      exact ih (x + 1) _ _ _ (by omega) (nxt (fun z => z.1 ((nI_eq (by omega) (by omega)).mp c_57)))
    · refine A_iload6 dX0_isInAnotherRow_60 ?_
      refine A_ldc dX0_isInAnotherRow_62 kc_X0_39 ?_
      refine A_icmp_eq (tgt := 78) dX0_isInAnotherRow_64 (by decide) (fun c_64 => ?_) (fun c_64 => ?_)
      · refine A_iconst (v := 0) dX0_isInAnotherRow_78 (by decide) ?_
        refine A_istore8 dX0_isInAnotherRow_79 rfl (by decide) ?_
        refine A_iload8 dX0_isInAnotherRow_81 ?_
        refine A_if_eq (tgt := 118) dX0_isInAnotherRow_83 (by decide) (fun c_83 => ?_) (fun c_83 => absurd c_83 (fun z => z rfl))
        refine A_iinc5 dX0_isInAnotherRow_118 rfl rfl (by decide) ?_
        refine A_goto (tgt := 16) dX0_isInAnotherRow_121 (by decide) ?_
        rw [show nI x + Int32.ofInt 1 = nI (x + 1) from nI_1 x]
        exact ih (x + 1) _ _ _ (by omega) (nxt (fun z => z.2.2.2.1 (by rw [← eF z.2.1]; exact c_64)))
      · refine A_iload7 dX0_isInAnotherRow_67 ?_
        refine A_ldc dX0_isInAnotherRow_69 kc_X0_39 ?_
        refine A_icmp_eq (tgt := 78) dX0_isInAnotherRow_71 (by decide) (fun c_71 => ?_) (fun c_71 => ?_)
        · refine A_iconst (v := 0) dX0_isInAnotherRow_78 (by decide) ?_
          refine A_istore8 dX0_isInAnotherRow_79 rfl (by decide) ?_
          refine A_iload8 dX0_isInAnotherRow_81 ?_
          refine A_if_eq (tgt := 118) dX0_isInAnotherRow_83 (by decide) (fun c_83 => ?_) (fun c_83 => absurd c_83 (fun z => z rfl))
          refine A_iinc5 dX0_isInAnotherRow_118 rfl rfl (by decide) ?_
          refine A_goto (tgt := 16) dX0_isInAnotherRow_121 (by decide) ?_
          rw [show nI x + Int32.ofInt 1 = nI (x + 1) from nI_1 x]
          exact ih (x + 1) _ _ _ (by omega) (nxt (fun z => z.2.1 c_71))
        · refine A_iconst (v := 1) dX0_isInAnotherRow_74 (by decide) ?_
          refine A_goto (tgt := 79) dX0_isInAnotherRow_75 (by decide) ?_
          refine A_istore8 dX0_isInAnotherRow_79 rfl (by decide) ?_
          refine A_iload8 dX0_isInAnotherRow_81 ?_
          refine A_if_eq (tgt := 118) dX0_isInAnotherRow_83 (by decide) (fun c_83 => absurd c_83 (fun z => absurd z (by decide))) (fun c_83 => ?_)
          have hrx := rd_b h.2.2.2.1 c_71
          have hsx : ¬ sh1 σ k x d = -100000 := fun z => c_64 ((eF c_71).trans z)
          have hsxb := (sh1_b h.2.2.2.1 (h.ok hxn).1 hd).resolve_left hsx
          have hfx : -3000 ≤ (fsV σ k x d).toInt ∧ (fsV σ k x d).toInt ≤ 3000 := by rw [eF c_71]; exact hsxb
          refine A_aload0 dX0_isInAnotherRow_86 ?_
          refine A_getR gf_X0_19 rfl dX0_isInAnotherRow_87 ?_
          refine A_iload1 dX0_isInAnotherRow_90 ?_
          refine A_iload4 dX0_isInAnotherRow_91 ?_
          refine A_iload7 dX0_isInAnotherRow_93 ?_
          refine A_vi3 lk_X0_56 yv_X2_fits dX0_isInAnotherRow_95 (rfl) (rfl) (T_X2_fits hb) (by decide) (Nat.le_of_ble_eq_true rfl) (fun r_95 μ_95 h_95 => ?_)
          obtain ⟨v_95, e_95⟩ := h_95
          replace v_95 := Eq.symm v_95
          subst v_95
          replace e_95 := e_95.symm
          subst e_95
          refine A_if_eq (tgt := 118) dX0_isInAnotherRow_98 (by decide) (fun c_98 => ?_) (fun c_98 => ?_)
          · refine A_iinc5 dX0_isInAnotherRow_118 rfl rfl (by decide) ?_
            refine A_goto (tgt := 16) dX0_isInAnotherRow_121 (by decide) ?_
            rw [show nI x + Int32.ofInt 1 = nI (x + 1) from nI_1 x]
            exact ih (x + 1) _ _ _ (by omega) (nxt (fun z => bz_0.mp c_98 ((fit_same h hbn (by omega) (by omega)).mpr z.2.2.1)))
          · refine A_aload0 dX0_isInAnotherRow_101 ?_
            refine A_getR gf_X0_19 rfl dX0_isInAnotherRow_102 ?_
            refine A_iload5 dX0_isInAnotherRow_105 ?_
            refine A_iload6 dX0_isInAnotherRow_107 ?_
            refine A_iload3 dX0_isInAnotherRow_109 ?_
            refine A_vi3 lk_X0_56 yv_X2_fits dX0_isInAnotherRow_110 (rfl) (rfl) (T_X2_fits (by omega)) (by decide) (Nat.le_of_ble_eq_true rfl) (fun r_110 μ_110 h_110 => ?_)
            obtain ⟨v_110, e_110⟩ := h_110
            replace v_110 := Eq.symm v_110
            subst v_110
            replace e_110 := e_110.symm
            subst e_110
            refine A_if_eq (tgt := 118) dX0_isInAnotherRow_113 (by decide) (fun c_113 => ?_) (fun c_113 => ?_)
            · refine A_iinc5 dX0_isInAnotherRow_118 rfl rfl (by decide) ?_
              refine A_goto (tgt := 16) dX0_isInAnotherRow_121 (by decide) ?_
              rw [show nI x + Int32.ofInt 1 = nI (x + 1) from nI_1 x]
              exact ih (x + 1) _ _ _ (by omega) (nxt (fun z => bz_0.mp c_113 ((fit_same h hxn (by omega) (by omega)).mpr (by rw [eF c_71]; exact z.2.2.2.2))))
            · refine A_iconst (v := 1) dX0_isInAnotherRow_116 (by decide) ?_
              refine A_zret dX0_isInAnotherRow_117 (by decide) ?_
              refine ⟨_, rfl, (bz_t (rowB_mono (x := x) ⟨?_, c_71, (fit_same h hbn (by omega) (by omega)).mp (bz_y c_98), hsx, ?_⟩ _ hxn)).symm, rfl⟩
              · exact fun z => c_57 (by rw [z])
              · rw [← eF c_71]; exact (fit_same h hxn (by omega) (by omega)).mp (bz_y c_113)
set_option maxHeartbeats 100000 in
set_option maxRecDepth 100000 in
theorem T_X0_row {l : Launch} {G : Wd} {b d : Nat} {k : Int32} {σ μ : Mem} (h : Wk σ k μ) (hbn : b < nbx σ) (hb : b < 5) (hd : d < 60) (hL : LkI σ k d d μ) (hr : ¬ rdN σ k b d = -100000) (hs : ¬ sh1 σ k b d = -100000) : Mt l G KC yX0_isInAnotherRow cX0_isInAnotherRow 9 (some .boolean) 3 [.ref (gA G 76), .int (nI b), .int (nI d), .int (rdN σ k b d)] μ (Qi (fun v μ' => v = bz (rowB σ k b d (sh1 σ k b d) (rdN σ k b d) (nbx σ) = true) ∧ μ' = μ)) := by
  refine Mt.of (own := RX0) (n := 5) (by decide) rfl [some (.ref (gA G 76)), some (.int (nI b)), some (.int (nI d)), some (.int (rdN σ k b d)), none, none, none, none, none] rfl (Nat.le_of_ble_eq_true rfl) ?_
  refine A_aload0 dX0_isInAnotherRow_0 ?_
  refine A_getR gf_X0_25 rfl dX0_isInAnotherRow_1 ?_
  refine A_iload1 dX0_isInAnotherRow_4 ?_
  refine A_bipush (v := 60) dX0_isInAnotherRow_5 (by decide) ?_
  refine A_imul dX0_isInAnotherRow_7 ?_
  refine A_iload2 dX0_isInAnotherRow_8 ?_
  refine A_iadd dX0_isInAnotherRow_9 ?_
  rw [show nI b * 60 + nI d = nI (60 * b + d) by rw [Int32.mul_comm]; exact nI_60 b d]
  refine A_iald (rfl) (vp_in_nI (by omega) (by omega)) dX0_isInAnotherRow_10 ?_
  rw [nI_c (by omega), hL b d hbn (Nat.le_refl _) (Nat.le_refl _), show fsV σ k b d = sh1 σ k b d from if_neg hr]
  refine A_istore4 dX0_isInAnotherRow_11 rfl (by decide) ?_
  refine A_iconst (v := 0) dX0_isInAnotherRow_13 (by decide) ?_
  refine A_istore5 dX0_isInAnotherRow_14 rfl (by decide) ?_
  exact L_X0_row_16 h hbn hb hd hL hr hs (nbx σ) 0 _ _ _ (by omega) rfl
theorem num_p {σ μ : Mem} {k : Int32} {b d : Nat} (h : Wk σ k μ) (hb : b < nbx σ) (hd : d < 60) : (if 0 ≤ nI b ∧ nI b < μ.1 4 0 ∧ 0 ≤ nI d - 1 ∧ nI d - 1 < 60 then μ.1 45 (60 * nI b + (nI d - 1)).toNatClampNeg else -100000) = if 0 < d then rdN σ k b (d - 1) else -100000 := by
  cases d with
  | zero =>
    rw [if_neg, if_neg (by omega)]
    rintro ⟨-, -, z, -⟩
    exact absurd z (by decide)
  | succ d =>
    rw [nI_pred]
    refine (num_e h hb (by omega)).trans ?_
    rw [if_pos (by omega)]
    rfl
set_option maxHeartbeats 400000 in
set_option maxRecDepth 100000 in
theorem T_X0_kindOf {l : Launch} {G : Wd} {b d : Nat} {k : Int32} {σ μ : Mem} (h : Wk σ k μ) (hbn : b < nbx σ) (hb : b < 5) (hd : d < 60) (hL : LkI σ k d d μ) : Mt l G KC yX0_kindOf cX0_kindOf 6 (some .int) 4 [.ref (gA G 76), .int (nI b), .int (nI d)] μ (Qi (fun v μ' => v = wrS σ k b d ∧ μ' = μ)) := by
  refine Mt.of (own := RX0) (n := 3) (by decide) rfl [some (.ref (gA G 76)), some (.int (nI b)), some (.int (nI d)), none, none, none] rfl (Nat.le_of_ble_eq_true rfl) ?_
  have e77 := hL b d hbn (Nat.le_refl _) (Nat.le_refl _)
  have eF : ¬ rdN σ k b d = -100000 → fsV σ k b d = sh1 σ k b d := fun z => if_neg z
  refine A_aload0 dX0_kindOf_0 ?_
  refine A_getR gf_X0_15 rfl dX0_kindOf_1 ?_
  refine A_iload1 dX0_kindOf_4 ?_
  refine A_iload2 dX0_kindOf_5 ?_
  refine A_vi2 lk_X0_40 yv_X4_number dX0_kindOf_6 (rfl) (rfl) (T_X4_number h.n5) (by decide) (Nat.le_of_ble_eq_true rfl) (fun r_6 μ_6 h_6 => ?_)
  obtain ⟨v_6, e_6⟩ := h_6
  replace v_6 := Eq.symm v_6
  subst v_6
  replace e_6 := e_6.symm
  subst e_6
  rw [num_e h hbn hd]
  refine A_istore3 dX0_kindOf_9 rfl (by decide) ?_
  refine A_aload0 dX0_kindOf_10 ?_
  refine A_getR gf_X0_25 rfl dX0_kindOf_11 ?_
  refine A_iload1 dX0_kindOf_14 ?_
  refine A_bipush (v := 60) dX0_kindOf_15 (by decide) ?_
  refine A_imul dX0_kindOf_17 ?_
  refine A_iload2 dX0_kindOf_18 ?_
  refine A_iadd dX0_kindOf_19 ?_
  rw [show nI b * 60 + nI d = nI (60 * b + d) by rw [Int32.mul_comm]; exact nI_60 b d]
  refine A_iald (rfl) (vp_in_nI (by omega) (by omega)) dX0_kindOf_20 ?_
  rw [nI_c (by omega), e77]
  refine A_istore4 dX0_kindOf_21 rfl (by decide) ?_
  refine A_iload3 dX0_kindOf_23 ?_
  refine A_ldc dX0_kindOf_24 kc_X0_39 ?_
  refine A_icmp_eq (tgt := 36) dX0_kindOf_26 (by decide) (fun c_26 => ?_) (fun c_26 => ?_)
  · refine A_iconst (v := -1) dX0_kindOf_36 (by decide) ?_
    refine A_iret dX0_kindOf_37 ?_
    exact ⟨_, rfl, (if_pos (Or.inl c_26)).symm, rfl⟩
  · refine A_iload4 dX0_kindOf_29 ?_
    refine A_ldc dX0_kindOf_31 kc_X0_39 ?_
    refine A_icmp_ne (tgt := 38) dX0_kindOf_33 (by decide) (fun c_33 => ?_) (fun c_33 => ?_)
    · have hs : ¬ sh1 σ k b d = -100000 := fun z => c_33 ((eF c_26).trans z)
      have hrb := rd_b h.2.2.2.1 c_26
      have hsb := (sh1_b h.2.2.2.1 (h.ok hbn).1 hd).resolve_left hs
      have e8 : (8 : Int32).toInt = 8 := rfl
      have e2 : (2 : Int32).toInt = 2 := rfl
      have r8 : (rdN σ k b d + 8).toInt = (rdN σ k b d).toInt + 8 := by rw [i_add (by rw [e8]; omega), e8]
      have r2 : (2 * rdN σ k b d).toInt = 2 * (rdN σ k b d).toInt := by rw [i_mul (by rw [e2]; omega), e2]
      have hfit : fitC μ b (fsV σ k b d) (rdN σ k b d) ↔ fitS σ b (sh1 σ k b d) (rdN σ k b d) := by rw [eF c_26]; exact fit_same h hbn (by omega) (by omega)
      have hfit8 : fitC μ b (fsV σ k b d) (rdN σ k b d + 8) ↔ fitS σ b (sh1 σ k b d) (rdN σ k b d + 8) := by rw [eF c_26]; exact fit_same h hbn (by omega) (by omega)
      have hfit2 : fitC μ b (fsV σ k b d) (2 * rdN σ k b d) ↔ fitS σ b (sh1 σ k b d) (2 * rdN σ k b d) := by rw [eF c_26]; exact fit_same h hbn (by omega) (by omega)
      refine A_aload0 dX0_kindOf_38 ?_
      refine A_getR gf_X0_19 rfl dX0_kindOf_39 ?_
      refine A_iload1 dX0_kindOf_42 ?_
      refine A_iload4 dX0_kindOf_43 ?_
      refine A_iload3 dX0_kindOf_45 ?_
      refine A_vi3 lk_X0_56 yv_X2_fits dX0_kindOf_46 (rfl) (rfl) (T_X2_fits hb) (by decide) (Nat.le_of_ble_eq_true rfl) (fun r_46 μ_46 h_46 => ?_)
      obtain ⟨v_46, e_46⟩ := h_46
      replace v_46 := Eq.symm v_46
      subst v_46
      replace e_46 := e_46.symm
      subst e_46
      refine A_if_eq (tgt := 54) dX0_kindOf_49 (by decide) (fun c_49 => ?_) (fun c_49 => ?_)
      · refine A_aload0 dX0_kindOf_54 ?_
        refine A_getR gf_X0_19 rfl dX0_kindOf_55 ?_
        refine A_iload1 dX0_kindOf_58 ?_
        refine A_vi1 lk_X0_60 yv_X2_isWind dX0_kindOf_59 (rfl) (rfl) (T_X2_isWind hb) (by decide) (Nat.le_of_ble_eq_true rfl) (fun r_59 μ_59 h_59 => ?_)
        obtain ⟨v_59, e_59⟩ := h_59
        replace v_59 := Eq.symm v_59
        subst v_59
        replace e_59 := e_59.symm
        subst e_59
        refine A_if_eq (tgt := 84) dX0_kindOf_62 (by decide) (fun c_62 => ?_) (fun c_62 => ?_)
        · refine A_aload0 dX0_kindOf_84 ?_
          refine A_getR gf_X0_15 rfl dX0_kindOf_85 ?_
          refine A_iload1 dX0_kindOf_88 ?_
          refine A_iload2 dX0_kindOf_89 ?_
          refine A_iconst (v := 1) dX0_kindOf_90 (by decide) ?_
          refine A_isub dX0_kindOf_91 ?_
          refine A_vi2 lk_X0_40 yv_X4_number dX0_kindOf_92 (rfl) (rfl) (T_X4_number h.n5) (by decide) (Nat.le_of_ble_eq_true rfl) (fun r_92 μ_92 h_92 => ?_)
          obtain ⟨v_92, e_92⟩ := h_92
          replace v_92 := Eq.symm v_92
          subst v_92
          replace e_92 := e_92.symm
          subst e_92
          rw [num_p h hbn hd]
          refine A_iload3 dX0_kindOf_95 ?_
          refine A_icmp_ne (tgt := 101) dX0_kindOf_96 (by decide) (fun c_96 => ?_) (fun c_96 => ?_)
          · refine A_aload0 dX0_kindOf_101 ?_
            refine A_iload1 dX0_kindOf_102 ?_
            refine A_iload2 dX0_kindOf_103 ?_
            refine A_iload3 dX0_kindOf_104 ?_
            refine A_vi3 lk_X0_64 yv_X0_isInAnotherRow dX0_kindOf_105 (rfl) (rfl) (T_X0_row h hbn hb hd hL c_26 hs) (by decide) (Nat.le_of_ble_eq_true rfl) (fun r_105 μ_105 h_105 => ?_)
            obtain ⟨v_105, e_105⟩ := h_105
            replace v_105 := Eq.symm v_105
            subst v_105
            replace e_105 := e_105.symm
            subst e_105
            refine A_if_eq (tgt := 113) dX0_kindOf_108 (by decide) (fun c_108 => ?_) (fun c_108 => ?_)
            · refine A_aload0 dX0_kindOf_113 ?_
              refine A_getR gf_X0_19 rfl dX0_kindOf_114 ?_
              refine A_getR gf_X0_67 rfl dX0_kindOf_117 ?_
              refine A_iload1 dX0_kindOf_120 ?_
              refine A_iald (rfl) (vp_in_nI (by omega) (by omega)) dX0_kindOf_121 ?_
              rw [nI_c (by omega)]
              refine A_iconst (v := 2) dX0_kindOf_122 (by decide) ?_
              refine A_icmp_ne (tgt := 152) dX0_kindOf_123 (by decide) (fun c_123 => ?_) (fun c_123 => ?_)
              · refine A_iconst (v := 0) dX0_kindOf_152 (by decide) ?_
                refine A_istore5 dX0_kindOf_153 rfl (by decide) ?_
                refine A_iload5 dX0_kindOf_155 ?_
                refine A_if_eq (tgt := 164) dX0_kindOf_157 (by decide) (fun c_157 => ?_) (fun c_157 => absurd c_157 (fun z => z rfl))
                refine A_iconst (v := 5) dX0_kindOf_164 (by decide) ?_
                refine A_iret dX0_kindOf_165 ?_
                exact ⟨_, rfl, ((if_neg (fun z => by rcases z with z | z; exact c_26 z; exact hs z)).trans ((if_neg (fun z => bz_0.mp c_49 (hfit.mpr z))).trans ((if_neg (fun z => bz_0.mp c_62 ((h.bx hbn).2.1.trans z.1))).trans ((if_neg (fun z => c_96 ((if_pos z.1).trans z.2))).trans ((if_neg (bz_0.mp c_108)).trans (if_neg (fun z => c_123 ((h.bx hbn).2.1.trans z.1)))))))).symm, rfl⟩
              · refine A_iload3 dX0_kindOf_126 ?_
                refine A_iload4 dX0_kindOf_127 ?_
                refine A_icmp_ge (tgt := 152) dX0_kindOf_129 (by decide) (fun c_129 => ?_) (fun c_129 => ?_)
                · refine A_iconst (v := 0) dX0_kindOf_152 (by decide) ?_
                  refine A_istore5 dX0_kindOf_153 rfl (by decide) ?_
                  refine A_iload5 dX0_kindOf_155 ?_
                  refine A_if_eq (tgt := 164) dX0_kindOf_157 (by decide) (fun c_157 => ?_) (fun c_157 => absurd c_157 (fun z => z rfl))
                  refine A_iconst (v := 5) dX0_kindOf_164 (by decide) ?_
                  refine A_iret dX0_kindOf_165 ?_
                  exact ⟨_, rfl, ((if_neg (fun z => by rcases z with z | z; exact c_26 z; exact hs z)).trans ((if_neg (fun z => bz_0.mp c_49 (hfit.mpr z))).trans ((if_neg (fun z => bz_0.mp c_62 ((h.bx hbn).2.1.trans z.1))).trans ((if_neg (fun z => c_96 ((if_pos z.1).trans z.2))).trans ((if_neg (bz_0.mp c_108)).trans (if_neg (fun z => absurd z.2.1 (Int32.not_lt.mpr (eF c_26 ▸ c_129))))))))).symm, rfl⟩
                · refine A_aload0 dX0_kindOf_132 ?_
                  refine A_getR gf_X0_19 rfl dX0_kindOf_133 ?_
                  refine A_iload1 dX0_kindOf_136 ?_
                  refine A_iload4 dX0_kindOf_137 ?_
                  refine A_iconst (v := 2) dX0_kindOf_139 (by decide) ?_
                  refine A_iload3 dX0_kindOf_140 ?_
                  refine A_imul dX0_kindOf_141 ?_
                  refine A_vi3 lk_X0_56 yv_X2_fits dX0_kindOf_142 (rfl) (rfl) (T_X2_fits hb) (by decide) (Nat.le_of_ble_eq_true rfl) (fun r_142 μ_142 h_142 => ?_)
                  obtain ⟨v_142, e_142⟩ := h_142
                  replace v_142 := Eq.symm v_142
                  subst v_142
                  replace e_142 := e_142.symm
                  subst e_142
                  refine A_if_eq (tgt := 152) dX0_kindOf_145 (by decide) (fun c_145 => ?_) (fun c_145 => ?_)
                  · refine A_iconst (v := 0) dX0_kindOf_152 (by decide) ?_
                    refine A_istore5 dX0_kindOf_153 rfl (by decide) ?_
                    refine A_iload5 dX0_kindOf_155 ?_
                    refine A_if_eq (tgt := 164) dX0_kindOf_157 (by decide) (fun c_157 => ?_) (fun c_157 => absurd c_157 (fun z => z rfl))
                    refine A_iconst (v := 5) dX0_kindOf_164 (by decide) ?_
                    refine A_iret dX0_kindOf_165 ?_
                    exact ⟨_, rfl, ((if_neg (fun z => by rcases z with z | z; exact c_26 z; exact hs z)).trans ((if_neg (fun z => bz_0.mp c_49 (hfit.mpr z))).trans ((if_neg (fun z => bz_0.mp c_62 ((h.bx hbn).2.1.trans z.1))).trans ((if_neg (fun z => c_96 ((if_pos z.1).trans z.2))).trans ((if_neg (bz_0.mp c_108)).trans (if_neg (fun z => bz_0.mp c_145 (hfit2.mpr z.2.2)))))))).symm, rfl⟩
                  · refine A_iconst (v := 1) dX0_kindOf_148 (by decide) ?_
                    refine A_goto (tgt := 153) dX0_kindOf_149 (by decide) ?_
                    refine A_istore5 dX0_kindOf_153 rfl (by decide) ?_
                    refine A_iload5 dX0_kindOf_155 ?_
                    refine A_if_eq (tgt := 164) dX0_kindOf_157 (by decide) (fun c_157 => absurd c_157 (fun z => absurd z (by decide))) (fun c_157 => ?_)
                    refine A_iconst (v := 4) dX0_kindOf_160 (by decide) ?_
                    refine A_goto (tgt := 165) dX0_kindOf_161 (by decide) ?_
                    refine A_iret dX0_kindOf_165 ?_
                    exact ⟨_, rfl, ((if_neg (fun z => by rcases z with z | z; exact c_26 z; exact hs z)).trans ((if_neg (fun z => bz_0.mp c_49 (hfit.mpr z))).trans ((if_neg (fun z => bz_0.mp c_62 ((h.bx hbn).2.1.trans z.1))).trans ((if_neg (fun z => c_96 ((if_pos z.1).trans z.2))).trans ((if_neg (bz_0.mp c_108)).trans (if_pos ⟨(h.bx hbn).2.1.symm.trans c_123, Int32.not_le.mp (eF c_26 ▸ c_129), hfit2.mp (bz_y c_145)⟩)))))).symm, rfl⟩
            · refine A_iconst (v := 3) dX0_kindOf_111 (by decide) ?_
              refine A_iret dX0_kindOf_112 ?_
              exact ⟨_, rfl, ((if_neg (fun z => by rcases z with z | z; exact c_26 z; exact hs z)).trans ((if_neg (fun z => bz_0.mp c_49 (hfit.mpr z))).trans ((if_neg (fun z => bz_0.mp c_62 ((h.bx hbn).2.1.trans z.1))).trans ((if_neg (fun z => c_96 ((if_pos z.1).trans z.2))).trans (if_pos (bz_y c_108)))))).symm, rfl⟩
          · refine A_iconst (v := 2) dX0_kindOf_99 (by decide) ?_
            refine A_iret dX0_kindOf_100 ?_
            exact ⟨_, rfl, ((if_neg (fun z => by rcases z with z | z; exact c_26 z; exact hs z)).trans ((if_neg (fun z => bz_0.mp c_49 (hfit.mpr z))).trans ((if_neg (fun z => bz_0.mp c_62 ((h.bx hbn).2.1.trans z.1))).trans (if_pos (by by_cases q : 0 < d; exact ⟨q, (if_pos q).symm.trans c_96⟩; exact absurd ((if_neg q).symm.trans c_96).symm c_26))))).symm, rfl⟩
        · refine A_aload0 dX0_kindOf_65 ?_
          refine A_getR gf_X0_19 rfl dX0_kindOf_66 ?_
          refine A_iload1 dX0_kindOf_69 ?_
          refine A_iload4 dX0_kindOf_70 ?_
          refine A_iload3 dX0_kindOf_72 ?_
          refine A_bipush (v := 8) dX0_kindOf_73 (by decide) ?_
          refine A_iadd dX0_kindOf_75 ?_
          refine A_vi3 lk_X0_56 yv_X2_fits dX0_kindOf_76 (rfl) (rfl) (T_X2_fits hb) (by decide) (Nat.le_of_ble_eq_true rfl) (fun r_76 μ_76 h_76 => ?_)
          obtain ⟨v_76, e_76⟩ := h_76
          replace v_76 := Eq.symm v_76
          subst v_76
          replace e_76 := e_76.symm
          subst e_76
          refine A_if_eq (tgt := 84) dX0_kindOf_79 (by decide) (fun c_79 => ?_) (fun c_79 => ?_)
          · refine A_aload0 dX0_kindOf_84 ?_
            refine A_getR gf_X0_15 rfl dX0_kindOf_85 ?_
            refine A_iload1 dX0_kindOf_88 ?_
            refine A_iload2 dX0_kindOf_89 ?_
            refine A_iconst (v := 1) dX0_kindOf_90 (by decide) ?_
            refine A_isub dX0_kindOf_91 ?_
            refine A_vi2 lk_X0_40 yv_X4_number dX0_kindOf_92 (rfl) (rfl) (T_X4_number h.n5) (by decide) (Nat.le_of_ble_eq_true rfl) (fun r_92 μ_92 h_92 => ?_)
            obtain ⟨v_92, e_92⟩ := h_92
            replace v_92 := Eq.symm v_92
            subst v_92
            replace e_92 := e_92.symm
            subst e_92
            rw [num_p h hbn hd]
            refine A_iload3 dX0_kindOf_95 ?_
            refine A_icmp_ne (tgt := 101) dX0_kindOf_96 (by decide) (fun c_96 => ?_) (fun c_96 => ?_)
            · refine A_aload0 dX0_kindOf_101 ?_
              refine A_iload1 dX0_kindOf_102 ?_
              refine A_iload2 dX0_kindOf_103 ?_
              refine A_iload3 dX0_kindOf_104 ?_
              refine A_vi3 lk_X0_64 yv_X0_isInAnotherRow dX0_kindOf_105 (rfl) (rfl) (T_X0_row h hbn hb hd hL c_26 hs) (by decide) (Nat.le_of_ble_eq_true rfl) (fun r_105 μ_105 h_105 => ?_)
              obtain ⟨v_105, e_105⟩ := h_105
              replace v_105 := Eq.symm v_105
              subst v_105
              replace e_105 := e_105.symm
              subst e_105
              refine A_if_eq (tgt := 113) dX0_kindOf_108 (by decide) (fun c_108 => ?_) (fun c_108 => ?_)
              · refine A_aload0 dX0_kindOf_113 ?_
                refine A_getR gf_X0_19 rfl dX0_kindOf_114 ?_
                refine A_getR gf_X0_67 rfl dX0_kindOf_117 ?_
                refine A_iload1 dX0_kindOf_120 ?_
                refine A_iald (rfl) (vp_in_nI (by omega) (by omega)) dX0_kindOf_121 ?_
                rw [nI_c (by omega)]
                refine A_iconst (v := 2) dX0_kindOf_122 (by decide) ?_
                refine A_icmp_ne (tgt := 152) dX0_kindOf_123 (by decide) (fun c_123 => ?_) (fun c_123 => ?_)
                · refine A_iconst (v := 0) dX0_kindOf_152 (by decide) ?_
                  refine A_istore5 dX0_kindOf_153 rfl (by decide) ?_
                  refine A_iload5 dX0_kindOf_155 ?_
                  refine A_if_eq (tgt := 164) dX0_kindOf_157 (by decide) (fun c_157 => ?_) (fun c_157 => absurd c_157 (fun z => z rfl))
                  refine A_iconst (v := 5) dX0_kindOf_164 (by decide) ?_
                  refine A_iret dX0_kindOf_165 ?_
                  exact ⟨_, rfl, ((if_neg (fun z => by rcases z with z | z; exact c_26 z; exact hs z)).trans ((if_neg (fun z => bz_0.mp c_49 (hfit.mpr z))).trans ((if_neg (fun z => bz_0.mp c_79 (hfit8.mpr z.2))).trans ((if_neg (fun z => c_96 ((if_pos z.1).trans z.2))).trans ((if_neg (bz_0.mp c_108)).trans (if_neg (fun z => c_123 ((h.bx hbn).2.1.trans z.1)))))))).symm, rfl⟩
                · refine A_iload3 dX0_kindOf_126 ?_
                  refine A_iload4 dX0_kindOf_127 ?_
                  refine A_icmp_ge (tgt := 152) dX0_kindOf_129 (by decide) (fun c_129 => ?_) (fun c_129 => ?_)
                  · refine A_iconst (v := 0) dX0_kindOf_152 (by decide) ?_
                    refine A_istore5 dX0_kindOf_153 rfl (by decide) ?_
                    refine A_iload5 dX0_kindOf_155 ?_
                    refine A_if_eq (tgt := 164) dX0_kindOf_157 (by decide) (fun c_157 => ?_) (fun c_157 => absurd c_157 (fun z => z rfl))
                    refine A_iconst (v := 5) dX0_kindOf_164 (by decide) ?_
                    refine A_iret dX0_kindOf_165 ?_
                    exact ⟨_, rfl, ((if_neg (fun z => by rcases z with z | z; exact c_26 z; exact hs z)).trans ((if_neg (fun z => bz_0.mp c_49 (hfit.mpr z))).trans ((if_neg (fun z => bz_0.mp c_79 (hfit8.mpr z.2))).trans ((if_neg (fun z => c_96 ((if_pos z.1).trans z.2))).trans ((if_neg (bz_0.mp c_108)).trans (if_neg (fun z => absurd z.2.1 (Int32.not_lt.mpr (eF c_26 ▸ c_129))))))))).symm, rfl⟩
                  · refine A_aload0 dX0_kindOf_132 ?_
                    refine A_getR gf_X0_19 rfl dX0_kindOf_133 ?_
                    refine A_iload1 dX0_kindOf_136 ?_
                    refine A_iload4 dX0_kindOf_137 ?_
                    refine A_iconst (v := 2) dX0_kindOf_139 (by decide) ?_
                    refine A_iload3 dX0_kindOf_140 ?_
                    refine A_imul dX0_kindOf_141 ?_
                    refine A_vi3 lk_X0_56 yv_X2_fits dX0_kindOf_142 (rfl) (rfl) (T_X2_fits hb) (by decide) (Nat.le_of_ble_eq_true rfl) (fun r_142 μ_142 h_142 => ?_)
                    obtain ⟨v_142, e_142⟩ := h_142
                    replace v_142 := Eq.symm v_142
                    subst v_142
                    replace e_142 := e_142.symm
                    subst e_142
                    refine A_if_eq (tgt := 152) dX0_kindOf_145 (by decide) (fun c_145 => ?_) (fun c_145 => ?_)
                    · refine A_iconst (v := 0) dX0_kindOf_152 (by decide) ?_
                      refine A_istore5 dX0_kindOf_153 rfl (by decide) ?_
                      refine A_iload5 dX0_kindOf_155 ?_
                      refine A_if_eq (tgt := 164) dX0_kindOf_157 (by decide) (fun c_157 => ?_) (fun c_157 => absurd c_157 (fun z => z rfl))
                      refine A_iconst (v := 5) dX0_kindOf_164 (by decide) ?_
                      refine A_iret dX0_kindOf_165 ?_
                      exact ⟨_, rfl, ((if_neg (fun z => by rcases z with z | z; exact c_26 z; exact hs z)).trans ((if_neg (fun z => bz_0.mp c_49 (hfit.mpr z))).trans ((if_neg (fun z => bz_0.mp c_79 (hfit8.mpr z.2))).trans ((if_neg (fun z => c_96 ((if_pos z.1).trans z.2))).trans ((if_neg (bz_0.mp c_108)).trans (if_neg (fun z => bz_0.mp c_145 (hfit2.mpr z.2.2)))))))).symm, rfl⟩
                    · refine A_iconst (v := 1) dX0_kindOf_148 (by decide) ?_
                      refine A_goto (tgt := 153) dX0_kindOf_149 (by decide) ?_
                      refine A_istore5 dX0_kindOf_153 rfl (by decide) ?_
                      refine A_iload5 dX0_kindOf_155 ?_
                      refine A_if_eq (tgt := 164) dX0_kindOf_157 (by decide) (fun c_157 => absurd c_157 (fun z => absurd z (by decide))) (fun c_157 => ?_)
                      refine A_iconst (v := 4) dX0_kindOf_160 (by decide) ?_
                      refine A_goto (tgt := 165) dX0_kindOf_161 (by decide) ?_
                      refine A_iret dX0_kindOf_165 ?_
                      exact ⟨_, rfl, ((if_neg (fun z => by rcases z with z | z; exact c_26 z; exact hs z)).trans ((if_neg (fun z => bz_0.mp c_49 (hfit.mpr z))).trans ((if_neg (fun z => bz_0.mp c_79 (hfit8.mpr z.2))).trans ((if_neg (fun z => c_96 ((if_pos z.1).trans z.2))).trans ((if_neg (bz_0.mp c_108)).trans (if_pos ⟨(h.bx hbn).2.1.symm.trans c_123, Int32.not_le.mp (eF c_26 ▸ c_129), hfit2.mp (bz_y c_145)⟩)))))).symm, rfl⟩
              · refine A_iconst (v := 3) dX0_kindOf_111 (by decide) ?_
                refine A_iret dX0_kindOf_112 ?_
                exact ⟨_, rfl, ((if_neg (fun z => by rcases z with z | z; exact c_26 z; exact hs z)).trans ((if_neg (fun z => bz_0.mp c_49 (hfit.mpr z))).trans ((if_neg (fun z => bz_0.mp c_79 (hfit8.mpr z.2))).trans ((if_neg (fun z => c_96 ((if_pos z.1).trans z.2))).trans (if_pos (bz_y c_108)))))).symm, rfl⟩
            · refine A_iconst (v := 2) dX0_kindOf_99 (by decide) ?_
              refine A_iret dX0_kindOf_100 ?_
              exact ⟨_, rfl, ((if_neg (fun z => by rcases z with z | z; exact c_26 z; exact hs z)).trans ((if_neg (fun z => bz_0.mp c_49 (hfit.mpr z))).trans ((if_neg (fun z => bz_0.mp c_79 (hfit8.mpr z.2))).trans (if_pos (by by_cases q : 0 < d; exact ⟨q, (if_pos q).symm.trans c_96⟩; exact absurd ((if_neg q).symm.trans c_96).symm c_26))))).symm, rfl⟩
          · refine A_iconst (v := 1) dX0_kindOf_82 (by decide) ?_
            refine A_iret dX0_kindOf_83 ?_
            exact ⟨_, rfl, ((if_neg (fun z => by rcases z with z | z; exact c_26 z; exact hs z)).trans ((if_neg (fun z => bz_0.mp c_49 (hfit.mpr z))).trans (if_pos ⟨(h.bx hbn).2.1.symm.trans (bz_y c_62), hfit8.mp (bz_y c_79)⟩))).symm, rfl⟩
      · refine A_iconst (v := 0) dX0_kindOf_52 (by decide) ?_
        refine A_iret dX0_kindOf_53 ?_
        exact ⟨_, rfl, ((if_neg (fun z => by rcases z with z | z; exact c_26 z; exact hs z)).trans (if_pos (hfit.mp (bz_y c_49)))).symm, rfl⟩
    · refine A_iconst (v := -1) dX0_kindOf_36 (by decide) ?_
      refine A_iret dX0_kindOf_37 ?_
      exact ⟨_, rfl, (if_pos (Or.inr (by rw [← eF c_26]; exact c_33))).symm, rfl⟩
theorem wrS_v {σ : Mem} {k : Int32} {b d : Nat} : wrS σ k b d = -1 ∨ (0 ≤ wrS σ k b d ∧ ¬ wrS σ k b d = -1) := by
  unfold wrS
  split
  · exact Or.inl rfl
  · right
    split
    · exact ⟨by decide, by decide⟩
    · split
      · exact ⟨by decide, by decide⟩
      · split
        · exact ⟨by decide, by decide⟩
        · split
          · exact ⟨by decide, by decide⟩
          · split
            · exact ⟨by decide, by decide⟩
            · exact ⟨by decide, by decide⟩
def CnI (σ : Mem) (k : Int32) (p : Nat) (μ : Mem) : Prop := ∀ r, r < 10 → μ.1 78 r = nI (hbA σ k p r) ∧ μ.1 79 r = nI (hbW σ k p r)
theorem CnI.skip {σ μ : Mem} {k : Int32} {p : Nat} (h : CnI σ k p μ) (hn : ¬ 0 ≤ how σ k p) : CnI σ k (p + 1) μ := by
  intro r hr
  have hn2 : ¬ 0 < how σ k p := fun z => hn (Int32.le_of_lt z)
  rw [hbA, hbW, if_neg (fun z => hn z.1), if_neg (fun z => hn2 z.1)]
  exact h r hr
theorem CnI.add {σ μ : Mem} {k : Int32} {p x : Nat} {v w : Int32} (h : CnI σ k p μ) (hx : x < 10) (hr : rdr σ k p = x) (hy : 0 ≤ how σ k p) (hv : v = nI (hbA σ k p x + 1)) (hw : w = nI (hbW σ k p x + (if 0 < how σ k p then 1 else 0))) : CnI σ k (p + 1) (wI (wI μ 78 x v) 79 x w) := by
  intro r hr2
  rw [hbA, hbW, hr]
  by_cases e : x = r
  · subst e
    refine ⟨?_, ?_⟩
    · rw [wI_ne (by omega), wI_same, if_pos ⟨hy, rfl⟩, hv]
    · rw [wI_same, hw]
      by_cases q : 0 < how σ k p
      · rw [if_pos q, if_pos ⟨q, rfl⟩]
      · rw [if_neg q, if_neg (fun z => q z.1)]
  · rw [wI_ne (by omega), wI_ne (by omega), wI_ne (by omega), wI_ne (by omega), if_neg (fun z => e z.2), if_neg (fun z => e z.2)]
    exact h r hr2
/-- what the tables say of a private method that a class beside it calls -/
def okN (G : Wd) : Prop := ∀ (s : State) (H : Heap), gS G s H → va_Nw (.methodLinkNest RX0 85 yX11_isReader "GreyBoxes") s
theorem A_nR {l : Launch} {G : Wd} {cc : ByteArray} {nL d : Nat} {rt : Option FieldType} {Q : Option Value → Mem → Prop} {pc : Nat} {ls : List (Option Value)} {rest : List Value} {μ : Mem} {x : Int32} (hG : okN G) (hd : decode cc pc = .ok (.invokestatic 85, 3)) (hdep : 1 < d) (hW : (rest.map fun v => v.category).sum ≤ 8) (kk : AW l G KC RX0 cc nL d rt Q (pc + 3) ls (.int (bz (isRd x)) :: rest) μ) : AW l G KC RX0 cc nL d rt Q pc ls (.int x :: rest) μ :=
  A_invSN (As := [.int x]) (rest := rest) T_X11_isReader hG ys_X11_isReader rfl hdep hW hd (fun r μ' h => by obtain ⟨v, rfl, rfl, rfl⟩ := h; exact kk)
theorem Sf.wk {σ a c : Mem} {k : Int32} (h : Wk σ k a) (g : Sf a c) : Wk σ k c := h.keep g.k (fun i j _ _ => g.2 i j (by omega))
/-- scratch of the counting alone -/
def S8 (μ μ' : Mem) : Prop := μ'.2 = μ.2 ∧ ∀ i j, i ≠ 78 → i ≠ 79 → μ'.1 i j = μ.1 i j
theorem S8.rf {μ : Mem} : S8 μ μ := ⟨rfl, fun _ _ _ _ => rfl⟩
theorem S8.w {a b : Mem} {i k : Nat} {v : Int32} (h : S8 a b) (hi : i = 78 ∨ i = 79) : S8 a (wI b i k v) := ⟨h.1, fun x j q1 q2 => (wI_ne (by omega)).trans (h.2 x j q1 q2)⟩
theorem S8.sf {a b : Mem} (h : S8 a b) : Sf a b := ⟨h.1, fun i j q => h.2 i j (by omega) (by omega)⟩
set_option maxHeartbeats 400000 in
set_option maxRecDepth 100000 in
theorem L_X0_count_31 {l : Launch} {G : Wd} {k : Int32} {b : Nat} {σ M : Mem} (hG : okN G) (hM : Wk σ k M) (hL : LkI σ k 0 59 M) (hbn : b < nbx σ) (hb : b < 5) (hk : ∀ (x2 x3 x4 : Option Value) (m : Mem), S8 M m → CnI σ k (60 * b + 60) m → AW l G KC RX0 cX0_count 5 5 none (Qv (fun μ' => CnI σ k (60 * nbx σ) μ' ∧ Sf M μ')) 104 [some (.ref (gA G 76)), some (.int (nI b)), x2, x3, x4] [] m) : ∀ (q d : Nat) (m : Mem) (x3 x4 : Option Value), q + d = 60 → S8 M m → CnI σ k (60 * b + d) m → AW l G KC RX0 cX0_count 5 5 none (Qv (fun μ' => CnI σ k (60 * nbx σ) μ' ∧ Sf M μ')) 31 [some (.ref (gA G 76)), some (.int (nI b)), some (.int (nI d)), x3, x4] [] m := by
  intro q
  induction q with
  | zero =>
    intro d m x3 x4 hq hS hI
    obtain rfl : d = 60 := by omega
    refine A_iload2 dX0_count_31 ?_
    refine A_bipush (v := 60) dX0_count_32 (by decide) ?_
    refine A_icmp_ge (tgt := 104) dX0_count_34 (by decide) (fun c_34 => ?_) (fun c_34 => absurd c_34 (fun z => z (Int32.le_refl _)))
    exact hk _ _ _ m hS hI
  | succ q ih =>
    intro d m x3 x4 hq hS hI
    have hd : d < 60 := by omega
    have hW := Sf.wk hM hS.sf
    have hLm : LkI σ k d d m := fun b2 d2 h1 h2 h3 => (hS.2 77 _ (by omega) (by omega)).trans (hL b2 d2 h1 (by omega) (by omega))
    have eh := how_e (σ := σ) (k := k) (b := b) hd
    refine A_iload2 dX0_count_31 ?_
    refine A_bipush (v := 60) dX0_count_32 (by decide) ?_
    refine A_icmp_ge (tgt := 104) dX0_count_34 (by decide) (fun c_34 => absurd c_34 (fun z => nI_ge (a := d) (b := 60) hd (by decide) z)) (fun c_34 => ?_)
    refine A_aload0 dX0_count_37 ?_
    refine A_iload1 dX0_count_38 ?_
    refine A_iload2 dX0_count_39 ?_
    refine A_vi2 lk_X0_79 yv_X0_kindOf dX0_count_40 (rfl) (rfl) (T_X0_kindOf hW hbn hb hd hLm) (by decide) (Nat.le_of_ble_eq_true rfl) (fun r_40 μ_40 h_40 => ?_)
    obtain ⟨v_40, e_40⟩ := h_40
    replace v_40 := Eq.symm v_40
    subst v_40
    replace e_40 := e_40.symm
    subst e_40
    refine A_istore3 dX0_count_43 rfl (by decide) ?_
    refine A_aload0 dX0_count_44 ?_
    refine A_getR gf_X0_15 rfl dX0_count_45 ?_
    refine A_iload1 dX0_count_48 ?_
    refine A_iload2 dX0_count_49 ?_
    refine A_vi2 lk_X0_82 yv_X4_readerOf dX0_count_50 (rfl) (rfl) (T_X4_readerOf hW.n5) (by decide) (Nat.le_of_ble_eq_true rfl) (fun r_50 μ_50 h_50 => ?_)
    obtain ⟨v_50, e_50⟩ := h_50
    replace e_50 := Eq.symm e_50
    subst e_50
    refine A_istore4 dX0_count_53 rfl (by decide) ?_
    refine A_iload3 dX0_count_55 ?_
    refine A_iconst (v := -1) dX0_count_56 (by decide) ?_
    refine A_icmp_eq (tgt := 98) dX0_count_57 (by decide) (fun c_57 => ?_) (fun c_57 => ?_)
    · refine A_iinc2 dX0_count_98 rfl rfl (by decide) ?_
      refine A_goto (tgt := 31) dX0_count_101 (by decide) ?_
      rw [show nI d + Int32.ofInt 1 = nI (d + 1) from nI_1 d]
      exact ih (d + 1) m _ _ (by omega) hS (hI.skip (by rw [eh, c_57]; decide))
    · have hge : 0 ≤ wrS σ k b d := (wrS_v.resolve_left c_57).1
      have hrn := wrS_rd hge
      obtain ⟨x, hx10, hx⟩ := layW_r (k := k) hM.2.2.2.1.2 (nfc σ) (60 * b + d) (Nat.le_refl _) hrn
      have hrd : rdr σ k (60 * b + d) = x := by unfold rdr; rw [hx]; exact nI_c (by omega)
      have e50 : r_50 = nI x := by
        rw [v_50, hW.no, if_pos ⟨nI_pos' (by omega), nI_lt hbn (by have := hM.2.2.2.2.1.t.1; omega), nI_pos' (by omega), nI_lt (b := 60) hd (by decide)⟩, nI_60, nI_c (by omega), hW.2.1.2.2 _ (by omega) hrn, hx]
      replace e50 := Eq.symm e50
      subst e50
      obtain ⟨a1, a2⟩ := hI x hx10
      have hle1 := hbA_le σ k (60 * b + d) x
      have hle2 := hbW_le σ k (60 * b + d) x
      refine A_iload4 dX0_count_60 ?_
      refine A_nR hG dX0_count_62 (by decide) (Nat.le_of_ble_eq_true rfl) ?_
      refine A_if_eq (tgt := 98) dX0_count_65 (by decide) (fun c_65 => absurd c_65 (fun z => bz_0.mp z ⟨nI_pos' (by omega), nI_lt (b := 10) hx10 (by decide)⟩)) (fun c_65 => ?_)
      refine A_aload0 dX0_count_68 ?_
      refine A_getR gf_X0_29 rfl dX0_count_69 ?_
      refine A_iload4 dX0_count_72 ?_
      refine A_dup2 dX0_count_74 rfl rfl ?_
      refine A_iald (rfl) (vp_in_nI (by omega) (by omega)) dX0_count_75 ?_
      rw [nI_c (by omega), a1]
      refine A_iconst (v := 1) dX0_count_76 (by decide) ?_
      refine A_iadd dX0_count_77 ?_
      rw [nI_1]
      refine A_iast (rfl) (vp_in_nI (by omega) (by omega)) dX0_count_78 ?_
      rw [nI_c (by omega)]
      refine A_aload0 dX0_count_79 ?_
      refine A_getR gf_X0_32 rfl dX0_count_80 ?_
      refine A_iload4 dX0_count_83 ?_
      refine A_dup2 dX0_count_85 rfl rfl ?_
      refine A_iald (rfl) (vp_in_nI (by omega) (by omega)) dX0_count_86 ?_
      rw [nI_c (by omega), wI_ne (by omega), a2]
      refine A_iload3 dX0_count_87 ?_
      refine A_if_le (tgt := 95) dX0_count_88 (by decide) (fun c_88 => ?_) (fun c_88 => ?_)
      · refine A_iconst (v := 0) dX0_count_95 (by decide) ?_
        refine A_iadd dX0_count_96 ?_
        refine A_iast (rfl) (vp_in_nI (by omega) (by omega)) dX0_count_97 ?_
        rw [nI_c (by omega)]
        refine A_iinc2 dX0_count_98 rfl rfl (by decide) ?_
        refine A_goto (tgt := 31) dX0_count_101 (by decide) ?_
        rw [show nI d + Int32.ofInt 1 = nI (d + 1) from nI_1 d]
        refine ih (d + 1) _ _ _ (by omega) ((hS.w (Or.inl rfl)).w (Or.inr rfl)) (hI.add hx10 hrd (by rw [eh]; exact hge) rfl ?_)
        rw [eh, if_neg (Int32.not_lt.mpr c_88)]
        exact Int32.add_zero _
      · refine A_iconst (v := 1) dX0_count_91 (by decide) ?_
        refine A_goto (tgt := 96) dX0_count_92 (by decide) ?_
        refine A_iadd dX0_count_96 ?_
        refine A_iast (rfl) (vp_in_nI (by omega) (by omega)) dX0_count_97 ?_
        rw [nI_c (by omega)]
        refine A_iinc2 dX0_count_98 rfl rfl (by decide) ?_
        refine A_goto (tgt := 31) dX0_count_101 (by decide) ?_
        rw [show nI d + Int32.ofInt 1 = nI (d + 1) from nI_1 d]
        refine ih (d + 1) _ _ _ (by omega) ((hS.w (Or.inl rfl)).w (Or.inr rfl)) (hI.add hx10 hrd (by rw [eh]; exact hge) rfl ?_)
        rw [eh, if_pos (Int32.not_le.mp c_88)]
        exact nI_1 _
set_option maxHeartbeats 400000 in
set_option maxRecDepth 100000 in
theorem L_X0_count_18 {l : Launch} {G : Wd} {k : Int32} {σ M : Mem} (hG : okN G) (hM : Wk σ k M) (hL : LkI σ k 0 59 M) : ∀ (q b : Nat) (m : Mem) (x2 x3 x4 : Option Value), q + b = nbx σ → S8 M m → CnI σ k (60 * b) m → AW l G KC RX0 cX0_count 5 5 none (Qv (fun μ' => CnI σ k (60 * nbx σ) μ' ∧ Sf M μ')) 18 [some (.ref (gA G 76)), some (.int (nI b)), x2, x3, x4] [] m := by
  have h5 := hM.2.2.2.2.1.t.1
  intro q
  induction q with
  | zero =>
    intro b m x2 x3 x4 hq hS hI
    obtain rfl : b = nbx σ := by omega
    have e0 := (Sf.wk hM hS.sf).no
    refine A_iload1 dX0_count_18 ?_
    refine A_aload0 dX0_count_19 ?_
    refine A_getR gf_X0_19 rfl dX0_count_20 ?_
    refine A_getI gf_X0_35 rfl dX0_count_23 ?_
    rw [e0]
    refine A_icmp_ge (tgt := 110) dX0_count_26 (by decide) (fun c_26 => ?_) (fun c_26 => absurd c_26 (fun z => z (Int32.le_refl _)))
    refine A_vret dX0_count_110 ?_
    exact ⟨rfl, hI, hS.sf⟩
  | succ q ih =>
    intro b m x2 x3 x4 hq hS hI
    have e0 := (Sf.wk hM hS.sf).no
    refine A_iload1 dX0_count_18 ?_
    refine A_aload0 dX0_count_19 ?_
    refine A_getR gf_X0_19 rfl dX0_count_20 ?_
    refine A_getI gf_X0_35 rfl dX0_count_23 ?_
    rw [e0]
    refine A_icmp_ge (tgt := 110) dX0_count_26 (by decide) (fun c_26 => absurd c_26 (fun z => nI_ge (by omega) (by omega) z)) (fun c_26 => ?_)
    refine A_iconst (v := 0) dX0_count_29 (by decide) ?_
    refine A_istore2 dX0_count_30 rfl (by decide) ?_
    refine L_X0_count_31 hG hM hL (by omega) (by omega) (fun y2 y3 y4 m2 hS2 hI2 => ?_) 60 0 m _ _ (by omega) hS hI
    refine A_iinc1 dX0_count_104 rfl rfl (by decide) ?_
    refine A_goto (tgt := 18) dX0_count_107 (by decide) ?_
    rw [show nI b + Int32.ofInt 1 = nI (b + 1) from nI_1 b]
    exact ih (b + 1) m2 _ _ _ (by omega) hS2 (by rw [show 60 * (b + 1) = 60 * b + 60 by omega]; exact hI2)
set_option maxHeartbeats 400000 in
set_option maxRecDepth 100000 in
theorem T_X0_count {l : Launch} {G : Wd} {k : Int32} {σ M : Mem} (hG : okN G) (hM : Wk σ k M) (hL : LkI σ k 0 59 M) : Mt l G KC yX0_count cX0_count 5 none 5 [.ref (gA G 76)] M (Qv (fun μ' => CnI σ k (60 * nbx σ) μ' ∧ Sf M μ')) := by
  refine Mt.of (own := RX0) (n := 4) (by decide) rfl [some (.ref (gA G 76)), none, none, none, none] rfl (Nat.le_of_ble_eq_true rfl) ?_
  refine A_aload0 dX0_count_0 ?_
  refine A_getR gf_X0_29 rfl dX0_count_1 ?_
  refine A_iconst (v := 0) dX0_count_4 (by decide) ?_
  refine A_sv2 lk_X0_73 ys_J7_fill_53178 dX0_count_5 (T_fill (n := 10) (by decide) rfl) (by decide) (Nat.le_of_ble_eq_true rfl) (fun μ_5 h_5 => ?_)
  replace h_5 := Eq.symm h_5
  subst h_5
  refine A_aload0 dX0_count_8 ?_
  refine A_getR gf_X0_32 rfl dX0_count_9 ?_
  refine A_iconst (v := 0) dX0_count_12 (by decide) ?_
  refine A_sv2 lk_X0_73 ys_J7_fill_53178 dX0_count_13 (T_fill (n := 10) (by decide) rfl) (by decide) (Nat.le_of_ble_eq_true rfl) (fun μ_13 h_13 => ?_)
  replace h_13 := Eq.symm h_13
  subst h_13
  refine A_iconst (v := 0) dX0_count_16 (by decide) ?_
  refine A_istore1 dX0_count_17 rfl (by decide) ?_
  refine L_X0_count_18 hG hM hL (nbx σ) 0 _ _ _ _ (by omega) ⟨rfl, fun i j q1 q2 => (wRow_o (by omega)).trans (wRow_o (by omega))⟩ (fun r hr => ⟨?_, ?_⟩)
  · rw [wRow_o (by omega), wRow_i hr]; rfl
  · rw [wRow_i hr]; rfl
set_option maxHeartbeats 400000 in
set_option maxRecDepth 100000 in
theorem L_X0_worst_8 {l : Launch} {G : Wd} {k : Int32} {σ M m : Mem} (h5 : nbx σ ≤ 5) (hI : CnI σ k (60 * nbx σ) m) (hS : Sf M m) : ∀ (q r : Nat) (x3 : Option Value), q + r = 10 → AW l G KC RX0 cX0_worst 4 6 (some .int) (Qi (fun v μ' => v = oI (hbB σ k) ∧ CnI σ k (60 * nbx σ) μ' ∧ Sf M μ')) 8 [some (.ref (gA G 76)), some (.int (oI (bst (hbA σ k (60 * nbx σ)) (hbW σ k (60 * nbx σ)) r))), some (.int (nI r)), x3] [] m := by
  intro q
  induction q with
  | zero =>
    intro r x3 hq
    obtain rfl : r = 10 := by omega
    refine A_iload2 dX0_worst_8 ?_
    refine A_bipush (v := 10) dX0_worst_9 (by decide) ?_
    refine A_icmp_ge (tgt := 79) dX0_worst_11 (by decide) (fun c_11 => ?_) (fun c_11 => absurd c_11 (fun z => z (Int32.le_refl _)))
    refine A_iload1 dX0_worst_79 ?_
    refine A_iret dX0_worst_80 ?_
    exact ⟨_, rfl, rfl, hI, hS⟩
  | succ q ih =>
    intro r x3 hq
    obtain ⟨a1, a2⟩ := hI r (by omega)
    have la := hbA_le σ k (60 * nbx σ) r
    have lw := hbW_le σ k (60 * nbx σ) r
    have hst : bst (hbA σ k (60 * nbx σ)) (hbW σ k (60 * nbx σ)) (r + 1) = if 0 < (hbA σ k (60 * nbx σ)) r ∧ btr (hbA σ k (60 * nbx σ)) (hbW σ k (60 * nbx σ)) r (bst (hbA σ k (60 * nbx σ)) (hbW σ k (60 * nbx σ)) r) = true then some r else bst (hbA σ k (60 * nbx σ)) (hbW σ k (60 * nbx σ)) r := rfl
    cases hb : bst (hbA σ k (60 * nbx σ)) (hbW σ k (60 * nbx σ)) r with
    | none =>
      refine A_iload2 dX0_worst_8 ?_
      refine A_bipush (v := 10) dX0_worst_9 (by decide) ?_
      refine A_icmp_ge (tgt := 79) dX0_worst_11 (by decide) (fun c_11 => absurd c_11 (fun z => nI_ge (a := r) (b := 10) (by omega) (by decide) z)) (fun c_11 => ?_)
      refine A_aload0 dX0_worst_14 ?_
      refine A_getR gf_X0_29 rfl dX0_worst_15 ?_
      refine A_iload2 dX0_worst_18 ?_
      refine A_iald (rfl) (vp_in_nI (by omega) (by omega)) dX0_worst_19 ?_
      rw [nI_c (by omega), a1]
      refine A_if_le (tgt := 73) dX0_worst_20 (by decide) (fun c_20 => ?_) (fun c_20 => ?_)
      · refine A_iinc2 dX0_worst_73 rfl rfl (by decide) ?_
        refine A_goto (tgt := 8) dX0_worst_76 (by decide) ?_
        rw [show nI r + Int32.ofInt 1 = nI (r + 1) from nI_1 r]
        rw [hb, if_neg (fun z => by have := (nI_le0 (by omega)).mp c_20; omega)] at hst
        have hh := ih (r + 1) x3 (by omega)
        rw [hst] at hh
        exact hh
      · have hpos : 0 < hbA σ k (60 * nbx σ) r := by rcases Nat.eq_zero_or_pos (hbA σ k (60 * nbx σ) r) with z | z; exact absurd ((nI_le0 (by omega)).mpr z) c_20; exact z
        refine A_iload1 dX0_worst_23 ?_
        refine A_iconst (v := -1) dX0_worst_24 (by decide) ?_
        refine A_icmp_eq (tgt := 57) dX0_worst_25 (by decide) (fun c_25 => ?_) (fun c_25 => absurd c_25 (fun z => z rfl))
        refine A_iconst (v := 1) dX0_worst_57 (by decide) ?_
        refine A_goto (tgt := 62) dX0_worst_58 (by decide) ?_
        refine A_istore3 dX0_worst_62 rfl (by decide) ?_
        refine A_iload3 dX0_worst_63 ?_
        refine A_if_eq (tgt := 71) dX0_worst_64 (by decide) (fun c_64 => absurd c_64 (fun z => absurd z (by decide))) (fun c_64 => ?_)
        refine A_iload2 dX0_worst_67 ?_
        refine A_goto (tgt := 72) dX0_worst_68 (by decide) ?_
        refine A_istore1 dX0_worst_72 rfl (by decide) ?_
        refine A_iinc2 dX0_worst_73 rfl rfl (by decide) ?_
        refine A_goto (tgt := 8) dX0_worst_76 (by decide) ?_
        rw [show nI r + Int32.ofInt 1 = nI (r + 1) from nI_1 r]
        rw [hb, if_pos ⟨hpos, rfl⟩] at hst
        have hh := ih (r + 1) (some (.int 1)) (by omega)
        rw [hst] at hh
        exact hh
    | some j =>
      have hj := bst_lt _ _ _ _ hb
      obtain ⟨b1, b2⟩ := hI j (by omega)
      have lb := hbA_le σ k (60 * nbx σ) j
      have lc := hbW_le σ k (60 * nbx σ) j
      have p1 : hbW σ k (60 * nbx σ) r * hbA σ k (60 * nbx σ) j ≤ 300 * 300 := Nat.mul_le_mul (by omega) (by omega)
      have p2 : hbW σ k (60 * nbx σ) j * hbA σ k (60 * nbx σ) r ≤ 300 * 300 := Nat.mul_le_mul (by omega) (by omega)
      have hjn : ¬ nI j = -1 := fun z => by have := i_eq.mp z; rw [nI_i (by omega)] at this; have e9 : (-1 : Int32).toInt = -1 := rfl; omega
      refine A_iload2 dX0_worst_8 ?_
      refine A_bipush (v := 10) dX0_worst_9 (by decide) ?_
      refine A_icmp_ge (tgt := 79) dX0_worst_11 (by decide) (fun c_11 => absurd c_11 (fun z => nI_ge (a := r) (b := 10) (by omega) (by decide) z)) (fun c_11 => ?_)
      refine A_aload0 dX0_worst_14 ?_
      refine A_getR gf_X0_29 rfl dX0_worst_15 ?_
      refine A_iload2 dX0_worst_18 ?_
      refine A_iald (rfl) (vp_in_nI (by omega) (by omega)) dX0_worst_19 ?_
      rw [nI_c (by omega), a1]
      refine A_if_le (tgt := 73) dX0_worst_20 (by decide) (fun c_20 => ?_) (fun c_20 => ?_)
      · refine A_iinc2 dX0_worst_73 rfl rfl (by decide) ?_
        refine A_goto (tgt := 8) dX0_worst_76 (by decide) ?_
        rw [show nI r + Int32.ofInt 1 = nI (r + 1) from nI_1 r]
        rw [hb, if_neg (fun z => by have := (nI_le0 (by omega)).mp c_20; omega)] at hst
        have hh := ih (r + 1) x3 (by omega)
        rw [hst] at hh
        exact hh
      · have hpos : 0 < hbA σ k (60 * nbx σ) r := by rcases Nat.eq_zero_or_pos (hbA σ k (60 * nbx σ) r) with z | z; exact absurd ((nI_le0 (by omega)).mpr z) c_20; exact z
        refine A_iload1 dX0_worst_23 ?_
        refine A_iconst (v := -1) dX0_worst_24 (by decide) ?_
        refine A_icmp_eq (tgt := 57) dX0_worst_25 (by decide) (fun c_25 => absurd c_25 (fun z => hjn z)) (fun c_25 => ?_)
        refine A_aload0 dX0_worst_28 ?_
        refine A_getR gf_X0_32 rfl dX0_worst_29 ?_
        refine A_iload2 dX0_worst_32 ?_
        refine A_iald (rfl) (vp_in_nI (by omega) (by omega)) dX0_worst_33 ?_
        rw [nI_c (by omega), a2]
        refine A_aload0 dX0_worst_34 ?_
        refine A_getR gf_X0_29 rfl dX0_worst_35 ?_
        refine A_iload1 dX0_worst_38 ?_
        refine A_iald (rfl) (vp_in_nI (n := j) (by omega) (by omega)) dX0_worst_39 ?_
        rw [show (oI (some j)).toNatClampNeg = j from nI_c (by omega), b1]
        refine A_imul dX0_worst_40 ?_
        rw [pk_mul]
        refine A_aload0 dX0_worst_41 ?_
        refine A_getR gf_X0_32 rfl dX0_worst_42 ?_
        refine A_iload1 dX0_worst_45 ?_
        refine A_iald (rfl) (vp_in_nI (n := j) (by omega) (by omega)) dX0_worst_46 ?_
        rw [show (oI (some j)).toNatClampNeg = j from nI_c (by omega), b2]
        refine A_aload0 dX0_worst_47 ?_
        refine A_getR gf_X0_29 rfl dX0_worst_48 ?_
        refine A_iload2 dX0_worst_51 ?_
        refine A_iald (rfl) (vp_in_nI (by omega) (by omega)) dX0_worst_52 ?_
        rw [nI_c (by omega), a1]
        refine A_imul dX0_worst_53 ?_
        rw [pk_mul]
        refine A_icmp_le (tgt := 61) dX0_worst_54 (by decide) (fun c_54 => ?_) (fun c_54 => ?_)
        · refine A_iconst (v := 0) dX0_worst_61 (by decide) ?_
          refine A_istore3 dX0_worst_62 rfl (by decide) ?_
          refine A_iload3 dX0_worst_63 ?_
          refine A_if_eq (tgt := 71) dX0_worst_64 (by decide) (fun c_64 => ?_) (fun c_64 => absurd c_64 (fun z => z rfl))
          refine A_iload1 dX0_worst_71 ?_
          refine A_istore1 dX0_worst_72 rfl (by decide) ?_
          refine A_iinc2 dX0_worst_73 rfl rfl (by decide) ?_
          refine A_goto (tgt := 8) dX0_worst_76 (by decide) ?_
          rw [show nI r + Int32.ofInt 1 = nI (r + 1) from nI_1 r]
          rw [hb, if_neg (fun z => by have z2 : decide _ = true := z.2; have z3 := of_decide_eq_true z2; have := (nI_leI (by omega) (by omega)).mp c_54; omega)] at hst
          have hh := ih (r + 1) (some (.int 0)) (by omega)
          rw [hst] at hh
          exact hh
        · refine A_iconst (v := 1) dX0_worst_57 (by decide) ?_
          refine A_goto (tgt := 62) dX0_worst_58 (by decide) ?_
          refine A_istore3 dX0_worst_62 rfl (by decide) ?_
          refine A_iload3 dX0_worst_63 ?_
          refine A_if_eq (tgt := 71) dX0_worst_64 (by decide) (fun c_64 => absurd c_64 (fun z => absurd z (by decide))) (fun c_64 => ?_)
          refine A_iload2 dX0_worst_67 ?_
          refine A_goto (tgt := 72) dX0_worst_68 (by decide) ?_
          refine A_istore1 dX0_worst_72 rfl (by decide) ?_
          refine A_iinc2 dX0_worst_73 rfl rfl (by decide) ?_
          refine A_goto (tgt := 8) dX0_worst_76 (by decide) ?_
          rw [show nI r + Int32.ofInt 1 = nI (r + 1) from nI_1 r]
          rw [hb, if_pos ⟨hpos, decide_eq_true (by rcases Nat.lt_or_ge (hbW σ k (60 * nbx σ) j * hbA σ k (60 * nbx σ) r) (hbW σ k (60 * nbx σ) r * hbA σ k (60 * nbx σ) j) with z | z; exact z; exact absurd (nI_le z (by omega)) c_54)⟩] at hst
          have hh := ih (r + 1) (some (.int 1)) (by omega)
          rw [hst] at hh
          exact hh
set_option maxHeartbeats 400000 in
set_option maxRecDepth 100000 in
theorem T_X0_worst {l : Launch} {G : Wd} {k : Int32} {σ M : Mem} (hG : okN G) (hM : Wk σ k M) (hL : LkI σ k 0 59 M) : Mt l G KC yX0_worst cX0_worst 4 (some .int) 6 [.ref (gA G 76)] M (Qi (fun v μ' => v = oI (hbB σ k) ∧ CnI σ k (60 * nbx σ) μ' ∧ Sf M μ')) := by
  refine Mt.of (own := RX0) (n := 3) (by decide) rfl [some (.ref (gA G 76)), none, none, none] rfl (Nat.le_of_ble_eq_true rfl) ?_
  refine A_aload0 dX0_worst_0 ?_
  refine A_vv0 lk_X0_70 yv_X0_count dX0_worst_1 (rfl) (rfl) (T_X0_count hG hM hL) (by decide) (Nat.le_of_ble_eq_true rfl) (fun μ_1 h_1 => ?_)
  obtain ⟨g1, g2⟩ := h_1
  refine A_iconst (v := -1) dX0_worst_4 (by decide) ?_
  refine A_istore1 dX0_worst_5 rfl (by decide) ?_
  refine A_iconst (v := 0) dX0_worst_6 (by decide) ?_
  refine A_istore2 dX0_worst_7 rfl (by decide) ?_
  exact L_X0_worst_8 hM.2.2.2.2.1.t.1 g1 g2 10 0 _ (by omega)
set_option maxHeartbeats 100000 in
set_option maxRecDepth 100000 in
theorem C_wrong {l : Launch} {G : Wd} {b d : Int32} {k : Int32} {n : Nat} {σ μ : Mem} (hR : Rc σ n μ) (hn : n + 1 ≤ 600) : Mt l G KC yX11_wrong cX11_wrong 4 (some .int) 9 [.ref (gA G 0), .int b, .int d, .int k] μ (Qi (fun v μ' => v = sp_wrong σ b d k ∧ Rc σ (n + 1) μ')) := by
  refine Mt.of (own := RX11) (n := 0) (by decide) rfl [some (.ref (gA G 0)), some (.int b), some (.int d), some (.int k)] rfl (Nat.le_of_ble_eq_true rfl) ?_
  refine A_aload0 dX11_wrong_0 ?_
  refine A_iload1 dX11_wrong_1 ?_
  refine A_iload2 dX11_wrong_2 ?_
  refine A_vi2 lk_X11_181 yv_X11_isSpot dX11_wrong_3 (rfl) (rfl) (T_X11_isSpot) (by decide) (Nat.le_of_ble_eq_true rfl) (fun r_3 μ_3 h_3 => ?_)
  obtain ⟨v_3, e_3⟩ := h_3
  replace v_3 := Eq.symm v_3
  subst v_3
  replace e_3 := e_3.symm
  subst e_3
  refine A_if_ne (tgt := 11) dX11_wrong_6 (by decide) (fun c_6 => ?_) (fun c_6 => ?_)
  · have hp : isPl σ b d := ⟨(bc_bx hR.1 b).mp (bz_y c_6).1, (bz_y c_6).2⟩
    obtain ⟨x, y, rfl, rfl, hb, hd, hok, ex, ey, hbn⟩ := i_pl hR.2.1.1.2.2 hp
    refine A_aload0 dX11_wrong_11 ?_
    refine A_getR gf_X11_76 rfl dX11_wrong_12 ?_
    refine A_iload3 dX11_wrong_15 ?_
    refine A_vv1 lk_X11_201 yv_X4_at dX11_wrong_16 (rfl) (rfl) (T_at hR) (by decide) (Nat.le_of_ble_eq_true rfl) (fun μ_16 h_16 => ?_)
    have hC := hR.at h_16
    refine A_aload0 dX11_wrong_19 ?_
    refine A_getR gf_X11_101 rfl dX11_wrong_20 ?_
    refine A_iload2 dX11_wrong_23 ?_
    refine A_iload2 dX11_wrong_24 ?_
    refine A_vv2 lk_X11_236 yv_X0_look dX11_wrong_25 (rfl) (rfl) (T_X0_look hC (Nat.le_refl _) hd) (by decide) (Nat.le_of_ble_eq_true rfl) (fun μ_25 h_25 => ?_)
    obtain ⟨hC2, hL2⟩ := h_25
    refine A_aload0 dX11_wrong_28 ?_
    refine A_getR gf_X11_101 rfl dX11_wrong_29 ?_
    refine A_iload1 dX11_wrong_32 ?_
    refine A_iload2 dX11_wrong_33 ?_
    refine A_vi2 lk_X11_240 yv_X0_kindOf dX11_wrong_34 (rfl) (rfl) (T_X0_kindOf hC2.wk hbn hb hd hL2) (by decide) (Nat.le_of_ble_eq_true rfl) (fun r_34 μ_34 h_34 => ?_)
    obtain ⟨v_34, e_34⟩ := h_34
    replace v_34 := Eq.symm v_34
    subst v_34
    replace e_34 := e_34.symm
    subst e_34
    refine A_iret dX11_wrong_37 ?_
    refine ⟨_, rfl, ?_, hC2.rc hR.2.1 hn⟩
    unfold sp_wrong
    rw [if_pos hp, ex, ey]
  · refine A_iconst (v := -1) dX11_wrong_9 (by decide) ?_
    refine A_iret dX11_wrong_10 ?_
    refine ⟨_, rfl, ?_, hR.up hn⟩
    unfold sp_wrong
    rw [if_neg (fun z => bz_0.mp c_6 ⟨(bc_bx hR.1 b).mpr z.1, z.2⟩)]
set_option maxHeartbeats 400000 in
set_option maxRecDepth 100000 in
theorem C_habit {l : Launch} {G : Wd} {w : Int32} {k : Int32} {n : Nat} {σ μ : Mem} (hG : okN G) (hR : Rc σ n μ) (hn : n + 1 ≤ 600) : Mt l G KC yX11_habit cX11_habit 4 (some .int) 9 [.ref (gA G 0), .int w, .int k] μ (Qi (fun v μ' => v = sp_habit σ w k ∧ Rc σ (n + 1) μ')) := by
  refine Mt.of (own := RX11) (n := 1) (by decide) rfl [some (.ref (gA G 0)), some (.int w), some (.int k), none] rfl (Nat.le_of_ble_eq_true rfl) ?_
  refine A_iload1 dX11_habit_0 ?_
  refine A_if_eq (tgt := 11) dX11_habit_1 (by decide) (fun c_1 => ?_) (fun c_1 => ?_)
  · refine A_aload0 dX11_habit_11 ?_
    refine A_getR gf_X11_76 rfl dX11_habit_12 ?_
    refine A_iload2 dX11_habit_15 ?_
    refine A_vv1 lk_X11_201 yv_X4_at dX11_habit_16 (rfl) (rfl) (T_at hR) (by decide) (Nat.le_of_ble_eq_true rfl) (fun μ_16 h_16 => ?_)
    have hC := hR.at h_16
    refine A_aload0 dX11_habit_19 ?_
    refine A_getR gf_X11_101 rfl dX11_habit_20 ?_
    refine A_iconst (v := 0) dX11_habit_23 (by decide) ?_
    refine A_bipush (v := 59) dX11_habit_24 (by decide) ?_
    refine A_vv2 lk_X11_236 yv_X0_look dX11_habit_26 (rfl) (rfl) (T_X0_look (f := 0) (t := 59) hC (by decide) (by decide)) (by decide) (Nat.le_of_ble_eq_true rfl) (fun μ_26 h_26 => ?_)
    obtain ⟨hC2, hL2⟩ := h_26
    refine A_aload0 dX11_habit_29 ?_
    refine A_getR gf_X11_101 rfl dX11_habit_30 ?_
    refine A_vi0 lk_X11_243 yv_X0_worst dX11_habit_33 (rfl) (rfl) (T_X0_worst hG hC2.wk hL2) (by decide) (Nat.le_of_ble_eq_true rfl) (fun r_33 μ_33 h_33 => ?_)
    obtain ⟨g1, g2, g3⟩ := h_33
    replace g1 := Eq.symm g1
    subst g1
    have hnj : ∀ j, hbB σ k = some j → ¬ oI (some j) = -1 := fun j hj z => by
      have h10 := bst_lt _ _ _ _ hj
      have := i_eq.mp z
      rw [show oI (some j) = nI j from rfl, nI_i (by omega)] at this
      have e9 : (-1 : Int32).toInt = -1 := rfl
      omega
    refine A_istore3 dX11_habit_36 rfl (by decide) ?_
    refine A_iload1 dX11_habit_37 ?_
    refine A_if_eq (tgt := 46) dX11_habit_38 (by decide) (fun c_38 => ?_) (fun c_38 => ?_)
    · refine A_iload3 dX11_habit_46 ?_
      refine A_goto (tgt := 59) dX11_habit_47 (by decide) ?_
      refine A_iret dX11_habit_59 ?_
      refine ⟨_, rfl, ?_, (hC2.sf g3).rc hR.2.1 hn⟩
      unfold sp_habit
      rw [if_pos c_38]
    · have hw1 : w = 1 := absurd c_1 c_38
      refine A_iload3 dX11_habit_41 ?_
      refine A_iconst (v := -1) dX11_habit_42 (by decide) ?_
      refine A_icmp_ne (tgt := 50) dX11_habit_43 (by decide) (fun c_43 => ?_) (fun c_43 => ?_)
      · obtain ⟨j, hB⟩ : ∃ j, hbB σ k = some j := by
          cases hB : hbB σ k with
          | none => rw [hB] at c_43; exact absurd rfl c_43
          | some j => exact ⟨j, rfl⟩
        have h10 := bst_lt _ _ _ _ hB
        rw [hB]
        refine A_aload0 dX11_habit_50 ?_
        refine A_getR gf_X11_101 rfl dX11_habit_51 ?_
        refine A_getR gf_X11_247 rfl dX11_habit_54 ?_
        refine A_iload3 dX11_habit_57 ?_
        refine A_iald (rfl) (vp_in_nI (n := j) (by omega) (by omega)) dX11_habit_58 ?_
        rw [show (oI (some j)).toNatClampNeg = j from nI_c (by omega), (g2 j (by omega)).2]
        refine A_iret dX11_habit_59 ?_
        refine ⟨_, rfl, ?_, (hC2.sf g3).rc hR.2.1 hn⟩
        unfold sp_habit
        rw [if_neg c_38, if_pos hw1, hB]
      · refine A_iload3 dX11_habit_46 ?_
        refine A_goto (tgt := 59) dX11_habit_47 (by decide) ?_
        refine A_iret dX11_habit_59 ?_
        refine ⟨_, rfl, ?_, (hC2.sf g3).rc hR.2.1 hn⟩
        unfold sp_habit
        rw [if_neg c_38, if_pos hw1]
        cases hB : hbB σ k with
        | none => rfl
        | some j => exact absurd (by rw [hB] at c_43; exact c_43) (hnj j hB)
  · refine A_iload1 dX11_habit_4 ?_
    refine A_iconst (v := 1) dX11_habit_5 (by decide) ?_
    refine A_icmp_eq (tgt := 11) dX11_habit_6 (by decide) (fun c_6 => ?_) (fun c_6 => ?_)
    · refine A_aload0 dX11_habit_11 ?_
      refine A_getR gf_X11_76 rfl dX11_habit_12 ?_
      refine A_iload2 dX11_habit_15 ?_
      refine A_vv1 lk_X11_201 yv_X4_at dX11_habit_16 (rfl) (rfl) (T_at hR) (by decide) (Nat.le_of_ble_eq_true rfl) (fun μ_16 h_16 => ?_)
      have hC := hR.at h_16
      refine A_aload0 dX11_habit_19 ?_
      refine A_getR gf_X11_101 rfl dX11_habit_20 ?_
      refine A_iconst (v := 0) dX11_habit_23 (by decide) ?_
      refine A_bipush (v := 59) dX11_habit_24 (by decide) ?_
      refine A_vv2 lk_X11_236 yv_X0_look dX11_habit_26 (rfl) (rfl) (T_X0_look (f := 0) (t := 59) hC (by decide) (by decide)) (by decide) (Nat.le_of_ble_eq_true rfl) (fun μ_26 h_26 => ?_)
      obtain ⟨hC2, hL2⟩ := h_26
      refine A_aload0 dX11_habit_29 ?_
      refine A_getR gf_X11_101 rfl dX11_habit_30 ?_
      refine A_vi0 lk_X11_243 yv_X0_worst dX11_habit_33 (rfl) (rfl) (T_X0_worst hG hC2.wk hL2) (by decide) (Nat.le_of_ble_eq_true rfl) (fun r_33 μ_33 h_33 => ?_)
      obtain ⟨g1, g2, g3⟩ := h_33
      replace g1 := Eq.symm g1
      subst g1
      have hnj : ∀ j, hbB σ k = some j → ¬ oI (some j) = -1 := fun j hj z => by
        have h10 := bst_lt _ _ _ _ hj
        have := i_eq.mp z
        rw [show oI (some j) = nI j from rfl, nI_i (by omega)] at this
        have e9 : (-1 : Int32).toInt = -1 := rfl
        omega
      refine A_istore3 dX11_habit_36 rfl (by decide) ?_
      refine A_iload1 dX11_habit_37 ?_
      refine A_if_eq (tgt := 46) dX11_habit_38 (by decide) (fun c_38 => ?_) (fun c_38 => ?_)
      · refine A_iload3 dX11_habit_46 ?_
        refine A_goto (tgt := 59) dX11_habit_47 (by decide) ?_
        refine A_iret dX11_habit_59 ?_
        refine ⟨_, rfl, ?_, (hC2.sf g3).rc hR.2.1 hn⟩
        unfold sp_habit
        rw [if_pos c_38]
      · have hw1 : w = 1 := c_6
        refine A_iload3 dX11_habit_41 ?_
        refine A_iconst (v := -1) dX11_habit_42 (by decide) ?_
        refine A_icmp_ne (tgt := 50) dX11_habit_43 (by decide) (fun c_43 => ?_) (fun c_43 => ?_)
        · obtain ⟨j, hB⟩ : ∃ j, hbB σ k = some j := by
            cases hB : hbB σ k with
            | none => rw [hB] at c_43; exact absurd rfl c_43
            | some j => exact ⟨j, rfl⟩
          have h10 := bst_lt _ _ _ _ hB
          rw [hB]
          refine A_aload0 dX11_habit_50 ?_
          refine A_getR gf_X11_101 rfl dX11_habit_51 ?_
          refine A_getR gf_X11_247 rfl dX11_habit_54 ?_
          refine A_iload3 dX11_habit_57 ?_
          refine A_iald (rfl) (vp_in_nI (n := j) (by omega) (by omega)) dX11_habit_58 ?_
          rw [show (oI (some j)).toNatClampNeg = j from nI_c (by omega), (g2 j (by omega)).2]
          refine A_iret dX11_habit_59 ?_
          refine ⟨_, rfl, ?_, (hC2.sf g3).rc hR.2.1 hn⟩
          unfold sp_habit
          rw [if_neg c_38, if_pos hw1, hB]
        · refine A_iload3 dX11_habit_46 ?_
          refine A_goto (tgt := 59) dX11_habit_47 (by decide) ?_
          refine A_iret dX11_habit_59 ?_
          refine ⟨_, rfl, ?_, (hC2.sf g3).rc hR.2.1 hn⟩
          unfold sp_habit
          rw [if_neg c_38, if_pos hw1]
          cases hB : hbB σ k with
          | none => rfl
          | some j => exact absurd (by rw [hB] at c_43; exact c_43) (hnj j hB)
    · refine A_iconst (v := -1) dX11_habit_9 (by decide) ?_
      refine A_iret dX11_habit_10 ?_
      refine ⟨_, rfl, ?_, hR.up hn⟩
      unfold sp_habit
      rw [if_neg c_1, if_neg c_6]

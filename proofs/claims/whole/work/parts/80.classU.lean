/-! right of a box -/
/-- a wind box has slope 10 alone -/
def WFw (σ : Mem) : Prop := ∀ b, b < nbx σ → σ.1 7 b = 3 → (σ.1 8 (8 * b + 2)).toInt = 10 ∧ (σ.1 8 (8 * b + 3)).toInt = 10
theorem fold_id {α β : Type} {f : β → α → β} {S : β} : ∀ L : List α, (∀ x, x ∈ L → f S x = S) → L.foldl f S = S := by
  intro L
  induction L with
  | nil => intro _; rfl
  | cons x L ih => intro h; rw [List.foldl_cons, h x (List.mem_cons_self ..)]; exact ih (fun y hy => h y (List.mem_cons_of_mem _ hy))
theorem fold_inv {α β : Type} {f : β → α → β} {p : β → Prop} : ∀ (L : List α) (S : β), (∀ S x, x ∈ L → p S → p (f S x)) → p S → p (L.foldl f S) := by
  intro L
  induction L with
  | nil => intro S _ h; exact h
  | cons x L ih => intro S h hS; rw [List.foldl_cons]; exact ih _ (fun S y hy => h S y (List.mem_cons_of_mem _ hy)) (h S x (List.mem_cons_self ..) hS)
theorem allL_rg {σ : Mem} {b : Nat} (h : okBx σ b) {x : Lw} (hx : x ∈ allL σ b) : ((rl σ b 2).toInt ≤ x.2.1.toInt ∧ x.2.1.toInt ≤ (rl σ b 3).toInt) ∧ lgN σ b ≤ x.2.2.1 ∧ (x.2.2.1 : Int) ≤ (rl σ b 5).toInt := by
  obtain ⟨-, r2, r4, r6⟩ := rn_i h
  obtain ⟨-, -, -, h2, h4, h6⟩ := h
  unfold allL eZ at hx
  rw [List.mem_flatMap] at hx
  obtain ⟨z, z1, z2⟩ := hx
  rw [eS_bn, List.mem_map] at z2
  obtain ⟨y, hy, y2⟩ := z2
  subst y2
  unfold bnL bnS bnLg bnT at hy
  rw [List.mem_flatMap] at hy
  obtain ⟨s, s1, s2⟩ := hy
  rw [List.mem_flatMap] at s2
  obtain ⟨l, l1, l2⟩ := s2
  rw [List.mem_map] at l2
  obtain ⟨t, t1, t2⟩ := l2
  subst t2
  have a1 : 8 ≤ (rl σ b 2).toInt := h2.1
  have a2 : (rl σ b 3).toInt ≤ 12 := h2.2.2
  have a3 : 0 ≤ (rl σ b 4).toInt := h4.1
  have a4 : (rl σ b 5).toInt ≤ 2 := h4.2.2
  have b1 := iv_ok _ _ _ (by omega) s1
  have b2 := ivN_ok _ _ _ l1
  have elg : ((lgN σ b : Nat) : Int) = (rl σ b 4).toInt := i_clamp a3
  show ((rl σ b 2).toInt ≤ s.toInt ∧ s.toInt ≤ (rl σ b 3).toInt) ∧ lgN σ b ≤ l ∧ (l : Int) ≤ (rl σ b 5).toInt
  omega
theorem fnd_rg {σ : Mem} {k : Int32} {b d : Nat} (h : okBx σ b) (hd : d < 60) {x : Lw} (hx : x ∈ (fnd σ k b d).1) : ((rl σ b 2).toInt ≤ x.2.1.toInt ∧ x.2.1.toInt ≤ (rl σ b 3).toInt) ∧ lgN σ b ≤ x.2.2.1 ∧ (x.2.2.1 : Int) ≤ (rl σ b 5).toInt := by
  have hst := st_b (σ := σ) (b := b) hd
  have e := (scan_c (c := cS σ k b (stF σ b d) (stT σ b d)) (f := fS σ k b (stF σ b d) (stT σ b d)) (iv_ne h) (fun x => by have := cntM_le σ k b x (stF σ b d) (stT σ b d + 1 - stF σ b d); show cntM σ k b x (stF σ b d) (stT σ b d + 1 - stF σ b d) ≤ 60; omega)).2
  have e2 : (fnd σ k b d).1 = _ := e
  rw [e2] at hx
  exact allL_rg h (List.mem_filter.mp hx).1
theorem agS_le {σ : Mem} {b d : Nat} : agS σ b d ≤ d := by unfold agS; omega
theorem FT.s3 {σ a c : Mem} {k : Int32} {b d : Nat} (h : FT σ k b d a) (g : S3 a c) (hb : b < 5) : FT σ k b d c :=
  ⟨(g.2 _ 5 (by omega)).trans h.1, (g.2 _ 6 (by omega)).trans h.2.1, ⟨(g.2 _ 12 (by omega)).trans h.2.2.1.1, fun i x hx => (g.2 _ i (by omega)).trans (h.2.2.1.2 i x hx)⟩, (g.2 _ 13 (by omega)).trans h.2.2.2.1, (g.2 _ 14 (by omega)).trans h.2.2.2.2⟩
set_option maxHeartbeats 400000 in
set_option maxRecDepth 100000 in
theorem L_X8_widen_16 {l : Launch} {G : Wd} {σ M : Mem} {k : Int32} {b d lg : Nat} {Z : Sp} (hG : okZ G) (hw : WFw σ) (hM : Wk σ k M) (hbn : b < nbx σ) (hb : b < 5) (hd : d + lg < 60) (hF : FT σ k b (d + lg) M) (hr : ¬ rdN σ k b (d + lg) = -100000) : ∀ (R L : List Lw) (S : Sp) (m : Mem) (x7 x8 : Option Value), L ++ R = (fnd σ k b (d + lg)).1 → SpI S m → S3 M m → R.foldl (rLw σ b (d + lg) lg (rdN σ k b (d + lg))) S = Z → AW l G KC RX8 cX8_widen 9 4 none (Qv (fun μ' => SpI Z μ' ∧ S3 M μ')) 16 [some (.ref (gA G 73)), some (.int (nI b)), some (.int (nI d)), some (.int (nI lg)), some (.int (rdN σ k b (d + lg))), some (.int (nI (agS σ b (d + lg)))), some (.int (nI L.length)), x7, x8] [] m := by
  have hl := fnd_l2 (k := k) (d := d + lg) (hM.ok hbn).1
  have hown := rd_b hM.2.2.2.1 hr
  have hag : agS σ b (d + lg) < 60 := Nat.lt_of_le_of_lt agS_le hd
  intro R
  induction R with
  | nil =>
    intro L S m x7 x8 hL hS hm he
    have hL2 : L = (fnd σ k b (d + lg)).1 := by rw [← hL]; exact (List.append_nil L).symm
    have he2 : S = Z := he
    have hc := (hF.s3 hm hb).2.2.1.1
    refine A_iload6 dX8_widen_16 ?_
    refine A_aload0 dX8_widen_18 ?_
    refine A_getR gf_X8_9 rfl dX8_widen_19 ?_
    refine A_iload1 dX8_widen_22 ?_
    refine A_aald (n := 5) rfl (vp_in_nI (by omega) (by omega)) (aL hb) dX8_widen_23 ?_
    refine A_getI gf_X8_65 (kL_12 hb) dX8_widen_24 ?_
    rw [hc]
    refine A_icmp_ge (tgt := 115) dX8_widen_27 (by decide) (fun c_27 => ?_) (fun c_27 => absurd c_27 (fun z => z (by rw [hL2]; exact Int32.le_refl _)))
    refine A_vret dX8_widen_115 ?_
    exact ⟨rfl, he2 ▸ hS, hm⟩
  | cons x R ih =>
    intro L S m x7 x8 hL hS hm he
    have hx : (fnd σ k b (d + lg)).1[L.length]? = some x := by rw [← hL, List.getElem?_append_right (Nat.le_refl _), Nat.sub_self]; rfl
    have hLl := (List.getElem?_eq_some_iff.mp hx).1
    have hL3 : (L ++ [x]) ++ R = (fnd σ k b (d + lg)).1 := by rw [← hL, List.append_assoc]; rfl
    have hl3 : (L ++ [x]).length = L.length + 1 := by simp
    obtain ⟨o1, o2⟩ := fnd_ok (hM.ok hbn).1 hd (List.mem_of_getElem? hx)
    obtain ⟨g1, -⟩ := fnd_rg (hM.ok hbn).1 hd (List.mem_of_getElem? hx)
    obtain ⟨-, p1, p2, p3, p4⟩ := lw_parts o1 o2
    have hFm := hF.s3 hm hb
    have hc := hFm.2.2.1.1
    have eb := hFm.2.2.1.2 L.length x hx
    have hW := Sf.wk hM hm.sf
    have hlx : x.2.2.1 ≤ 2 := o2.2.2.1
    rw [List.foldl_cons] at he
    refine A_iload6 dX8_widen_16 ?_
    refine A_aload0 dX8_widen_18 ?_
    refine A_getR gf_X8_9 rfl dX8_widen_19 ?_
    refine A_iload1 dX8_widen_22 ?_
    refine A_aald (n := 5) rfl (vp_in_nI (by omega) (by omega)) (aL hb) dX8_widen_23 ?_
    refine A_getI gf_X8_65 (kL_12 hb) dX8_widen_24 ?_
    rw [hc]
    refine A_icmp_ge (tgt := 115) dX8_widen_27 (by decide) (fun c_27 => absurd c_27 (fun z => nI_ge (by omega) (by omega) z)) (fun c_27 => ?_)
    refine A_aload0 dX8_widen_30 ?_
    refine A_getR gf_X8_9 rfl dX8_widen_31 ?_
    refine A_iload1 dX8_widen_34 ?_
    refine A_aald (n := 5) rfl (vp_in_nI (by omega) (by omega)) (aL hb) dX8_widen_35 ?_
    refine A_getR gf_X8_68 (kL_11 hb) dX8_widen_36 ?_
    refine A_iload6 dX8_widen_39 ?_
    refine A_iald (kA_52 hb) (vp_in_nI (by omega) (by omega)) dX8_widen_41 ?_
    rw [nI_c (by omega), eb]
    refine A_istore7 dX8_widen_42 rfl (by decide) ?_
    refine A_iload7 dX8_widen_44 ?_
    refine A_si1 lk_X8_71 ys_X5_lagOf dX8_widen_46 (T_X5_lagOf) (by decide) (Nat.le_of_ble_eq_true rfl) (fun r_46 μ_46 h_46 => ?_)
    obtain ⟨v_46, e_46⟩ := h_46
    replace v_46 := Eq.symm v_46
    subst v_46
    replace e_46 := e_46.symm
    subst e_46
    refine A_val (y := nI x.2.2.1) p3 ?_
    refine A_iload3 dX8_widen_49 ?_
    refine A_icmp_ne (tgt := 109) dX8_widen_50 (by decide) (fun c_50 => ?_) (fun c_50 => ?_)
    · refine A_iinc6 dX8_widen_109 rfl rfl (by decide) ?_
      refine A_goto (tgt := 16) dX8_widen_112 (by decide) ?_
      rw [show nI L.length + Int32.ofInt 1 = nI (L.length + 1) from nI_1 _, ← hl3]
      rw [show rLw σ b (d + lg) lg (rdN σ k b (d + lg)) S x = S from if_neg (fun z => c_50 (by rw [z]))] at he
      exact ih (L ++ [x]) S _ _ _ hL3 hS hm he
    · have elg : x.2.2.1 = lg := (nI_eq (by omega) (by omega)).mp c_50
      refine A_iload7 dX8_widen_53 ?_
      refine A_si1 lk_X8_75 ys_X5_zeroOf dX8_widen_55 (T_X5_zeroOf) (by decide) (Nat.le_of_ble_eq_true rfl) (fun r_55 μ_55 h_55 => ?_)
      obtain ⟨v_55, e_55⟩ := h_55
      replace v_55 := Eq.symm v_55
      subst v_55
      replace e_55 := e_55.symm
      subst e_55
      refine A_val (y := x.1) p1 ?_
      refine A_iload7 dX8_widen_58 ?_
      refine A_si1 lk_X8_78 ys_X5_tireOf dX8_widen_60 (T_X5_tireOf) (by decide) (Nat.le_of_ble_eq_true rfl) (fun r_60 μ_60 h_60 => ?_)
      obtain ⟨v_60, e_60⟩ := h_60
      replace v_60 := Eq.symm v_60
      subst v_60
      replace e_60 := e_60.symm
      subst e_60
      refine A_val (y := x.2.2.2) p4 ?_
      refine A_iload5 dX8_widen_63 ?_
      refine A_imul dX8_widen_65 ?_
      refine A_bipush (v := 10) dX8_widen_66 (by decide) ?_
      refine A_idiv dX8_widen_68 (by decide) ?_
      refine A_iadd dX8_widen_69 ?_
      refine A_istore8 dX8_widen_70 rfl (by decide) ?_
      refine A_aload0 dX8_widen_72 ?_
      refine A_getR gf_X8_19 rfl dX8_widen_73 ?_
      refine A_iload1 dX8_widen_76 ?_
      refine A_vi1 lk_X8_81 yv_X2_isWind dX8_widen_77 (rfl) (rfl) (T_X2_isWind hb) (by decide) (Nat.le_of_ble_eq_true rfl) (fun r_77 μ_77 h_77 => ?_)
      obtain ⟨v_77, e_77⟩ := h_77
      replace v_77 := Eq.symm v_77
      subst v_77
      replace e_77 := e_77.symm
      subst e_77
      refine A_if_eq (tgt := 95) dX8_widen_80 (by decide) (fun c_80 => ?_) (fun c_80 => ?_)
      · have h3 : ¬ σ.1 7 b = 3 := fun z => bz_0.mp c_80 ((hW.bx hbn).2.1.trans z)
        refine A_aload0 dX8_widen_95 ?_
        refine A_iload1 dX8_widen_96 ?_
        refine A_iload8 dX8_widen_97 ?_
        refine A_iload7 dX8_widen_99 ?_
        refine A_si1 lk_X8_89 ys_X5_slopeOf dX8_widen_101 (T_X5_slopeOf) (by decide) (Nat.le_of_ble_eq_true rfl) (fun r_101 μ_101 h_101 => ?_)
        obtain ⟨v_101, e_101⟩ := h_101
        replace v_101 := Eq.symm v_101
        subst v_101
        replace e_101 := e_101.symm
        subst e_101
        refine A_val (y := x.2.1) p2 ?_
        refine A_iload4 dX8_widen_104 ?_
        refine A_vv4 lk_X8_92 yv_X8_widenStraight dX8_widen_106 (rfl) (rfl) (T_X8_widenStraight hG hW hbn hb o1 o2 hown hag h3 hS) (by decide) (Nat.le_of_ble_eq_true rfl) (fun μ_106 h_106 => ?_)
        refine A_iinc6 dX8_widen_109 rfl rfl (by decide) ?_
        refine A_goto (tgt := 16) dX8_widen_112 (by decide) ?_
        rw [show nI L.length + Int32.ofInt 1 = nI (L.length + 1) from nI_1 _, ← hl3]
        rw [show rLw σ b (d + lg) lg (rdN σ k b (d + lg)) S x = _ from if_pos elg] at he
        exact ih (L ++ [x]) _ _ _ _ hL3 h_106.1 (hm.tr h_106.2) he
      · have h3 : σ.1 7 b = 3 := (hW.bx hbn).2.1.symm.trans (bz_y c_80)
        have h10 : x.2.1 = 10 := by
          obtain ⟨w1, w2⟩ := hw b hbn h3
          have e10 : (10 : Int32).toInt = 10 := rfl
          have w3 : (rl σ b 2).toInt = 10 := w1
          have w4 : (rl σ b 3).toInt = 10 := w2
          rw [i_eq, e10]; omega
        refine A_aload0 dX8_widen_83 ?_
        refine A_iload1 dX8_widen_84 ?_
        refine A_iload8 dX8_widen_85 ?_
        refine A_iload4 dX8_widen_87 ?_
        refine A_vv3 lk_X8_85 yv_X8_widenRound dX8_widen_89 (rfl) (rfl) (T_X8_widenRound hW hbn hb o1 o2 hown hag h3 h10 hS) (by decide) (Nat.le_of_ble_eq_true rfl) (fun μ_89 h_89 => ?_)
        refine A_goto (tgt := 109) dX8_widen_92 (by decide) ?_
        refine A_iinc6 dX8_widen_109 rfl rfl (by decide) ?_
        refine A_goto (tgt := 16) dX8_widen_112 (by decide) ?_
        rw [show nI L.length + Int32.ofInt 1 = nI (L.length + 1) from nI_1 _, ← hl3]
        rw [show rLw σ b (d + lg) lg (rdN σ k b (d + lg)) S x = _ from if_pos elg] at he
        exact ih (L ++ [x]) _ _ _ _ hL3 h_89.1 (hm.tr h_89.2) he
set_option maxHeartbeats 100000 in
set_option maxRecDepth 100000 in
theorem T_X8_widen {l : Launch} {G : Wd} {σ M : Mem} {k : Int32} {b d lg : Nat} {S : Sp} (hG : okZ G) (hw : WFw σ) (hM : Wk σ k M) (hbn : b < nbx σ) (hb : b < 5) (hd : d + lg < 60) (hF : FT σ k b (d + lg) M) (hr : ¬ rdN σ k b (d + lg) = -100000) (hS : SpI S M) : Mt l G KC yX8_widen cX8_widen 9 none 4 [.ref (gA G 73), .int (nI b), .int (nI d), .int (nI lg), .int (rdN σ k b (d + lg))] M (Qv (fun μ' => SpI (rLg σ k b d S lg) μ' ∧ S3 M μ')) := by
  refine Mt.of (own := RX8) (n := 4) (by decide) rfl [some (.ref (gA G 73)), some (.int (nI b)), some (.int (nI d)), some (.int (nI lg)), some (.int (rdN σ k b (d + lg))), none, none, none, none] rfl (Nat.le_of_ble_eq_true rfl) ?_
  refine A_aload0 dX8_widen_0 ?_
  refine A_getR gf_X8_19 rfl dX8_widen_1 ?_
  refine A_iload1 dX8_widen_4 ?_
  refine A_iload2 dX8_widen_5 ?_
  refine A_iload3 dX8_widen_6 ?_
  refine A_iadd dX8_widen_7 ?_
  rw [nI_add]
  refine A_vi2 lk_X8_62 yv_X2_age dX8_widen_8 (rfl) (rfl) (T_X2_age hM.1.2.2.1.2.2.2 hb hd) (by decide) (Nat.le_of_ble_eq_true rfl) (fun r_8 μ_8 h_8 => ?_)
  obtain ⟨v_8, e_8⟩ := h_8
  replace v_8 := Eq.symm v_8
  subst v_8
  replace e_8 := e_8.symm
  subst e_8
  refine A_istore5 dX8_widen_11 rfl (by decide) ?_
  refine A_iconst (v := 0) dX8_widen_13 (by decide) ?_
  refine A_istore6 dX8_widen_14 rfl (by decide) ?_
  exact L_X8_widen_16 hG hw hM hbn hb hd hF hr _ [] S M _ _ rfl hS S3.rf (if_pos ⟨hd, hr⟩).symm
def rgN (σ : Mem) (k : Int32) (b d : Nat) : Nat → Sp
  | 0 => (-100000, -100000)
  | l + 1 => rLg σ k b d (rgN σ k b d l) l
theorem rgN_3 {σ : Mem} {k : Int32} {b d : Nat} : rgN σ k b d 3 = rgt σ k b d := rfl
theorem rLg_out {σ : Mem} {k : Int32} {b d lg : Nat} {S : Sp} (h : okBx σ b) (ho : lg < lgN σ b ∨ (rl σ b 5).toInt < lg) : rLg σ k b d S lg = S := by
  unfold rLg
  split
  · rename_i q
    refine fold_id _ (fun x hx => if_neg (fun z => ?_))
    have := (fnd_rg h q.1 hx).2
    omega
  · rfl
theorem rgN_lo {σ : Mem} {k : Int32} {b d : Nat} (h : okBx σ b) : ∀ l, l ≤ lgN σ b → rgN σ k b d l = (-100000, -100000) := by
  intro l
  induction l with
  | zero => intro _; rfl
  | succ l ih => intro hl; rw [rgN, rLg_out h (Or.inl (by omega))]; exact ih (by omega)
theorem rgN_hi {σ : Mem} {k : Int32} {b d t : Nat} (h : okBx σ b) (ht : (rl σ b 5).toInt = t) : ∀ j, rgN σ k b d (t + 1 + j) = rgN σ k b d (t + 1) := by
  intro j
  induction j with
  | zero => rfl
  | succ j ih => rw [show t + 1 + (j + 1) = (t + 1 + j) + 1 by omega, rgN, rLg_out h (Or.inr (by omega))]; exact ih
theorem num_s {σ μ : Mem} {k : Int32} {b d : Nat} (h : Wk σ k μ) (hb : b < nbx σ) (hd : d < 100) : (if 0 ≤ nI b ∧ nI b < μ.1 4 0 ∧ 0 ≤ nI d ∧ nI d < 60 then μ.1 45 (60 * nI b + nI d).toNatClampNeg else -100000) = if d < 60 then rdN σ k b d else -100000 := by
  by_cases q : d < 60
  · rw [if_pos q]; exact num_e h hb q
  · rw [if_neg q, if_neg (fun z => absurd z.2.2.2 (fun y => nI_ge (a := 60) (b := d + 1) (by omega) (by omega) (by rw [i_le]; have := i_lt.mp y; rw [nI_i (by omega)] at *; have e6 : (60 : Int32).toInt = 60 := rfl; omega)))]
theorem OkS.g : OkS (-100000, -100000) := Or.inl ⟨rfl, rfl⟩
def FdS (μ μ' : Mem) : Prop := ∀ i j, 74 ≤ i → i ≤ 75 → μ'.1 i j = μ.1 i j
set_option maxHeartbeats 400000 in
set_option maxRecDepth 100000 in
theorem L_X8_find_22 {l : Launch} {G : Wd} {σ M : Mem} {k : Int32} {n b d t : Nat} (hG : okZ G) (hw : WFw σ) (hbn : b < nbx σ) (hb : b < 5) (hd : d < 60) (ht : t ≤ 2) (et : σ.1 8 (8 * b + 5) = nI t) : ∀ (q a : Nat) (m : Mem) (x4 : Option Value), q + a = t + 1 → Ca σ k n m → SpI (rgN σ k b d a) m → FdS M m → AW l G KC RX8 cX8_find 5 6 (some .boolean) (Qi (fun v μ' => v = bz (¬ (rgt σ k b d).1 = -100000) ∧ Ca σ k n μ' ∧ SpI (rgt σ k b d) μ' ∧ FdS M μ')) 22 [some (.ref (gA G 73)), some (.int (nI b)), some (.int (nI d)), some (.int (nI a)), x4] [] m := by
  intro q
  induction q with
  | zero =>
    intro a m x4 hq hC hS hF
    obtain rfl : a = t + 1 := by omega
    have e9 : m.1 9 (4 * b + 2) = nI t := by rw [((hC.wk.bx hbn).2.2.2 2 (by decide)).2]; exact et
    have er : rgN σ k b d (t + 1) = rgt σ k b d := by
      rw [← rgN_3, ← rgN_hi (k := k) (d := d) (hC.wk.ok hbn).1 (t := t) (by show (σ.1 8 (8 * b + 5)).toInt = _; rw [et, nI_i (by omega)]) (2 - t)]
      rw [show t + 1 + (2 - t) = 3 by omega]
    rw [er] at hS
    refine A_iload3 dX8_find_22 ?_
    refine A_aload0 dX8_find_23 ?_
    refine A_getR gf_X8_19 rfl dX8_find_24 ?_
    refine A_iload1 dX8_find_27 ?_
    refine A_iconst (v := 2) dX8_find_28 (by decide) ?_
    refine A_vi2 lk_X8_44 yv_X2_high dX8_find_29 (rfl) (rfl) (T_X2_high (p := 2) hb (by decide)) (by decide) (Nat.le_of_ble_eq_true rfl) (fun r_29 μ_29 h_29 => ?_)
    obtain ⟨v_29, e_29⟩ := h_29
    replace v_29 := Eq.symm v_29
    subst v_29
    replace e_29 := e_29.symm
    subst e_29
    refine A_val (y := nI t) e9 ?_
    refine A_icmp_gt (tgt := 82) dX8_find_32 (by decide) (fun c_32 => ?_) (fun c_32 => absurd c_32 (fun z => z (nI_lt (by omega) (by omega))))
    refine A_aload0 dX8_find_82 ?_
    refine A_getI gf_X8_31 rfl dX8_find_83 ?_
    refine A_val (y := (rgt σ k b d).1) hS.1 ?_
    refine A_ldc dX8_find_86 kc_X8_30 ?_
    refine A_icmp_eq (tgt := 95) dX8_find_88 (by decide) (fun c_88 => ?_) (fun c_88 => ?_)
    · refine A_iconst (v := 0) dX8_find_95 (by decide) ?_
      refine A_zret dX8_find_96 (by decide) ?_
      exact ⟨_, rfl, (bz_f (fun z => z c_88)).symm, hC, hS, hF⟩
    · refine A_iconst (v := 1) dX8_find_91 (by decide) ?_
      refine A_goto (tgt := 96) dX8_find_92 (by decide) ?_
      refine A_zret dX8_find_96 (by decide) ?_
      exact ⟨_, rfl, (bz_t c_88).symm, hC, hS, hF⟩
  | succ q ih =>
    intro a m x4 hq hC hS hF
    have e9 : m.1 9 (4 * b + 2) = nI t := by rw [((hC.wk.bx hbn).2.2.2 2 (by decide)).2]; exact et
    refine A_iload3 dX8_find_22 ?_
    refine A_aload0 dX8_find_23 ?_
    refine A_getR gf_X8_19 rfl dX8_find_24 ?_
    refine A_iload1 dX8_find_27 ?_
    refine A_iconst (v := 2) dX8_find_28 (by decide) ?_
    refine A_vi2 lk_X8_44 yv_X2_high dX8_find_29 (rfl) (rfl) (T_X2_high (p := 2) hb (by decide)) (by decide) (Nat.le_of_ble_eq_true rfl) (fun r_29 μ_29 h_29 => ?_)
    obtain ⟨v_29, e_29⟩ := h_29
    replace v_29 := Eq.symm v_29
    subst v_29
    replace e_29 := e_29.symm
    subst e_29
    refine A_val (y := nI t) e9 ?_
    refine A_icmp_gt (tgt := 82) dX8_find_32 (by decide) (fun c_32 => absurd c_32 (fun z => nI_nlt (by omega) (by omega) z)) (fun c_32 => ?_)
    refine A_aload0 dX8_find_35 ?_
    refine A_getR gf_X8_15 rfl dX8_find_36 ?_
    refine A_iload1 dX8_find_39 ?_
    refine A_iload2 dX8_find_40 ?_
    refine A_iload3 dX8_find_41 ?_
    refine A_iadd dX8_find_42 ?_
    rw [nI_add]
    refine A_vi2 lk_X8_47 yv_X4_number dX8_find_43 (rfl) (rfl) (T_X4_number hC.wk.n5) (by decide) (Nat.le_of_ble_eq_true rfl) (fun r_43 μ_43 h_43 => ?_)
    obtain ⟨v_43, e_43⟩ := h_43
    replace v_43 := Eq.symm v_43
    subst v_43
    replace e_43 := e_43.symm
    subst e_43
    refine A_val (y := if d + a < 60 then rdN σ k b (d + a) else -100000) (num_s hC.wk hbn (by omega)) ?_
    refine A_istore4 dX8_find_46 rfl (by decide) ?_
    refine A_iload4 dX8_find_48 ?_
    refine A_ldc dX8_find_50 kc_X8_30 ?_
    refine A_icmp_eq (tgt := 76) dX8_find_52 (by decide) (fun c_52 => ?_) (fun c_52 => ?_)
    · refine A_iinc3 dX8_find_76 rfl rfl (by decide) ?_
      refine A_goto (tgt := 22) dX8_find_79 (by decide) ?_
      rw [show nI a + Int32.ofInt 1 = nI (a + 1) from nI_1 a]
      refine ih (a + 1) m _ (by omega) hC ?_ hF
      rw [rgN, show rLg σ k b d (rgN σ k b d a) a = rgN σ k b d a from if_neg (fun z => z.2 ((if_pos z.1).symm.trans c_52))]
      exact hS
    · have hda : d + a < 60 := Classical.not_not.mp (fun z => c_52 (if_neg z))
      have hrd : ¬ rdN σ k b (d + a) = -100000 := fun z => c_52 ((if_pos hda).trans z)
      rw [if_pos hda]
      refine A_aload0 dX8_find_55 ?_
      refine A_getR gf_X8_9 rfl dX8_find_56 ?_
      refine A_iload1 dX8_find_59 ?_
      refine A_aald (n := 5) rfl (vp_in_nI (by omega) (by omega)) (aL hb) dX8_find_60 ?_
      refine A_iload2 dX8_find_61 ?_
      refine A_iload3 dX8_find_62 ?_
      refine A_iadd dX8_find_63 ?_
      rw [nI_add]
      refine A_vv1 lk_X8_52 yv_X5_fit dX8_find_64 (oL hb) (rfl) (T_X5_fit hC.wk hbn hb hda (hC.V hbn hb)) (by decide) (Nat.le_of_ble_eq_true rfl) (fun μ_64 h_64 => ?_)
      obtain ⟨f1, f2, f3⟩ := h_64
      have hC2 := hC.fit hb hda f1 f2 f3
      have hS2 : SpI (rgN σ k b d a) μ_64 := ⟨(f3.2 73 5 (by omega) (by omega)).trans hS.1, (f3.2 73 6 (by omega) (by omega)).trans hS.2.1, hS.2.2⟩
      refine A_aload0 dX8_find_67 ?_
      refine A_iload1 dX8_find_68 ?_
      refine A_iload2 dX8_find_69 ?_
      refine A_iload3 dX8_find_70 ?_
      refine A_iload4 dX8_find_71 ?_
      refine A_vv4 lk_X8_58 yv_X8_widen dX8_find_73 (rfl) (rfl) (T_X8_widen hG hw hC2.wk hbn hb hda f1 hrd hS2) (by decide) (Nat.le_of_ble_eq_true rfl) (fun μ_73 h_73 => ?_)
      refine A_iinc3 dX8_find_76 rfl rfl (by decide) ?_
      refine A_goto (tgt := 22) dX8_find_79 (by decide) ?_
      rw [show nI a + Int32.ofInt 1 = nI (a + 1) from nI_1 a]
      exact ih (a + 1) _ _ (by omega) (hC2.sf h_73.2.sf) h_73.1 (fun i j h1 h2 => ((h_73.2.2 i j (by omega)).trans (f3.2 i j (by omega) (by omega))).trans (hF i j h1 h2))
set_option maxHeartbeats 400000 in
set_option maxRecDepth 100000 in
theorem T_X8_find {l : Launch} {G : Wd} {σ M : Mem} {k : Int32} {n b d : Nat} (hG : okZ G) (hw : WFw σ) (hbn : b < nbx σ) (hb : b < 5) (hd : d < 60) (hC : Ca σ k n M) : Mt l G KC yX8_find cX8_find 5 (some .boolean) 6 [.ref (gA G 73), .int (nI b), .int (nI d)] M (Qi (fun v μ' => v = bz (¬ (rgt σ k b d).1 = -100000) ∧ Ca σ k n μ' ∧ SpI (rgt σ k b d) μ' ∧ FdS M μ')) := by
  refine Mt.of (own := RX8) (n := 2) (by decide) rfl [some (.ref (gA G 73)), some (.int (nI b)), some (.int (nI d)), none, none] rfl (Nat.le_of_ble_eq_true rfl) ?_
  have hok := (hC.wk.ok hbn).1
  have h4 := hok.2.2.2.2.1
  obtain ⟨t, -, et, ei, -⟩ := i_nat (x := σ.1 8 (8 * b + 5)) (i_le.mpr (by have e0 : (0 : Int32).toInt = 0 := rfl; omega))
  obtain ⟨s, -, es, si, sc⟩ := i_nat (x := σ.1 8 (8 * b + 4)) (i_le.mpr (by have e0 : (0 : Int32).toInt = 0 := rfl; omega))
  have els : lgN σ b = s := sc
  refine A_aload0 dX8_find_0 ?_
  refine A_ldc dX8_find_1 kc_X8_30 ?_
  refine A_putI gf_X8_31 rfl dX8_find_3 ?_
  refine A_aload0 dX8_find_6 ?_
  refine A_ldc dX8_find_7 kc_X8_30 ?_
  refine A_putI gf_X8_35 rfl dX8_find_9 ?_
  refine A_aload0 dX8_find_12 ?_
  refine A_getR gf_X8_19 rfl dX8_find_13 ?_
  refine A_iload1 dX8_find_16 ?_
  refine A_iconst (v := 2) dX8_find_17 (by decide) ?_
  refine A_vi2 lk_X8_40 yv_X2_low dX8_find_18 (rfl) (rfl) (T_X2_low (p := 2) hb (by decide)) (by decide) (Nat.le_of_ble_eq_true rfl) (fun r_18 μ_18 h_18 => ?_)
  obtain ⟨v_18, e_18⟩ := h_18
  replace v_18 := Eq.symm v_18
  subst v_18
  replace e_18 := e_18.symm
  subst e_18
  refine A_val (y := nI s) ?_ ?_
  · have hC0 : Ca σ k n (wI (wI M 73 5 (-100000)) 73 6 (-100000)) := hC.sf ((Sf.rf.w (by decide)).w (by decide))
    rw [((hC0.wk.bx hbn).2.2.2 2 (by decide)).1]; exact es
  refine A_istore3 dX8_find_21 rfl (by decide) ?_
  refine L_X8_find_22 hG hw hbn hb hd (t := t) (by omega) et (t + 1 - s) s _ _ (by omega) (hC.sf ((Sf.rf.w (by decide)).w (by decide))) ?_ (fun i j h1 h2 => (wI_ne (by omega)).trans (wI_ne (by omega)))
  rw [rgN_lo hok s (by omega)]
  exact ⟨rfl, rfl, OkS.g⟩
set_option maxHeartbeats 100000 in
set_option maxRecDepth 100000 in
theorem C_right {l : Launch} {G : Wd} {b d hg : Int32} {k : Int32} {n : Nat} {σ μ : Mem} (hG : okZ G) (hw : WFw σ) (hR : Rc σ n μ) (hn : n + 1 ≤ 600) : Mt l G KC yX11_right cX11_right 5 (some .int) 9 [.ref (gA G 0), .int b, .int d, .int hg, .int k] μ (Qi (fun v μ' => v = sp_right σ b d hg k ∧ Rc σ (n + 1) μ')) := by
  refine Mt.of (own := RX11) (n := 0) (by decide) rfl [some (.ref (gA G 0)), some (.int b), some (.int d), some (.int hg), some (.int k)] rfl (Nat.le_of_ble_eq_true rfl) ?_
  refine A_aload0 dX11_right_0 ?_
  refine A_iload1 dX11_right_1 ?_
  refine A_iload2 dX11_right_2 ?_
  refine A_vi2 lk_X11_181 yv_X11_isSpot dX11_right_3 (rfl) (rfl) (T_X11_isSpot) (by decide) (Nat.le_of_ble_eq_true rfl) (fun r_3 μ_3 h_3 => ?_)
  obtain ⟨v_3, e_3⟩ := h_3
  replace v_3 := Eq.symm v_3
  subst v_3
  replace e_3 := e_3.symm
  subst e_3
  refine A_if_ne (tgt := 12) dX11_right_6 (by decide) (fun c_6 => ?_) (fun c_6 => ?_)
  · have hp : isPl σ b d := ⟨(bc_bx hR.1 b).mp (bz_y c_6).1, (bz_y c_6).2⟩
    obtain ⟨x, y, rfl, rfl, hb, hd, hok, ex, ey, hbn⟩ := i_pl hR.2.1.1.2.2 hp
    refine A_aload0 dX11_right_12 ?_
    refine A_getR gf_X11_76 rfl dX11_right_13 ?_
    refine A_iload4 dX11_right_16 ?_
    refine A_vv1 lk_X11_201 yv_X4_at dX11_right_18 (rfl) (rfl) (T_at hR) (by decide) (Nat.le_of_ble_eq_true rfl) (fun μ_18 h_18 => ?_)
    have hC := hR.at h_18
    refine A_aload0 dX11_right_21 ?_
    refine A_getR gf_X11_94 rfl dX11_right_22 ?_
    refine A_iload1 dX11_right_25 ?_
    refine A_iload2 dX11_right_26 ?_
    refine A_vi2 lk_X11_250 yv_X8_find dX11_right_27 (rfl) (rfl) (T_X8_find hG hw hbn hb hd hC) (by decide) (Nat.le_of_ble_eq_true rfl) (fun r_27 μ_27 h_27 => ?_)
    obtain ⟨-, hC2, hS2, -⟩ := h_27
    refine A_pop dX11_right_30 rfl ?_
    refine A_iload3 dX11_right_31 ?_
    refine A_if_eq (tgt := 45) dX11_right_32 (by decide) (fun c_32 => ?_) (fun c_32 => ?_)
    · refine A_aload0 dX11_right_45 ?_
      refine A_getR gf_X11_94 rfl dX11_right_46 ?_
      refine A_getI gf_X11_256 rfl dX11_right_49 ?_
      refine A_val (y := (rgt σ k x y).1) hS2.1 ?_
      refine A_iret dX11_right_52 ?_
      refine ⟨_, rfl, ?_, hC2.rc hR.2.1 hn⟩
      unfold sp_right
      rw [if_pos hp, ex, ey, if_pos c_32]
    · refine A_aload0 dX11_right_35 ?_
      refine A_getR gf_X11_94 rfl dX11_right_36 ?_
      refine A_getI gf_X11_253 rfl dX11_right_39 ?_
      refine A_val (y := (rgt σ k x y).2) hS2.2.1 ?_
      refine A_goto (tgt := 52) dX11_right_42 (by decide) ?_
      refine A_iret dX11_right_52 ?_
      refine ⟨_, rfl, ?_, hC2.rc hR.2.1 hn⟩
      unfold sp_right
      rw [if_pos hp, ex, ey, if_neg c_32]
  · refine A_ldc dX11_right_9 kc_X11_216 ?_
    refine A_iret dX11_right_11 ?_
    refine ⟨_, rfl, ?_, hR.up hn⟩
    unfold sp_right
    rw [if_neg (fun z => bz_0.mp c_6 ⟨(bc_bx hR.1 b).mpr z.1, z.2⟩)]
set_option maxHeartbeats 400000 in
set_option maxRecDepth 100000 in
theorem L_X11_sum_45 {l : Launch} {G : Wd} {σ : Mem} {k w : Int32} {n b f t : Nat} (hG : okZ G) (hw : WFw σ) (hbn : b < nbx σ) (hb : b < 5) (hft : f ≤ t) (ht : t < 60) (h0 : 0 ≤ w) (h2 : w ≤ 2) {Q : Option Value → Mem → Prop} (hk : ∀ m, Ca σ k n m → Q (some (.int (if w = 0 then (smS σ k b f (t + 1 - f)).1 else if w = 1 then (smS σ k b f (t + 1 - f)).2.1 else (smS σ k b f (t + 1 - f)).2.2))) m) : ∀ (q j : Nat) (m : Mem), q + j = t + 1 - f → Ca σ k n m → AW l G KC RX11 cX11_sum 10 9 (some .int) Q 45 [some (.ref (gA G 0)), some (.int (nI b)), some (.int (nI f)), some (.int (nI t)), some (.int w), some (.int k), some (.int (smS σ k b f j).1), some (.int (smS σ k b f j).2.1), some (.int (smS σ k b f j).2.2), some (.int (nI (f + j)))] [] m := by
  intro q
  induction q with
  | zero =>
    intro j m hq hC
    obtain rfl : j = t + 1 - f := by omega
    refine A_iload9 dX11_sum_45 ?_
    refine A_iload3 dX11_sum_47 ?_
    refine A_icmp_gt (tgt := 100) dX11_sum_48 (by decide) (fun c_48 => ?_) (fun c_48 => absurd c_48 (fun z => z (nI_lt (by omega) (by omega))))
    refine A_iload4 dX11_sum_100 ?_
    refine A_iconst (v := 2) dX11_sum_102 (by decide) ?_
    refine A_icmp_ne (tgt := 109) dX11_sum_103 (by decide) (fun c_103 => ?_) (fun c_103 => ?_)
    · refine A_iload4 dX11_sum_109 ?_
      refine A_if_ne (tgt := 119) dX11_sum_111 (by decide) (fun c_111 => ?_) (fun c_111 => ?_)
      · refine A_iload7 dX11_sum_119 ?_
        refine A_iret dX11_sum_121 ?_
        have a0 : (0 : Int32).toInt = 0 := rfl
        have a1 : (1 : Int32).toInt = 1 := rfl
        have a2 : (2 : Int32).toInt = 2 := rfl
        have i0 := i_le.mp h0
        have i2 := i_le.mp h2
        have j0 : ¬ w.toInt = 0 := fun z => c_111 (i_eq.mpr (z.trans a0.symm))
        have j2 : ¬ w.toInt = 2 := fun z => c_103 (i_eq.mpr (z.trans a2.symm))
        have w1 : w = 1 := by rw [i_eq]; omega
        have hh := hk m hC
        rw [if_neg c_111, if_pos w1] at hh
        exact hh
      · refine A_iload6 dX11_sum_114 ?_
        refine A_goto (tgt := 121) dX11_sum_116 (by decide) ?_
        refine A_iret dX11_sum_121 ?_
        have hh := hk m hC
        rw [if_pos c_111] at hh
        exact hh
    · refine A_iload8 dX11_sum_106 ?_
      refine A_iret dX11_sum_108 ?_
      have hh := hk m hC
      rw [if_neg (by rw [c_103]; decide), if_neg (by rw [c_103]; decide)] at hh
      exact hh
  | succ q ih =>
    intro j m hq hC
    refine A_iload9 dX11_sum_45 ?_
    refine A_iload3 dX11_sum_47 ?_
    refine A_icmp_gt (tgt := 100) dX11_sum_48 (by decide) (fun c_48 => absurd c_48 (fun z => nI_nlt (by omega) (by omega) z)) (fun c_48 => ?_)
    refine A_aload0 dX11_sum_51 ?_
    refine A_getR gf_X11_94 rfl dX11_sum_52 ?_
    refine A_iload1 dX11_sum_55 ?_
    refine A_iload9 dX11_sum_56 ?_
    refine A_vi2 lk_X11_250 yv_X8_find dX11_sum_58 (rfl) (rfl) (T_X8_find hG hw hbn hb (by omega) hC) (by decide) (Nat.le_of_ble_eq_true rfl) (fun r_58 μ_58 h_58 => ?_)
    obtain ⟨v_58, hC2, hS2, -⟩ := h_58
    replace v_58 := Eq.symm v_58
    subst v_58
    refine A_if_eq (tgt := 91) dX11_sum_61 (by decide) (fun c_61 => ?_) (fun c_61 => ?_)
    · refine A_iinc8 dX11_sum_91 rfl rfl (by decide) ?_
      refine A_iinc9 dX11_sum_94 rfl rfl (by decide) ?_
      refine A_goto (tgt := 45) dX11_sum_97 (by decide) ?_
      rw [show nI (f + j) + Int32.ofInt 1 = nI (f + (j + 1)) from nI_1 _]
      have e1 : (rgt σ k b (f + j)).1 = -100000 := Classical.not_not.mp (bz_0.mp c_61)
      have e2 : (rgt σ k b (f + j)).2 = -100000 := by rw [g_e] at e1 ⊢; rcases hS2.2.2 with z | z <;> omega
      have hh := ih (j + 1) _ (by omega) hC2
      have es : smS σ k b f (j + 1) = ((smS σ k b f j).1, (smS σ k b f j).2.1, (smS σ k b f j).2.2 + Int32.ofInt 1) := by rw [smS, if_pos e1, if_pos e2, if_pos e1, Int32.add_zero, Int32.add_zero]; rfl
      rw [es] at hh
      exact hh
    · refine A_iload6 dX11_sum_64 ?_
      refine A_aload0 dX11_sum_66 ?_
      refine A_getR gf_X11_94 rfl dX11_sum_67 ?_
      refine A_getI gf_X11_256 rfl dX11_sum_70 ?_
      refine A_val (y := (rgt σ k b (f + j)).1) hS2.1 ?_
      refine A_iadd dX11_sum_73 ?_
      refine A_istore6 dX11_sum_74 rfl (by decide) ?_
      refine A_iload7 dX11_sum_76 ?_
      refine A_aload0 dX11_sum_78 ?_
      refine A_getR gf_X11_94 rfl dX11_sum_79 ?_
      refine A_getI gf_X11_253 rfl dX11_sum_82 ?_
      refine A_val (y := (rgt σ k b (f + j)).2) hS2.2.1 ?_
      refine A_iadd dX11_sum_85 ?_
      refine A_istore7 dX11_sum_86 rfl (by decide) ?_
      refine A_goto (tgt := 94) dX11_sum_88 (by decide) ?_
      refine A_iinc9 dX11_sum_94 rfl rfl (by decide) ?_
      refine A_goto (tgt := 45) dX11_sum_97 (by decide) ?_
      rw [show nI (f + j) + Int32.ofInt 1 = nI (f + (j + 1)) from nI_1 _]
      have e1 : ¬ (rgt σ k b (f + j)).1 = -100000 := bz_y c_61
      have e2 : ¬ (rgt σ k b (f + j)).2 = -100000 := fun z => by rw [g_e] at e1 z; rcases hS2.2.2 with y | y <;> omega
      have hh := ih (j + 1) _ (by omega) hC2
      have es : smS σ k b f (j + 1) = ((smS σ k b f j).1 + (rgt σ k b (f + j)).1, (smS σ k b f j).2.1 + (rgt σ k b (f + j)).2, (smS σ k b f j).2.2) := by rw [smS, if_neg e1, if_neg e2, if_neg e1, Int32.add_zero]
      rw [es] at hh
      exact hh
theorem i_bn {σ : Mem} {b : Int32} {x : Nat} (hw : WFh σ) (h : isBx σ b) (ex : b.toNatClampNeg = x) : x < nbx σ := by
  obtain ⟨a, c, e1, -, -, -, -, e2, -, h3⟩ := i_pl hw (⟨h, by decide, by decide⟩ : isPl σ b 0)
  omega
set_option maxHeartbeats 100000 in
set_option maxRecDepth 100000 in
theorem C_sum {l : Launch} {G : Wd} {b f t w : Int32} {k : Int32} {n : Nat} {σ μ : Mem} (hG : okZ G) (hw : WFw σ) (hR : Rc σ n μ) (hn : n + 1 ≤ 600) : Mt l G KC yX11_sum cX11_sum 10 (some .int) 9 [.ref (gA G 0), .int b, .int f, .int t, .int w, .int k] μ (Qi (fun v μ' => v = sp_sum σ b f t w k ∧ Rc σ (n + 1) μ')) := by
  refine Mt.of (own := RX11) (n := 4) (by decide) rfl [some (.ref (gA G 0)), some (.int b), some (.int f), some (.int t), some (.int w), some (.int k), none, none, none, none] rfl (Nat.le_of_ble_eq_true rfl) ?_
  refine A_aload0 dX11_sum_0 ?_
  refine A_iload1 dX11_sum_1 ?_
  refine A_iload2 dX11_sum_2 ?_
  refine A_iload3 dX11_sum_3 ?_
  refine A_vi3 lk_X11_259 yv_X11_isRange dX11_sum_4 (rfl) (rfl) (T_X11_isRange) (by decide) (Nat.le_of_ble_eq_true rfl) (fun r_4 μ_4 h_4 => ?_)
  obtain ⟨v_4, e_4⟩ := h_4
  replace v_4 := Eq.symm v_4
  subst v_4
  replace e_4 := e_4.symm
  subst e_4
  refine A_if_eq (tgt := 21) dX11_sum_7 (by decide) (fun c_7 => ?_) (fun c_7 => ?_)
  · refine A_ldc dX11_sum_21 kc_X11_216 ?_
    refine A_iret dX11_sum_23 ?_
    refine ⟨_, rfl, ?_, hR.up hn⟩
    unfold sp_sum
    rw [if_neg (fun z => bz_0.mp c_7 ⟨(bc_bx hR.1 b).mpr z.1.1, z.1.2.1, z.1.2.2.1, Int32.not_lt.mp z.1.2.2.2⟩)]
  · refine A_iload4 dX11_sum_10 ?_
    refine A_if_lt (tgt := 21) dX11_sum_12 (by decide) (fun c_12 => ?_) (fun c_12 => ?_)
    · refine A_ldc dX11_sum_21 kc_X11_216 ?_
      refine A_iret dX11_sum_23 ?_
      refine ⟨_, rfl, ?_, hR.up hn⟩
      unfold sp_sum
      rw [if_neg (fun z => absurd z.2.1 (Int32.not_le.mpr c_12))]
    · refine A_iload4 dX11_sum_15 ?_
      refine A_iconst (v := 2) dX11_sum_17 (by decide) ?_
      refine A_icmp_le (tgt := 24) dX11_sum_18 (by decide) (fun c_18 => ?_) (fun c_18 => ?_)
      · have hz := bz_y c_7
        have hp : isRg σ b f t := ⟨(bc_bx hR.1 b).mp hz.1, hz.2.1, hz.2.2.1, Int32.not_lt.mpr hz.2.2.2⟩
        obtain ⟨x, y, z, rfl, rfl, rfl, hb, hyz, hz6, hok, ex, ey, ez⟩ := i_rg hR.2.1.1.2.2 hp
        have hbn : x < nbx σ := (i_bn hR.2.1.1.2.2 hp.1 ex)
        refine A_aload0 dX11_sum_24 ?_
        refine A_getR gf_X11_76 rfl dX11_sum_25 ?_
        refine A_iload5 dX11_sum_28 ?_
        refine A_vv1 lk_X11_201 yv_X4_at dX11_sum_30 (rfl) (rfl) (T_at hR) (by decide) (Nat.le_of_ble_eq_true rfl) (fun μ_30 h_30 => ?_)
        have hC := hR.at h_30
        refine A_iconst (v := 0) dX11_sum_33 (by decide) ?_
        refine A_istore6 dX11_sum_34 rfl (by decide) ?_
        refine A_iconst (v := 0) dX11_sum_36 (by decide) ?_
        refine A_istore7 dX11_sum_37 rfl (by decide) ?_
        refine A_iconst (v := 0) dX11_sum_39 (by decide) ?_
        refine A_istore8 dX11_sum_40 rfl (by decide) ?_
        refine A_iload2 dX11_sum_42 ?_
        refine A_istore9 dX11_sum_43 rfl (by decide) ?_
        refine L_X11_sum_45 (n := n) hG hw hbn hb hyz hz6 (Int32.not_lt.mp c_12) c_18 (fun m9 hC9 => ?_) (z + 1 - y) 0 μ_30 (by omega) hC
        refine ⟨_, rfl, ?_, hC9.rc hR.2.1 hn⟩
        have hcd : isRg σ (nI x) (nI y) (nI z) ∧ 0 ≤ w ∧ w ≤ 2 := ⟨hp, Int32.not_lt.mp c_12, c_18⟩
        unfold sp_sum sumT
        rw [if_pos hcd, ex, ey, ez]
      · refine A_ldc dX11_sum_21 kc_X11_216 ?_
        refine A_iret dX11_sum_23 ?_
        refine ⟨_, rfl, ?_, hR.up hn⟩
        unfold sp_sum
        rw [if_neg (fun z => c_18 z.2.2)]

/-! the loops of the grammar -/
set_option maxHeartbeats 200000 in
theorem XU.dn {w : Nat} {m : Mem} {kd : Int32} (h : XU (w + 1) m kd) : XU w m kd := h
set_option maxHeartbeats 200000 in
theorem XT.dn {w : Nat} {m : Mem} {kd : Int32} (h : XT (w + 1) m kd) : XT w m kd := h
set_option maxHeartbeats 200000 in
theorem PC.dn {w : Nat} {m : Mem} (h : PC (w + 1) m) : PC w m := by
  obtain ⟨j, j1, j2⟩ := h
  exact ⟨j, by omega, j2⟩
set_option maxHeartbeats 200000 in
theorem XO.dn {w : Nat} {m : Mem} {kd : Int32} (h : XO (w + 1) m kd) : XO w m kd := ⟨h.1, fun y => (h.2 y).dn⟩
set_option maxHeartbeats 200000 in
theorem XB.dn {w : Nat} {m : Mem} {kd : Int32} (h : XB (w + 1) m kd) : XB w m kd := ⟨h.1.dn, h.2⟩
set_option maxHeartbeats 200000 in
theorem ad_k {μ : Mem} {k v : Int32} : (adM μ k v).1 2 5 = μ.1 2 5 := adM_o (by omega) (by omega)
set_option maxHeartbeats 400000 in
set_option maxRecDepth 100000 in
theorem L_X7_term_b {l : Launch} {G : Wd} {β k w du d c : Nat} {U : Nat → Int32} {m μ : Mem} {v r kd : Int32} {x3 : Option Value} {Q : Option Value → Mem → Prop} (hS : okS G) (hu : MC l G yX7_unit cX7_unit 3 du k 29 29 XU E1) (hdu : du < d) (hd5 : 5 < d) (hkd : μ.1 2 5 = kd) (ho : opV kd v r) (hr : r.toInt = 28) (hvr : r.toInt ≤ v.toInt ∧ v.toInt ≤ 28 ∧ v.toInt < 29 ∧ 2 < v.toInt ∧ kdE v = kd ∧ sgN v = 1) (hk0 : kd = 42) (h : IB G β k 28 w U m μ) (hT : m.1 0 2 = 0 → TC 28 w U) (hk : ∀ (x3 : Option Value) (m2 μ2 : Mem), RF 2 m = RF 2 m2 → IB G β k 28 w U m2 μ2 → Fq μ μ2 → (m2.1 0 2 = 0 → m.1 0 2 = 0 ∧ plN m < plN m2 ∧ XU w m2 (μ2.1 2 5)) → AW l G KC RX7 cX7_term 3 d none Q 7 [some (.ref (gA G 35)), some (.int (nI (7 - k))), some (.int (nI (c + 1)))] [] μ2) : AW l G KC RX7 cX7_term 3 d none Q 26 [some (.ref (gA G 35)), some (.int (nI (7 - k))), some (.int (nI c))] [] μ := by
  have ho2 : opV (μ.1 2 5) v r := by rw [hkd]; exact ho
  obtain ⟨h0, w1, w2, w3, w4, w5, w6, w7, w8⟩ := op_v h.1 ho2
  refine A_aload0 dX7_term_26 ?_
  refine A_getR gf_X7_9 rfl dX7_term_27 ?_
  refine A_vv0 lk_X7_46 yv_X9_step dX7_term_30 (rfl) (rfl) (T_step hS h.1 h0 w8) (hd5) (Nat.le_of_ble_eq_true rfl) (fun μ_30 h_30 => ?_)
  obtain ⟨t1, f1⟩ := h_30
  obtain ⟨m1, e1, ip1, u1, v1, z1, z2⟩ := op_step h h0 w1 w2 w3 w4 (by omega) ((hT h0).up (by omega)) w5 w6 t1 f1
  rw [hvr.2.2.2.2.2] at e1 ip1
  have hec : m1.1 0 2 = 0 → E1 1 (μ_30.1 2 5) ∧ TC 29 (w + 1) (m1.1 46) := fun _ => ⟨Or.inl rfl, Or.inr (Or.inr (by rw [Nat.add_sub_cancel, v1]; omega))⟩
  refine A_aload0 dX7_term_33 ?_
  refine A_iload1 dX7_term_34 ?_
  refine A_vv1 lk_X7_76 yv_X7_unit dX7_term_35 (rfl) (rfl) (hu β (w + 1) 1 m1 μ_30 ip1 hec) (hdu) (Nat.le_of_ble_eq_true rfl) (fun μ_35 h_35 => ?_)
  obtain ⟨fq2, m2, e2, ib2, g2⟩ := h_35
  refine A_aload0 dX7_term_38 ?_
  refine A_getR gf_X7_19 rfl dX7_term_39 ?_
  refine A_bipush (v := 42) dX7_term_42 (by decide) ?_
  refine A_iconst (v := 0) dX7_term_44 (by decide) ?_
  refine A_vv2 lk_X7_63 yv_X6_addStep dX7_term_45 (rfl) (rfl) (T_X6_addStep ib2.2.1) (by omega) (Nat.le_of_ble_eq_true rfl) (fun μ_45 h_45 => ?_)
  subst h_45
  refine A_iinc2 dX7_term_48 rfl rfl (by decide) ?_
  rw [show nI c + Int32.ofInt 1 = nI (c + 1) from nI_1 c]
  refine A_goto (tgt := 7) dX7_term_51 (by decide) ?_
  have ib3 := fin_step (U := U) (L2 := 28) (k2 := k) ib2 u1 v1 (by omega) (by omega) hvr.2.1 hvr.2.2.2.1 (by rw [cnW_s, v1, if_neg w6, cnW_c w u1]; omega)
  rw [hvr.2.2.2.2.1] at ib3
  rw [hk0] at ib3
  exact hk none m2 _ (e1.trans e2) ib3 ((f1.fq.tr fq2).ad) (fun y => ⟨h0, by have := (g2 y).2.1; omega, by rw [ad_k]; exact ((g2 y).2.2).dn⟩)
set_option maxHeartbeats 400000 in
set_option maxRecDepth 100000 in
theorem L_X7_term_7 {l : Launch} {G : Wd} {β k w du d : Nat} {U : Nat → Int32} {M : Mem} {Q : Option Value → Mem → Prop} (hS : okS G) (hu : MC l G yX7_unit cX7_unit 3 du k 29 29 XU E1) (hdu : du < d) (hd5 : 5 < d) : ∀ (q c : Nat) (x3 : Option Value) (m μ : Mem), q + c = 500 → IB G β k 28 w U m μ → Fq M μ → (m.1 0 2 = 0 → TC 28 w U ∧ c ≤ plN m ∧ XU w m (μ.1 2 5)) → (∀ (c2 : Nat) (x3 : Option Value) (m2 μ2 : Mem), RF 2 m = RF 2 m2 → IB G β k 28 w U m2 μ2 → Fq M μ2 → (m2.1 0 2 = 0 → m.1 0 2 = 0 ∧ plN m ≤ plN m2 ∧ XT w m2 (μ2.1 2 5)) → AW l G KC RX7 cX7_term 3 d none Q 54 [some (.ref (gA G 35)), some (.int (nI (7 - k))), some (.int (nI c2))] [] μ2) → AW l G KC RX7 cX7_term 3 d none Q 7 [some (.ref (gA G 35)), some (.int (nI (7 - k))), some (.int (nI c))] [] μ := by
  intro q
  induction q with
  | zero =>
    intro c x3 m μ hq h hf hc hk
    have ec : c = 500 := by omega
    subst ec
    refine A_iload2 dX7_term_7 ?_
    refine A_sipush (v := 500) dX7_term_8 (by decide) ?_
    refine A_icmp_ge (tgt := 54) dX7_term_11 (by decide) (fun c_11 => ?_) (fun c_11 => absurd c_11 (fun y => y (Int32.le_refl _)))
    refine hk _ none m μ rfl h hf (fun y => ⟨y, Nat.le_refl _, ?_⟩)
    have hxs := (hc y).2.2
    exact (fun z => by have h8 := h.pl (v := 28) (r := 28) (by rw [z]; unfold opV; decide); have h9 := (hc y).2.1; omega)
  | succ q ih =>
    intro c x3 m μ hq h hf hc hk
    refine A_iload2 dX7_term_7 ?_
    refine A_sipush (v := 500) dX7_term_8 (by decide) ?_
    refine A_icmp_ge (tgt := 54) dX7_term_11 (by decide) (fun c_11 => absurd c_11 (nI_ge (a := c) (b := 500) (by omega) (by decide))) (fun c_11 => ?_)
    refine A_aload0 dX7_term_14 ?_
    refine A_getR gf_X7_9 rfl dX7_term_15 ?_
    refine A_getI gf_X7_32 rfl dX7_term_18 ?_
    refine A_bipush (v := 42) dX7_term_21 (by decide) ?_
    refine A_icmp_ne (tgt := 54) dX7_term_23 (by decide) (fun c_23 => ?_) (fun c_23 => ?_)
    · refine hk _ none m μ rfl h hf (fun y => ⟨y, Nat.le_refl _, ?_⟩)
      have hxs := (hc y).2.2
      exact c_23
    · refine L_X7_term_b (v := 28) (r := 28) (kd := 42) (c := c) (x3 := none) hS hu hdu hd5 c_23 (by unfold opV; decide) (by decide) (by decide) rfl h (fun y => (hc y).1) (fun x3 m2 μ2 e2 i2 f2 g2 => ?_)
      exact ih (c + 1) none m2 μ2 (by omega) i2 (hf.tr f2) (fun y => ⟨(hc (g2 y).1).1, by have h8 := (hc (g2 y).1).2.1; have h9 := (g2 y).2.1; omega, (g2 y).2.2⟩) (fun c3 x3 m3 μ3 e3 i3 f3 g3 => hk c3 x3 m3 μ3 (e2.trans e3) i3 f3 (fun y => ⟨(g2 (g3 y).1).1, by have h8 := (g3 y).2.1; have h9 := (g2 (g3 y).1).2.1; omega, (g3 y).2.2⟩))
set_option maxHeartbeats 400000 in
set_option maxRecDepth 100000 in
theorem M_X7_term {l : Launch} {G : Wd} {k du d : Nat} (hS : okS G) (hu : MC l G yX7_unit cX7_unit 3 du k 29 29 XU E1) (hdu : du < d) (hd5 : 5 < d) : MC l G yX7_term cX7_term 3 d k 28 28 XT E1 := by
  intro β w x m μ hP hE
  refine Mt.of (own := RX7) (n := 1) (by decide) rfl [some (.ref (gA G 35)), some (.int (nI (7 - k))), none] rfl (Nat.le_of_ble_eq_true rfl) ?_
  refine A_aload0 dX7_term_0 ?_
  refine A_iload1 dX7_term_1 ?_
  refine A_vv1 lk_X7_76 yv_X7_unit dX7_term_2 (rfl) (rfl) (hu β w x m μ hP (fun y => ⟨(hE y).1, (hE y).2.up (by omega)⟩)) (hdu) (Nat.le_of_ble_eq_true rfl) (fun μ_2 h_2 => ?_)
  obtain ⟨fq, m1, e1, ib1, g1⟩ := h_2
  refine A_iconst (v := 0) dX7_term_5 (by decide) ?_
  refine A_istore2 dX7_term_6 rfl (by decide) ?_
  refine L_X7_term_7 (U := m.1 46) (M := μ) hS hu hdu hd5 500 0 none m1 _ (by omega) (ib1.lo (by omega)) fq (fun y => ⟨(hE (g1 y).1).2, Nat.zero_le _, (g1 y).2.2⟩) (fun c2 x3 m2 μ2 e2 i2 f2 g2 => ?_)
  refine A_vret dX7_term_54 ?_
  exact ⟨rfl, f2, m2, e1.trans e2, i2, fun y => ⟨(g1 (g2 y).1).1, Nat.le_trans (g1 (g2 y).1).2.1 (g2 y).2.1, (g2 y).2.2⟩⟩
set_option maxHeartbeats 400000 in
set_option maxRecDepth 100000 in
theorem L_X7_addition_b {l : Launch} {G : Wd} {β k w du d c : Nat} {U : Nat → Int32} {m μ : Mem} {v r kd : Int32} {x3 : Option Value} {Q : Option Value → Mem → Prop} (hS : okS G) (hu : MC l G yX7_term cX7_term 3 du k 28 28 XT E1) (hdu : du < d) (hd5 : 5 < d) (hkd : μ.1 2 5 = kd) (ho : opV kd v r) (hr : r.toInt = 26) (hvr : r.toInt ≤ v.toInt ∧ v.toInt ≤ 28 ∧ v.toInt < 28 ∧ 2 < v.toInt ∧ kdE v = kd ∧ sgN v = 1)  (h : IB G β k 26 w U m μ) (hT : m.1 0 2 = 0 → TC 26 w U) (hk : ∀ (x3 : Option Value) (m2 μ2 : Mem), RF 2 m = RF 2 m2 → IB G β k 26 w U m2 μ2 → Fq μ μ2 → (m2.1 0 2 = 0 → m.1 0 2 = 0 ∧ plN m < plN m2 ∧ XT w m2 (μ2.1 2 5)) → AW l G KC RX7 cX7_addition 4 d none Q 7 [some (.ref (gA G 35)), some (.int (nI (7 - k))), some (.int (nI (c + 1))), x3] [] μ2) : AW l G KC RX7 cX7_addition 4 d none Q 38 [some (.ref (gA G 35)), some (.int (nI (7 - k))), some (.int (nI c)), x3] [] μ := by
  have ho2 : opV (μ.1 2 5) v r := by rw [hkd]; exact ho
  obtain ⟨h0, w1, w2, w3, w4, w5, w6, w7, w8⟩ := op_v h.1 ho2
  refine A_aload0 dX7_addition_38 ?_
  refine A_getR gf_X7_9 rfl dX7_addition_39 ?_
  refine A_getI gf_X7_32 rfl dX7_addition_42 ?_
  rw [hkd]
  refine A_istore3 dX7_addition_45 rfl (by decide) ?_
  refine A_aload0 dX7_addition_46 ?_
  refine A_getR gf_X7_9 rfl dX7_addition_47 ?_
  refine A_vv0 lk_X7_46 yv_X9_step dX7_addition_50 (rfl) (rfl) (T_step hS h.1 h0 w8) (hd5) (Nat.le_of_ble_eq_true rfl) (fun μ_50 h_50 => ?_)
  obtain ⟨t1, f1⟩ := h_50
  obtain ⟨m1, e1, ip1, u1, v1, z1, z2⟩ := op_step h h0 w1 w2 w3 w4 (by omega) ((hT h0).up (by omega)) w5 w6 t1 f1
  rw [hvr.2.2.2.2.2] at e1 ip1
  have hec : m1.1 0 2 = 0 → E1 1 (μ_50.1 2 5) ∧ TC 28 (w + 1) (m1.1 46) := fun _ => ⟨Or.inl rfl, Or.inr (Or.inr (by rw [Nat.add_sub_cancel, v1]; omega))⟩
  refine A_aload0 dX7_addition_53 ?_
  refine A_iload1 dX7_addition_54 ?_
  refine A_vv1 lk_X7_73 yv_X7_term dX7_addition_55 (rfl) (rfl) (hu β (w + 1) 1 m1 μ_50 ip1 hec) (hdu) (Nat.le_of_ble_eq_true rfl) (fun μ_55 h_55 => ?_)
  obtain ⟨fq2, m2, e2, ib2, g2⟩ := h_55
  refine A_aload0 dX7_addition_58 ?_
  refine A_getR gf_X7_19 rfl dX7_addition_59 ?_
  refine A_iload3 dX7_addition_62 ?_
  refine A_iconst (v := 0) dX7_addition_63 (by decide) ?_
  refine A_vv2 lk_X7_63 yv_X6_addStep dX7_addition_64 (rfl) (rfl) (T_X6_addStep ib2.2.1) (by omega) (Nat.le_of_ble_eq_true rfl) (fun μ_64 h_64 => ?_)
  subst h_64
  refine A_iinc2 dX7_addition_67 rfl rfl (by decide) ?_
  rw [show nI c + Int32.ofInt 1 = nI (c + 1) from nI_1 c]
  refine A_goto (tgt := 7) dX7_addition_70 (by decide) ?_
  have ib3 := fin_step (U := U) (L2 := 26) (k2 := k) ib2 u1 v1 (by omega) (by omega) hvr.2.1 hvr.2.2.2.1 (by rw [cnW_s, v1, if_neg w6, cnW_c w u1]; omega)
  rw [hvr.2.2.2.2.1] at ib3
  exact hk _ m2 _ (e1.trans e2) ib3 ((f1.fq.tr fq2).ad) (fun y => ⟨h0, by have := (g2 y).2.1; omega, by rw [ad_k]; exact ((g2 y).2.2).dn⟩)
set_option maxHeartbeats 400000 in
set_option maxRecDepth 100000 in
theorem L_X7_addition_7 {l : Launch} {G : Wd} {β k w du d : Nat} {U : Nat → Int32} {M : Mem} {Q : Option Value → Mem → Prop} (hS : okS G) (hu : MC l G yX7_term cX7_term 3 du k 28 28 XT E1) (hdu : du < d) (hd5 : 5 < d) : ∀ (q c : Nat) (x3 : Option Value) (m μ : Mem), q + c = 500 → IB G β k 26 w U m μ → Fq M μ → (m.1 0 2 = 0 → TC 26 w U ∧ c ≤ plN m ∧ XT w m (μ.1 2 5)) → (∀ (c2 : Nat) (x3 : Option Value) (m2 μ2 : Mem), RF 2 m = RF 2 m2 → IB G β k 26 w U m2 μ2 → Fq M μ2 → (m2.1 0 2 = 0 → m.1 0 2 = 0 ∧ plN m ≤ plN m2 ∧ XA w m2 (μ2.1 2 5)) → AW l G KC RX7 cX7_addition 4 d none Q 73 [some (.ref (gA G 35)), some (.int (nI (7 - k))), some (.int (nI c2)), x3] [] μ2) → AW l G KC RX7 cX7_addition 4 d none Q 7 [some (.ref (gA G 35)), some (.int (nI (7 - k))), some (.int (nI c)), x3] [] μ := by
  intro q
  induction q with
  | zero =>
    intro c x3 m μ hq h hf hc hk
    have ec : c = 500 := by omega
    subst ec
    refine A_iload2 dX7_addition_7 ?_
    refine A_sipush (v := 500) dX7_addition_8 (by decide) ?_
    refine A_icmp_ge (tgt := 73) dX7_addition_11 (by decide) (fun c_11 => ?_) (fun c_11 => absurd c_11 (fun y => y (Int32.le_refl _)))
    refine hk _ _ m μ rfl h hf (fun y => ⟨y, Nat.le_refl _, ?_⟩)
    have hxs := (hc y).2.2
    exact ⟨hxs, (fun z => by have h8 := h.pl (v := 26) (r := 26) (by rw [z]; unfold opV; decide); have h9 := (hc y).2.1; omega), (fun z => by have h8 := h.pl (v := 27) (r := 26) (by rw [z]; unfold opV; decide); have h9 := (hc y).2.1; omega)⟩
  | succ q ih =>
    intro c x3 m μ hq h hf hc hk
    refine A_iload2 dX7_addition_7 ?_
    refine A_sipush (v := 500) dX7_addition_8 (by decide) ?_
    refine A_icmp_ge (tgt := 73) dX7_addition_11 (by decide) (fun c_11 => absurd c_11 (nI_ge (a := c) (b := 500) (by omega) (by decide))) (fun c_11 => ?_)
    refine A_aload0 dX7_addition_14 ?_
    refine A_getR gf_X7_9 rfl dX7_addition_15 ?_
    refine A_getI gf_X7_32 rfl dX7_addition_18 ?_
    refine A_bipush (v := 43) dX7_addition_21 (by decide) ?_
    refine A_icmp_eq (tgt := 38) dX7_addition_23 (by decide) (fun c_23 => ?_) (fun c_23 => ?_)
    · refine L_X7_addition_b (v := 26) (r := 26) (kd := 43) (c := c) hS hu hdu hd5 c_23 (by unfold opV; decide) (by decide) (by decide) h (fun y => (hc y).1) (fun x3 m2 μ2 e2 i2 f2 g2 => ?_)
      exact ih (c + 1) _ m2 μ2 (by omega) i2 (hf.tr f2) (fun y => ⟨(hc (g2 y).1).1, by have h8 := (hc (g2 y).1).2.1; have h9 := (g2 y).2.1; omega, (g2 y).2.2⟩) (fun c3 x3 m3 μ3 e3 i3 f3 g3 => hk c3 x3 m3 μ3 (e2.trans e3) i3 f3 (fun y => ⟨(g2 (g3 y).1).1, by have h8 := (g3 y).2.1; have h9 := (g2 (g3 y).1).2.1; omega, (g3 y).2.2⟩))
    · refine A_aload0 dX7_addition_26 ?_
      refine A_getR gf_X7_9 rfl dX7_addition_27 ?_
      refine A_getI gf_X7_32 rfl dX7_addition_30 ?_
      refine A_bipush (v := 45) dX7_addition_33 (by decide) ?_
      refine A_icmp_ne (tgt := 73) dX7_addition_35 (by decide) (fun c_35 => ?_) (fun c_35 => ?_)
      · refine hk _ _ m μ rfl h hf (fun y => ⟨y, Nat.le_refl _, ?_⟩)
        have hxs := (hc y).2.2
        exact ⟨hxs, c_23, c_35⟩
      · refine L_X7_addition_b (v := 27) (r := 26) (kd := 45) (c := c) hS hu hdu hd5 c_35 (by unfold opV; decide) (by decide) (by decide) h (fun y => (hc y).1) (fun x3 m2 μ2 e2 i2 f2 g2 => ?_)
        exact ih (c + 1) _ m2 μ2 (by omega) i2 (hf.tr f2) (fun y => ⟨(hc (g2 y).1).1, by have h8 := (hc (g2 y).1).2.1; have h9 := (g2 y).2.1; omega, (g2 y).2.2⟩) (fun c3 x3 m3 μ3 e3 i3 f3 g3 => hk c3 x3 m3 μ3 (e2.trans e3) i3 f3 (fun y => ⟨(g2 (g3 y).1).1, by have h8 := (g3 y).2.1; have h9 := (g2 (g3 y).1).2.1; omega, (g3 y).2.2⟩))
set_option maxHeartbeats 400000 in
set_option maxRecDepth 100000 in
theorem M_X7_addition {l : Launch} {G : Wd} {k du d : Nat} (hS : okS G) (hu : MC l G yX7_term cX7_term 3 du k 28 28 XT E1) (hdu : du < d) (hd5 : 5 < d) : MC l G yX7_addition cX7_addition 4 d k 26 26 XA E1 := by
  intro β w x m μ hP hE
  refine Mt.of (own := RX7) (n := 2) (by decide) rfl [some (.ref (gA G 35)), some (.int (nI (7 - k))), none, none] rfl (Nat.le_of_ble_eq_true rfl) ?_
  refine A_aload0 dX7_addition_0 ?_
  refine A_iload1 dX7_addition_1 ?_
  refine A_vv1 lk_X7_73 yv_X7_term dX7_addition_2 (rfl) (rfl) (hu β w x m μ hP (fun y => ⟨(hE y).1, (hE y).2.up (by omega)⟩)) (hdu) (Nat.le_of_ble_eq_true rfl) (fun μ_2 h_2 => ?_)
  obtain ⟨fq, m1, e1, ib1, g1⟩ := h_2
  refine A_iconst (v := 0) dX7_addition_5 (by decide) ?_
  refine A_istore2 dX7_addition_6 rfl (by decide) ?_
  refine L_X7_addition_7 (U := m.1 46) (M := μ) hS hu hdu hd5 500 0 _ m1 _ (by omega) (ib1.lo (by omega)) fq (fun y => ⟨(hE (g1 y).1).2, Nat.zero_le _, (g1 y).2.2⟩) (fun c2 x3 m2 μ2 e2 i2 f2 g2 => ?_)
  refine A_vret dX7_addition_73 ?_
  exact ⟨rfl, f2, m2, e1.trans e2, i2, fun y => ⟨(g1 (g2 y).1).1, Nat.le_trans (g1 (g2 y).1).2.1 (g2 y).2.1, (g2 y).2.2⟩⟩
set_option maxHeartbeats 400000 in
set_option maxRecDepth 100000 in
theorem L_X7_both_b {l : Launch} {G : Wd} {β k w du d c : Nat} {U : Nat → Int32} {m μ : Mem} {v r kd : Int32} {x3 : Option Value} {Q : Option Value → Mem → Prop} (hS : okS G) (hu : MC l G yX7_one cX7_one 3 du k 23 22 XO E0) (hdu : du < d) (hd5 : 5 < d) (hkd : μ.1 2 5 = kd) (ho : opV kd v r) (hr : r.toInt = 21) (hvr : r.toInt ≤ v.toInt ∧ v.toInt ≤ 28 ∧ v.toInt < 23 ∧ 2 < v.toInt ∧ kdE v = kd ∧ sgN v = 0) (hk0 : kd = 151) (h : IB G β k 21 w U m μ) (hT : m.1 0 2 = 0 → TC 21 w U) (hk : ∀ (x3 : Option Value) (m2 μ2 : Mem), RF 2 m = RF 2 m2 → IB G β k 21 w U m2 μ2 → Fq μ μ2 → (m2.1 0 2 = 0 → m.1 0 2 = 0 ∧ plN m < plN m2 ∧ XO w m2 (μ2.1 2 5)) → AW l G KC RX7 cX7_both 3 d none Q 7 [some (.ref (gA G 35)), some (.int (nI (7 - k))), some (.int (nI (c + 1)))] [] μ2) : AW l G KC RX7 cX7_both 3 d none Q 27 [some (.ref (gA G 35)), some (.int (nI (7 - k))), some (.int (nI c))] [] μ := by
  have ho2 : opV (μ.1 2 5) v r := by rw [hkd]; exact ho
  obtain ⟨h0, w1, w2, w3, w4, w5, w6, w7, w8⟩ := op_v h.1 ho2
  refine A_aload0 dX7_both_27 ?_
  refine A_getR gf_X7_9 rfl dX7_both_28 ?_
  refine A_vv0 lk_X7_46 yv_X9_step dX7_both_31 (rfl) (rfl) (T_step hS h.1 h0 w8) (hd5) (Nat.le_of_ble_eq_true rfl) (fun μ_31 h_31 => ?_)
  obtain ⟨t1, f1⟩ := h_31
  obtain ⟨m1, e1, ip1, u1, v1, z1, z2⟩ := op_step h h0 w1 w2 w3 w4 (by omega) ((hT h0).up (by omega)) w5 w6 t1 f1
  rw [hvr.2.2.2.2.2] at e1 ip1
  have hec : m1.1 0 2 = 0 → E0 0 (μ_31.1 2 5) ∧ TC 23 (w + 1) (m1.1 46) := fun _ => ⟨rfl, Or.inr (Or.inr (by rw [Nat.add_sub_cancel, v1]; omega))⟩
  refine A_aload0 dX7_both_34 ?_
  refine A_iload1 dX7_both_35 ?_
  refine A_vv1 lk_X7_67 yv_X7_one dX7_both_36 (rfl) (rfl) (hu β (w + 1) 0 m1 μ_31 ip1 hec) (hdu) (Nat.le_of_ble_eq_true rfl) (fun μ_36 h_36 => ?_)
  obtain ⟨fq2, m2, e2, ib2, g2⟩ := h_36
  refine A_aload0 dX7_both_39 ?_
  refine A_getR gf_X7_19 rfl dX7_both_40 ?_
  refine A_sipush (v := 151) dX7_both_43 (by decide) ?_
  refine A_iconst (v := 0) dX7_both_46 (by decide) ?_
  refine A_vv2 lk_X7_63 yv_X6_addStep dX7_both_47 (rfl) (rfl) (T_X6_addStep ib2.2.1) (by omega) (Nat.le_of_ble_eq_true rfl) (fun μ_47 h_47 => ?_)
  subst h_47
  refine A_iinc2 dX7_both_50 rfl rfl (by decide) ?_
  rw [show nI c + Int32.ofInt 1 = nI (c + 1) from nI_1 c]
  refine A_goto (tgt := 7) dX7_both_53 (by decide) ?_
  have ib3 := fin_step (U := U) (L2 := 21) (k2 := k) ib2 u1 v1 (by omega) (by omega) hvr.2.1 hvr.2.2.2.1 (by rw [cnW_s, v1, if_neg w6, cnW_c w u1]; omega)
  rw [hvr.2.2.2.2.1] at ib3
  rw [hk0] at ib3
  exact hk none m2 _ (e1.trans e2) ib3 ((f1.fq.tr fq2).ad) (fun y => ⟨h0, by have := (g2 y).2.1; omega, by rw [ad_k]; exact ((g2 y).2.2).dn⟩)
set_option maxHeartbeats 400000 in
set_option maxRecDepth 100000 in
theorem L_X7_both_7 {l : Launch} {G : Wd} {β k w du d : Nat} {U : Nat → Int32} {M : Mem} {Q : Option Value → Mem → Prop} (hS : okS G) (hu : MC l G yX7_one cX7_one 3 du k 23 22 XO E0) (hdu : du < d) (hd5 : 5 < d) : ∀ (q c : Nat) (x3 : Option Value) (m μ : Mem), q + c = 500 → IB G β k 21 w U m μ → Fq M μ → (m.1 0 2 = 0 → TC 21 w U ∧ c ≤ plN m ∧ XO w m (μ.1 2 5)) → (∀ (c2 : Nat) (x3 : Option Value) (m2 μ2 : Mem), RF 2 m = RF 2 m2 → IB G β k 21 w U m2 μ2 → Fq M μ2 → (m2.1 0 2 = 0 → m.1 0 2 = 0 ∧ plN m ≤ plN m2 ∧ XB w m2 (μ2.1 2 5)) → AW l G KC RX7 cX7_both 3 d none Q 56 [some (.ref (gA G 35)), some (.int (nI (7 - k))), some (.int (nI c2))] [] μ2) → AW l G KC RX7 cX7_both 3 d none Q 7 [some (.ref (gA G 35)), some (.int (nI (7 - k))), some (.int (nI c))] [] μ := by
  intro q
  induction q with
  | zero =>
    intro c x3 m μ hq h hf hc hk
    have ec : c = 500 := by omega
    subst ec
    refine A_iload2 dX7_both_7 ?_
    refine A_sipush (v := 500) dX7_both_8 (by decide) ?_
    refine A_icmp_ge (tgt := 56) dX7_both_11 (by decide) (fun c_11 => ?_) (fun c_11 => absurd c_11 (fun y => y (Int32.le_refl _)))
    refine hk _ none m μ rfl h hf (fun y => ⟨y, Nat.le_refl _, ?_⟩)
    have hxs := (hc y).2.2
    exact ⟨hxs, (fun z => by have h8 := h.pl (v := 21) (r := 21) (by rw [z]; unfold opV; decide); have h9 := (hc y).2.1; omega)⟩
  | succ q ih =>
    intro c x3 m μ hq h hf hc hk
    refine A_iload2 dX7_both_7 ?_
    refine A_sipush (v := 500) dX7_both_8 (by decide) ?_
    refine A_icmp_ge (tgt := 56) dX7_both_11 (by decide) (fun c_11 => absurd c_11 (nI_ge (a := c) (b := 500) (by omega) (by decide))) (fun c_11 => ?_)
    refine A_aload0 dX7_both_14 ?_
    refine A_getR gf_X7_9 rfl dX7_both_15 ?_
    refine A_getI gf_X7_32 rfl dX7_both_18 ?_
    refine A_sipush (v := 151) dX7_both_21 (by decide) ?_
    refine A_icmp_ne (tgt := 56) dX7_both_24 (by decide) (fun c_24 => ?_) (fun c_24 => ?_)
    · refine hk _ none m μ rfl h hf (fun y => ⟨y, Nat.le_refl _, ?_⟩)
      have hxs := (hc y).2.2
      exact ⟨hxs, c_24⟩
    · refine L_X7_both_b (v := 21) (r := 21) (kd := 151) (c := c) (x3 := none) hS hu hdu hd5 c_24 (by unfold opV; decide) (by decide) (by decide) rfl h (fun y => (hc y).1) (fun x3 m2 μ2 e2 i2 f2 g2 => ?_)
      exact ih (c + 1) none m2 μ2 (by omega) i2 (hf.tr f2) (fun y => ⟨(hc (g2 y).1).1, by have h8 := (hc (g2 y).1).2.1; have h9 := (g2 y).2.1; omega, (g2 y).2.2⟩) (fun c3 x3 m3 μ3 e3 i3 f3 g3 => hk c3 x3 m3 μ3 (e2.trans e3) i3 f3 (fun y => ⟨(g2 (g3 y).1).1, by have h8 := (g3 y).2.1; have h9 := (g2 (g3 y).1).2.1; omega, (g3 y).2.2⟩))
set_option maxHeartbeats 400000 in
set_option maxRecDepth 100000 in
theorem M_X7_both {l : Launch} {G : Wd} {k du d : Nat} (hS : okS G) (hu : MC l G yX7_one cX7_one 3 du k 23 22 XO E0) (hdu : du < d) (hd5 : 5 < d) : MC l G yX7_both cX7_both 3 d k 21 21 XB E0 := by
  intro β w x m μ hP hE
  refine Mt.of (own := RX7) (n := 1) (by decide) rfl [some (.ref (gA G 35)), some (.int (nI (7 - k))), none] rfl (Nat.le_of_ble_eq_true rfl) ?_
  refine A_aload0 dX7_both_0 ?_
  refine A_iload1 dX7_both_1 ?_
  refine A_vv1 lk_X7_67 yv_X7_one dX7_both_2 (rfl) (rfl) (hu β w x m μ hP (fun y => ⟨(hE y).1, (hE y).2.up (by omega)⟩)) (hdu) (Nat.le_of_ble_eq_true rfl) (fun μ_2 h_2 => ?_)
  obtain ⟨fq, m1, e1, ib1, g1⟩ := h_2
  refine A_iconst (v := 0) dX7_both_5 (by decide) ?_
  refine A_istore2 dX7_both_6 rfl (by decide) ?_
  refine L_X7_both_7 (U := m.1 46) (M := μ) hS hu hdu hd5 500 0 none m1 _ (by omega) (ib1.lo (by omega)) fq (fun y => ⟨(hE (g1 y).1).2, Nat.zero_le _, (g1 y).2.2⟩) (fun c2 x3 m2 μ2 e2 i2 f2 g2 => ?_)
  refine A_vret dX7_both_56 ?_
  exact ⟨rfl, f2, m2, e1.trans e2, i2, fun y => ⟨(g1 (g2 y).1).1, Nat.le_trans (g1 (g2 y).1).2.1 (g2 y).2.1, (g2 y).2.2⟩⟩
set_option maxHeartbeats 400000 in
set_option maxRecDepth 100000 in
theorem L_X7_either_b {l : Launch} {G : Wd} {β k w du d c : Nat} {U : Nat → Int32} {m μ : Mem} {v r kd : Int32} {x3 : Option Value} {Q : Option Value → Mem → Prop} (hS : okS G) (hu : MC l G yX7_both cX7_both 3 du k 21 21 XB E0) (hdu : du < d) (hd5 : 5 < d) (hkd : μ.1 2 5 = kd) (ho : opV kd v r) (hr : r.toInt = 20) (hvr : r.toInt ≤ v.toInt ∧ v.toInt ≤ 28 ∧ v.toInt < 21 ∧ 2 < v.toInt ∧ kdE v = kd ∧ sgN v = 0) (hk0 : kd = 152) (h : IB G β k 20 w U m μ) (hT : m.1 0 2 = 0 → TC 20 w U) (hk : ∀ (x3 : Option Value) (m2 μ2 : Mem), RF 2 m = RF 2 m2 → IB G β k 20 w U m2 μ2 → Fq μ μ2 → (m2.1 0 2 = 0 → m.1 0 2 = 0 ∧ plN m < plN m2 ∧ XB w m2 (μ2.1 2 5)) → AW l G KC RX7 cX7_either 3 d none Q 7 [some (.ref (gA G 35)), some (.int (nI (7 - k))), some (.int (nI (c + 1)))] [] μ2) : AW l G KC RX7 cX7_either 3 d none Q 27 [some (.ref (gA G 35)), some (.int (nI (7 - k))), some (.int (nI c))] [] μ := by
  have ho2 : opV (μ.1 2 5) v r := by rw [hkd]; exact ho
  obtain ⟨h0, w1, w2, w3, w4, w5, w6, w7, w8⟩ := op_v h.1 ho2
  refine A_aload0 dX7_either_27 ?_
  refine A_getR gf_X7_9 rfl dX7_either_28 ?_
  refine A_vv0 lk_X7_46 yv_X9_step dX7_either_31 (rfl) (rfl) (T_step hS h.1 h0 w8) (hd5) (Nat.le_of_ble_eq_true rfl) (fun μ_31 h_31 => ?_)
  obtain ⟨t1, f1⟩ := h_31
  obtain ⟨m1, e1, ip1, u1, v1, z1, z2⟩ := op_step h h0 w1 w2 w3 w4 (by omega) ((hT h0).up (by omega)) w5 w6 t1 f1
  rw [hvr.2.2.2.2.2] at e1 ip1
  have hec : m1.1 0 2 = 0 → E0 0 (μ_31.1 2 5) ∧ TC 21 (w + 1) (m1.1 46) := fun _ => ⟨rfl, Or.inr (Or.inr (by rw [Nat.add_sub_cancel, v1]; omega))⟩
  refine A_aload0 dX7_either_34 ?_
  refine A_iload1 dX7_either_35 ?_
  refine A_vv1 lk_X7_60 yv_X7_both dX7_either_36 (rfl) (rfl) (hu β (w + 1) 0 m1 μ_31 ip1 hec) (hdu) (Nat.le_of_ble_eq_true rfl) (fun μ_36 h_36 => ?_)
  obtain ⟨fq2, m2, e2, ib2, g2⟩ := h_36
  refine A_aload0 dX7_either_39 ?_
  refine A_getR gf_X7_19 rfl dX7_either_40 ?_
  refine A_sipush (v := 152) dX7_either_43 (by decide) ?_
  refine A_iconst (v := 0) dX7_either_46 (by decide) ?_
  refine A_vv2 lk_X7_63 yv_X6_addStep dX7_either_47 (rfl) (rfl) (T_X6_addStep ib2.2.1) (by omega) (Nat.le_of_ble_eq_true rfl) (fun μ_47 h_47 => ?_)
  subst h_47
  refine A_iinc2 dX7_either_50 rfl rfl (by decide) ?_
  rw [show nI c + Int32.ofInt 1 = nI (c + 1) from nI_1 c]
  refine A_goto (tgt := 7) dX7_either_53 (by decide) ?_
  have ib3 := fin_step (U := U) (L2 := 20) (k2 := k) ib2 u1 v1 (by omega) (by omega) hvr.2.1 hvr.2.2.2.1 (by rw [cnW_s, v1, if_neg w6, cnW_c w u1]; omega)
  rw [hvr.2.2.2.2.1] at ib3
  rw [hk0] at ib3
  exact hk none m2 _ (e1.trans e2) ib3 ((f1.fq.tr fq2).ad) (fun y => ⟨h0, by have := (g2 y).2.1; omega, by rw [ad_k]; exact ((g2 y).2.2).dn⟩)
set_option maxHeartbeats 400000 in
set_option maxRecDepth 100000 in
theorem L_X7_either_7 {l : Launch} {G : Wd} {β k w du d : Nat} {U : Nat → Int32} {M : Mem} {Q : Option Value → Mem → Prop} (hS : okS G) (hu : MC l G yX7_both cX7_both 3 du k 21 21 XB E0) (hdu : du < d) (hd5 : 5 < d) : ∀ (q c : Nat) (x3 : Option Value) (m μ : Mem), q + c = 500 → IB G β k 20 w U m μ → Fq M μ → (m.1 0 2 = 0 → TC 20 w U ∧ c ≤ plN m ∧ XB w m (μ.1 2 5)) → (∀ (c2 : Nat) (x3 : Option Value) (m2 μ2 : Mem), RF 2 m = RF 2 m2 → IB G β k 20 w U m2 μ2 → Fq M μ2 → (m2.1 0 2 = 0 → m.1 0 2 = 0 ∧ plN m ≤ plN m2 ∧ XE w m2 (μ2.1 2 5)) → AW l G KC RX7 cX7_either 3 d none Q 56 [some (.ref (gA G 35)), some (.int (nI (7 - k))), some (.int (nI c2))] [] μ2) → AW l G KC RX7 cX7_either 3 d none Q 7 [some (.ref (gA G 35)), some (.int (nI (7 - k))), some (.int (nI c))] [] μ := by
  intro q
  induction q with
  | zero =>
    intro c x3 m μ hq h hf hc hk
    have ec : c = 500 := by omega
    subst ec
    refine A_iload2 dX7_either_7 ?_
    refine A_sipush (v := 500) dX7_either_8 (by decide) ?_
    refine A_icmp_ge (tgt := 56) dX7_either_11 (by decide) (fun c_11 => ?_) (fun c_11 => absurd c_11 (fun y => y (Int32.le_refl _)))
    refine hk _ none m μ rfl h hf (fun y => ⟨y, Nat.le_refl _, ?_⟩)
    have hxs := (hc y).2.2
    exact ⟨hxs, (fun z => by have h8 := h.pl (v := 20) (r := 20) (by rw [z]; unfold opV; decide); have h9 := (hc y).2.1; omega)⟩
  | succ q ih =>
    intro c x3 m μ hq h hf hc hk
    refine A_iload2 dX7_either_7 ?_
    refine A_sipush (v := 500) dX7_either_8 (by decide) ?_
    refine A_icmp_ge (tgt := 56) dX7_either_11 (by decide) (fun c_11 => absurd c_11 (nI_ge (a := c) (b := 500) (by omega) (by decide))) (fun c_11 => ?_)
    refine A_aload0 dX7_either_14 ?_
    refine A_getR gf_X7_9 rfl dX7_either_15 ?_
    refine A_getI gf_X7_32 rfl dX7_either_18 ?_
    refine A_sipush (v := 152) dX7_either_21 (by decide) ?_
    refine A_icmp_ne (tgt := 56) dX7_either_24 (by decide) (fun c_24 => ?_) (fun c_24 => ?_)
    · refine hk _ none m μ rfl h hf (fun y => ⟨y, Nat.le_refl _, ?_⟩)
      have hxs := (hc y).2.2
      exact ⟨hxs, c_24⟩
    · refine L_X7_either_b (v := 20) (r := 20) (kd := 152) (c := c) (x3 := none) hS hu hdu hd5 c_24 (by unfold opV; decide) (by decide) (by decide) rfl h (fun y => (hc y).1) (fun x3 m2 μ2 e2 i2 f2 g2 => ?_)
      exact ih (c + 1) none m2 μ2 (by omega) i2 (hf.tr f2) (fun y => ⟨(hc (g2 y).1).1, by have h8 := (hc (g2 y).1).2.1; have h9 := (g2 y).2.1; omega, (g2 y).2.2⟩) (fun c3 x3 m3 μ3 e3 i3 f3 g3 => hk c3 x3 m3 μ3 (e2.trans e3) i3 f3 (fun y => ⟨(g2 (g3 y).1).1, by have h8 := (g3 y).2.1; have h9 := (g2 (g3 y).1).2.1; omega, (g3 y).2.2⟩))
set_option maxHeartbeats 400000 in
set_option maxRecDepth 100000 in
theorem M_X7_either {l : Launch} {G : Wd} {k du d : Nat} (hS : okS G) (hu : MC l G yX7_both cX7_both 3 du k 21 21 XB E0) (hdu : du < d) (hd5 : 5 < d) : MC l G yX7_either cX7_either 3 d k 20 20 XE E0 := by
  intro β w x m μ hP hE
  refine Mt.of (own := RX7) (n := 1) (by decide) rfl [some (.ref (gA G 35)), some (.int (nI (7 - k))), none] rfl (Nat.le_of_ble_eq_true rfl) ?_
  refine A_aload0 dX7_either_0 ?_
  refine A_iload1 dX7_either_1 ?_
  refine A_vv1 lk_X7_60 yv_X7_both dX7_either_2 (rfl) (rfl) (hu β w x m μ hP (fun y => ⟨(hE y).1, (hE y).2.up (by omega)⟩)) (hdu) (Nat.le_of_ble_eq_true rfl) (fun μ_2 h_2 => ?_)
  obtain ⟨fq, m1, e1, ib1, g1⟩ := h_2
  refine A_iconst (v := 0) dX7_either_5 (by decide) ?_
  refine A_istore2 dX7_either_6 rfl (by decide) ?_
  refine L_X7_either_7 (U := m.1 46) (M := μ) hS hu hdu hd5 500 0 none m1 _ (by omega) (ib1.lo (by omega)) fq (fun y => ⟨(hE (g1 y).1).2, Nat.zero_le _, (g1 y).2.2⟩) (fun c2 x3 m2 μ2 e2 i2 f2 g2 => ?_)
  refine A_vret dX7_either_56 ?_
  exact ⟨rfl, f2, m2, e1.trans e2, i2, fun y => ⟨(g1 (g2 y).1).1, Nat.le_trans (g1 (g2 y).1).2.1 (g2 y).2.1, (g2 y).2.2⟩⟩

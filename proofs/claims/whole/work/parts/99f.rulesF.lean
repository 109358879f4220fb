/-! an operand on both sides -/
set_option maxHeartbeats 200000 in
theorem opn_s {β : Nat} {x : Int32} {m : Mem} (h : RuI β x m) (hx : ¬ x = 2) : RF x m = RF (sp_operand x m).1 (sp_operand x m).2 ∧ RuS β m (sp_operand x m) := by
  have e : rrS x m = sp_operand x m := if_neg hx
  have h1 := RF_s h (fun y => hx y.1)
  have h2 := rrS_s h
  rw [e] at h1 h2
  exact ⟨h1, h2⟩
set_option maxHeartbeats 200000 in
theorem opn_f {β : Nat} {x : Int32} {m : Mem} {w : Int32} (h : RuI β x m) (hx : ¬ x = 2) (hw : 0 < w) (hA : opA x m = sp_spoil m w) : RF x m = RF 2 (sp_spoil m w) := by
  have hp : 0 < (sp_spoil m w).1 0 2 := sp_spoil_2 hw
  have e : sp_operand x m = (x, sp_spoil m w) := by
    unfold sp_operand
    rw [hA, if_pos hp]
  obtain ⟨p1, p2⟩ := pr_e e
  rw [(opn_s h hx).1, p1, p2, RF_f (ps_0 hp), RF_f (ps_0 hp)]
set_option maxHeartbeats 200000 in
theorem IB.flt {β k w : Nat} {L : Int} {U : Nat → Int32} {G : Wd} {m μ : Mem} (t : TS G m μ) (c : CM μ) (h : ¬ m.1 0 2 = 0) : IB G β k L w U m μ := ⟨t, c, fun y => absurd y h⟩
set_option maxHeartbeats 200000 in
theorem RP.flt {β k w : Nat} {L : Int} {x : Int32} {G : Wd} {m μ M μ' : Mem} {X : Mem → Int32 → Prop} (f : Fq μ μ') (e : RF x m = RF 2 M) (t : TS G M μ') (c : CM μ') (h : ¬ M.1 0 2 = 0) : RP G β k w L x m μ X μ' := ⟨f, M, e, IB.flt t c h, fun y => absurd y h⟩
set_option maxHeartbeats 200000 in
/-- after a fault nothing more happens -/
theorem RP.old {β k w : Nat} {L : Int} {x : Int32} {G : Wd} {m μ μ' : Mem} {X : Mem → Int32 → Prop} (f : Fq μ μ') (t : TS G m μ') (c : CM μ') (h : ¬ m.1 0 2 = 0) : RP G β k w L x m μ X μ' := RP.flt f (by rw [RF_f h, RF_f h]) t c h
set_option maxHeartbeats 200000 in
theorem not_u {G : Wd} {m μ : Mem} (h : TS G m μ) (h0 : m.1 0 2 = 0) : opU m ↔ (μ.1 2 5 = 2 ∨ μ.1 2 5 = 40 ∨ μ.1 2 5 = 3 ∨ μ.1 2 5 = 149 ∨ μ.1 2 5 = 150) := by
  obtain ⟨-, -, -, -, b5, b6⟩ := rw_s h h0
  have hk := h.kr h0
  exact or_congr hk.k2 (or_congr (hk.sg (by decide)) (or_congr hk.nm (or_congr b5 b6)))
set_option maxHeartbeats 200000 in
/-- the reference meets NOT, the class steps over it -/
theorem not_step {β k w : Nat} {G : Wd} {m μ μ1 : Mem} (h : IP G β (k + 1) 0 w m μ) (h0 : m.1 0 2 = 0) (hk : μ.1 2 5 = 153) (t1 : TS G (tkn m) μ1) (f1 : F4 μ μ1) : ∃ m1, RF 0 m = RF 0 m1 ∧ IP G β k 0 (w + 1) m1 μ1 ∧ (∀ j, j < w → m1.1 46 j = m.1 46 j) ∧ m1.1 46 w = 22 ∧ m1.1 0 2 = 0 ∧ plN m < plN m1 := by
  obtain ⟨a1, a2, a3, a4, a5, a6, a7⟩ := h.2.2 h0
  obtain ⟨-, -, -, b4, -, -⟩ := rw_s h.1 h0
  have hw := b4.mpr hk
  obtain ⟨n, t, g1, g2, g3, g4, g5⟩ := a4.t
  obtain ⟨z1, z2⟩ := a1.sz g1 g2 g5 (by rw [hw.1]; decide) (by rw [hw.1]; decide)
  have et : t = w := nI_inj5 (g2.symm.trans a3) (by omega) (by omega)
  have hnu : ¬ opU m := by
    rw [not_u h.1 h0, hk]
    decide
  have hnm : ¬ isNm m := fun y => hnu (Or.inr (Or.inr (Or.inl y)))
  have hd : m.1 0 75 < 7 := by
    have e : m.1 0 75 = nI (cnW (m.1 46) w) := by
      have e1 := a2
      unfold DI at e1
      rw [g3, et] at e1
      exact e1
    rw [e]
    exact nI_lt (b := 7) (by omega) (by decide)
  have hE : ¬ opE 0 m := by
    rintro (y | y | y)
    · exact y.1 ⟨rfl, hw⟩
    · exact hnu y.1
    · exact y.2 hd
  have hA : opA 0 m = m := by
    unfold opA
    rw [if_neg hE, if_neg (fun y => hnm y.1)]
  have hop : sp_operand 0 m = (0, tkn (sp_hold m 22)) := by
    unfold sp_operand
    rw [hA, if_neg (by rw [h0]; decide), if_pos ⟨rfl, hw⟩]
  obtain ⟨p1, p2⟩ := pr_e hop
  obtain ⟨e1, -, q2, q3⟩ := opn_s a1 (by decide)
  rw [p1, p2] at e1
  rw [p2] at q2 q3
  rw [p1] at q3
  obtain ⟨r1, r2, r3, r4⟩ := hold_r (a := 22) a3 (by omega)
  have hmk := Mk.hold (v := 22) a3 (by omega)
  have hdi := a2.hold (a := 22) a3 (by omega)
  have hsr := a4.hold (v := 22) a3 (by omega) ⟨n, g1, by omega⟩
  have h46 : ∀ j, j < w → (sp_hold m 22).1 46 j = m.1 46 j := fun j hj => r3 46 j (by omega) (by omega)
  have h02 : (sp_hold m 22).1 0 2 = 0 := (r3 0 2 (by omega) (by omega)).trans h0
  have h73 : (sp_hold m 22).1 0 73 = m.1 0 73 := r3 0 73 (by omega) (by omega)
  generalize sp_hold m 22 = M at r1 r2 hmk hdi hsr h46 h02 h73 e1 q2 q3
  have hf : (tkn M).1 0 2 = 0 := (tkn_2 M).trans h02
  obtain ⟨q4, q5⟩ := q3 hf
  have rT : Rd M (tkn M) := Rd.tk Rd.rf
  have e46 : ∀ j, (tkn M).1 46 j = M.1 46 j := fun j => rT.1 46 j (by unfold rdK; omega)
  have t46 : (tkn M).1 46 w = 22 := by rw [e46]; exact r2
  refine ⟨tkn M, e1, ⟨t1.mv hmk.tks Ck.rf, h.2.1.f4 f1, fun _ => ⟨q4, hdi.rd rT, ?_, (hsr.rd rT).c (f1.1 30 3 (by omega)) (fun j => f1.1 33 j (by omega)), ?_, ?_, a7.q q2 f1.fq⟩⟩, fun j hj => (e46 j).trans (h46 j hj), t46, hf, q5⟩
  · rw [rT.1 0 74 (by unfold rdK; omega)]; exact r1
  · rw [cnW_s, t46, if_pos (Or.inl rfl), cnW_c w (fun j hj => (e46 j).trans (h46 j hj))]
    omega
  · rw [f1.1 35 3 (by omega), rT.1 0 73 (by unfold rdK; omega), h73]
    exact a6
set_option maxHeartbeats 200000 in
/-- NOT where no level is left -/
theorem not_bad {β w : Nat} {G : Wd} {m μ : Mem} (h : IP G β 0 0 w m μ) (h0 : m.1 0 2 = 0) (hk : μ.1 2 5 = 153) : RF 0 m = RF 2 (sp_spoil m 2) := by
  obtain ⟨a1, a2, a3, a4, a5, a6, a7⟩ := h.2.2 h0
  obtain ⟨-, -, -, b4, -, -⟩ := rw_s h.1 h0
  have hw := b4.mpr hk
  obtain ⟨n, t, g1, g2, g3, g4, g5⟩ := a4.t
  have et : t = w := nI_inj5 (g2.symm.trans a3) (by omega) (by omega)
  refine opn_f a1 (by decide) (by decide) (if_pos (Or.inr (Or.inr ⟨Or.inl ⟨rfl, hw⟩, ?_⟩)))
  have e : m.1 0 75 = nI 7 := by
    have e1 := a2
    unfold DI at e1
    rw [g3, et, show cnW (m.1 46) w = 7 by omega] at e1
    exact e1
  rw [e]
  decide
/-- a comparison behind its left side -/
def cpV (kd v : Int32) : Prop := (kd = 60 ∧ v = 24) ∨ (kd = 62 ∧ v = 25) ∨ (kd = 61 ∧ v = 23)
set_option maxHeartbeats 200000 in
theorem cp_v {G : Wd} {m μ : Mem} {v : Int32} (h : TS G m μ) (hv : cpV (μ.1 2 5) v) : m.1 0 2 = 0 ∧ sgW m = v ∧ ¬ v < 0 ∧ ¬ m.1 0 6 = 41 ∧ ¬ isWd m 7561593 ∧ rkO v = 23 ∧ ¬ (v = 22 ∨ v = 30) ∧ ¬ m.1 0 6 = 3 ∧ sgN v = 1 ∧ kdE v = μ.1 2 5 ∧ (v = 23 ∨ v = 24 ∨ v = 25) := by
  have h0 : m.1 0 2 = 0 := h.no (by rcases hv with y | y | y <;> rw [y.1] <;> decide)
  obtain ⟨b1, -⟩ := rw_s h h0
  have hk := h.kr h0
  refine ⟨h0, ?_⟩
  have key : ∀ c : Int32, 3 < c.toInt ∧ c.toInt < 128 → μ.1 2 5 = c → m.1 0 6 = c := fun c hc y => (hk.sg hc).mpr y
  rcases hv with ⟨y, ev⟩ | ⟨y, ev⟩ | ⟨y, ev⟩ <;> rw [ev, y]
  · have e6 := key 60 (by decide) y
    refine ⟨?_, by decide, by rw [e6]; decide, fun z => by have z2 := b1.mp z; rw [y] at z2; exact absurd z2 (by decide), by decide, by decide, by rw [e6]; decide, by decide, by decide, by decide⟩
    exact (if_neg (by rw [e6]; decide)).trans ((if_neg (by rw [e6]; decide)).trans ((if_neg (by rw [e6]; decide)).trans ((if_neg (by rw [e6]; decide)).trans (if_pos e6))))
  · have e6 := key 62 (by decide) y
    refine ⟨?_, by decide, by rw [e6]; decide, fun z => by have z2 := b1.mp z; rw [y] at z2; exact absurd z2 (by decide), by decide, by decide, by rw [e6]; decide, by decide, by decide, by decide⟩
    exact (if_neg (by rw [e6]; decide)).trans ((if_neg (by rw [e6]; decide)).trans ((if_neg (by rw [e6]; decide)).trans ((if_neg (by rw [e6]; decide)).trans ((if_neg (by rw [e6]; decide)).trans (if_pos e6)))))
  · have e6 := key 61 (by decide) y
    refine ⟨?_, by decide, by rw [e6]; decide, fun z => by have z2 := b1.mp z; rw [y] at z2; exact absurd z2 (by decide), by decide, by decide, by rw [e6]; decide, by decide, by decide, by decide⟩
    exact (if_neg (by rw [e6]; decide)).trans ((if_neg (by rw [e6]; decide)).trans ((if_neg (by rw [e6]; decide)).trans (if_pos e6)))
set_option maxHeartbeats 200000 in
theorem rk_23 {x : Int32} (h : x = 30 ∨ x.toInt < 23) : ¬ rkO x = 23 := by
  unfold rkO
  rcases h with y | y
  · rw [y]; decide
  · rw [if_neg (fun z => by rw [z] at y; exact absurd y (by decide)), if_neg (fun z => by rcases z with z | z <;> rw [z] at y <;> exact absurd y (by decide))]
    intro z
    rw [z] at y
    exact absurd y (by decide)
set_option maxHeartbeats 200000 in
theorem cp_E {β k w : Nat} {U : Nat → Int32} {G : Wd} {m μ : Mem} {v : Int32} (h : IB G β k 26 w U m μ) (h0 : m.1 0 2 = 0) (hv : rkO v = 23) (hT : TC 23 w U) : sgE m v = sp_settle m 26 := by
  obtain ⟨a1, a2, a3, a4, a5, a6, a7, a8⟩ := h.2.2 h0
  obtain ⟨n, t, g1, g2, g3, g4, g5⟩ := a3.t
  have hs := stl_base (r := 26) h h0 (by decide) (hT.up (by decide)) n t g1 g2 g5 g4
  have hw4 : wtN (sp_settle m 26) = w := wtN_e hs.2.1 (by omega)
  have e1 : sgE m v = sgF (sp_settle m 26) := if_pos hv
  rw [e1]
  refine if_neg (rk_23 ?_)
  unfold sp_upper
  rw [hw4]
  by_cases c : w = 0
  · rw [if_pos c]; exact Or.inl rfl
  · rw [if_neg c, hs.2.2.2.2.1 46 (w - 1) (by omega) (by omega) (by omega), a4 (w - 1) (by omega)]
    rcases hT with y | y | y
    · exact absurd y c
    · exact Or.inl y
    · exact Or.inr y
set_option maxHeartbeats 400000 in
set_option maxRecDepth 100000 in
theorem L_X7_one_84 {l : Launch} {G : Wd} {β k w da d : Nat} {x0 v kd : Int32} {m μ m1 μ1 : Mem} (hS : okS G) (ha : MC l G yX7_addition cX7_addition 4 da k 26 26 XA E1) (hda : da < d) (hd5 : 5 < d) (hf : Fq μ μ1) (e1 : RF x0 m = RF 2 m1) (hkd : μ1.1 2 5 = kd) (hv : cpV kd v) (h : IB G β k 26 w (m.1 46) m1 μ1) (g1 : m1.1 0 2 = 0 → m.1 0 2 = 0 ∧ plN m ≤ plN m1) (hT : m1.1 0 2 = 0 → TC 23 w (m.1 46)) : AW l G KC RX7 cX7_one 3 d none (Qv (RP G β k w 22 x0 m μ (XO w))) 84 [some (.ref (gA G 35)), some (.int (nI (7 - k))), some (.int kd)] [] μ1 := by
  have hv2 : cpV (μ1.1 2 5) v := by rw [hkd]; exact hv
  obtain ⟨h0, w1, w2, w3, w4, w5, w6, w7, w8, w9, w10⟩ := cp_v h.1 hv2
  rw [hkd] at w9
  have hE := cp_E h h0 w5 (hT h0)
  have hvn : 2 < v.toInt ∧ 22 ≤ v.toInt ∧ v.toInt < 26 ∧ v.toInt ≤ 28 := by
    rcases w10 with y | y | y <;> rw [y] <;> decide
  refine A_aload0 dX7_one_84 ?_
  refine A_getR gf_X7_9 rfl dX7_one_85 ?_
  refine A_vv0 lk_X7_46 yv_X9_step dX7_one_88 (rfl) (rfl) (T_step hS h.1 h0 w7) (hd5) (Nat.le_of_ble_eq_true rfl) (fun μ_88 h_88 => ?_)
  obtain ⟨t2, f2⟩ := h_88
  obtain ⟨m2, e2, ip2, u2, v2, z1, z2⟩ := op_step (r := 26) h h0 w1 w2 w3 w4 (by decide) ((hT h0).up (by decide)) hE w6 t2 f2
  rw [w8] at e2 ip2
  have hec : m2.1 0 2 = 0 → E1 1 (μ_88.1 2 5) ∧ TC 26 (w + 1) (m2.1 46) := fun _ => ⟨Or.inl rfl, Or.inr (Or.inr (by rw [Nat.add_sub_cancel, v2]; omega))⟩
  refine A_aload0 dX7_one_91 ?_
  refine A_iload1 dX7_one_92 ?_
  refine A_vv1 lk_X7_70 yv_X7_addition dX7_one_93 (rfl) (rfl) (ha β (w + 1) 1 m2 μ_88 ip2 hec) (hda) (Nat.le_of_ble_eq_true rfl) (fun μ_93 h_93 => ?_)
  obtain ⟨fq3, m3, e3, ib3, g3⟩ := h_93
  refine A_aload0 dX7_one_96 ?_
  refine A_getR gf_X7_19 rfl dX7_one_97 ?_
  refine A_iload2 dX7_one_100 ?_
  refine A_iconst (v := 0) dX7_one_101 (by decide) ?_
  refine A_vv2 lk_X7_63 yv_X6_addStep dX7_one_102 (rfl) (rfl) (T_X6_addStep ib3.2.1) (by omega) (Nat.le_of_ble_eq_true rfl) (fun μ_102 h_102 => ?_)
  subst h_102
  refine A_vret dX7_one_105 ?_
  have ib4 := fin_step (U := m.1 46) (L2 := 22) (k2 := k) ib3 u2 v2 (by decide) hvn.2.1 hvn.2.2.2 hvn.1 (by rw [cnW_s, v2, if_neg w6, cnW_c w u2]; omega)
  rw [w9] at ib4
  refine ⟨rfl, ((hf.tr f2.fq).tr fq3).ad, m3, e1.trans (e2.trans e3), ib4, fun y => ?_⟩
  obtain ⟨y1, y2, y3⟩ := g3 y
  refine ⟨(g1 h0).1, by have h8 := (g1 h0).2; omega, ?_⟩
  rw [ad_k]
  refine ⟨y3, fun _ => ?_⟩
  obtain ⟨-, -, s3, s4, s5, -⟩ := ib3.2.2 y
  obtain ⟨n, t, -, -, s8, s9, -⟩ := s3.t
  exact ⟨w, Nat.le_refl _, by omega, by rw [s4 w (by omega), v2]; exact w10, fun i i1 i2 => (s5 i (by omega) i2).1⟩
set_option maxHeartbeats 400000 in
set_option maxRecDepth 100000 in
theorem M_X7_one0 {l : Launch} {G : Wd} {da d : Nat} (hS : okS G) (ha : MC l G yX7_addition cX7_addition 4 da 0 26 26 XA E1) (hda : da < d) (hd5 : 5 < d) : MC l G yX7_one cX7_one 3 d 0 23 22 XO E0 := by
  intro β w x m μ hP hE
  refine Mt.of (own := RX7) (n := 1) (by decide) rfl [some (.ref (gA G 35)), some (.int (nI (7 - 0))), none] rfl (Nat.le_of_ble_eq_true rfl) ?_
  refine A_aload0 dX7_one_0 ?_
  refine A_getR gf_X7_9 rfl dX7_one_1 ?_
  refine A_getI gf_X7_32 rfl dX7_one_4 ?_
  refine A_sipush (v := 153) dX7_one_7 (by decide) ?_
  refine A_icmp_ne (tgt := 53) dX7_one_10 (by decide) (fun c_10 => ?_) (fun c_10 => ?_)
  · refine A_aload0 dX7_one_53 ?_
    refine A_iload1 dX7_one_54 ?_
    refine A_vv1 lk_X7_70 yv_X7_addition dX7_one_55 (rfl) (rfl) (ha β w x m μ hP (fun y => ⟨Or.inr ⟨(hE y).1, c_10⟩, (hE y).2.up (by decide)⟩)) (hda) (Nat.le_of_ble_eq_true rfl) (fun μ_55 h_55 => ?_)
    obtain ⟨fq, m1, e1, ib1, g1⟩ := h_55
    refine A_aload0 dX7_one_58 ?_
    refine A_getR gf_X7_9 rfl dX7_one_59 ?_
    refine A_getI gf_X7_32 rfl dX7_one_62 ?_
    refine A_istore2 dX7_one_65 rfl (by decide) ?_
    refine A_iload2 dX7_one_66 ?_
    refine A_bipush (v := 60) dX7_one_67 (by decide) ?_
    refine A_icmp_eq (tgt := 84) dX7_one_69 (by decide) (fun c_69 => ?_) (fun c_69 => ?_)
    · exact L_X7_one_84 (v := 24) hS ha hda hd5 fq e1 rfl (by rw [c_69]; unfold cpV; decide) ib1 (fun y => ⟨(g1 y).1, (g1 y).2.1⟩) (fun y => (hE (g1 y).1).2)
    · refine A_iload2 dX7_one_72 ?_
      refine A_bipush (v := 62) dX7_one_73 (by decide) ?_
      refine A_icmp_eq (tgt := 84) dX7_one_75 (by decide) (fun c_75 => ?_) (fun c_75 => ?_)
      · exact L_X7_one_84 (v := 25) hS ha hda hd5 fq e1 rfl (by rw [c_75]; unfold cpV; decide) ib1 (fun y => ⟨(g1 y).1, (g1 y).2.1⟩) (fun y => (hE (g1 y).1).2)
      · refine A_iload2 dX7_one_78 ?_
        refine A_bipush (v := 61) dX7_one_79 (by decide) ?_
        refine A_icmp_ne (tgt := 105) dX7_one_81 (by decide) (fun c_81 => ?_) (fun c_81 => ?_)
        · refine A_vret dX7_one_105 ?_
          exact ⟨rfl, fq, m1, e1, ib1.lo (by decide), fun y => ⟨(g1 y).1, (g1 y).2.1, (g1 y).2.2, fun z => absurd z (by rintro (z | z | z); exact absurd z c_69; exact absurd z c_81; exact absurd z c_75)⟩⟩
        · exact L_X7_one_84 (v := 23) hS ha hda hd5 fq e1 rfl (by rw [c_81]; unfold cpV; decide) ib1 (fun y => ⟨(g1 y).1, (g1 y).2.1⟩) (fun y => (hE (g1 y).1).2)
  · have h0 : m.1 0 2 = 0 := hP.1.no (by rw [c_10]; decide)
    have ex : x = 0 := (hE h0).1
    subst ex
    have h3 : ¬ m.1 0 6 = 3 := by
      obtain ⟨-, -, -, b4, -, -⟩ := rw_s hP.1 h0
      rw [(b4.mpr c_10).1]
      decide
    refine A_iload1 dX7_one_13 ?_
    refine A_bipush (v := 6) dX7_one_14 (by decide) ?_
    refine A_icmp_le (tgt := 27) dX7_one_16 (by decide) (fun c_16 => absurd c_16 (by decide)) (fun c_16 => ?_)
    refine A_aload0 dX7_one_19 ?_
    refine A_getR gf_X7_9 rfl dX7_one_20 ?_
    refine A_vv0 lk_X7_40 yv_X9_refuse dX7_one_23 (rfl) (rfl) (T_refuse hP.1) (by omega) (Nat.le_of_ble_eq_true rfl) (fun μ_23 h_23 => ?_)
    refine A_vret dX7_one_26 ?_
    exact ⟨rfl, RP.flt h_23.2.fq (not_bad hP h0 c_10) h_23.1 (hP.2.1.f4 h_23.2) (ps_0 (sp_spoil_2 (by decide)))⟩
set_option maxHeartbeats 400000 in
set_option maxRecDepth 100000 in
theorem M_X7_one {l : Launch} {G : Wd} {k d1 da d : Nat} (hS : okS G) (ha : MC l G yX7_addition cX7_addition 4 da (k + 1) 26 26 XA E1) (ho : MC l G yX7_one cX7_one 3 d1 k 23 22 XO E0) (hd1 : d1 < d) (hda : da < d) (hd5 : 5 < d) : MC l G yX7_one cX7_one 3 d (k + 1) 23 22 XO E0 := by
  intro β w x m μ hP hE
  refine Mt.of (own := RX7) (n := 1) (by decide) rfl [some (.ref (gA G 35)), some (.int (nI (7 - (k + 1)))), none] rfl (Nat.le_of_ble_eq_true rfl) ?_
  refine A_aload0 dX7_one_0 ?_
  refine A_getR gf_X7_9 rfl dX7_one_1 ?_
  refine A_getI gf_X7_32 rfl dX7_one_4 ?_
  refine A_sipush (v := 153) dX7_one_7 (by decide) ?_
  refine A_icmp_ne (tgt := 53) dX7_one_10 (by decide) (fun c_10 => ?_) (fun c_10 => ?_)
  · refine A_aload0 dX7_one_53 ?_
    refine A_iload1 dX7_one_54 ?_
    refine A_vv1 lk_X7_70 yv_X7_addition dX7_one_55 (rfl) (rfl) (ha β w x m μ hP (fun y => ⟨Or.inr ⟨(hE y).1, c_10⟩, (hE y).2.up (by decide)⟩)) (hda) (Nat.le_of_ble_eq_true rfl) (fun μ_55 h_55 => ?_)
    obtain ⟨fq, m1, e1, ib1, g1⟩ := h_55
    refine A_aload0 dX7_one_58 ?_
    refine A_getR gf_X7_9 rfl dX7_one_59 ?_
    refine A_getI gf_X7_32 rfl dX7_one_62 ?_
    refine A_istore2 dX7_one_65 rfl (by decide) ?_
    refine A_iload2 dX7_one_66 ?_
    refine A_bipush (v := 60) dX7_one_67 (by decide) ?_
    refine A_icmp_eq (tgt := 84) dX7_one_69 (by decide) (fun c_69 => ?_) (fun c_69 => ?_)
    · exact L_X7_one_84 (v := 24) hS ha hda hd5 fq e1 rfl (by rw [c_69]; unfold cpV; decide) ib1 (fun y => ⟨(g1 y).1, (g1 y).2.1⟩) (fun y => (hE (g1 y).1).2)
    · refine A_iload2 dX7_one_72 ?_
      refine A_bipush (v := 62) dX7_one_73 (by decide) ?_
      refine A_icmp_eq (tgt := 84) dX7_one_75 (by decide) (fun c_75 => ?_) (fun c_75 => ?_)
      · exact L_X7_one_84 (v := 25) hS ha hda hd5 fq e1 rfl (by rw [c_75]; unfold cpV; decide) ib1 (fun y => ⟨(g1 y).1, (g1 y).2.1⟩) (fun y => (hE (g1 y).1).2)
      · refine A_iload2 dX7_one_78 ?_
        refine A_bipush (v := 61) dX7_one_79 (by decide) ?_
        refine A_icmp_ne (tgt := 105) dX7_one_81 (by decide) (fun c_81 => ?_) (fun c_81 => ?_)
        · refine A_vret dX7_one_105 ?_
          exact ⟨rfl, fq, m1, e1, ib1.lo (by decide), fun y => ⟨(g1 y).1, (g1 y).2.1, (g1 y).2.2, fun z => absurd z (by rintro (z | z | z); exact absurd z c_69; exact absurd z c_81; exact absurd z c_75)⟩⟩
        · exact L_X7_one_84 (v := 23) hS ha hda hd5 fq e1 rfl (by rw [c_81]; unfold cpV; decide) ib1 (fun y => ⟨(g1 y).1, (g1 y).2.1⟩) (fun y => (hE (g1 y).1).2)
  · have h0 : m.1 0 2 = 0 := hP.1.no (by rw [c_10]; decide)
    have ex : x = 0 := (hE h0).1
    subst ex
    have h3 : ¬ m.1 0 6 = 3 := by
      obtain ⟨-, -, -, b4, -, -⟩ := rw_s hP.1 h0
      rw [(b4.mpr c_10).1]
      decide
    refine A_iload1 dX7_one_13 ?_
    refine A_bipush (v := 6) dX7_one_14 (by decide) ?_
    refine A_icmp_le (tgt := 27) dX7_one_16 (by decide) (fun c_16 => ?_) (fun c_16 => absurd c_16 (fun y => y (nI_le (a := 7 - (k + 1)) (b := 6) (by omega) (by decide))))
    refine A_aload0 dX7_one_27 ?_
    refine A_getR gf_X7_9 rfl dX7_one_28 ?_
    refine A_vv0 lk_X7_46 yv_X9_step dX7_one_31 (rfl) (rfl) (T_step hS hP.1 h0 h3) (hd5) (Nat.le_of_ble_eq_true rfl) (fun μ_31 h_31 => ?_)
    obtain ⟨t1, f1⟩ := h_31
    obtain ⟨m1, e1, ip1, u1, v1, z1, z2⟩ := not_step hP h0 c_10 t1 f1
    refine A_aload0 dX7_one_34 ?_
    refine A_iload1 dX7_one_35 ?_
    refine A_iconst (v := 1) dX7_one_36 (by decide) ?_
    refine A_iadd dX7_one_37 ?_
    have hcn : cnW (m.1 46) w + (k + 1) = 7 := (hP.2.2 h0).2.2.2.2.1
    refine A_val (y := nI (7 - k)) (by rw [nI_1]; exact congrArg nI (by omega)) ?_
    refine A_vv1 lk_X7_67 yv_X7_one dX7_one_38 (rfl) (rfl) (ho β (w + 1) 0 m1 μ_31 ip1 (fun _ => ⟨rfl, Or.inr (Or.inr (by rw [Nat.add_sub_cancel, v1]; decide))⟩)) (hd1) (Nat.le_of_ble_eq_true rfl) (fun μ_38 h_38 => ?_)
    obtain ⟨fq2, m2, e2, ib2, g2⟩ := h_38
    refine A_aload0 dX7_one_41 ?_
    refine A_getR gf_X7_19 rfl dX7_one_42 ?_
    refine A_sipush (v := 153) dX7_one_45 (by decide) ?_
    refine A_iconst (v := 0) dX7_one_48 (by decide) ?_
    refine A_vv2 lk_X7_63 yv_X6_addStep dX7_one_49 (rfl) (rfl) (T_X6_addStep ib2.2.1) (by omega) (Nat.le_of_ble_eq_true rfl) (fun μ_49 h_49 => ?_)
    subst h_49
    refine A_vret dX7_one_52 ?_
    have ib3 := fin_step (U := m.1 46) (L2 := 22) (k2 := k + 1) ib2 u1 v1 (by decide) (by decide) (by decide) (by decide) (by rw [cnW_s, v1, if_pos (Or.inl rfl), cnW_c w u1]; omega)
    exact ⟨rfl, (f1.fq.tr fq2).ad, m2, e1.trans e2, ib3, fun y => ⟨h0, by have := (g2 y).2.1; omega, by rw [ad_k]; exact ((g2 y).2.2).dn⟩⟩

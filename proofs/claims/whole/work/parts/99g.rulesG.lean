/-! names in rules; units on both sides -/
set_option maxHeartbeats 200000 in
theorem HN.fd {M μ : Mem} {v : Int32} {x : Int64} (h : HN M μ) (hw : NmR x (M.2.1 0 9)) (hf : FdR (μ.2.1 5) x (nbx M) v) : v = sp_named M := fd_bx h.1 h.2.2.2.1 h.2.2.2.2 hw hf
set_option maxHeartbeats 200000 in
theorem named_ge {M μ : Mem} (h : HN M μ) : sp_named M < 0 ↔ sp_named M = -1 := bxO_ge h.1
set_option maxHeartbeats 400000 in
set_option maxRecDepth 100000 in
theorem T_X7_name {l : Launch} {G : Wd} {M μ : Mem} {kd : Int32} (hS : okS G) (h : TS G M μ) (h0 : M.1 0 2 = 0) (hc : CM μ) (hN : HN M μ) : Mt l G KC yX7_name cX7_name 3 none 6 [.ref (gA G 35), .int kd] μ (Qv (fun μ' => (isNm M ∧ ¬ sp_named M < 0 ∧ TS G (tkn M) μ' ∧ F4 (adM μ kd (sp_named M)) μ') ∨ (¬ (opK M).1 0 2 = 0 ∧ TS G (opK M) μ' ∧ F4 μ μ'))) := by
  refine Mt.of (own := RX7) (n := 1) (by decide) rfl [some (.ref (gA G 35)), some (.int kd), none] rfl (Nat.le_of_ble_eq_true rfl) ?_
  refine A_aload0 dX7_name_0 ?_
  refine A_getR gf_X7_9 rfl dX7_name_1 ?_
  refine A_getI gf_X7_32 rfl dX7_name_4 ?_
  refine A_iconst (v := 3) dX7_name_7 (by decide) ?_
  refine A_icmp_eq (tgt := 19) dX7_name_8 (by decide) (fun c_8 => ?_) (fun c_8 => ?_)
  · have hnm : isNm M := (h.kr h0).nm.mpr c_8
    have hb3 : ¬ M.1 0 6 = 3 := by rw [hnm.1]; decide
    have hR := (h.kr h0).n c_8
    refine A_aload0 dX7_name_19 ?_
    refine A_getR gf_X7_15 rfl dX7_name_20 ?_
    refine A_aload0 dX7_name_23 ?_
    refine A_getR gf_X7_9 rfl dX7_name_24 ?_
    refine A_getL gf_X7_85 rfl dX7_name_27 ?_
    refine A_vi1 lk_X7_89 yv_X2_find dX7_name_30 (rfl) (rfl) (T_X2_find_4 (n := nbx M) (hN.2.2.1.trans hN.2.1) hN.1) (by decide) (Nat.le_of_ble_eq_true rfl) (fun r_30 μ_30 h_30 => ?_)
    obtain ⟨v_30, e_30⟩ := h_30
    subst e_30
    have ev := hN.fd hR v_30
    rw [ev]
    refine A_istore2 dX7_name_33 rfl (by decide) ?_
    refine A_iload2 dX7_name_34 ?_
    refine A_iconst (v := -1) dX7_name_35 (by decide) ?_
    refine A_icmp_ne (tgt := 57) dX7_name_36 (by decide) (fun c_36 => ?_) (fun c_36 => ?_)
    · refine A_aload0 dX7_name_57 ?_
      refine A_getR gf_X7_19 rfl dX7_name_58 ?_
      refine A_iload1 dX7_name_61 ?_
      refine A_iload2 dX7_name_62 ?_
      refine A_vv2 lk_X7_63 yv_X6_addStep dX7_name_63 (rfl) (rfl) (T_X6_addStep hc) (by decide) (Nat.le_of_ble_eq_true rfl) (fun μ_63 h_63 => ?_)
      subst h_63
      refine A_aload0 dX7_name_66 ?_
      refine A_getR gf_X7_9 rfl dX7_name_67 ?_
      refine A_vv0 lk_X7_46 yv_X9_step dX7_name_70 (rfl) (rfl) (T_step hS h.ad h0 hb3) (by decide) (Nat.le_of_ble_eq_true rfl) (fun μ_70 h_70 => ?_)
      refine A_vret dX7_name_73 ?_
      exact ⟨rfl, Or.inl ⟨hnm, fun y => c_36 ((named_ge hN).mp y), h_70.1, h_70.2⟩⟩
    · refine A_aload0 dX7_name_39 ?_
      refine A_getR gf_X7_9 rfl dX7_name_40 ?_
      refine A_iconst (v := 5) dX7_name_43 (by decide) ?_
      refine A_aload0 dX7_name_44 ?_
      refine A_getR gf_X7_9 rfl dX7_name_45 ?_
      refine A_getI gf_X7_95 rfl dX7_name_48 ?_
      refine A_vv2 lk_X7_98 yv_X9_fail dX7_name_51 (rfl) (rfl) (T_X9_fail) (by decide) (Nat.le_of_ble_eq_true rfl) (fun μ_51 h_51 => ?_)
      refine A_goto (tgt := 73) dX7_name_54 (by decide) ?_
      refine A_vret dX7_name_73 ?_
      have e : opK M = sp_spoil M 5 := (if_pos hnm).trans (if_pos ((named_ge hN).mpr c_36))
      have e2 := spoil_3 (w := 5) h0 hb3
      rw [e]
      refine ⟨rfl, Or.inr ⟨ps_0 (sp_spoil_2 (by decide)), ?_, ?_⟩⟩
      · rw [h_51, e2, h.pl h0]; exact h.fl h0 (by decide)
      · rw [h_51]; exact F4.rf.fl
  · refine A_aload0 dX7_name_11 ?_
    refine A_getR gf_X7_9 rfl dX7_name_12 ?_
    refine A_vv0 lk_X7_40 yv_X9_refuse dX7_name_15 (rfl) (rfl) (T_refuse h) (by decide) (Nat.le_of_ble_eq_true rfl) (fun μ_15 h_15 => ?_)
    refine A_vret dX7_name_18 ?_
    have e : opK M = sp_spoil M 2 := if_neg (fun y => c_8 ((h.kr h0).nm.mp y))
    rw [e]
    exact ⟨rfl, Or.inr ⟨ps_0 (sp_spoil_2 (by decide)), h_15.1, h_15.2⟩⟩
def uuM (μ : Mem) : Mem := wI μ 35 3 (μ.1 35 3 + 1)
set_option maxHeartbeats 200000 in
theorem CM.uu {μ : Mem} (h : CM μ) (hu : μ.1 35 3 < 60) : CM (uuM μ) := by
  obtain ⟨⟨n, hn, en⟩, u, hu6, eu⟩ := h
  have hlt : u < 60 := by
    rw [eu] at hu
    exact (nI_ltI (by omega) (by decide)).mp hu
  exact ⟨⟨n, hn, (wI_ne (by omega)).trans en⟩, u + 1, by omega, by unfold uuM; rw [wI_same, eu, nI_1]⟩
set_option maxHeartbeats 200000 in
theorem Fq.uu {μ : Mem} : Fq μ (uuM μ) := ⟨fun i j _ _ _ q => wI_ne (by omega), fun _ _ _ => rfl, rfl⟩
set_option maxHeartbeats 200000 in
theorem unit_w {β k w : Nat} {x : Int32} {G : Wd} {m μ : Mem} (h : IP G β k x w m μ) (h0 : m.1 0 2 = 0) : ∃ n u : Nat, m.1 0 70 = nI n ∧ n + w ≤ 500 ∧ wtN m = w ∧ m.1 0 75 = nI (7 - k) ∧ m.1 0 73 = nI u ∧ u ≤ 60 ∧ μ.1 35 3 = nI u ∧ μ.1 30 3 = nI n ∧ k ≤ 7 := by
  obtain ⟨a1, a2, a3, a4, a5, a6, a7⟩ := h.2.2 h0
  obtain ⟨n, t, g1, g2, g3, g4, g5, g6, g7⟩ := a4
  have et : t = w := nI_inj5 (g2.symm.trans a3) (by omega) (by omega)
  have hwt : wtN m = w := wtN_e a3 (by omega)
  have e75 : m.1 0 75 = nI (7 - k) := by
    have e1 := a2
    unfold DI at e1
    rw [hwt, show cnW (m.1 46) w = 7 - k by omega] at e1
    exact e1
  obtain ⟨-, u, hu, eu⟩ := h.2.1
  exact ⟨n, u, g1, by omega, hwt, e75, a6.symm.trans eu, hu, eu, by rw [g5, et]; congr 1; omega, by omega⟩
set_option maxHeartbeats 200000 in
/-- one note more, one step more -/
theorem note_done {β k w : Nat} {x : Int32} {G : Wd} {m μ μ3 μb Mb : Mem} {a b kd vv : Int32} (h : IP G β k x w m μ) (h0 : m.1 0 2 = 0) (hx : ¬ x = 2) (hs0 : ¬ m.1 0 6 = 0) (hs3 : ¬ m.1 0 6 = 3) (rb : Rd (opB m) Mb) (hb0 : Mb.1 0 2 = 0) (hop : sp_operand x m = (2, tkn (sp_note Mb a b))) (hst : stE a b = kd <<< ((16 : Int32) &&& 31) ||| vv) (t3 : TS G (tkn (sp_note Mb a b)) μ3) (hcb : CM μb) (fb : F4 (uuM μ) μb) (f3 : F4 (adM μb kd vv) μ3) : RP G β k w 29 x m μ (XU w) μ3 := by
  obtain ⟨a1, a2, a3, a4, a5, a6, a7⟩ := h.2.2 h0
  obtain ⟨n, u, g1, g2, g3, g4, g5, g6, g7, g8, g9⟩ := unit_w h h0
  obtain ⟨z1, z2⟩ := a1.sz g1 a3 (by omega) hs0 hs3
  obtain ⟨p1, p2⟩ := pr_e hop
  obtain ⟨e1, -, q2, q3⟩ := opn_s a1 hx
  rw [p1, p2] at e1
  rw [p2] at q2 q3
  rw [p1] at q3
  have oB : ∀ i j, ¬ (i = 0 ∧ j = 73) → (opB m).1 i j = m.1 i j := fun i j q => wI_ne (by omega)
  have hB70 : Mb.1 0 70 = nI n := (rb.1 0 70 (by unfold rdK; omega)).trans ((oB 0 70 (by omega)).trans g1)
  obtain ⟨r1, r2, r3, r4, r5⟩ := note_r (a := a) (b := b) hB70 (by omega)
  have hf : (tkn (sp_note Mb a b)).1 0 2 = 0 := by
    rw [tkn_2, r4 0 2 (by omega) (by omega) (by omega)]
    exact hb0
  obtain ⟨q4, q5⟩ := q3 hf
  have rT : Rd (sp_note Mb a b) (tkn (sp_note Mb a b)) := Rd.tk Rd.rf
  have key : ∀ i j, ¬ rdK i j → ¬ (i = 0 ∧ j = 70) → ¬ (i = 0 ∧ j = 73) → ¬ (i = 40 ∧ j = n) → ¬ (i = 41 ∧ j = n) → (tkn (sp_note Mb a b)).1 i j = m.1 i j := fun i j k1 k2 k3 k4 k5 => by
    rw [rT.1 i j k1, r4 i j k2 k4 k5, rb.1 i j k1, oB i j k3]
  have h46 : ∀ j, (tkn (sp_note Mb a b)).1 46 j = m.1 46 j := fun j => key 46 j (by unfold rdK; omega) (by omega) (by omega) (by omega) (by omega)
  have h74 : (tkn (sp_note Mb a b)).1 0 74 = m.1 0 74 := key 0 74 (by unfold rdK; omega) (by omega) (by omega) (by omega) (by omega)
  have h75 : (tkn (sp_note Mb a b)).1 0 75 = m.1 0 75 := key 0 75 (by unfold rdK; omega) (by omega) (by omega) (by omega) (by omega)
  have h73 : (tkn (sp_note Mb a b)).1 0 73 = m.1 0 73 + 1 := by
    rw [rT.1 0 73 (by unfold rdK; omega), r4 0 73 (by omega) (by omega) (by omega), rb.1 0 73 (by unfold rdK; omega)]
    exact wI_same
  have hb30 : μb.1 30 3 = nI n := by
    rw [fb.1 30 3 (by omega)]
    exact (wI_ne (by omega)).trans g8
  have hFq : Fq μ μ3 := ((Fq.uu.tr fb.fq).ad).tr f3.fq
  have wt' : wtN (tkn (sp_note Mb a b)) = w := by
    unfold wtN
    rw [h74]
    exact g3
  refine ⟨hFq, tkn (sp_note Mb a b), e1, ⟨t3, hcb.ad.f4 f3, fun _ => ⟨q4, a2.of h46 h74 h75, ?_, fun j _ => h46 j, fun j j1 j2 => absurd j2 (by omega), a5, ?_, a7.q q2 hFq⟩⟩, fun _ => ⟨h0, Nat.le_of_lt q5, trivial⟩⟩
  · obtain ⟨n', t', y1, y2, y3, y4, y5, y6, y7⟩ := a4
    have en : n' = n := nI_inj5 (y1.symm.trans g1) (by omega) (by omega)
    have e70 : (tkn (sp_note Mb a b)).1 0 70 = nI (n + 1) := by
      rw [rT.1 0 70 (by unfold rdK; omega)]
      exact r1
    refine ⟨n + 1, w, e70, h74.trans a3, Nat.le_refl _, by omega, ?_, fun j hj => ?_, fun j hj => absurd hj (by omega)⟩
    · rw [f3.1 30 3 (by omega), adM_n hb30 (by omega), wI_same]
      exact congrArg nI (by omega)
    · rw [f3.1 33 j (by omega), adM_n hb30 (by omega), wI_ne (by omega)]
      by_cases c : j = n
      · rw [c, wI_same, rT.1 40 n (by unfold rdK; omega), rT.1 41 n (by unfold rdK; omega), r2, r3]
        exact hst.symm
      · rw [wI_ne (by omega), fb.1 33 j (by omega), key 40 j (by unfold rdK; omega) (by omega) (by omega) (by omega) (by omega), key 41 j (by unfold rdK; omega) (by omega) (by omega) (by omega) (by omega)]
        have y := y6 j (by omega)
        rw [← y]
        exact wI_ne (by omega)
  · rw [h73, ← a6, f3.1 35 3 (by omega), adM_o (by omega) (by omega), fb.1 35 3 (by omega)]
    exact wI_same
set_option maxHeartbeats 200000 in
/-- a parenthesis is opened -/
theorem par_step {β k w : Nat} {x : Int32} {G : Wd} {m μ μ1 : Mem} (h : IP G β (k + 1) x w m μ) (h0 : m.1 0 2 = 0) (hx : ¬ x = 2) (hn : ¬ opN x m) (hk : μ.1 2 5 = 40) (hu : ¬ m.1 0 73 = 60) (t1 : TS G (tkn m) μ1) (hc1 : CM μ1) (f1 : F4 (uuM μ) μ1) : ∃ m1, RF x m = RF 0 m1 ∧ IP G β k 0 (w + 1) m1 μ1 ∧ (∀ j, j < w → m1.1 46 j = m.1 46 j) ∧ m1.1 46 w = 30 ∧ m1.1 0 2 = 0 ∧ plN m < plN m1 := by
  obtain ⟨a1, a2, a3, a4, a5, a6, a7⟩ := h.2.2 h0
  obtain ⟨n, u, g1, g2, g3, g4, g5, g6, g7, g8, g9⟩ := unit_w h h0
  have e6 : m.1 0 6 = 40 := ((h.1.kr h0).sg (by decide)).mpr hk
  obtain ⟨z1, z2⟩ := a1.sz g1 a3 (by omega) (by rw [e6]; decide) (by rw [e6]; decide)
  have hU : opU m := Or.inr (Or.inl e6)
  have hnm : ¬ isNm m := fun y => by have z := y.1; rw [e6] at z; exact absurd z (by decide)
  have hE : ¬ opE x m := by
    rintro (y | y | y)
    · exact y.2 hU
    · exact hu y.2
    · exact y.2 (by rw [g4]; exact nI_lt (b := 7) (by omega) (by decide))
  have hA : opA x m = m := by
    unfold opA
    rw [if_neg hE, if_neg (fun y => hnm y.1)]
  have oB : ∀ i j, ¬ (i = 0 ∧ j = 73) → (opB m).1 i j = m.1 i j := fun i j q => wI_ne (by omega)
  have hop : sp_operand x m = (0, tkn (sp_hold (opB m) 30)) := by
    unfold sp_operand
    rw [hA, if_neg (by rw [h0]; decide), if_neg hn]
    unfold opR
    rw [if_pos ((oB 0 6 (by omega)).trans e6)]
  obtain ⟨p1, p2⟩ := pr_e hop
  obtain ⟨e1, -, q2, q3⟩ := opn_s a1 hx
  rw [p1, p2] at e1
  rw [p2] at q2 q3
  rw [p1] at q3
  have hB74 : (opB m).1 0 74 = nI w := (oB 0 74 (by omega)).trans a3
  have dB : DI (opB m) := a2.of (fun j => oB 46 j (by omega)) (oB 0 74 (by omega)) (oB 0 75 (by omega))
  have sB : SR w (opB m) μ := by
    obtain ⟨n', t', y1, y2, y3, y4, y5, y6, y7⟩ := a4
    refine ⟨n', t', (oB 0 70 (by omega)).trans y1, (oB 0 74 (by omega)).trans y2, y3, y4, y5, fun j hj => ?_, fun j hj => ?_⟩
    · rw [oB 40 j (by omega), oB 41 j (by omega)]; exact y6 j hj
    · rw [oB 46 _ (by omega)]; exact y7 j hj
  obtain ⟨r1, r2, r3, r4⟩ := hold_r (a := 30) hB74 (by omega)
  have hmB : Mk m (opB m) := Mk.rf.w (by omega)
  have hmk := hmB.tr (Mk.hold (v := 30) hB74 (by omega))
  have hdi := dB.hold (a := 30) hB74 (by omega)
  have hsr := sB.hold (v := 30) hB74 (by omega) ⟨n, (oB 0 70 (by omega)).trans g1, by omega⟩
  have h46 : ∀ j, j < w → (sp_hold (opB m) 30).1 46 j = m.1 46 j := fun j hj => (r3 46 j (by omega) (by omega)).trans (oB 46 j (by omega))
  have h02 : (sp_hold (opB m) 30).1 0 2 = 0 := (r3 0 2 (by omega) (by omega)).trans ((oB 0 2 (by omega)).trans h0)
  have h73 : (sp_hold (opB m) 30).1 0 73 = m.1 0 73 + 1 := (r3 0 73 (by omega) (by omega)).trans wI_same
  generalize sp_hold (opB m) 30 = M at r1 r2 hmk hdi hsr h46 h02 h73 e1 q2 q3
  have hf : (tkn M).1 0 2 = 0 := (tkn_2 M).trans h02
  obtain ⟨q4, q5⟩ := q3 hf
  have rT : Rd M (tkn M) := Rd.tk Rd.rf
  have e46 : ∀ j, (tkn M).1 46 j = M.1 46 j := fun j => rT.1 46 j (by unfold rdK; omega)
  have t46 : (tkn M).1 46 w = 30 := by rw [e46]; exact r2
  refine ⟨tkn M, e1, ⟨t1.mv hmk.tks Ck.rf, hc1, fun _ => ⟨q4, hdi.rd rT, ?_, ?_, ?_, ?_, a7.q q2 (Fq.uu.tr f1.fq)⟩⟩, fun j hj => (e46 j).trans (h46 j hj), t46, hf, q5⟩
  · rw [rT.1 0 74 (by unfold rdK; omega)]; exact r1
  · refine (hsr.rd rT).c ?_ (fun j => ?_)
    · rw [f1.1 30 3 (by omega)]; exact wI_ne (by omega)
    · rw [f1.1 33 j (by omega)]; exact wI_ne (by omega)
  · rw [cnW_s, t46, if_pos (Or.inr rfl), cnW_c w (fun j hj => (e46 j).trans (h46 j hj))]
    omega
  · rw [f1.1 35 3 (by omega), rT.1 0 73 (by unfold rdK; omega), h73, ← a6]
    exact wI_same
set_option maxHeartbeats 200000 in
/-- it is closed -/
theorem par_end {β k w : Nat} {G : Wd} {m μ μ1 : Mem} {U U1 : Nat → Int32} (h : IB G β k 20 (w + 1) U1 m μ) (h0 : m.1 0 2 = 0) (hU : ∀ j, j < w → U1 j = U j) (h30 : U1 w = 30) (hk : μ.1 2 5 = 41) (t1 : TS G (tkn m) μ1) (f1 : F4 μ μ1) : ∃ m1, RF 2 m = RF 2 m1 ∧ IB G β (k + 1) 29 w U m1 μ1 ∧ m1.1 0 2 = 0 ∧ plN m < plN m1 := by
  obtain ⟨a1, a2, a3, a4, a5, a6, a7, a8⟩ := h.2.2 h0
  have e6 : m.1 0 6 = 41 := ((h.1.kr h0).sg (by decide)).mpr hk
  obtain ⟨b1, -⟩ := rw_s h.1 h0
  have hns : ¬ isWd m 7561593 := fun y => by have z := b1.mp y; rw [hk] at z; exact absurd z (by decide)
  obtain ⟨n, t, g1, g2, g3, g4, g5⟩ := a3.t
  have hT : TC (0 : Int32).toInt (w + 1) U1 := Or.inr (Or.inl (by rw [Nat.add_sub_cancel]; exact h30))
  have hs := stl_base (r := 0) h h0 (by decide) hT n t g1 g2 g5 g4
  obtain ⟨sr, hR4⟩ := a3.stl (stl_base (r := 0) h h0 (by decide) hT)
  have hop : ¬ opQ (m.1 46) (wtN m) = 0 := fun y => opQ_0 _ y w (by omega) ((a4 w (by omega)).trans h30)
  have hsg : rrS 2 m = (2, tkn (sgD (sp_settle m 0))) := by
    have e0 : rrS 2 m = sp_sign m := if_pos rfl
    rw [e0]
    unfold sp_sign
    rw [if_pos ⟨e6, hop⟩]
  have hdi := DI.settle (a := 0) g2 g1 (by omega) a2
  have hmk := Mk.stl hs
  have h46 : ∀ j, (sp_settle m 0).1 46 j = m.1 46 j := fun j => hs.2.2.2.2.1 46 j (by omega) (by omega) (by omega)
  have h02 : (sp_settle m 0).1 0 2 = 0 := (hs.2.2.2.2.1 0 2 (by omega) (by omega) (by omega)).trans h0
  have h73 : (sp_settle m 0).1 0 73 = m.1 0 73 := hs.2.2.2.2.1 0 73 (by omega) (by omega) (by omega)
  generalize sp_settle m 0 = R at hs sr hR4 hsg hdi hmk h46 h02 h73
  have oD : ∀ i j, ¬ (i = 0 ∧ (j = 74 ∨ j = 75)) → (sgD R).1 i j = R.1 i j := fun i j q => by
    unfold sgD
    rw [wI_ne (by omega), wI_ne (by omega)]
  have d74 : (sgD R).1 0 74 = nI w := by
    unfold sgD
    rw [wI_ne (by omega), wI_same, hR4]
    exact nI_pred w
  have d75 : (sgD R).1 0 75 = R.1 0 75 - 1 := by
    unfold sgD
    rw [wI_same, wI_ne (by omega)]
  have wD : wtN (sgD R) = w := wtN_e d74 (by omega)
  have wR1 : wtN R = w + 1 := wtN_e hR4 (by omega)
  have dD : DI (sgD R) := by
    unfold DI at hdi ⊢
    rw [d75, hdi, wR1, wD, cnW_s, if_pos (Or.inr (by rw [h46, a4 w (by omega)]; exact h30))]
    have e : cnW ((sgD R).1 46) w = cnW (R.1 46) w := cnW_c w (fun j _ => oD 46 j (by omega))
    rw [e]
    exact nI_pred _
  have mD : Mk m (sgD R) := hmk.tr ⟨fun j hj => oD 0 j (by omega), fun j => oD 1 j (by omega), rfl⟩
  have sD : SR w (sgD R) μ := by
    obtain ⟨n', t', y1, y2, y3, y4, y5, y6, y7⟩ := sr
    have et : t' = w + 1 := nI_inj5 (y2.symm.trans hR4) (by omega) (by omega)
    refine ⟨n', w, (oD 0 70 (by omega)).trans y1, d74, Nat.le_refl _, by omega, by rw [y5, et]; congr 1; omega, fun j hj => ?_, fun j hj => absurd hj (by omega)⟩
    rw [oD 40 j (by omega), oD 41 j (by omega)]
    exact y6 j hj
  have f02 : (sgD R).1 0 2 = 0 := (oD 0 2 (by omega)).trans h02
  have f73 : (sgD R).1 0 73 = m.1 0 73 := (oD 0 73 (by omega)).trans h73
  have f46 : ∀ j, (sgD R).1 46 j = m.1 46 j := fun j => (oD 46 j (by omega)).trans (h46 j)
  generalize sgD R = M at hsg d74 wD dD mD sD f02 f73 f46
  obtain ⟨p1, p2⟩ := pr_e hsg
  obtain ⟨-, q2, q3⟩ := rrS_s a1
  rw [p2] at q2 q3
  rw [p1] at q3
  have hf : (tkn M).1 0 2 = 0 := (tkn_2 M).trans f02
  obtain ⟨q4, q5⟩ := q3 hf
  have rT : Rd M (tkn M) := Rd.tk Rd.rf
  have e46 : ∀ j, (tkn M).1 46 j = m.1 46 j := fun j => (rT.1 46 j (by unfold rdK; omega)).trans (f46 j)
  have e74 : (tkn M).1 0 74 = nI w := (rT.1 0 74 (by unfold rdK; omega)).trans d74
  have hw5 : w ≤ 500 := by omega
  refine ⟨tkn M, ?_, ⟨t1.mv mD.tks Ck.rf, h.2.1.f4 f1, fun _ => ⟨q4, dD.rd rT, (sD.rd rT).c (f1.1 30 3 (by omega)) (fun j => f1.1 33 j (by omega)), fun j hj => ?_, fun j j1 j2 => ?_, ?_, ?_, a8.q q2 f1.fq⟩⟩, hf, q5⟩
  · rw [RF_s a1 (fun y => hns y.2.1), p1, p2]
  · rw [e46, a4 j (by omega), hU j hj]
  · have := wtN_e e74 (by omega)
    omega
  · rw [cnW_s, if_pos (Or.inr h30), cnW_c w hU] at a6
    omega
  · rw [f1.1 35 3 (by omega), rT.1 0 73 (by unfold rdK; omega), f73]
    exact a7

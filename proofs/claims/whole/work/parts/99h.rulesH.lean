/-! unit, and the whole grammar -/
set_option maxHeartbeats 200000 in
theorem stE_0 (b : Int32) : stE 0 b = 2 <<< ((16 : Int32) &&& 31) ||| b := by
  unfold stE
  rw [if_pos (Or.inl rfl), show kdE 0 = 2 by decide]
set_option maxHeartbeats 200000 in
theorem stE_1 (b : Int32) : stE 1 b = 3 <<< ((16 : Int32) &&& 31) ||| b := by
  unfold stE
  rw [if_pos (Or.inr (Or.inl rfl)), show kdE 1 = 3 by decide]
set_option maxHeartbeats 200000 in
theorem stE_2 (b : Int32) : stE 2 b = 149 <<< ((16 : Int32) &&& 31) ||| b := by
  unfold stE
  rw [if_pos (Or.inr (Or.inr rfl)), show kdE 2 = 149 by decide]
set_option maxHeartbeats 200000 in
theorem stE_3 (b : Int32) : stE 3 b = 150 <<< ((16 : Int32) &&& 31) ||| 0 := by
  unfold stE
  rw [if_neg (by decide), show kdE 3 = 150 by decide]
set_option maxHeartbeats 200000 in
theorem opB_nm (m : Mem) : sp_named (opB m) = sp_named m := by
  unfold sp_named nbx
  rw [opB_o (by decide)]
  rfl
set_option maxHeartbeats 200000 in
theorem opA_m {x : Int32} {m : Mem} (hU : opU m) (hu : ¬ m.1 0 73 = 60) (h40 : ¬ m.1 0 6 = 40) (hN : ¬ opN x m) (hn : ¬ (isNm m ∧ sp_named m < 0)) : opA x m = m := by
  unfold opA
  rw [if_neg, if_neg hn]
  rintro (y | y | y)
  · exact y.2 hU
  · exact hu y.2
  · exact y.1.elim hN h40
set_option maxHeartbeats 200000 in
theorem note_2 {m : Mem} {a b : Int32} : (sp_note m a b).1 0 2 = m.1 0 2 := by
  unfold sp_note
  rw [wI_ne (by omega), wI_ne (by omega), wI_ne (by omega)]
set_option maxHeartbeats 200000 in
theorem Mk.note {m : Mem} {a b : Int32} : Mk m (sp_note m a b) := by
  unfold sp_note
  exact ((Mk.rf.w (by omega)).w (by omega)).w (by omega)
set_option maxHeartbeats 200000 in
theorem op_val {x : Int32} {m : Mem} {a b : Int32} (h0 : m.1 0 2 = 0) (hA : opA x m = m) (hN : ¬ opN x m) (h40 : ¬ m.1 0 6 = 40) (hL : ¬ isWd m 1818325876) (ea : (if isNm m then (1 : Int32) else if m.1 0 6 = 2 then 0 else 3) = a) (eb : (if isNm m then sp_named m else m.1 0 8) = b) : sp_operand x m = (2, tkn (sp_note (opB m) a b)) := by
  have e6 : (opB m).1 0 6 = m.1 0 6 := opB_o (by decide)
  have e8 : (opB m).1 0 8 = m.1 0 8 := opB_o (by decide)
  have e2 : (opB m).1 0 2 = 0 := (opB_o (by decide)).trans h0
  have hL2 : ¬ isWd (opB m) 1818325876 := fun y => hL ⟨e6.symm.trans y.1, y.2⟩
  have eC : opC m = sp_note (opB m) a b := by
    unfold opC
    rw [if_neg hL2, e6, e8, opB_nm, ea, eb]
  unfold sp_operand
  rw [hA, if_neg (by rw [h0]; decide), if_neg hN]
  unfold opR
  rw [e6, if_neg h40, eC, hlT_0 (note_2.trans e2)]
set_option maxHeartbeats 200000 in
theorem op_lst {x : Int32} {m : Mem} (h0 : m.1 0 2 = 0) (hA : opA x m = m) (hN : ¬ opN x m) (h40 : ¬ m.1 0 6 = 40) (hL : isWd m 1818325876) : sp_operand x m = (2, hlT (opL (tkn (opB m)))) := by
  have e6 : (opB m).1 0 6 = m.1 0 6 := opB_o (by decide)
  have hL2 : isWd (opB m) 1818325876 := ⟨e6.trans hL.1, hL.2⟩
  unfold sp_operand
  rw [hA, if_neg (by rw [h0]; decide), if_neg hN]
  unfold opR
  rw [e6, if_neg h40]
  unfold opC
  rw [if_pos hL2]
set_option maxHeartbeats 200000 in
theorem Mk.sp {m R : Mem} (h : Mk m R) (h0 : m.1 0 2 = 0) : Mk (sp_spoil m 2) (sp_spoil R 2) := by
  have r0 : R.1 0 2 = 0 := (h.1 2 (by omega)).trans h0
  rw [spoil_0 h0, spoil_0 r0, h.1 6 (by omega), h.1 7 (by omega)]
  refine ⟨fun j hj => ?_, fun j => ?_, h.2.2⟩
  · by_cases c3 : j = 3
    · rw [c3, wI_same, wI_same]
    · rw [wI_ne (by omega), wI_ne (a := 0) (b := j) (k := 3) (by omega)]
      by_cases c2 : j = 2
      · rw [c2, wI_same, wI_same]
      · rw [wI_ne (by omega), wI_ne (a := 0) (b := j) (k := 2) (by omega)]
        exact h.1 j hj
  · rw [wI_ne (by omega), wI_ne (by omega), wI_ne (by omega), wI_ne (by omega)]
    exact h.2.1 j
set_option maxHeartbeats 200000 in
/-- behind an operand nothing fits: both tell the fault -/
theorem end_bad {β k w : Nat} {L : Int} {U : Nat → Int32} {G : Wd} {m μ μ3 : Mem} (h : IB G β k L w U m μ) (h0 : m.1 0 2 = 0) (hX : XE w m (μ.1 2 5)) (h41 : ¬ (m.1 0 6 = 41 ∧ ¬ opQ (m.1 46) (wtN m) = 0)) (hs : ¬ rrE 2 m) (t3 : TS G (sp_spoil m 2) μ3) : ∃ M, RF 2 m = RF 2 M ∧ ¬ M.1 0 2 = 0 ∧ TS G M μ3 := by
  obtain ⟨a1, a2, a3, a4, a5, a6, a7, a8⟩ := h.2.2 h0
  obtain ⟨-, b2, b3, -, -, -⟩ := rw_s h.1 h0
  have hk := h.1.kr h0
  have e0 : rrS 2 m = sp_sign m := if_pos rfl
  have hrf := RF_s a1 hs
  obtain ⟨⟨⟨⟨x1, x2, x3⟩, x4⟩, x5⟩, x6⟩ := hX
  by_cases c : μ.1 2 5 = 60 ∨ μ.1 2 5 = 61 ∨ μ.1 2 5 = 62
  · obtain ⟨v, hv⟩ : ∃ v, cpV (μ.1 2 5) v := by
      rcases c with y | y | y
      · exact ⟨24, Or.inl ⟨y, rfl⟩⟩
      · exact ⟨23, Or.inr (Or.inr ⟨y, rfl⟩)⟩
      · exact ⟨25, Or.inr (Or.inl ⟨y, rfl⟩)⟩
    obtain ⟨-, w1, w2, w3, w4, w5, -⟩ := cp_v h.1 hv
    obtain ⟨j, j1, j2, j3, j4⟩ := x4 c
    obtain ⟨n, t, g1, g2, g3, g4, g5⟩ := a3.t
    obtain ⟨w', hst⟩ := settle_r (a := 26) g2 g1 (by omega)
    have i26 : (26 : Int32).toInt = 26 := rfl
    have ew : w' = j + 1 := by
      refine hst.eq (by omega) (fun i i1 i2 => ?_) (Or.inr (Or.inr ?_))
      · have q1 := j4 i (by omega) (by omega)
        have q2 := (a5 i (by omega) (by omega)).2
        rintro (y | y)
        · rw [y] at q2; exact absurd q2 (by decide)
        · have y2 := i_lt.mp y; omega
      · rw [Nat.add_sub_cancel]
        rcases j3 with y | y | y <;> rw [y] <;> decide
    rw [ew] at hst
    have hR2 : (sp_settle m 26).1 0 2 = 0 := (hst.2.2.2.2.1 0 2 (by omega) (by omega) (by omega)).trans h0
    have hup : rkO (sp_upper (sp_settle m 26)) = 23 := by
      unfold sp_upper
      rw [wtN_e hst.2.1 (by omega), if_neg (by omega), Nat.add_sub_cancel, hst.2.2.2.2.1 46 j (by omega) (by omega) (by omega)]
      rcases j3 with y | y | y <;> rw [y] <;> decide
    have eE : sgE m v = sp_spoil (sp_settle m 26) 2 := (if_pos w5).trans (if_pos hup)
    have hp : 0 < (sp_spoil (sp_settle m 26) 2).1 0 2 := sp_spoil_2 (by decide)
    have hsg : rrS 2 m = (2, sp_spoil (sp_settle m 26) 2) := by
      rw [e0]
      unfold sp_sign
      rw [if_neg h41, w1, if_neg w2]
      unfold sgG
      rw [eE, if_pos hp]
    obtain ⟨p1, p2⟩ := pr_e hsg
    rw [p1, p2] at hrf
    exact ⟨sp_spoil (sp_settle m 26) 2, hrf, ps_0 hp, t3.mv ((Mk.stl hst).sp h0) Ck.rf⟩
  · have ns : ∀ c : Int32, 3 < c.toInt ∧ c.toInt < 128 → ¬ μ.1 2 5 = c → ¬ m.1 0 6 = c := fun c hc y z => y ((hk.sg hc).mp z)
    have hW : sgW m = -1 := by
      unfold sgW
      rw [if_neg (ns 43 (by decide) x2), if_neg (ns 45 (by decide) x3), if_neg (ns 42 (by decide) x1), if_neg (ns 61 (by decide) (fun y => c (Or.inr (Or.inl y)))), if_neg (ns 60 (by decide) (fun y => c (Or.inl y))), if_neg (ns 62 (by decide) (fun y => c (Or.inr (Or.inr y)))), if_neg (fun y => x5 (b2.mp y)), if_neg (fun y => x6 (b3.mp y))]
    have hp : 0 < (sp_spoil m 2).1 0 2 := sp_spoil_2 (by decide)
    have hsg : rrS 2 m = (2, sp_spoil m 2) := by
      rw [e0]
      unfold sp_sign
      rw [if_neg h41, hW, if_pos (by decide)]
    obtain ⟨p1, p2⟩ := pr_e hsg
    rw [p1, p2] at hrf
    exact ⟨sp_spoil m 2, hrf, ps_0 hp, t3⟩
set_option maxHeartbeats 200000 in
theorem E1.x {x kd : Int32} (h : E1 x kd) : ¬ x = 2 := by
  rcases h with y | y
  · rw [y]; decide
  · rw [y.1]; decide
set_option maxHeartbeats 200000 in
theorem E1.n {x : Int32} {G : Wd} {m μ : Mem} (h : E1 x (μ.1 2 5)) (t : TS G m μ) (h0 : m.1 0 2 = 0) : ¬ opN x m := by
  rintro ⟨y1, y2⟩
  obtain ⟨-, -, -, b4, -, -⟩ := rw_s t h0
  rcases h with z | z
  · rw [z] at y1; exact absurd y1 (by decide)
  · exact z.2 (b4.mp y2)
set_option maxHeartbeats 200000 in
/-- the class refuses where the reference finds no unit -/
theorem unit_no {β k w : Nat} {x : Int32} {G : Wd} {m μ μ3 μ4 : Mem} (hP : IP G β k x w m μ) (hE : m.1 0 2 = 0 → E1 x (μ.1 2 5) ∧ TC 29 w (m.1 46)) (hno : m.1 0 2 = 0 → opE x m) (t : TS G (sp_spoil m 2) μ4) (c : CM μ4) (f : Fq μ μ4) : RP G β k w 29 x m μ (XU w) μ4 := by
  by_cases h0 : m.1 0 2 = 0
  · exact RP.flt f (opn_f (hP.2.2 h0).1 (hE h0).1.x (by decide) (if_pos (hno h0))) t c (ps_0 (sp_spoil_2 (by decide)))
  · rw [spoil_1 h0 hP.1.f0] at t
    exact RP.old f t c h0
set_option maxHeartbeats 1000000 in
set_option maxRecDepth 100000 in
theorem M_X7_unit0 {l : Launch} {G : Wd} {d : Nat} (hS : okS G) (hd7 : 7 < d) : MC l G yX7_unit cX7_unit 3 d 0 29 29 XU E1 := by
  intro β w x m μ hP hE
  refine Mt.of (own := RX7) (n := 1) (by decide) rfl [some (.ref (gA G 35)), some (.int (nI (7 - 0))), none] rfl (Nat.le_of_ble_eq_true rfl) ?_
  have hu60 : m.1 0 2 = 0 → (m.1 0 73 = 60 ↔ ¬ μ.1 35 3 < 60) := by
    intro h0
    obtain ⟨n, u, -, -, -, -, g5, g6, g7, -⟩ := unit_w hP h0
    rw [g5, g7, show (60 : Int32) = nI 60 from rfl, nI_eq (by omega) (by decide), nI_ltI (by omega) (by decide)]
    omega
  refine A_aload0 dX7_unit_0 ?_
  refine A_getR gf_X7_9 rfl dX7_unit_1 ?_
  refine A_getI gf_X7_32 rfl dX7_unit_4 ?_
  refine A_istore2 dX7_unit_7 rfl (by decide) ?_
  refine A_aload0 dX7_unit_8 ?_
  refine A_getI gf_X7_28 rfl dX7_unit_9 ?_
  refine A_bipush (v := 60) dX7_unit_12 (by decide) ?_
  refine A_icmp_lt (tgt := 25) dX7_unit_14 (by decide) (fun c_14 => ?_) (fun c_14 => ?_)
  · refine A_aload0 dX7_unit_25 ?_
    refine A_dup dX7_unit_26 rfl ?_
    refine A_getI gf_X7_28 rfl dX7_unit_27 ?_
    refine A_iconst (v := 1) dX7_unit_30 (by decide) ?_
    refine A_iadd dX7_unit_31 ?_
    refine A_putI gf_X7_28 rfl dX7_unit_32 ?_
    refine A_setm (μ' := uuM μ) rfl ?_
    have htu : TS G m (uuM μ) := hP.1.cw (by omega)
    have hcu : CM (uuM μ) := hP.2.1.uu c_14
    refine A_iload2 dX7_unit_35 ?_
    refine A_iconst (v := 2) dX7_unit_36 (by decide) ?_
    refine A_icmp_eq (tgt := 47) dX7_unit_37 (by decide) (fun c_37 => ?_) (fun c_37 => ?_)
    · have h0 : m.1 0 2 = 0 := hP.1.no (by rw [c_37]; decide)
      have hN := (hE h0).1.n hP.1 h0
      have hx2 := (hE h0).1.x
      have hn60 : ¬ m.1 0 73 = 60 := fun y => (hu60 h0).mp y c_14
      obtain ⟨-, -, -, -, b5, b6⟩ := rw_s hP.1 h0
      have hkr := hP.1.kr h0
      have e6 : m.1 0 6 = 2 := hkr.k2.mpr c_37
      have hs0 : ¬ m.1 0 6 = 0 := by rw [e6]; decide
      have hs3 : ¬ m.1 0 6 = 3 := by rw [e6]; decide
      refine A_aload0 dX7_unit_47 ?_
      refine A_getR gf_X7_19 rfl dX7_unit_48 ?_
      refine A_iload2 dX7_unit_51 ?_
      refine A_iload2 dX7_unit_52 ?_
      refine A_sipush (v := 150) dX7_unit_53 (by decide) ?_
      refine A_icmp_ne (tgt := 63) dX7_unit_56 (by decide) (fun c_56 => ?_) (fun c_56 => ?_)
      · refine A_aload0 dX7_unit_63 ?_
        refine A_getR gf_X7_9 rfl dX7_unit_64 ?_
        refine A_getI gf_X7_79 rfl dX7_unit_67 ?_
        refine A_val (y := μ.1 2 7) (wI_ne (by omega)) ?_
        refine A_vv2 lk_X7_63 yv_X6_addStep dX7_unit_70 (rfl) (rfl) (T_X6_addStep hcu) (by omega) (Nat.le_of_ble_eq_true rfl) (fun μ_70 h_70 => ?_)
        subst h_70
        refine A_aload0 dX7_unit_73 ?_
        refine A_getR gf_X7_9 rfl dX7_unit_74 ?_
        refine A_vv0 lk_X7_46 yv_X9_step dX7_unit_77 (rfl) (rfl) (T_step hS htu.ad h0 hs3) (by omega) (Nat.le_of_ble_eq_true rfl) (fun μ_77 h_77 => ?_)
        refine A_goto (tgt := 163) dX7_unit_80 (by decide) ?_
        refine A_vret dX7_unit_163 ?_
        have hA := opA_m (x := x) (Or.inl e6) hn60 (by rw [e6]; decide) hN (fun y => by have z := y.1.1; rw [e6] at z; exact absurd z (by decide))
        have hop : sp_operand x m = (2, tkn (sp_note (opB m) 0 (m.1 0 8))) := op_val h0 hA hN (by rw [e6]; decide) (fun y => by have z := y.1; rw [e6] at z; exact absurd z (by decide)) (by rw [if_neg (fun y => by have z := y.1; rw [e6] at z; exact absurd z (by decide)), if_pos e6]) (if_neg (fun y => by have z := y.1; rw [e6] at z; exact absurd z (by decide)))
        have mk1 : Mk m (sp_note (opB m) 0 (m.1 0 8)) := (Mk.rf.w (by omega) : Mk m (opB m)).tr Mk.note
        refine ⟨rfl, note_done (μb := uuM μ) (kd := 2) (vv := μ.1 2 7) hP h0 hx2 hs0 hs3 Rd.rf ((opB_o (by decide)).trans h0) hop ?_ (h_77.1.mv mk1.tks Ck.rf) hcu F4.rf ?_⟩
        · rw [stE_0, hkr.v c_37]
        · rw [← c_37]; exact h_77.2
      · refine A_iconst (v := 0) dX7_unit_59 (by decide) ?_
        refine A_goto (tgt := 70) dX7_unit_60 (by decide) ?_
        refine A_vv2 lk_X7_63 yv_X6_addStep dX7_unit_70 (rfl) (rfl) (T_X6_addStep hcu) (by omega) (Nat.le_of_ble_eq_true rfl) (fun μ_70 h_70 => ?_)
        subst h_70
        refine A_aload0 dX7_unit_73 ?_
        refine A_getR gf_X7_9 rfl dX7_unit_74 ?_
        refine A_vv0 lk_X7_46 yv_X9_step dX7_unit_77 (rfl) (rfl) (T_step hS htu.ad h0 hs3) (by omega) (Nat.le_of_ble_eq_true rfl) (fun μ_77 h_77 => ?_)
        refine A_goto (tgt := 163) dX7_unit_80 (by decide) ?_
        refine A_vret dX7_unit_163 ?_
        exact absurd (c_37.symm.trans c_56) (by decide)
    · refine A_iload2 dX7_unit_40 ?_
      refine A_sipush (v := 150) dX7_unit_41 (by decide) ?_
      refine A_icmp_ne (tgt := 83) dX7_unit_44 (by decide) (fun c_44 => ?_) (fun c_44 => ?_)
      · refine A_iload2 dX7_unit_83 ?_
        refine A_iconst (v := 3) dX7_unit_84 (by decide) ?_
        refine A_icmp_ne (tgt := 96) dX7_unit_85 (by decide) (fun c_85 => ?_) (fun c_85 => ?_)
        · refine A_iload2 dX7_unit_96 ?_
          refine A_sipush (v := 149) dX7_unit_97 (by decide) ?_
          refine A_icmp_ne (tgt := 118) dX7_unit_100 (by decide) (fun c_100 => ?_) (fun c_100 => ?_)
          · refine A_iload2 dX7_unit_118 ?_
            refine A_bipush (v := 40) dX7_unit_119 (by decide) ?_
            refine A_icmp_ne (tgt := 156) dX7_unit_121 (by decide) (fun c_121 => ?_) (fun c_121 => ?_)
            · refine A_aload0 dX7_unit_156 ?_
              refine A_getR gf_X7_9 rfl dX7_unit_157 ?_
              refine A_vv0 lk_X7_40 yv_X9_refuse dX7_unit_160 (rfl) (rfl) (T_refuse htu) (by omega) (Nat.le_of_ble_eq_true rfl) (fun μ_160 h_160 => ?_)
              refine A_vret dX7_unit_163 ?_
              refine ⟨rfl, unit_no (μ3 := μ) hP hE (fun h0 => ?_) h_160.1 (hcu.f4 h_160.2) (Fq.uu.tr h_160.2.fq)⟩
              have hN := (hE h0).1.n hP.1 h0
              refine Or.inl ⟨hN, fun y => ?_⟩
              rcases (not_u hP.1 h0).mp y with z | z | z | z | z
              · exact c_37 z
              · exact c_121 z
              · exact c_85 z
              · exact c_100 z
              · exact c_44 z
            · refine A_iload1 dX7_unit_124 ?_
              refine A_bipush (v := 6) dX7_unit_125 (by decide) ?_
              refine A_icmp_gt (tgt := 156) dX7_unit_127 (by decide) (fun c_127 => ?_) (fun c_127 => absurd c_127 (not_not_intro (by decide)))
              refine A_aload0 dX7_unit_156 ?_
              refine A_getR gf_X7_9 rfl dX7_unit_157 ?_
              refine A_vv0 lk_X7_40 yv_X9_refuse dX7_unit_160 (rfl) (rfl) (T_refuse htu) (by omega) (Nat.le_of_ble_eq_true rfl) (fun μ_160 h_160 => ?_)
              refine A_vret dX7_unit_163 ?_
              refine ⟨rfl, unit_no (μ3 := μ) hP hE (fun h0 => ?_) h_160.1 (hcu.f4 h_160.2) (Fq.uu.tr h_160.2.fq)⟩
              have hN := (hE h0).1.n hP.1 h0
              have e40 := ((hP.1.kr h0).sg (by decide)).mpr c_121
              obtain ⟨n, u, -, -, -, g4, -⟩ := unit_w hP h0
              exact Or.inr (Or.inr ⟨Or.inr e40, by rw [g4]; decide⟩)
          · have h0 : m.1 0 2 = 0 := hP.1.no (by rw [c_100]; decide)
            have hN := (hE h0).1.n hP.1 h0
            have hx2 := (hE h0).1.x
            have hn60 : ¬ m.1 0 73 = 60 := fun y => (hu60 h0).mp y c_14
            obtain ⟨-, -, -, -, b5, b6⟩ := rw_s hP.1 h0
            have hkr := hP.1.kr h0
            have hL := b5.mpr c_100
            have hs0 : ¬ m.1 0 6 = 0 := by rw [hL.1]; decide
            have hs3 : ¬ m.1 0 6 = 3 := by rw [hL.1]; decide
            have a7 := (hP.2.2 h0).2.2.2.2.2.2
            refine A_aload0 dX7_unit_103 ?_
            refine A_getR gf_X7_9 rfl dX7_unit_104 ?_
            refine A_vv0 lk_X7_46 yv_X9_step dX7_unit_107 (rfl) (rfl) (T_step hS htu h0 hs3) (by omega) (Nat.le_of_ble_eq_true rfl) (fun μ_107 h_107 => ?_)
            obtain ⟨t0, f1⟩ := h_107
            have mB : Mk m (opB m) := Mk.rf.w (by omega)
            have t1 : TS G (tkn (opB m)) μ_107 := t0.mv mB.tks Ck.rf
            have h01 : (tkn (opB m)).1 0 2 = 0 := (tkn_2 _).trans ((opB_o (by decide)).trans h0)
            have rB : Rd (opB m) (tkn (opB m)) := Rd.tk Rd.rf
            have hn1 : HN (tkn (opB m)) μ_107 := a7.mv ((rB.1 0 31 (by unfold rdK; omega)).trans (opB_o (by decide))) (fun j => rB.2.1 3 j (by omega)) ((f1.1 4 0 (by omega)).trans (wI_ne (by omega))) (fun j => f1.2.1 5 j (by omega))
            refine A_aload0 dX7_unit_110 ?_
            refine A_iload2 dX7_unit_111 ?_
            refine A_vv1 lk_X7_82 yv_X7_name dX7_unit_112 (rfl) (rfl) (T_X7_name (M := tkn (opB m)) hS t1 h01 (hcu.f4 f1) hn1) (by omega) (Nat.le_of_ble_eq_true rfl) (fun μ_112 h_112 => ?_)
            refine A_goto (tgt := 163) dX7_unit_115 (by decide) ?_
            refine A_vret dX7_unit_163 ?_
            have hA := opA_m (x := x) (Or.inr (Or.inr (Or.inr (Or.inl hL)))) hn60 (by rw [hL.1]; decide) hN (fun y => by have z := hkr.nm.mp y.1; rw [c_100] at z; exact absurd z (by decide))
            have hop0 := op_lst h0 hA hN (by rw [hL.1]; decide) hL
            rcases h_112 with ⟨hnm, hge, t3, f3⟩ | ⟨hf, t3, f3⟩
            · have eK : opK (tkn (opB m)) = tkn (opB m) := (if_pos hnm).trans (if_neg hge)
              have hop : sp_operand x m = (2, tkn (sp_note (tkn (opB m)) 2 (sp_named (tkn (opB m))))) := by
                rw [hop0]
                unfold opL
                rw [eK, hlT_0 (note_2.trans h01)]
              rw [c_100] at f3
              exact ⟨rfl, note_done (μb := μ_107) (kd := 149) (vv := sp_named (tkn (opB m))) hP h0 hx2 hs0 hs3 rB h01 hop (stE_2 _) (t3.mv Mk.note.tks Ck.rf) (hcu.f4 f1) f1 f3⟩
            · have hL2 : ¬ (opL (tkn (opB m))).1 0 2 = 0 := by
                unfold opL
                rw [note_2]
                exact hf
              rw [hlT_1 hL2] at hop0
              obtain ⟨p1, p2⟩ := pr_e hop0
              have e1 := (opn_s (hP.2.2 h0).1 hx2).1
              rw [p1, p2] at e1
              exact ⟨rfl, RP.flt ((Fq.uu.tr f1.fq).tr f3.fq) e1 (t3.mv Mk.note Ck.rf) ((hcu.f4 f1).f4 f3) hL2⟩
        · have h0 : m.1 0 2 = 0 := hP.1.no (by rw [c_85]; decide)
          have hN := (hE h0).1.n hP.1 h0
          have hx2 := (hE h0).1.x
          have hn60 : ¬ m.1 0 73 = 60 := fun y => (hu60 h0).mp y c_14
          obtain ⟨-, -, -, -, b5, b6⟩ := rw_s hP.1 h0
          have hkr := hP.1.kr h0
          have hnm := hkr.nm.mpr c_85
          have hs0 : ¬ m.1 0 6 = 0 := by rw [hnm.1]; decide
          have hs3 : ¬ m.1 0 6 = 3 := by rw [hnm.1]; decide
          have a7 := (hP.2.2 h0).2.2.2.2.2.2
          refine A_aload0 dX7_unit_88 ?_
          refine A_iload2 dX7_unit_89 ?_
          refine A_vv1 lk_X7_82 yv_X7_name dX7_unit_90 (rfl) (rfl) (T_X7_name hS htu h0 hcu (a7.mv rfl (fun _ => rfl) (wI_ne (by omega)) (fun _ => rfl))) (by omega) (Nat.le_of_ble_eq_true rfl) (fun μ_90 h_90 => ?_)
          refine A_goto (tgt := 163) dX7_unit_93 (by decide) ?_
          refine A_vret dX7_unit_163 ?_
          rcases h_90 with ⟨-, hge, t3, f3⟩ | ⟨hf, t3, f3⟩
          · have hA := opA_m (x := x) (Or.inr (Or.inr (Or.inl hnm))) hn60 (by rw [hnm.1]; decide) hN (fun y => hge y.2)
            have hop : sp_operand x m = (2, tkn (sp_note (opB m) 1 (sp_named m))) := op_val h0 hA hN (by rw [hnm.1]; decide) (fun y => by have z := b5.mp y; rw [c_85] at z; exact absurd z (by decide)) (if_pos hnm) (if_pos hnm)
            have mk1 : Mk m (sp_note (opB m) 1 (sp_named m)) := (Mk.rf.w (by omega) : Mk m (opB m)).tr Mk.note
            rw [c_85] at f3
            exact ⟨rfl, note_done (μb := uuM μ) (kd := 3) (vv := sp_named m) hP h0 hx2 hs0 hs3 Rd.rf ((opB_o (by decide)).trans h0) hop (stE_1 _) (t3.mv mk1.tks Ck.rf) hcu F4.rf f3⟩
          · have hlt : sp_named m < 0 := Decidable.not_not.mp (fun y => hf (by rw [show opK m = m from (if_pos hnm).trans (if_neg y)]; exact h0))
            have eK : opK m = sp_spoil m 5 := (if_pos hnm).trans (if_pos hlt)
            rw [eK] at t3
            have hA : opA x m = sp_spoil m 5 := by
              unfold opA
              rw [if_neg, if_pos ⟨hnm, hlt⟩]
              rintro (y | y | y)
              · exact y.2 (Or.inr (Or.inr (Or.inl hnm)))
              · exact hn60 y.2
              · exact y.1.elim hN (fun z => by rw [hnm.1] at z; exact absurd z (by decide))
            exact ⟨rfl, RP.flt (Fq.uu.tr f3.fq) (opn_f (hP.2.2 h0).1 hx2 (by decide) hA) t3 (hcu.f4 f3) (ps_0 (sp_spoil_2 (by decide)))⟩
      · have h0 : m.1 0 2 = 0 := hP.1.no (by rw [c_44]; decide)
        have hN := (hE h0).1.n hP.1 h0
        have hx2 := (hE h0).1.x
        have hn60 : ¬ m.1 0 73 = 60 := fun y => (hu60 h0).mp y c_14
        obtain ⟨-, -, -, -, b5, b6⟩ := rw_s hP.1 h0
        have hkr := hP.1.kr h0
        have e6 := (b6.mpr c_44)
        have hs0 : ¬ m.1 0 6 = 0 := by rw [e6.1]; decide
        have hs3 : ¬ m.1 0 6 = 3 := by rw [e6.1]; decide
        refine A_aload0 dX7_unit_47 ?_
        refine A_getR gf_X7_19 rfl dX7_unit_48 ?_
        refine A_iload2 dX7_unit_51 ?_
        refine A_iload2 dX7_unit_52 ?_
        refine A_sipush (v := 150) dX7_unit_53 (by decide) ?_
        refine A_icmp_ne (tgt := 63) dX7_unit_56 (by decide) (fun c_56 => ?_) (fun c_56 => ?_)
        · refine A_aload0 dX7_unit_63 ?_
          refine A_getR gf_X7_9 rfl dX7_unit_64 ?_
          refine A_getI gf_X7_79 rfl dX7_unit_67 ?_
          refine A_val (y := μ.1 2 7) (wI_ne (by omega)) ?_
          refine A_vv2 lk_X7_63 yv_X6_addStep dX7_unit_70 (rfl) (rfl) (T_X6_addStep hcu) (by omega) (Nat.le_of_ble_eq_true rfl) (fun μ_70 h_70 => ?_)
          subst h_70
          refine A_aload0 dX7_unit_73 ?_
          refine A_getR gf_X7_9 rfl dX7_unit_74 ?_
          refine A_vv0 lk_X7_46 yv_X9_step dX7_unit_77 (rfl) (rfl) (T_step hS htu.ad h0 hs3) (by omega) (Nat.le_of_ble_eq_true rfl) (fun μ_77 h_77 => ?_)
          refine A_goto (tgt := 163) dX7_unit_80 (by decide) ?_
          refine A_vret dX7_unit_163 ?_
          exact absurd c_44 c_56
        · refine A_iconst (v := 0) dX7_unit_59 (by decide) ?_
          refine A_goto (tgt := 70) dX7_unit_60 (by decide) ?_
          refine A_vv2 lk_X7_63 yv_X6_addStep dX7_unit_70 (rfl) (rfl) (T_X6_addStep hcu) (by omega) (Nat.le_of_ble_eq_true rfl) (fun μ_70 h_70 => ?_)
          subst h_70
          refine A_aload0 dX7_unit_73 ?_
          refine A_getR gf_X7_9 rfl dX7_unit_74 ?_
          refine A_vv0 lk_X7_46 yv_X9_step dX7_unit_77 (rfl) (rfl) (T_step hS htu.ad h0 hs3) (by omega) (Nat.le_of_ble_eq_true rfl) (fun μ_77 h_77 => ?_)
          refine A_goto (tgt := 163) dX7_unit_80 (by decide) ?_
          refine A_vret dX7_unit_163 ?_
          have hA := opA_m (x := x) (Or.inr (Or.inr (Or.inr (Or.inr e6)))) hn60 (by rw [e6.1]; decide) hN (fun y => by have z := hkr.nm.mp y.1; rw [c_44] at z; exact absurd z (by decide))
          have hop : sp_operand x m = (2, tkn (sp_note (opB m) 3 (m.1 0 8))) := op_val h0 hA hN (by rw [e6.1]; decide) (fun y => by have z := b5.mp y; rw [c_44] at z; exact absurd z (by decide)) (by rw [if_neg (fun y => by have z := hkr.nm.mp y; rw [c_44] at z; exact absurd z (by decide)), if_neg (by rw [e6.1]; decide)]) (if_neg (fun y => by have z := hkr.nm.mp y; rw [c_44] at z; exact absurd z (by decide)))
          have mk1 : Mk m (sp_note (opB m) 3 (m.1 0 8)) := (Mk.rf.w (by omega) : Mk m (opB m)).tr Mk.note
          refine ⟨rfl, note_done (μb := uuM μ) (kd := 150) (vv := 0) hP h0 hx2 hs0 hs3 Rd.rf ((opB_o (by decide)).trans h0) hop (stE_3 _) (h_77.1.mv mk1.tks Ck.rf) hcu F4.rf ?_⟩
          rw [← c_44]; exact h_77.2
  · refine A_aload0 dX7_unit_17 ?_
    refine A_getR gf_X7_9 rfl dX7_unit_18 ?_
    refine A_vv0 lk_X7_40 yv_X9_refuse dX7_unit_21 (rfl) (rfl) (T_refuse hP.1) (by omega) (Nat.le_of_ble_eq_true rfl) (fun μ_21 h_21 => ?_)
    refine A_vret dX7_unit_24 ?_
    refine ⟨rfl, unit_no (μ3 := μ) hP hE (fun h0 => ?_) h_21.1 (hP.2.1.f4 h_21.2) h_21.2.fq⟩
    by_cases hU : opU m
    · exact Or.inr (Or.inl ⟨hU, (hu60 h0).mpr c_14⟩)
    · exact Or.inl ⟨(hE h0).1.n hP.1 h0, hU⟩
set_option maxHeartbeats 1000000 in
set_option maxRecDepth 100000 in
theorem M_X7_unit {l : Launch} {G : Wd} {k de d : Nat} (hS : okS G) (he : MC l G yX7_either cX7_either 3 de k 20 20 XE E0) (hde : de < d) (hd7 : 7 < d) : MC l G yX7_unit cX7_unit 3 d (k + 1) 29 29 XU E1 := by
  intro β w x m μ hP hE
  refine Mt.of (own := RX7) (n := 1) (by decide) rfl [some (.ref (gA G 35)), some (.int (nI (7 - (k + 1)))), none] rfl (Nat.le_of_ble_eq_true rfl) ?_
  have hu60 : m.1 0 2 = 0 → (m.1 0 73 = 60 ↔ ¬ μ.1 35 3 < 60) := by
    intro h0
    obtain ⟨n, u, -, -, -, -, g5, g6, g7, -⟩ := unit_w hP h0
    rw [g5, g7, show (60 : Int32) = nI 60 from rfl, nI_eq (by omega) (by decide), nI_ltI (by omega) (by decide)]
    omega
  refine A_aload0 dX7_unit_0 ?_
  refine A_getR gf_X7_9 rfl dX7_unit_1 ?_
  refine A_getI gf_X7_32 rfl dX7_unit_4 ?_
  refine A_istore2 dX7_unit_7 rfl (by decide) ?_
  refine A_aload0 dX7_unit_8 ?_
  refine A_getI gf_X7_28 rfl dX7_unit_9 ?_
  refine A_bipush (v := 60) dX7_unit_12 (by decide) ?_
  refine A_icmp_lt (tgt := 25) dX7_unit_14 (by decide) (fun c_14 => ?_) (fun c_14 => ?_)
  · refine A_aload0 dX7_unit_25 ?_
    refine A_dup dX7_unit_26 rfl ?_
    refine A_getI gf_X7_28 rfl dX7_unit_27 ?_
    refine A_iconst (v := 1) dX7_unit_30 (by decide) ?_
    refine A_iadd dX7_unit_31 ?_
    refine A_putI gf_X7_28 rfl dX7_unit_32 ?_
    refine A_setm (μ' := uuM μ) rfl ?_
    have htu : TS G m (uuM μ) := hP.1.cw (by omega)
    have hcu : CM (uuM μ) := hP.2.1.uu c_14
    refine A_iload2 dX7_unit_35 ?_
    refine A_iconst (v := 2) dX7_unit_36 (by decide) ?_
    refine A_icmp_eq (tgt := 47) dX7_unit_37 (by decide) (fun c_37 => ?_) (fun c_37 => ?_)
    · have h0 : m.1 0 2 = 0 := hP.1.no (by rw [c_37]; decide)
      have hN := (hE h0).1.n hP.1 h0
      have hx2 := (hE h0).1.x
      have hn60 : ¬ m.1 0 73 = 60 := fun y => (hu60 h0).mp y c_14
      obtain ⟨-, -, -, -, b5, b6⟩ := rw_s hP.1 h0
      have hkr := hP.1.kr h0
      have e6 : m.1 0 6 = 2 := hkr.k2.mpr c_37
      have hs0 : ¬ m.1 0 6 = 0 := by rw [e6]; decide
      have hs3 : ¬ m.1 0 6 = 3 := by rw [e6]; decide
      refine A_aload0 dX7_unit_47 ?_
      refine A_getR gf_X7_19 rfl dX7_unit_48 ?_
      refine A_iload2 dX7_unit_51 ?_
      refine A_iload2 dX7_unit_52 ?_
      refine A_sipush (v := 150) dX7_unit_53 (by decide) ?_
      refine A_icmp_ne (tgt := 63) dX7_unit_56 (by decide) (fun c_56 => ?_) (fun c_56 => ?_)
      · refine A_aload0 dX7_unit_63 ?_
        refine A_getR gf_X7_9 rfl dX7_unit_64 ?_
        refine A_getI gf_X7_79 rfl dX7_unit_67 ?_
        refine A_val (y := μ.1 2 7) (wI_ne (by omega)) ?_
        refine A_vv2 lk_X7_63 yv_X6_addStep dX7_unit_70 (rfl) (rfl) (T_X6_addStep hcu) (by omega) (Nat.le_of_ble_eq_true rfl) (fun μ_70 h_70 => ?_)
        subst h_70
        refine A_aload0 dX7_unit_73 ?_
        refine A_getR gf_X7_9 rfl dX7_unit_74 ?_
        refine A_vv0 lk_X7_46 yv_X9_step dX7_unit_77 (rfl) (rfl) (T_step hS htu.ad h0 hs3) (by omega) (Nat.le_of_ble_eq_true rfl) (fun μ_77 h_77 => ?_)
        refine A_goto (tgt := 163) dX7_unit_80 (by decide) ?_
        refine A_vret dX7_unit_163 ?_
        have hA := opA_m (x := x) (Or.inl e6) hn60 (by rw [e6]; decide) hN (fun y => by have z := y.1.1; rw [e6] at z; exact absurd z (by decide))
        have hop : sp_operand x m = (2, tkn (sp_note (opB m) 0 (m.1 0 8))) := op_val h0 hA hN (by rw [e6]; decide) (fun y => by have z := y.1; rw [e6] at z; exact absurd z (by decide)) (by rw [if_neg (fun y => by have z := y.1; rw [e6] at z; exact absurd z (by decide)), if_pos e6]) (if_neg (fun y => by have z := y.1; rw [e6] at z; exact absurd z (by decide)))
        have mk1 : Mk m (sp_note (opB m) 0 (m.1 0 8)) := (Mk.rf.w (by omega) : Mk m (opB m)).tr Mk.note
        refine ⟨rfl, note_done (μb := uuM μ) (kd := 2) (vv := μ.1 2 7) hP h0 hx2 hs0 hs3 Rd.rf ((opB_o (by decide)).trans h0) hop ?_ (h_77.1.mv mk1.tks Ck.rf) hcu F4.rf ?_⟩
        · rw [stE_0, hkr.v c_37]
        · rw [← c_37]; exact h_77.2
      · refine A_iconst (v := 0) dX7_unit_59 (by decide) ?_
        refine A_goto (tgt := 70) dX7_unit_60 (by decide) ?_
        refine A_vv2 lk_X7_63 yv_X6_addStep dX7_unit_70 (rfl) (rfl) (T_X6_addStep hcu) (by omega) (Nat.le_of_ble_eq_true rfl) (fun μ_70 h_70 => ?_)
        subst h_70
        refine A_aload0 dX7_unit_73 ?_
        refine A_getR gf_X7_9 rfl dX7_unit_74 ?_
        refine A_vv0 lk_X7_46 yv_X9_step dX7_unit_77 (rfl) (rfl) (T_step hS htu.ad h0 hs3) (by omega) (Nat.le_of_ble_eq_true rfl) (fun μ_77 h_77 => ?_)
        refine A_goto (tgt := 163) dX7_unit_80 (by decide) ?_
        refine A_vret dX7_unit_163 ?_
        exact absurd (c_37.symm.trans c_56) (by decide)
    · refine A_iload2 dX7_unit_40 ?_
      refine A_sipush (v := 150) dX7_unit_41 (by decide) ?_
      refine A_icmp_ne (tgt := 83) dX7_unit_44 (by decide) (fun c_44 => ?_) (fun c_44 => ?_)
      · refine A_iload2 dX7_unit_83 ?_
        refine A_iconst (v := 3) dX7_unit_84 (by decide) ?_
        refine A_icmp_ne (tgt := 96) dX7_unit_85 (by decide) (fun c_85 => ?_) (fun c_85 => ?_)
        · refine A_iload2 dX7_unit_96 ?_
          refine A_sipush (v := 149) dX7_unit_97 (by decide) ?_
          refine A_icmp_ne (tgt := 118) dX7_unit_100 (by decide) (fun c_100 => ?_) (fun c_100 => ?_)
          · refine A_iload2 dX7_unit_118 ?_
            refine A_bipush (v := 40) dX7_unit_119 (by decide) ?_
            refine A_icmp_ne (tgt := 156) dX7_unit_121 (by decide) (fun c_121 => ?_) (fun c_121 => ?_)
            · refine A_aload0 dX7_unit_156 ?_
              refine A_getR gf_X7_9 rfl dX7_unit_157 ?_
              refine A_vv0 lk_X7_40 yv_X9_refuse dX7_unit_160 (rfl) (rfl) (T_refuse htu) (by omega) (Nat.le_of_ble_eq_true rfl) (fun μ_160 h_160 => ?_)
              refine A_vret dX7_unit_163 ?_
              refine ⟨rfl, unit_no (μ3 := μ) hP hE (fun h0 => ?_) h_160.1 (hcu.f4 h_160.2) (Fq.uu.tr h_160.2.fq)⟩
              have hN := (hE h0).1.n hP.1 h0
              refine Or.inl ⟨hN, fun y => ?_⟩
              rcases (not_u hP.1 h0).mp y with z | z | z | z | z
              · exact c_37 z
              · exact c_121 z
              · exact c_85 z
              · exact c_100 z
              · exact c_44 z
            · refine A_iload1 dX7_unit_124 ?_
              refine A_bipush (v := 6) dX7_unit_125 (by decide) ?_
              refine A_icmp_gt (tgt := 156) dX7_unit_127 (by decide) (fun c_127 => absurd c_127 (fun y => absurd y (Int32.not_lt.mpr (nI_le (a := 7 - (k + 1)) (b := 6) (by omega) (by decide))))) (fun c_127 => ?_)
              have h0 : m.1 0 2 = 0 := hP.1.no (by rw [c_121]; decide)
              have hN := (hE h0).1.n hP.1 h0
              have hx2 := (hE h0).1.x
              have hn60 : ¬ m.1 0 73 = 60 := fun y => (hu60 h0).mp y c_14
              obtain ⟨-, -, -, -, b5, b6⟩ := rw_s hP.1 h0
              have hkr := hP.1.kr h0
              have e40 : m.1 0 6 = 40 := (hkr.sg (by decide)).mpr c_121
              have hs3 : ¬ m.1 0 6 = 3 := by rw [e40]; decide
              refine A_aload0 dX7_unit_130 ?_
              refine A_getR gf_X7_9 rfl dX7_unit_131 ?_
              refine A_vv0 lk_X7_46 yv_X9_step dX7_unit_134 (rfl) (rfl) (T_step hS htu h0 hs3) (by omega) (Nat.le_of_ble_eq_true rfl) (fun μ_134 h_134 => ?_)
              obtain ⟨t1, f1⟩ := h_134
              obtain ⟨m1, e1, ip1, u1, v1, z1, z2⟩ := par_step hP h0 hx2 hN c_121 hn60 t1 (hcu.f4 f1) f1
              refine A_aload0 dX7_unit_137 ?_
              refine A_iload1 dX7_unit_138 ?_
              refine A_iconst (v := 1) dX7_unit_139 (by decide) ?_
              refine A_iadd dX7_unit_140 ?_
              have hcn : cnW (m.1 46) w + (k + 1) = 7 := (hP.2.2 h0).2.2.2.2.1
              refine A_val (y := nI (7 - k)) (by rw [nI_1]; exact congrArg nI (by omega)) ?_
              refine A_vv1 lk_X7_49 yv_X7_either dX7_unit_141 (rfl) (rfl) (he β (w + 1) 0 m1 μ_134 ip1 (fun _ => ⟨rfl, Or.inr (Or.inl (by rw [Nat.add_sub_cancel]; exact v1))⟩)) (hde) (Nat.le_of_ble_eq_true rfl) (fun μ_141 h_141 => ?_)
              obtain ⟨fq2, m2, e2, ib2, g2⟩ := h_141
              refine A_aload0 dX7_unit_144 ?_
              refine A_getR gf_X7_9 rfl dX7_unit_145 ?_
              refine A_bipush (v := 41) dX7_unit_148 (by decide) ?_
              refine A_vv1 lk_X7_53 yv_X9_take dX7_unit_150 (rfl) (rfl) (T_X9_take (x := 41) hS ib2.1 (by decide) (fun y1 y2 => by rw [((ib2.1.kr y1).sg (by decide)).mpr y2]; decide)) (by omega) (Nat.le_of_ble_eq_true rfl) (fun μ_150 h_150 => ?_)
              refine A_goto (tgt := 163) dX7_unit_153 (by decide) ?_
              refine A_vret dX7_unit_163 ?_
              obtain ⟨f4, hh⟩ := h_150
              have hFq : Fq μ μ_150 := ((Fq.uu.tr f1.fq).tr fq2).tr f4.fq
              have hc4 : CM μ_150 := ib2.2.1.f4 f4
              rcases hh with ⟨y0, y1, t3⟩ | ⟨hno, t3⟩
              · obtain ⟨m3, e3, ib3, y3, y4⟩ := par_end (U := m.1 46) ib2 y0 u1 v1 y1 t3 f4
                exact ⟨rfl, hFq, m3, e1.trans (e2.trans e3), ib3, fun _ => ⟨h0, by have := (g2 y0).2.1; omega, trivial⟩⟩
              · by_cases y0 : m2.1 0 2 = 0
                · have h41 : ¬ m2.1 0 6 = 41 := fun y => hno ⟨y0, ((ib2.1.kr y0).sg (by decide)).mp y⟩
                  have hop : ¬ opQ (m2.1 46) (wtN m2) = 0 := fun y => by
                    obtain ⟨-, -, s3, s4, -⟩ := ib2.2.2 y0
                    obtain ⟨n, t, -, -, s8, s9, -⟩ := s3.t
                    exact opQ_0 _ y w (by omega) ((s4 w (by omega)).trans v1)
                  obtain ⟨M, e3, y3, t4⟩ := end_bad ib2 y0 (g2 y0).2.2 (fun y => h41 y.1) (fun y => hop y.2.2) t3
                  exact ⟨rfl, RP.flt hFq (e1.trans (e2.trans e3)) t4 hc4 y3⟩
                · rw [spoil_1 y0 ib2.1.f0] at t3
                  exact ⟨rfl, RP.flt hFq (e1.trans e2) t3 hc4 y0⟩
          · have h0 : m.1 0 2 = 0 := hP.1.no (by rw [c_100]; decide)
            have hN := (hE h0).1.n hP.1 h0
            have hx2 := (hE h0).1.x
            have hn60 : ¬ m.1 0 73 = 60 := fun y => (hu60 h0).mp y c_14
            obtain ⟨-, -, -, -, b5, b6⟩ := rw_s hP.1 h0
            have hkr := hP.1.kr h0
            have hL := b5.mpr c_100
            have hs0 : ¬ m.1 0 6 = 0 := by rw [hL.1]; decide
            have hs3 : ¬ m.1 0 6 = 3 := by rw [hL.1]; decide
            have a7 := (hP.2.2 h0).2.2.2.2.2.2
            refine A_aload0 dX7_unit_103 ?_
            refine A_getR gf_X7_9 rfl dX7_unit_104 ?_
            refine A_vv0 lk_X7_46 yv_X9_step dX7_unit_107 (rfl) (rfl) (T_step hS htu h0 hs3) (by omega) (Nat.le_of_ble_eq_true rfl) (fun μ_107 h_107 => ?_)
            obtain ⟨t0, f1⟩ := h_107
            have mB : Mk m (opB m) := Mk.rf.w (by omega)
            have t1 : TS G (tkn (opB m)) μ_107 := t0.mv mB.tks Ck.rf
            have h01 : (tkn (opB m)).1 0 2 = 0 := (tkn_2 _).trans ((opB_o (by decide)).trans h0)
            have rB : Rd (opB m) (tkn (opB m)) := Rd.tk Rd.rf
            have hn1 : HN (tkn (opB m)) μ_107 := a7.mv ((rB.1 0 31 (by unfold rdK; omega)).trans (opB_o (by decide))) (fun j => rB.2.1 3 j (by omega)) ((f1.1 4 0 (by omega)).trans (wI_ne (by omega))) (fun j => f1.2.1 5 j (by omega))
            refine A_aload0 dX7_unit_110 ?_
            refine A_iload2 dX7_unit_111 ?_
            refine A_vv1 lk_X7_82 yv_X7_name dX7_unit_112 (rfl) (rfl) (T_X7_name (M := tkn (opB m)) hS t1 h01 (hcu.f4 f1) hn1) (by omega) (Nat.le_of_ble_eq_true rfl) (fun μ_112 h_112 => ?_)
            refine A_goto (tgt := 163) dX7_unit_115 (by decide) ?_
            refine A_vret dX7_unit_163 ?_
            have hA := opA_m (x := x) (Or.inr (Or.inr (Or.inr (Or.inl hL)))) hn60 (by rw [hL.1]; decide) hN (fun y => by have z := hkr.nm.mp y.1; rw [c_100] at z; exact absurd z (by decide))
            have hop0 := op_lst h0 hA hN (by rw [hL.1]; decide) hL
            rcases h_112 with ⟨hnm, hge, t3, f3⟩ | ⟨hf, t3, f3⟩
            · have eK : opK (tkn (opB m)) = tkn (opB m) := (if_pos hnm).trans (if_neg hge)
              have hop : sp_operand x m = (2, tkn (sp_note (tkn (opB m)) 2 (sp_named (tkn (opB m))))) := by
                rw [hop0]
                unfold opL
                rw [eK, hlT_0 (note_2.trans h01)]
              rw [c_100] at f3
              exact ⟨rfl, note_done (μb := μ_107) (kd := 149) (vv := sp_named (tkn (opB m))) hP h0 hx2 hs0 hs3 rB h01 hop (stE_2 _) (t3.mv Mk.note.tks Ck.rf) (hcu.f4 f1) f1 f3⟩
            · have hL2 : ¬ (opL (tkn (opB m))).1 0 2 = 0 := by
                unfold opL
                rw [note_2]
                exact hf
              rw [hlT_1 hL2] at hop0
              obtain ⟨p1, p2⟩ := pr_e hop0
              have e1 := (opn_s (hP.2.2 h0).1 hx2).1
              rw [p1, p2] at e1
              exact ⟨rfl, RP.flt ((Fq.uu.tr f1.fq).tr f3.fq) e1 (t3.mv Mk.note Ck.rf) ((hcu.f4 f1).f4 f3) hL2⟩
        · have h0 : m.1 0 2 = 0 := hP.1.no (by rw [c_85]; decide)
          have hN := (hE h0).1.n hP.1 h0
          have hx2 := (hE h0).1.x
          have hn60 : ¬ m.1 0 73 = 60 := fun y => (hu60 h0).mp y c_14
          obtain ⟨-, -, -, -, b5, b6⟩ := rw_s hP.1 h0
          have hkr := hP.1.kr h0
          have hnm := hkr.nm.mpr c_85
          have hs0 : ¬ m.1 0 6 = 0 := by rw [hnm.1]; decide
          have hs3 : ¬ m.1 0 6 = 3 := by rw [hnm.1]; decide
          have a7 := (hP.2.2 h0).2.2.2.2.2.2
          refine A_aload0 dX7_unit_88 ?_
          refine A_iload2 dX7_unit_89 ?_
          refine A_vv1 lk_X7_82 yv_X7_name dX7_unit_90 (rfl) (rfl) (T_X7_name hS htu h0 hcu (a7.mv rfl (fun _ => rfl) (wI_ne (by omega)) (fun _ => rfl))) (by omega) (Nat.le_of_ble_eq_true rfl) (fun μ_90 h_90 => ?_)
          refine A_goto (tgt := 163) dX7_unit_93 (by decide) ?_
          refine A_vret dX7_unit_163 ?_
          rcases h_90 with ⟨-, hge, t3, f3⟩ | ⟨hf, t3, f3⟩
          · have hA := opA_m (x := x) (Or.inr (Or.inr (Or.inl hnm))) hn60 (by rw [hnm.1]; decide) hN (fun y => hge y.2)
            have hop : sp_operand x m = (2, tkn (sp_note (opB m) 1 (sp_named m))) := op_val h0 hA hN (by rw [hnm.1]; decide) (fun y => by have z := b5.mp y; rw [c_85] at z; exact absurd z (by decide)) (if_pos hnm) (if_pos hnm)
            have mk1 : Mk m (sp_note (opB m) 1 (sp_named m)) := (Mk.rf.w (by omega) : Mk m (opB m)).tr Mk.note
            rw [c_85] at f3
            exact ⟨rfl, note_done (μb := uuM μ) (kd := 3) (vv := sp_named m) hP h0 hx2 hs0 hs3 Rd.rf ((opB_o (by decide)).trans h0) hop (stE_1 _) (t3.mv mk1.tks Ck.rf) hcu F4.rf f3⟩
          · have hlt : sp_named m < 0 := Decidable.not_not.mp (fun y => hf (by rw [show opK m = m from (if_pos hnm).trans (if_neg y)]; exact h0))
            have eK : opK m = sp_spoil m 5 := (if_pos hnm).trans (if_pos hlt)
            rw [eK] at t3
            have hA : opA x m = sp_spoil m 5 := by
              unfold opA
              rw [if_neg, if_pos ⟨hnm, hlt⟩]
              rintro (y | y | y)
              · exact y.2 (Or.inr (Or.inr (Or.inl hnm)))
              · exact hn60 y.2
              · exact y.1.elim hN (fun z => by rw [hnm.1] at z; exact absurd z (by decide))
            exact ⟨rfl, RP.flt (Fq.uu.tr f3.fq) (opn_f (hP.2.2 h0).1 hx2 (by decide) hA) t3 (hcu.f4 f3) (ps_0 (sp_spoil_2 (by decide)))⟩
      · have h0 : m.1 0 2 = 0 := hP.1.no (by rw [c_44]; decide)
        have hN := (hE h0).1.n hP.1 h0
        have hx2 := (hE h0).1.x
        have hn60 : ¬ m.1 0 73 = 60 := fun y => (hu60 h0).mp y c_14
        obtain ⟨-, -, -, -, b5, b6⟩ := rw_s hP.1 h0
        have hkr := hP.1.kr h0
        have e6 := (b6.mpr c_44)
        have hs0 : ¬ m.1 0 6 = 0 := by rw [e6.1]; decide
        have hs3 : ¬ m.1 0 6 = 3 := by rw [e6.1]; decide
        refine A_aload0 dX7_unit_47 ?_
        refine A_getR gf_X7_19 rfl dX7_unit_48 ?_
        refine A_iload2 dX7_unit_51 ?_
        refine A_iload2 dX7_unit_52 ?_
        refine A_sipush (v := 150) dX7_unit_53 (by decide) ?_
        refine A_icmp_ne (tgt := 63) dX7_unit_56 (by decide) (fun c_56 => ?_) (fun c_56 => ?_)
        · refine A_aload0 dX7_unit_63 ?_
          refine A_getR gf_X7_9 rfl dX7_unit_64 ?_
          refine A_getI gf_X7_79 rfl dX7_unit_67 ?_
          refine A_val (y := μ.1 2 7) (wI_ne (by omega)) ?_
          refine A_vv2 lk_X7_63 yv_X6_addStep dX7_unit_70 (rfl) (rfl) (T_X6_addStep hcu) (by omega) (Nat.le_of_ble_eq_true rfl) (fun μ_70 h_70 => ?_)
          subst h_70
          refine A_aload0 dX7_unit_73 ?_
          refine A_getR gf_X7_9 rfl dX7_unit_74 ?_
          refine A_vv0 lk_X7_46 yv_X9_step dX7_unit_77 (rfl) (rfl) (T_step hS htu.ad h0 hs3) (by omega) (Nat.le_of_ble_eq_true rfl) (fun μ_77 h_77 => ?_)
          refine A_goto (tgt := 163) dX7_unit_80 (by decide) ?_
          refine A_vret dX7_unit_163 ?_
          exact absurd c_44 c_56
        · refine A_iconst (v := 0) dX7_unit_59 (by decide) ?_
          refine A_goto (tgt := 70) dX7_unit_60 (by decide) ?_
          refine A_vv2 lk_X7_63 yv_X6_addStep dX7_unit_70 (rfl) (rfl) (T_X6_addStep hcu) (by omega) (Nat.le_of_ble_eq_true rfl) (fun μ_70 h_70 => ?_)
          subst h_70
          refine A_aload0 dX7_unit_73 ?_
          refine A_getR gf_X7_9 rfl dX7_unit_74 ?_
          refine A_vv0 lk_X7_46 yv_X9_step dX7_unit_77 (rfl) (rfl) (T_step hS htu.ad h0 hs3) (by omega) (Nat.le_of_ble_eq_true rfl) (fun μ_77 h_77 => ?_)
          refine A_goto (tgt := 163) dX7_unit_80 (by decide) ?_
          refine A_vret dX7_unit_163 ?_
          have hA := opA_m (x := x) (Or.inr (Or.inr (Or.inr (Or.inr e6)))) hn60 (by rw [e6.1]; decide) hN (fun y => by have z := hkr.nm.mp y.1; rw [c_44] at z; exact absurd z (by decide))
          have hop : sp_operand x m = (2, tkn (sp_note (opB m) 3 (m.1 0 8))) := op_val h0 hA hN (by rw [e6.1]; decide) (fun y => by have z := b5.mp y; rw [c_44] at z; exact absurd z (by decide)) (by rw [if_neg (fun y => by have z := hkr.nm.mp y; rw [c_44] at z; exact absurd z (by decide)), if_neg (by rw [e6.1]; decide)]) (if_neg (fun y => by have z := hkr.nm.mp y; rw [c_44] at z; exact absurd z (by decide)))
          have mk1 : Mk m (sp_note (opB m) 3 (m.1 0 8)) := (Mk.rf.w (by omega) : Mk m (opB m)).tr Mk.note
          refine ⟨rfl, note_done (μb := uuM μ) (kd := 150) (vv := 0) hP h0 hx2 hs0 hs3 Rd.rf ((opB_o (by decide)).trans h0) hop (stE_3 _) (h_77.1.mv mk1.tks Ck.rf) hcu F4.rf ?_⟩
          rw [← c_44]; exact h_77.2
  · refine A_aload0 dX7_unit_17 ?_
    refine A_getR gf_X7_9 rfl dX7_unit_18 ?_
    refine A_vv0 lk_X7_40 yv_X9_refuse dX7_unit_21 (rfl) (rfl) (T_refuse hP.1) (by omega) (Nat.le_of_ble_eq_true rfl) (fun μ_21 h_21 => ?_)
    refine A_vret dX7_unit_24 ?_
    refine ⟨rfl, unit_no (μ3 := μ) hP hE (fun h0 => ?_) h_21.1 (hP.2.1.f4 h_21.2) h_21.2.fq⟩
    by_cases hU : opU m
    · exact Or.inr (Or.inl ⟨hU, (hu60 h0).mpr c_14⟩)
    · exact Or.inl ⟨(hE h0).1.n hP.1 h0, hU⟩

/-! the whole grammar -/
set_option maxHeartbeats 200000 in
theorem gr_all {l : Launch} {G : Wd} (hS : okS G) : ∀ k, MC l G yX7_either cX7_either 3 (8 * k + 13) k 20 20 XE E0 ∧ MC l G yX7_one cX7_one 3 (8 * k + 11) k 23 22 XO E0 := by
  intro k
  induction k with
  | zero =>
    have u := M_X7_unit0 (l := l) (d := 8) hS (by omega)
    have t := M_X7_term (d := 9) hS u (by omega) (by omega)
    have a := M_X7_addition (d := 10) hS t (by omega) (by omega)
    have o := M_X7_one0 (d := 11) hS a (by omega) (by omega)
    have b := M_X7_both (d := 12) hS o (by omega) (by omega)
    exact ⟨M_X7_either (d := 13) hS b (by omega) (by omega), o⟩
  | succ k ih =>
    have u := M_X7_unit (l := l) (d := 8 * k + 16) hS ih.1 (by omega) (by omega)
    have t := M_X7_term (d := 8 * k + 17) hS u (by omega) (by omega)
    have a := M_X7_addition (d := 8 * k + 18) hS t (by omega) (by omega)
    have o := M_X7_one (d := 8 * k + 19) hS a ih.2 (by omega) (by omega) (by omega)
    have b := M_X7_both (d := 8 * k + 20) hS o (by omega) (by omega)
    exact ⟨M_X7_either (d := 8 * k + 21) hS b (by omega) (by omega), o⟩
def cuM (μ : Mem) (z : Int32) : Mem := if μ.1 30 0 < 6 then wI (wI (wI μ 31 (μ.1 30 0).toNatClampNeg (if z = 0 then 0 else 1)) 32 (μ.1 30 0).toNatClampNeg (μ.1 30 3)) 30 0 (μ.1 30 0 + 1) else μ
def CC (μ : Mem) : Prop := ∃ c : Nat, c ≤ 6 ∧ μ.1 30 0 = nI c
set_option maxHeartbeats 100000 in
set_option maxRecDepth 100000 in
theorem T_X6_close {l : Launch} {G : Wd} {z : Int32} {μ : Mem} (hc : CC μ) : Mt l G KC yX6_close cX6_close 2 none 1 [.ref (gA G 30), .int z] μ (Qv (fun μ' => μ' = cuM μ z)) := by
  refine Mt.of (own := RX6) (n := 0) (by decide) rfl [some (.ref (gA G 30)), some (.int z)] rfl (Nat.le_of_ble_eq_true rfl) ?_
  refine A_aload0 dX6_close_0 ?_
  refine A_getI gf_X6_24 rfl dX6_close_1 ?_
  refine A_bipush (v := 6) dX6_close_4 (by decide) ?_
  refine A_icmp_ge (tgt := 50) dX6_close_6 (by decide) (fun c_6 => ?_) (fun c_6 => ?_)
  · refine A_vret dX6_close_50 ?_
    exact ⟨rfl, (if_neg (Int32.not_lt.mpr c_6)).symm⟩
  · obtain ⟨c, hc6, ec⟩ := hc
    have hlt : c < 6 := by
      rw [ec] at c_6
      exact (nI_ltI (by omega) (by decide)).mp (Int32.not_le.mp c_6)
    refine A_aload0 dX6_close_9 ?_
    refine A_getR gf_X6_11 rfl dX6_close_10 ?_
    refine A_aload0 dX6_close_13 ?_
    refine A_getI gf_X6_24 rfl dX6_close_14 ?_
    refine A_iload1 dX6_close_17 ?_
    refine A_if_eq (tgt := 25) dX6_close_18 (by decide) (fun c_18 => ?_) (fun c_18 => ?_)
    · refine A_iconst (v := 0) dX6_close_25 (by decide) ?_
      refine A_iast (rfl) (by rw [ec]; exact vp_in_nI hlt (by omega)) dX6_close_26 ?_
      refine A_aload0 dX6_close_27 ?_
      refine A_getR gf_X6_15 rfl dX6_close_28 ?_
      refine A_aload0 dX6_close_31 ?_
      refine A_getI gf_X6_24 rfl dX6_close_32 ?_
      refine A_val (y := μ.1 30 0) (wI_ne (by omega)) ?_
      refine A_aload0 dX6_close_35 ?_
      refine A_getI gf_X6_28 rfl dX6_close_36 ?_
      refine A_val (y := μ.1 30 3) (wI_ne (by omega)) ?_
      refine A_iast (rfl) (by rw [ec]; exact vp_in_nI hlt (by omega)) dX6_close_39 ?_
      refine A_aload0 dX6_close_40 ?_
      refine A_dup dX6_close_41 rfl ?_
      refine A_getI gf_X6_24 rfl dX6_close_42 ?_
      refine A_val (y := μ.1 30 0) ((wI_ne (by omega)).trans (wI_ne (by omega))) ?_
      refine A_iconst (v := 1) dX6_close_45 (by decide) ?_
      refine A_iadd dX6_close_46 ?_
      refine A_putI gf_X6_24 rfl dX6_close_47 ?_
      refine A_vret dX6_close_50 ?_
      refine ⟨rfl, ?_⟩
      unfold cuM
      rw [if_pos (Int32.not_le.mp c_6), if_pos c_18]
    · refine A_iconst (v := 1) dX6_close_21 (by decide) ?_
      refine A_goto (tgt := 26) dX6_close_22 (by decide) ?_
      refine A_iast (rfl) (by rw [ec]; exact vp_in_nI hlt (by omega)) dX6_close_26 ?_
      refine A_aload0 dX6_close_27 ?_
      refine A_getR gf_X6_15 rfl dX6_close_28 ?_
      refine A_aload0 dX6_close_31 ?_
      refine A_getI gf_X6_24 rfl dX6_close_32 ?_
      refine A_val (y := μ.1 30 0) (wI_ne (by omega)) ?_
      refine A_aload0 dX6_close_35 ?_
      refine A_getI gf_X6_28 rfl dX6_close_36 ?_
      refine A_val (y := μ.1 30 3) (wI_ne (by omega)) ?_
      refine A_iast (rfl) (by rw [ec]; exact vp_in_nI hlt (by omega)) dX6_close_39 ?_
      refine A_aload0 dX6_close_40 ?_
      refine A_dup dX6_close_41 rfl ?_
      refine A_getI gf_X6_24 rfl dX6_close_42 ?_
      refine A_val (y := μ.1 30 0) ((wI_ne (by omega)).trans (wI_ne (by omega))) ?_
      refine A_iconst (v := 1) dX6_close_45 (by decide) ?_
      refine A_iadd dX6_close_46 ?_
      refine A_putI gf_X6_24 rfl dX6_close_47 ?_
      refine A_vret dX6_close_50 ?_
      refine ⟨rfl, ?_⟩
      unfold cuM
      rw [if_pos (Int32.not_le.mp c_6), if_neg c_18]
set_option maxHeartbeats 200000 in
theorem cuM_n {μ : Mem} {z : Int32} {r : Nat} (h : μ.1 30 0 = nI r) (hr : r < 6) : cuM μ z = wI (wI (wI μ 31 r (if z = 0 then 0 else 1)) 32 r (μ.1 30 3)) 30 0 (nI (r + 1)) := by
  unfold cuM
  rw [h, show (6 : Int32) = nI 6 from rfl, if_pos (nI_lt hr (by decide)), nI_c (by omega), nI_1]
set_option maxHeartbeats 200000 in
theorem cuM_o {μ : Mem} {z : Int32} {i j : Nat} (h1 : ¬ (i = 30 ∧ j = 0)) (h2 : ¬ (31 ≤ i ∧ i ≤ 32)) : (cuM μ z).1 i j = μ.1 i j := by
  unfold cuM
  split
  · rw [wI_ne (by omega), wI_ne (by omega), wI_ne (by omega)]
  · rfl
set_option maxHeartbeats 200000 in
theorem cuM_2 {μ : Mem} {z : Int32} : (cuM μ z).2 = μ.2 := by
  unfold cuM
  split <;> rfl
set_option maxHeartbeats 200000 in
theorem CC.cu {μ : Mem} {z : Int32} (h : CC μ) : CC (cuM μ z) := by
  obtain ⟨c, hc, ec⟩ := h
  by_cases k : c < 6
  · exact ⟨c + 1, by omega, by rw [cuM_n ec k, wI_same]⟩
  · refine ⟨c, hc, ?_⟩
    unfold cuM
    rw [if_neg (by rw [ec]; exact nI_nlt (a := c) (b := 6) (by omega) (by omega))]
    exact ec
set_option maxHeartbeats 200000 in
theorem TS.cu {G : Wd} {m μ : Mem} {z : Int32} (h : TS G m μ) : TS G m (cuM μ z) := by
  unfold cuM
  split
  · exact ((h.cw (by omega)).cw (by omega)).cw (by omega)
  · exact h
def Fy (μ μ' : Mem) : Prop := (∀ i j, ¬ (i = 2 ∧ 4 ≤ j ∧ j ≤ 10) → ¬ (30 ≤ i ∧ i ≤ 33) → ¬ (i = 35 ∧ j = 3) → μ'.1 i j = μ.1 i j) ∧ (∀ i j, ¬ (i = 2 ∧ j = 8) → μ'.2.1 i j = μ.2.1 i j) ∧ μ'.2.2 = μ.2.2
set_option maxHeartbeats 200000 in
theorem Fy.rf {μ : Mem} : Fy μ μ := ⟨fun _ _ _ _ _ => rfl, fun _ _ _ => rfl, rfl⟩
set_option maxHeartbeats 200000 in
theorem Fy.tr {a b c : Mem} (h : Fy a b) (g : Fy b c) : Fy a c := ⟨fun i j q q1 q2 => (g.1 i j q q1 q2).trans (h.1 i j q q1 q2), fun i j q => (g.2.1 i j q).trans (h.2.1 i j q), g.2.2.trans h.2.2⟩
set_option maxHeartbeats 200000 in
theorem Fq.fy {a b : Mem} (h : Fq a b) : Fy a b := ⟨fun i j q q1 q2 => h.1 i j q (by omega) (by omega) q2, h.2.1, h.2.2⟩
set_option maxHeartbeats 200000 in
theorem Fy.cu {a b : Mem} {z : Int32} (h : Fy a b) : Fy a (cuM b z) := h.tr ⟨fun i j _ q1 _ => cuM_o (by omega) (by omega), fun i j _ => by rw [cuM_2], by rw [cuM_2]⟩
/-! a rule on both sides -/
def sayM (m : Mem) : Mem := if 0 < (rrC m).1 0 2 then rrC m else tkn (sp_settle (rrC m) 0)
def wetM (D : Mem) : Mem := if D.1 0 2 = 0 then hlT (rrF (rrW D)) else D
set_option maxHeartbeats 200000 in
theorem say_step {β : Nat} {G : Wd} {m m2 μ2 μ3 : Mem} {U : Nat → Int32} (hC : rrC m = RF 2 m2) (h : IB G β 7 20 0 U m2 μ2) (hX : m2.1 0 2 = 0 → XE 0 m2 (μ2.1 2 5)) (t3 : TS G (sp_want m2 7561593) μ3) : TS G (sayM m) μ3 ∧ ((rrC m).1 0 2 = 0 → m2.1 0 2 = 0 ∧ rrC m = m2 ∧ (sayM m) = tkn (sp_settle m2 0) ∧ (∀ n t : Nat, m2.1 0 70 = nI n → m2.1 0 74 = nI t → n + t ≤ 500 → 0 ≤ t → Stl 0 t n m2 (sp_settle m2 0) 0)) := by
  by_cases h0 : m2.1 0 2 = 0
  · obtain ⟨a1, a2, a3, a4, a5, a6, a7, a8⟩ := h.2.2 h0
    obtain ⟨b1, -⟩ := rw_s h.1 h0
    obtain ⟨n, t, g1, g2, g3, g4, g5⟩ := a3.t
    have hop : opQ (m2.1 46) (wtN m2) = 0 := opQ_no _ (fun j hj y => by
      have q := (a5 j (by omega) hj).2
      rw [y] at q
      exact absurd q (by decide))
    have hsb := stl_base (r := 0) h h0 (by decide) (Or.inl rfl)
    by_cases hs : isWd m2 7561593
    · have eC : rrC m = m2 := hC.trans (RF_e ⟨rfl, hs, hop⟩)
      have eW : sp_want m2 7561593 = tkn m2 := (if_neg (by rw [h0]; decide)).trans (if_pos hs)
      have eS : sayM m = tkn (sp_settle m2 0) := by
        unfold sayM
        rw [eC, if_neg (by rw [h0]; decide)]
      rw [eW] at t3
      refine ⟨?_, fun _ => ⟨h0, eC, eS, hsb⟩⟩
      rw [eS]
      exact t3.mv (Mk.stl (hsb n t g1 g2 g5 g4)).tks Ck.rf
    · have eW : sp_want m2 7561593 = sp_spoil m2 2 := (if_neg (by rw [h0]; decide)).trans (if_neg hs)
      rw [eW] at t3
      obtain ⟨M, e3, y3, t4⟩ := end_bad h h0 (hX h0) (fun y => y.2 hop) (fun y => hs y.2.1) t3
      have eC : rrC m = M := hC.trans (e3.trans (RF_f y3))
      have hp : 0 < (rrC m).1 0 2 := by rw [eC]; exact (t4.en y3).2
      have eS : sayM m = rrC m := if_pos hp
      rw [eS, eC]
      exact ⟨t4, fun y => absurd y y3⟩
  · have hp := (h.1.en h0).2
    have eC : rrC m = m2 := hC.trans (RF_f h0)
    have eW : sp_want m2 7561593 = m2 := if_pos hp
    have eS : sayM m = rrC m := if_pos (by rw [eC]; exact hp)
    rw [eW] at t3
    rw [eS, eC]
    exact ⟨t3, fun y => absurd y h0⟩
set_option maxHeartbeats 200000 in
theorem wt_s {G : Wd} {m μ : Mem} (h : TS G m μ) (h0 : m.1 0 2 = 0) : (isWd m 7824756 ↔ μ.1 2 5 = 147) ∧ (isWd m 6582905 ↔ μ.1 2 5 = 148) ∧ (isWd m 26982 ↔ μ.1 2 5 = 145) := by
  have hk := h.kr h0
  have a1 := hk.wd (i := 19) (by decide)
  have a2 := hk.wd (i := 20) (by decide)
  have a3 := hk.wd (i := 17) (by decide)
  rw [wd_19] at a1
  rw [wd_20] at a2
  rw [wd_17] at a3
  exact ⟨a1, a2, a3⟩
set_option maxHeartbeats 200000 in
theorem wet_step {G : Wd} {D μ μ1 : Mem} {x : Int32} (h : TS G D μ) (hx : x = if μ.1 2 5 = 147 then 147 else 148) (hh : (D.1 0 2 = 0 ∧ μ.1 2 5 = x ∧ TS G (tkn D) μ1) ∨ (¬ (D.1 0 2 = 0 ∧ μ.1 2 5 = x) ∧ TS G (sp_spoil D 2) μ1)) : TS G (wetM D) μ1 := by
  unfold wetM
  by_cases h0 : D.1 0 2 = 0
  · rw [if_pos h0]
    obtain ⟨b1, b2, -⟩ := wt_s h h0
    have mW : Mk D (rrW D) := Mk.rf.w (by omega)
    have w0 : (rrW D).1 0 2 = 0 := (mW.1 2 (by omega)).trans h0
    have i6 : (rrW D).1 0 6 = D.1 0 6 := mW.1 6 (by omega)
    have hwd : ∀ y : Int64, isWd (rrW D) y ↔ isWd D y := fun y => by
      unfold isWd
      rw [i6, mW.2.2]
    have good : ∀ y : μ.1 2 5 = x, isWd D 7824756 ∨ isWd D 6582905 := by
      intro y
      by_cases c : μ.1 2 5 = 147
      · exact Or.inl (b1.mpr c)
      · rw [if_neg c] at hx
        exact Or.inr (b2.mpr (y.trans hx))
    rcases hh with ⟨-, y, t⟩ | ⟨y, t⟩
    · have eF : rrF (rrW D) = rrW D := if_pos (by rw [hwd, hwd]; exact good y)
      rw [eF, hlT_0 w0]
      exact t.mv mW.tks Ck.rf
    · have nW : ¬ (isWd D 7824756 ∨ isWd D 6582905) := by
        intro z
        refine y ⟨h0, ?_⟩
        by_cases c : μ.1 2 5 = 147
        · rw [if_pos c] at hx
          exact c.trans hx.symm
        · rw [if_neg c] at hx
          rcases z with z | z
          · exact absurd (b1.mp z) c
          · exact (b2.mp z).trans hx.symm
      have eF : rrF (rrW D) = sp_spoil (rrW D) 2 := if_neg (by rw [hwd, hwd]; exact nW)
      rw [eF, hlT_1 (ps_0 (sp_spoil_2 (by decide)))]
      exact t.mv (mW.sp h0) Ck.rf
  · rw [if_neg h0]
    rcases hh with ⟨y, -⟩ | ⟨-, t⟩
    · exact absurd y h0
    · rw [spoil_1 h0 h.f0] at t
      exact t
set_option maxHeartbeats 200000 in
theorem stQ_2 (a : Int32) : ∀ (w : Nat) (m : Mem), (stQ a w m).1 0 2 = m.1 0 2 := by
  intro w
  induction w with
  | zero => intro m; rfl
  | succ w ih =>
    intro m
    unfold stQ
    split
    · rfl
    · rw [ih]
      unfold popAt
      rw [note_2]
      exact ppA_r (by omega)
set_option maxHeartbeats 200000 in
/-- what stands in the end, the last token taken -/
theorem rule_end {G : Wd} {m μ : Mem} (hA : ¬ 0 < (rrA m).1 0 2) (hc : 0 ≤ (rrC m).1 0 2) (t : TS G (hlT (hlS (wetM (sayM m)))) μ) : TS G (sp_readRule m) μ := by
  by_cases c : 0 < (rrC m).1 0 2
  · have e1 : sp_readRule m = rrC m := (if_neg hA).trans (if_pos c)
    have e2 : sayM m = rrC m := if_pos c
    have e3 : wetM (rrC m) = rrC m := if_neg (ps_0 c)
    rw [e2, e3, hlTS_1 (ps_0 c)] at t
    rw [e1]
    exact t
  · have c0 : (rrC m).1 0 2 = 0 := Fg.z hc (Int32.not_lt.mp c)
    have e2 : sayM m = tkn (sp_settle (rrC m) 0) := if_neg c
    have hG : hlS (hlT (rrF (rrW (tkn (sp_settle (rrC m) 0))))) = rrG m := rfl
    by_cases d0 : (tkn (sp_settle (rrC m) 0)).1 0 2 = 0
    · have e3 : wetM (sayM m) = hlT (rrF (rrW (tkn (sp_settle (rrC m) 0)))) := by
        rw [e2]
        exact if_pos d0
      rw [e3, hG] at t
      by_cases g : 0 < (rrG m).1 0 2
      · rw [show sp_readRule m = rrG m from (if_neg hA).trans ((if_neg c).trans (if_pos g))]
        rw [hlT_1 (ps_0 g)] at t
        exact t
      · rw [show sp_readRule m = rrZ (rrG m) from (if_neg hA).trans ((if_neg c).trans (if_neg g))]
        have g0 : (rrG m).1 0 2 = 0 := by
          have := t.f0
          rw [hlT_2] at this
          exact Fg.z this (Int32.not_lt.mp g)
        rw [hlT_0 g0] at t
        unfold rrZ
        exact (t.mw (by omega)).mw (by omega)
    · exfalso
      refine d0 ?_
      rw [tkn_2]
      have hst : (sp_settle (rrC m) 0).1 0 2 = (rrC m).1 0 2 := stQ_2 0 _ _
      rw [hst]
      exact c0

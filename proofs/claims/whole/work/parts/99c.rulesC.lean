/-! an operator on both sides -/
set_option maxHeartbeats 200000 in
theorem nI_inj5 {a b : Nat} (h : nI a = nI b) (ha : a ≤ 600) (hb : b ≤ 600) : a = b := by
  have e := nI_c (n := a) (by omega)
  rw [h, nI_c (by omega)] at e
  exact e.symm
set_option maxHeartbeats 200000 in
theorem RuI.sz {β n t : Nat} {x : Int32} {m : Mem} (h : RuI β x m) (h1 : m.1 0 70 = nI n) (h2 : m.1 0 74 = nI t) (hn : n + t ≤ 500) (hs0 : ¬ m.1 0 6 = 0) (hs3 : ¬ m.1 0 6 = 3) : n + t ≤ plN m ∧ plN m < 500 := by
  obtain ⟨ht, h5, -, -, -, n2, w2, u2, g1, g2, g3, g4, g5⟩ := h
  obtain ⟨-, t2, -, -, t5, t6⟩ := ht
  have p1 := t6 hs0 hs3
  have e1 : n2 = n := by
    rcases Nat.lt_or_ge n2 601 with c | c
    · exact nI_inj5 (g1.symm.trans h1) (by omega) (by omega)
    · omega
  have e2 : w2 = t := by
    rcases Nat.lt_or_ge w2 601 with c | c
    · exact nI_inj5 (g2.symm.trans h2) (by omega) (by omega)
    · omega
  omega
set_option maxHeartbeats 200000 in
theorem Mk.stl {a : Int32} {w n w' : Nat} {m R : Mem} (h : Stl a w n m R w') : Mk m R := by
  obtain ⟨-, -, -, q4, q5, -⟩ := h
  exact ⟨fun j hj => q5 0 j (by omega) (by omega) (by omega), fun j => q5 1 j (by omega) (by omega) (by omega), by rw [q4]⟩
set_option maxHeartbeats 200000 in
theorem Mk.hold {m : Mem} {v : Int32} {w : Nat} (h : m.1 0 74 = nI w) (h6 : w < 600) : Mk m (sp_hold m v) := by
  obtain ⟨-, -, r3, r4⟩ := hold_r (a := v) h h6
  exact ⟨fun j hj => r3 0 j (by omega) (by omega), fun j => r3 1 j (by omega) (by omega), by rw [r4]⟩
set_option maxHeartbeats 200000 in
theorem Mk.tr {a b c : Mem} (h : Mk a b) (g : Mk b c) : Mk a c := ⟨fun j hj => (g.1 j hj).trans (h.1 j hj), fun j => (g.2.1 j).trans (h.2.1 j), g.2.2.trans h.2.2⟩
set_option maxHeartbeats 200000 in
theorem stl_base {β k w : Nat} {L : Int} {U : Nat → Int32} {G : Wd} {m μ : Mem} {r : Int32} (h : IB G β k L w U m μ) (h0 : m.1 0 2 = 0) (hrL : r.toInt ≤ L) (hT : TC r.toInt w U) : ∀ n t : Nat, m.1 0 70 = nI n → m.1 0 74 = nI t → n + t ≤ 500 → w ≤ t → Stl r t n m (sp_settle m r) w := by
  intro n t h1 h2 h3 h4
  obtain ⟨a1, a2, a3, a4, a5, a6, a7, a8⟩ := h.2.2 h0
  obtain ⟨w', hs⟩ := settle_r (a := r) h2 h1 (by omega)
  have et : wtN m = t := wtN_e h2 (by omega)
  have e : w' = w := by
    refine hs.eq h4 (fun j j1 j2 => ?_) ?_
    · obtain ⟨b1, b2⟩ := a5 j j1 (by omega)
      rintro (y | y)
      · rw [y] at b2
        exact absurd b2 (by decide)
      · have y2 := i_lt.mp y
        omega
    · rcases hT with y | y | y
      · exact Or.inl y
      · rcases Nat.eq_zero_or_pos w with z | z
        · exact Or.inl z
        · right; left
          rw [a4 (w - 1) (by omega)]
          exact y
      · rcases Nat.eq_zero_or_pos w with z | z
        · exact Or.inl z
        · right; right
          rw [a4 (w - 1) (by omega)]
          exact i_lt.mpr y
  rw [e] at hs
  exact hs
set_option maxHeartbeats 200000 in
/-- the reference meets an operator v behind an operand, the class steps over it -/
theorem op_step {β k w : Nat} {L : Int} {U : Nat → Int32} {G : Wd} {m μ μ1 : Mem} {v r : Int32} (h : IB G β k L w U m μ) (h0 : m.1 0 2 = 0) (hv : sgW m = v) (hv0 : ¬ v < 0) (h41 : ¬ m.1 0 6 = 41) (hsy : ¬ isWd m 7561593) (hrL : r.toInt ≤ L) (hT : TC r.toInt w U) (hE : sgE m v = sp_settle m r) (hvn : ¬ (v = 22 ∨ v = 30)) (t1 : TS G (tkn m) μ1) (f1 : F4 μ μ1) :
    ∃ m1, RF 2 m = RF (sgN v) m1 ∧ IP G β k (sgN v) (w + 1) m1 μ1 ∧ (∀ j, j < w → m1.1 46 j = U j) ∧ m1.1 46 w = v ∧ (m1.1 0 2 = 0 ∧ plN m < plN m1) := by
  obtain ⟨a1, a2, a3, a4, a5, a6, a7, a8⟩ := h.2.2 h0
  obtain ⟨n, t, g1, g2, g3, g4, g5⟩ := a3.t
  have hs := stl_base h h0 hrL hT n t g1 g2 g5 g4
  obtain ⟨sr, hR4⟩ := a3.stl (stl_base h h0 hrL hT)
  have hsv := sgW_v (m := m) (by rw [hv]; exact hv0)
  obtain ⟨z1, z2⟩ := a1.sz g1 g2 g5 hsv.2.1 hsv.2.2
  have hw5 : w < 500 := by omega
  have hb5 : ∃ n2 : Nat, (sp_settle m r).1 0 70 = nI n2 ∧ n2 + w < 500 := ⟨n + (t - w), hs.2.2.1, by omega⟩
  have hR2 : (sp_settle m r).1 0 2 = 0 := (hs.2.2.2.2.1 0 2 (by omega) (by omega) (by omega)).trans h0
  obtain ⟨r1, r2, r3, r4⟩ := hold_r (a := v) hR4 (by omega)
  have hmk : Mk m (sp_hold (sp_settle m r) v) := (Mk.stl hs).tr (Mk.hold hR4 (by omega))
  have hdi : DI (sp_hold (sp_settle m r) v) := (DI.settle g2 g1 (by omega) a2).hold hR4 (by omega)
  have hsr : SR (w + 1) (sp_hold (sp_settle m r) v) μ := sr.hold hR4 hw5 hb5
  have h46 : ∀ j, j < w → (sp_hold (sp_settle m r) v).1 46 j = U j := fun j hj => by
    rw [r3 46 j (by omega) (by omega), hs.2.2.2.2.1 46 j (by omega) (by omega) (by omega)]
    exact a4 j hj
  have h02 : (sp_hold (sp_settle m r) v).1 0 2 = 0 := (r3 0 2 (by omega) (by omega)).trans hR2
  have h73 : (sp_hold (sp_settle m r) v).1 0 73 = m.1 0 73 := (r3 0 73 (by omega) (by omega)).trans (hs.2.2.2.2.1 0 73 (by omega) (by omega) (by omega))
  have hn1 : rrS 2 m = (sgN v, tkn (sp_hold (sp_settle m r) v)) := by
    have e0 : rrS 2 m = sp_sign m := if_pos rfl
    have e1 : sp_sign m = sgG m v := by
      unfold sp_sign
      rw [if_neg (fun y => h41 y.1), hv, if_neg hv0]
    rw [e0, e1]
    unfold sgG
    rw [hE, if_neg (by rw [hR2]; decide)]
  generalize sp_hold (sp_settle m r) v = M at r1 r2 hmk hdi hsr h46 h02 h73 hn1
  obtain ⟨p1, p2⟩ := pr_e hn1
  obtain ⟨-, q2, q3⟩ := rrS_s a1
  rw [p2] at q2 q3
  rw [p1] at q3
  have hf : (tkn M).1 0 2 = 0 := (tkn_2 M).trans h02
  obtain ⟨q4, q5⟩ := q3 hf
  have rT : Rd M (tkn M) := Rd.tk Rd.rf
  have e46 : ∀ j, (tkn M).1 46 j = M.1 46 j := fun j => rT.1 46 j (by unfold rdK; omega)
  have t46 : (tkn M).1 46 w = v := by rw [e46]; exact r2
  refine ⟨tkn M, ?_, ⟨?_, h.2.1.f4 f1, fun _ => ⟨q4, hdi.rd rT, ?_, ?_, ?_, ?_, ?_⟩⟩, fun j hj => (e46 j).trans (h46 j hj), t46, hf, q5⟩
  · rw [RF_s a1 (fun y => hsy y.2.1), p1, p2]
  · exact t1.mv hmk.tks Ck.rf
  · rw [rT.1 0 74 (by unfold rdK; omega)]; exact r1
  · exact (hsr.rd rT).c (f1.1 30 3 (by omega)) (fun j => f1.1 33 j (by omega))
  · rw [cnW_s, t46, if_neg hvn, cnW_c w (fun j hj => (e46 j).trans (h46 j hj))]
    omega
  · rw [f1.1 35 3 (by omega), rT.1 0 73 (by unfold rdK; omega), h73]
    exact a7
  · exact a8.q q2 f1.fq
set_option maxHeartbeats 200000 in
/-- the operator's step, behind its right side -/
theorem fin_step {β k k2 w : Nat} {L L2 : Int} {U U1 : Nat → Int32} {G : Wd} {m μ : Mem} {v : Int32} (h : IB G β k L (w + 1) U1 m μ) (hU : ∀ j, j < w → U1 j = U j) (hv : U1 w = v) (hL : L2 ≤ L) (hv1 : L2 ≤ v.toInt) (hv2 : v.toInt ≤ 28) (hv3 : 2 < v.toInt) (hk : cnW U1 (w + 1) + k = cnW U w + k2) : IB G β k2 L2 w U m (adM μ (kdE v) 0) := by
  refine ⟨h.1.ad, h.2.1.ad, fun y => ?_⟩
  obtain ⟨a1, a2, a3, a4, a5, a6, a7, a8⟩ := h.2.2 y
  have e46 : m.1 46 w = v := (a4 w (by omega)).trans hv
  refine ⟨a1, a2, a3.fin e46 ?_, fun j hj => (a4 j (by omega)).trans (hU j hj), fun j j1 j2 => ?_, by omega, (adM_o (by omega) (by omega)).trans a7, a8.mv rfl (fun _ => rfl) (adM_o (by omega) (by omega)) (fun j => by rw [adM_2])⟩
  · rintro (z | z | z) <;> rw [z] at hv3 <;> exact absurd hv3 (by decide)
  · rcases Nat.lt_or_ge w j with c | c
    · obtain ⟨b1, b2⟩ := a5 j (by omega) j2
      exact ⟨by omega, b2⟩
    · have ej : j = w := by omega
      rw [ej, e46]
      exact ⟨hv1, hv2⟩

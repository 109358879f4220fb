/-! what the notes of rules hold: small numbers, boxes that are there; each rule nets one -/
def nvF (W X : Nat → Int32) (nb j : Nat) : Prop := (W j = 0 → ∃ x : Nat, x ≤ 9999 ∧ X j = nI x) ∧ ((W j = 1 ∨ W j = 2) → ∃ x : Nat, x < nb ∧ X j = nI x)
def KN (m : Mem) : Prop := m.1 0 6 = 2 → ∃ x : Nat, x ≤ 9999 ∧ m.1 0 8 = nI x
def NV (m : Mem) : Prop := ∀ j, j < ntN m → nvF (m.1 40) (m.1 41) (nbx m) j
def PD (r : Nat) (m : Mem) : Prop := ∀ i, i < r → ∀ b e : Nat, m.1 42 i = nI b → m.1 42 (i + 1) = nI e → b ≤ 600 → e ≤ 600 → dpF (m.1 40) b (e - b) = 1
set_option maxHeartbeats 200000 in
theorem nmF_n {T : Nat → Int32} {n p : Nat} : ∀ k, (∀ i, i < k → isDg (cA T n (p + i))) → ∃ x : Nat, x < 10 ^ k ∧ nmF T n p k = nI x := by
  intro k
  induction k with
  | zero => intro _; exact ⟨0, by decide, rfl⟩
  | succ k ih =>
    intro h
    obtain ⟨x, x1, x2⟩ := ih (fun i hi => h i (by omega))
    have hd := h k (by omega)
    obtain ⟨c, c1, c2, c3, -⟩ := i_nat (Int32.le_trans (show (0 : Int32) ≤ 48 by decide) hd.1)
    have z1 := i_le.mp hd.1
    have z2 := i_le.mp hd.2
    have d1 : (48 : Int32).toInt = 48 := rfl
    have d2 : (57 : Int32).toInt = 57 := rfl
    have hc : 48 ≤ c ∧ c ≤ 57 := by omega
    refine ⟨10 * x + (c - 48), by rw [Nat.pow_succ]; omega, ?_⟩
    unfold nmF
    rw [x2, c2, show (10 : Int32) = nI 10 from rfl, pk_mul, nI_add, show (48 : Int32) = nI 48 from rfl, pk_sub (by omega)]
    exact congrArg nI (by omega)
set_option maxHeartbeats 200000 in
theorem tk_n (T : Nat → Int32) (n : Nat) (r : Int32) (p : Nat) : ∃ x : Nat, x ≤ 9999 ∧ (tk T n r p).2.2.2 = nI x := by
  unfold tk
  by_cases c0 : cA T n p < 0
  · rw [if_pos c0]; exact ⟨0, by decide, rfl⟩
  · rw [if_neg c0]
    by_cases c1 : isLt (cA T n p)
    · rw [if_pos c1]; exact ⟨0, by decide, rfl⟩
    · rw [if_neg c1]
      by_cases c2 : isDg (cA T n p)
      · rw [if_pos c2]
        obtain ⟨x, x1, x2⟩ := nmF_n (T := T) (n := n) (p := p) (min (dgQ T n (n - p) p) 4) (fun i hi => dgQ_l T n (n - p) p i (by omega))
        refine ⟨x, ?_, x2⟩
        have h4 : 10 ^ (min (dgQ T n (n - p) p) 4) ≤ 10 ^ 4 := Nat.pow_le_pow_right (by decide) (Nat.min_le_right _ _)
        omega
      · rw [if_neg c2]; exact ⟨0, by decide, rfl⟩
set_option maxHeartbeats 200000 in
theorem KN_tk (m : Mem) : KN (tkn m) := fun _ => by
  unfold tkn sp_token
  rw [tkM_8]
  exact tk_n _ _ _ _
set_option maxHeartbeats 200000 in
theorem NV.of {m m' : Mem} (h : NV m) (h70 : m'.1 0 70 = m.1 0 70) (h31 : m'.1 0 31 = m.1 0 31) (h0 : ∀ j, m'.1 40 j = m.1 40 j) (h1 : ∀ j, m'.1 41 j = m.1 41 j) : NV m' := by
  intro j hj
  have en : ntN m' = ntN m := by unfold ntN; rw [h70]
  have eb : nbx m' = nbx m := by unfold nbx; rw [h31]
  rw [en] at hj
  have g := h j hj
  unfold nvF at g ⊢
  rw [h0 j, h1 j, eb]
  exact g
set_option maxHeartbeats 200000 in
theorem NV.rd {m m' : Mem} (h : NV m) (g : Rd m m') : NV m' := h.of (g.1 0 70 (by decide)) (g.1 0 31 (by decide)) (fun j => g.1 40 j (by unfold rdK; omega)) (fun j => g.1 41 j (by unfold rdK; omega))
set_option maxHeartbeats 200000 in
theorem NV.hd {m : Mem} {a : Int32} {w : Nat} (h : NV m) (h2 : m.1 0 74 = nI w) (h6 : w < 600) : NV (sp_hold m a) := by
  obtain ⟨k1, k2, k3, k4⟩ := hold_r (a := a) h2 h6
  exact h.of (k3 0 70 (by omega) (by omega)) (k3 0 31 (by omega) (by omega)) (fun j => k3 40 j (by omega) (by omega)) (fun j => k3 41 j (by omega) (by omega))
set_option maxHeartbeats 200000 in
theorem NV.nt {m : Mem} {a b : Int32} {n : Nat} (h : NV m) (h1 : m.1 0 70 = nI n) (h6 : n < 600) (hg : (a = 0 → ∃ x : Nat, x ≤ 9999 ∧ b = nI x) ∧ ((a = 1 ∨ a = 2) → ∃ x : Nat, x < nbx m ∧ b = nI x)) : NV (sp_note m a b) := by
  obtain ⟨k1, k2, k3, k4, k5⟩ := note_r (a := a) (b := b) h1 h6
  intro j hj
  rw [ntN_e k1 (by omega)] at hj
  have eb : nbx (sp_note m a b) = nbx m := by unfold nbx; rw [k4 0 31 (by omega) (by omega) (by omega)]
  unfold nvF
  rw [eb]
  by_cases e : j = n
  · rw [e, k2, k3]
    exact hg
  · rw [k4 40 j (by omega) (by omega) (by omega), k4 41 j (by omega) (by omega) (by omega)]
    exact h j (by rw [ntN_e h1 (by omega)]; omega)
set_option maxHeartbeats 200000 in
theorem NV.stl {m R : Mem} {a : Int32} {w n w' : Nat} (h : NV m) (s : Stl a w n m R w') (h1 : m.1 0 70 = nI n) (h6 : n + w ≤ 600) (hw : ∀ k, k < w → okW (m.1 46 k)) : NV R := by
  intro j hj
  rw [ntN_e s.2.2.1 (by omega)] at hj
  have eb : nbx R = nbx m := by unfold nbx; rw [s.2.2.2.2.1 0 31 (by omega) (by omega) (by omega)]
  unfold nvF
  rw [eb]
  by_cases q : j < n
  · obtain ⟨z0, z1⟩ := s.2.2.2.2.2.1 j q
    rw [z0, z1]
    exact h j (by rw [ntN_e h1 (by omega)]; exact q)
  · obtain ⟨z0, z1⟩ := s.2.2.2.2.2.2.1 (j - n) (by omega)
    rw [show n + (j - n) = j by omega] at z0
    have ok := okW_20 (hw (w - 1 - (j - n)) (by omega))
    rw [← z0] at ok
    refine ⟨fun z => ?_, fun z => ?_⟩
    · rw [z] at ok; exact absurd (by decide) ok
    · rcases z with z | z
      · rw [z] at ok; exact absurd (by decide) ok
      · rw [z] at ok; exact absurd (by decide) ok
set_option maxHeartbeats 200000 in
theorem nm_b {m : Mem} (h : ¬ sp_named m < 0) : ∃ x : Nat, x < nbx m ∧ sp_named m = nI x := by
  unfold sp_named at h ⊢
  rcases bxO_c (m.2.1 3) (m.2.1 0 9) (nbx m) with e | ⟨j, j1, j2, -⟩
  · rw [e] at h; exact absurd (by decide) h
  · exact ⟨j, j1, j2⟩
set_option maxHeartbeats 200000 in
theorem opK_x {M : Mem} (z : (opK M).1 0 2 = 0) : opK M = M ∧ isNm M ∧ ¬ sp_named M < 0 := by
  unfold opK at z ⊢
  by_cases y1 : isNm M
  · rw [if_pos y1] at z ⊢
    by_cases y2 : sp_named M < 0
    · rw [if_pos y2] at z
      exact absurd z (ps_0 (sp_spoil_2 (by decide)))
    · rw [if_neg y2]
      exact ⟨rfl, y1, y2⟩
  · rw [if_neg y1] at z
    exact absurd z (ps_0 (sp_spoil_2 (by decide)))
set_option maxHeartbeats 200000 in
theorem operand_n {β : Nat} {x : Int32} {m : Mem} (h : RuI β x m) (hk : KN m) (hv : NV m) (h0 : (sp_operand x m).2.1 0 2 = 0) : NV (sp_operand x m).2 ∧ KN (sp_operand x m).2 := by
  obtain ⟨t, hs, -, -, -, n, w, u, h1, h2, h3, hp, -⟩ := h
  have hp5 : plN m ≤ 500 := by have := t.2.2.2.2.1; omega
  have hvB : NV (opB m) := hv.of (opB_o (by decide)) (opB_o (by decide)) (fun j => wI_ne (Or.inl (by decide))) (fun j => wI_ne (Or.inl (by decide)))
  have nB : (opB m).1 0 70 = nI n := (opB_o (by decide)).trans h1
  have wB : (opB m).1 0 74 = nI w := (opB_o (by decide)).trans h2
  by_cases q : 0 < (opA x m).1 0 2
  · have e : sp_operand x m = (x, opA x m) := if_pos q
    rw [(pr_e e).2] at h0
    exact absurd h0 (ps_0 q)
  · obtain ⟨-, -, qn⟩ := opA_0 (Int32.not_lt.mp q)
    by_cases qN : opN x m
    · have e : sp_operand x m = (0, tkn (sp_hold m 22)) := (if_neg q).trans (if_pos qN)
      rw [(pr_e e).2]
      exact ⟨(hv.hd h2 (by omega)).rd Rd.rf.tk, KN_tk _⟩
    · have e : sp_operand x m = opR m := (if_neg q).trans (if_neg qN)
      by_cases q4 : (opB m).1 0 6 = 40
      · have e2 : opR m = (0, tkn (sp_hold (opB m) 30)) := if_pos q4
        rw [(pr_e (e.trans e2)).2]
        exact ⟨(hvB.hd wB (by omega)).rd Rd.rf.tk, KN_tk _⟩
      · have e2 : opR m = (2, hlT (opC m)) := if_neg q4
        rw [(pr_e (e.trans e2)).2] at h0 ⊢
        rw [hlT_2] at h0
        rw [hlT_0 h0]
        refine ⟨NV.rd ?_ Rd.rf.tk, KN_tk _⟩
        by_cases qL : isWd (opB m) 1818325876
        · have e3 : opC m = opL (tkn (opB m)) := if_pos qL
          rw [e3] at h0 ⊢
          unfold opL at h0 ⊢
          have r := (Rd.rf (μ := opB m)).tk
          have Kn : (opK (tkn (opB m))).1 0 70 = nI n := (Rd.oK.1 0 70 (by decide)).trans ((r.1 0 70 (by decide)).trans nB)
          obtain ⟨-, -, -, k4, -⟩ := note_r (a := 2) (b := sp_named (opK (tkn (opB m)))) Kn (by omega)
          rw [k4 0 2 (by omega) (by omega) (by omega)] at h0
          obtain ⟨y1, y2, y3⟩ := opK_x h0
          rw [y1] at Kn ⊢
          exact (hvB.rd r).nt Kn (by omega) ⟨fun z => absurd z (by decide), fun _ => nm_b y3⟩
        · have e3 : opC m = sp_note (opB m) (if isNm m then 1 else if (opB m).1 0 6 = 2 then 0 else 3) (if isNm m then sp_named (opB m) else (opB m).1 0 8) := if_neg qL
          rw [e3]
          refine hvB.nt nB (by omega) ?_
          by_cases y : isNm m
          · rw [if_pos y, if_pos y]
            have en : sp_named (opB m) = sp_named m := by
              unfold sp_named
              have eb : nbx (opB m) = nbx m := by unfold nbx; rw [opB_o (by decide)]
              rw [eb]
              rfl
            exact ⟨fun z => absurd z (by decide), fun _ => nm_b (fun z => qn ⟨y, by rw [← en]; exact z⟩)⟩
          · rw [if_neg y, if_neg y]
            by_cases y2 : (opB m).1 0 6 = 2
            · rw [if_pos y2]
              refine ⟨fun _ => ?_, fun z => absurd z (by decide)⟩
              rw [opB_o (by decide)] at y2 ⊢
              exact hk y2
            · rw [if_neg y2]
              exact ⟨fun z => absurd z (by decide), fun z => absurd z (by decide)⟩
set_option maxHeartbeats 200000 in
theorem sign_n {β : Nat} {m : Mem} (h : RuI β 2 m) (hv : NV m) (h0 : (sp_sign m).2.1 0 2 = 0) : NV (sp_sign m).2 ∧ KN (sp_sign m).2 := by
  obtain ⟨t, hs, -, -, -, n, w, u, h1, h2, h3, hp, hS⟩ := h
  have hp5 : plN m ≤ 500 := by have := t.2.2.2.2.1; omega
  rw [if_pos rfl] at hS
  have hset : ∀ a : Int32, NV (sp_settle m a) ∧ ∃ w' : Nat, w' ≤ w ∧ (sp_settle m a).1 0 74 = nI w' := by
    intro a
    obtain ⟨w', s1, -⟩ : ∃ w', Stl a w n m (sp_settle m a) w' ∧ SI β (n + (w - w')) w' u 1 (sp_settle m a) := by
      unfold sp_settle
      rw [wtN_e h2 (by omega)]
      exact SI.settle a w n m h2 h1 (by omega) hS
    exact ⟨hv.stl s1 h1 (by omega) hS.2.1, w', s1.1, s1.2.1⟩
  by_cases q : m.1 0 6 = 41 ∧ ¬ opQ (m.1 46) (wtN m) = 0
  · have e : sp_sign m = (2, tkn (sgD (sp_settle m 0))) := if_pos q
    rw [(pr_e e).2]
    have D : ∀ i j, ¬ (i = 0 ∧ (j = 74 ∨ j = 75)) → (sgD (sp_settle m 0)).1 i j = (sp_settle m 0).1 i j := fun i j hj => by unfold sgD; rw [wI_ne (by omega), wI_ne (by omega)]
    have g : NV (sgD (sp_settle m 0)) := (hset 0).1.of (D 0 70 (by omega)) (D 0 31 (by omega)) (fun j => D 40 j (by omega)) (fun j => D 41 j (by omega))
    exact ⟨g.rd Rd.rf.tk, KN_tk _⟩
  · by_cases q2 : sgW m < 0
    · have e : sp_sign m = (2, sp_spoil m 2) := (if_neg q).trans (if_pos q2)
      rw [(pr_e e).2] at h0
      exact absurd h0 (ps_0 (sp_spoil_2 (by decide)))
    · have e : sp_sign m = sgG m (sgW m) := (if_neg q).trans (if_neg q2)
      by_cases q3 : 0 < (sgE m (sgW m)).1 0 2
      · have e2 : sgG m (sgW m) = (2, sgE m (sgW m)) := if_pos q3
        rw [(pr_e (e.trans e2)).2] at h0
        exact absurd h0 (ps_0 q3)
      · have e2 : sgG m (sgW m) = (sgN (sgW m), tkn (sp_hold (sgE m (sgW m)) (sgW m))) := if_neg q3
        rw [(pr_e (e.trans e2)).2]
        have g : NV (sgE m (sgW m)) ∧ ∃ w' : Nat, w' ≤ w ∧ (sgE m (sgW m)).1 0 74 = nI w' := by
          unfold sgE
          by_cases rk : rkO (sgW m) = 23
          · rw [if_pos rk]
            obtain ⟨g1, w', g2, g3⟩ := hset 26
            have d : Rd (sp_settle m 26) (sgF (sp_settle m 26)) := Rd.sF
            exact ⟨g1.rd d, w', g2, (d.1 0 74 (by decide)).trans g3⟩
          · rw [if_neg rk]
            exact hset _
        obtain ⟨g1, w', g2, g3⟩ := g
        exact ⟨(g1.hd g3 (by omega)).rd Rd.rf.tk, KN_tk _⟩
set_option maxHeartbeats 200000 in
theorem rrS_n {β : Nat} {x : Int32} {m : Mem} (h : RuI β x m) (hk : KN m) (hv : NV m) (h0 : (rrS x m).2.1 0 2 = 0) : NV (rrS x m).2 ∧ KN (rrS x m).2 := by
  unfold rrS at h0 ⊢
  by_cases q : x = 2
  · rw [if_pos q] at h0 ⊢
    rw [q] at h
    exact sign_n h hv h0
  · rw [if_neg q] at h0 ⊢
    exact operand_n h hk hv h0
set_option maxHeartbeats 200000 in
theorem rrL_f {m : Mem} (h : ¬ m.1 0 2 = 0) (q : Nat) (x : Int32) : rrL q x m = m := by
  cases q with
  | zero => rfl
  | succ q => unfold rrL; exact if_neg (fun c => h c.1)
set_option maxHeartbeats 200000 in
theorem rrL_n {β : Nat} : ∀ (q : Nat) (x : Int32) (m : Mem), LpI β q x m → KN m → NV m → (rrL q x m).1 0 2 = 0 → NV (rrL q x m) := by
  intro q
  induction q with
  | zero => intro x m _ _ hv _; exact hv
  | succ q ih =>
    intro x m h hk hv h0
    unfold rrL at h0 ⊢
    by_cases c : m.1 0 2 = 0 ∧ ¬ rrE x m
    · rw [if_pos c] at h0 ⊢
      by_cases z : (rrS x m).2.1 0 2 = 0
      · obtain ⟨g1, g2⟩ := rrS_n (h.2 c.1).1 hk hv z
        exact ih _ _ (h.s c.1) g2 g1 h0
      · rw [rrL_f z] at h0
        exact absurd h0 z
    · rw [if_neg c]
      exact hv
set_option maxHeartbeats 200000 in
theorem KN_rA {m : Mem} (h : (rrA m).1 0 2 = 0) : KN (rrA m) := by
  unfold rrA at h ⊢
  rw [(want_F0 h).2.2]
  exact KN_tk _
set_option maxHeartbeats 200000 in
theorem KN_rB {m : Mem} (h : KN m) : KN (rrB m) := by
  have e : ∀ j, ¬ (j = 74 ∨ j = 75) → (rrB m).1 0 j = m.1 0 j := fun j hj => by unfold rrB; rw [wI_ne (by omega), wI_ne (by omega), wI_ne (by omega)]
  intro z
  rw [e 6 (by omega)] at z
  rw [e 8 (by omega)]
  exact h z
set_option maxHeartbeats 400000 in
theorem readRule_n {r : Nat} {m : Mem} (h : PrI r m) (hv : NV m) (hd : PD r m) : (sp_readRule m).1 0 2 = 0 → NV (sp_readRule m) ∧ PD (r + 1) (sp_readRule m) := by
  have hf0 : 0 ≤ m.1 0 2 := by rw [h.2.2.2.1]; decide
  have zA : Rz m (rrA m) := Rz.rf.r Rd.rA
  unfold sp_readRule
  split
  · rename_i q
    exact fun z => absurd z (ps_0 q)
  · rename_i qA
    have hA0 : (rrA m).1 0 2 = 0 := Fg.z (Fg.rA hf0) (Int32.not_lt.mp qA)
    obtain ⟨hr6, n, u0, b1, b2, b3, b4, b5, b6, b7, b8⟩ := rrB_s h hA0
    have zB : Rz m (rrB (rrA m)) := ⟨fun i j q q1 q2 q3 q4 q5 q6 => b6 i j q (by omega) (by omega), b7, b8⟩
    have hL : LpI n 502 0 (rrB (rrA m)) := ⟨by rw [b3.2.2.2.1]; decide, fun _ => ⟨b3, by omega⟩⟩
    obtain ⟨c1, c2, c3⟩ := rrL_s 502 0 (rrB (rrA m)) hL
    have eC : rrL 502 0 (rrB (rrA m)) = rrC m := rfl
    rw [eC] at c1 c2 c3
    have hNC := rrL_n 502 0 (rrB (rrA m)) hL (KN_rB (KN_rA hA0)) (hv.of (b6 0 70 (by decide) (by omega) (by omega)) (b6 0 31 (by decide) (by omega) (by omega)) (fun j => b6 40 j (by unfold rdK; omega) (by omega) (by omega)) (fun j => b6 41 j (by unfold rdK; omega) (by omega) (by omega)))
    rw [eC] at hNC
    have zC : Rz m (rrC m) := zB.q c2
    split
    · rename_i q
      exact fun z => absurd z (ps_0 q)
    · rename_i qC
      have hC0 : (rrC m).1 0 2 = 0 := Fg.z c1 (Int32.not_lt.mp qC)
      obtain ⟨d1, d2, d3⟩ := c3 hC0
      obtain ⟨-, -, -, -, h71, -, hn0, u00, p1, p2, p3, p4, p5, p6⟩ := h
      have en : hn0 = n := by
        have e := p1.symm.trans b1
        have := b2
        have := b3.1.2.2.2.2.1
        have := b3.2.1
        have hpl : plN m ≤ 500 := by omega
        exact (nI_eq (by omega) (by omega)).mp e
      subst en
      obtain ⟨t, hs, hb, hf, -, n1, w1, u1, e1, e2, e3, e4, e5⟩ := d1
      rw [if_pos rfl] at e5
      have hp5 : plN (rrC m) ≤ 500 := by have := t.2.2.2.2.1; omega
      obtain ⟨w', s1, s2⟩ : ∃ w', Stl 0 w1 n1 (rrC m) (sp_settle (rrC m) 0) w' ∧ SI hn0 (n1 + (w1 - w')) w' u1 1 (sp_settle (rrC m) 0) := by
        unfold sp_settle
        rw [wtN_e e2 (by omega)]
        exact SI.settle 0 w1 n1 (rrC m) e2 e1 (by omega) e5
      have hw0 : w' = 0 := by
        rcases s1.2.2.2.2.2.2.2.1 with z | z | z
        · exact z
        · rcases Nat.eq_zero_or_pos w' with y | y
          · exact y
          · have hd := d2.2.2
            rw [wtN_e e2 (by omega)] at hd
            exact absurd z (opQ_0 w1 hd (w' - 1) (by have := s1.1; omega))
        · rcases Nat.eq_zero_or_pos w' with y | y
          · exact y
          · exfalso
            have h20 := okW_20 (e5.2.1 (w' - 1) (by have := s1.1; omega))
            have g1 := i_lt.mp z
            exact h20 (i_lt.mpr (by have : (20 : Int32).toInt = 20 := rfl; have : (0 : Int32).toInt = 0 := rfl; omega))
      subst hw0
      rw [Nat.sub_zero] at s2
      have hbn : hn0 ≤ n1 := e5.1
      have hq := s1.2.2.2.2.1
      obtain ⟨t1, t2, t3, t4⟩ := t.stl s1
      have zS : Rz m (sp_settle (rrC m) 0) := zC.q (Rq.rf.stl s1 hbn)
      have eG : rrG m = hlS (hlT (rrF (rrW (tkn (sp_settle (rrC m) 0))))) := rfl
      have qS : Rq hn0 (rrB (rrA m)) (sp_settle (rrC m) 0) := c2.stl s1 hbn
      have hvS : plN (rrC m) < atN (rrC m) := t.2.2.2.2.2 (isWd_v d2.2.1).1 (isWd_v d2.2.1).2
      have hbS : WFb (sp_settle (rrC m) 0) := hb.of (hq 0 31 (by omega) (by omega) (by omega))
      have S2 : (sp_settle (rrC m) 0).1 0 2 = 0 := (hq 0 2 (by omega) (by omega) (by omega)).trans hC0
      have S71 : (sp_settle (rrC m) 0).1 0 71 = nI r := (qS.1 0 71 (by decide) (by decide) (by decide) (by omega)).trans ((b6 0 71 (by decide) (by omega) (by decide)).trans h71)
      have S73 : (sp_settle (rrC m) 0).1 0 73 = nI u1 := (hq 0 73 (by omega) (by omega) (by omega)).trans e3
      have S70 : (sp_settle (rrC m) 0).1 0 70 = nI (n1 + w1) := s1.2.2.1
      have qm : ∀ j, ¬ j = r → (sp_settle (rrC m) 0).1 42 j = m.1 42 j := fun j hj => (qS.1 42 j (by unfold rdK; omega) (by decide) (by omega) (by omega)).trans (b6 42 j (by unfold rdK; omega) (by omega) (by omega))
      have q42 : (sp_settle (rrC m) 0).1 42 r = nI hn0 := (qS.1 42 r (by unfold rdK; omega) (by decide) (by omega) (by omega)).trans b5
      have q48 : ∀ j, (sp_settle (rrC m) 0).1 48 j = m.1 48 j := fun j => (qS.1 48 j (by unfold rdK; omega) (by decide) (by omega) (by omega)).trans (b6 48 j (by unfold rdK; omega) (by omega) (by omega))
      have q40 : ∀ i j, (i = 40 ∨ i = 41) → j < hn0 → (sp_settle (rrC m) 0).1 i j = m.1 i j := fun i j hi hj => (qS.1 i j (by unfold rdK; omega) (by omega) (by omega) (by omega)).trans (b6 i j (by unfold rdK; omega) (by omega) (by omega))
      have eG : rrG m = hlS (hlT (rrF (rrW (tkn (sp_settle (rrC m) 0))))) := rfl
      have hNS : NV (sp_settle (rrC m) 0) := (hNC hC0).stl s1 e1 (by omega) e5.2.1
      clear qS e5 s1 hq c1 c2 c3 d2 d3 hNC
      generalize sp_settle (rrC m) 0 = S at *
      have zT : Rz m (tkn S) := zS.r Rd.rf.tk
      have T71 : (tkn S).1 0 71 = nI r := (tk_same (by decide)).trans S71
      have eW : rrW (tkn S) = wI (tkn S) 48 r (bz (isWd (tkn S) 7824756)) := by unfold rrW; rw [T71, nI_c (by omega)]
      have zV : Rz m (rrW (tkn S)) := zT.tr ⟨fun i j q q1 q2 q3 q4 q5 q6 => by rw [eW, wI_ne (by omega)], fun _ _ _ => by rw [eW]; rfl, by rw [eW]; rfl⟩
      have zG : Rz m (rrG m) := by rw [eG]; exact ((zV.r Rd.rF).r Rd.hT).r Rd.hS
      have fV : (rrW (tkn S)).1 0 2 = 0 := by rw [eW, wI_ne (by omega), tkn_2]; exact S2
      have fG : 0 ≤ (rrG m).1 0 2 := by rw [eG]; exact Fg.hS (Fg.hT (Fg.rF (by rw [fV]; decide)))
      split
      · rename_i q
        exact fun z => absurd z (ps_0 q)
      · rename_i qG
        have hG0 : (rrG m).1 0 2 = 0 := Fg.z fG (Int32.not_lt.mp qG)
        rw [eG] at hG0
        obtain ⟨g1, g2⟩ := hlS_0 hG0
        rw [g1] at hG0
        rw [hlT_2] at hG0
        obtain ⟨g3, g4⟩ := rrF_0 hG0
        rw [g3] at g1 g2
        rw [hlT_0 fV] at g1 g2
        have eX : rrG m = tkn (rrW (tkn S)) := by rw [eG, g3]; rw [hlT_0 fV]; exact g1
        obtain ⟨k1, k2, k3⟩ := t1.n
        have V0 : ∀ i j, ¬ (i = 48 ∧ j = r) → (rrW (tkn S)).1 i j = (tkn S).1 i j := fun i j hj => by rw [eW, wI_ne (by omega)]
        have V48 : (rrW (tkn S)).1 48 r = 0 ∨ (rrW (tkn S)).1 48 r = 1 := by rw [eW, wI_same]; exact bz_01 _
        clear eW eG
        generalize rrW (tkn S) = V at *
        obtain ⟨k4, k5, k6, k7⟩ := k1.of (m' := V) (funext fun j => V0 1 j (by omega)) (V0 0 4 (by omega)) (V0 0 5 (by omega)) (V0 0 6 (by omega)) (V0 0 7 (by omega))
        obtain ⟨k8, k9, k10⟩ := k4.n
        have hvV : plN V < atN V := by rcases g4 with z | z <;> exact k4.2.2.2.2.2 (isWd_v z).1 (isWd_v z).2
        have hvX : plN (tkn V) < atN (tkn V) := k8.2.2.2.2.2 (by rw [g2]; decide) (by rw [g2]; decide)
        rw [eX]
        obtain ⟨k11, k12, k13⟩ := k8.n
        have Y0 : ∀ i j, ¬ rdK i j → ¬ (i = 48 ∧ j = r) → (tkn (tkn V)).1 i j = S.1 i j := fun i j h1 h2 => (tk_same h1).trans ((tk_same h1).trans ((V0 i j h2).trans (tk_same h1)))
        have Y48 : (tkn (tkn V)).1 48 r = 0 ∨ (tkn (tkn V)).1 48 r = 1 := by rw [tk_same (by unfold rdK; omega), tk_same (by unfold rdK; omega)]; exact V48
        have zY : Rz m (tkn (tkn V)) := (zV.r Rd.rf.tk).r Rd.rf.tk
        have fY : (tkn (tkn V)).1 0 2 = 0 := by rw [tkn_2, tkn_2]; exact fV
        unfold rrZ
        generalize tkn (tkn V) = Y at *
        have Y71 : Y.1 0 71 = nI r := (Y0 0 71 (by decide) (by omega)).trans S71
        have Y70 : Y.1 0 70 = nI (n1 + w1) := (Y0 0 70 (by decide) (by omega)).trans S70
        rw [Y71, nI_1, nI_c (by omega), Y70]
        have Z0 : ∀ i j, ¬ (i = 0 ∧ j = 71) → ¬ (i = 42 ∧ j = r + 1) → (wI (wI Y 0 71 (nI (r + 1))) 42 (r + 1) (nI (n1 + w1))).1 i j = Y.1 i j := fun i j h1 h2 => by rw [wI_ne (by omega), wI_ne (by omega)]
        have Z71 : (wI (wI Y 0 71 (nI (r + 1))) 42 (r + 1) (nI (n1 + w1))).1 0 71 = nI (r + 1) := by rw [wI_ne (by omega), wI_same]
        have Z42 : (wI (wI Y 0 71 (nI (r + 1))) 42 (r + 1) (nI (n1 + w1))).1 42 (r + 1) = nI (n1 + w1) := wI_same
        have zZ : Rz m (wI (wI Y 0 71 (nI (r + 1))) 42 (r + 1) (nI (n1 + w1))) := zY.tr ⟨fun i j q q1 q2 q3 q4 q5 q6 => Z0 i j (by omega) (by omega), fun _ _ _ => rfl, rfl⟩
        generalize wI (wI Y 0 71 (nI (r + 1))) 42 (r + 1) (nI (n1 + w1)) = Z at *
        refine fun _ => ?_
        obtain ⟨k14, k15, k16, k17⟩ := k11.of (m' := Z) (funext fun j => Z0 1 j (by omega) (by omega)) (Z0 0 4 (by omega) (by omega)) (Z0 0 5 (by omega) (by omega)) (Z0 0 6 (by omega) (by omega)) (Z0 0 7 (by omega) (by omega))
        have ZS : ∀ i j, ¬ rdK i j → ¬ (i = 48 ∧ j = r) → ¬ (i = 0 ∧ j = 71) → ¬ (i = 42 ∧ j = r + 1) → Z.1 i j = S.1 i j := fun i j a1 a2 a3 a4 => (Z0 i j a3 a4).trans (Y0 i j a1 a2)
        refine ⟨?_, ?_⟩
        · intro j hj
          have en : ntN Z = n1 + w1 := ntN_e ((ZS 0 70 (by decide) (by omega) (by omega) (by omega)).trans S70) (by omega)
          have enS : ntN S = n1 + w1 := ntN_e S70 (by omega)
          rw [en] at hj
          have g := hNS j (by omega)
          have eb : nbx Z = nbx S := by unfold nbx; rw [ZS 0 31 (by decide) (by omega) (by omega) (by omega)]
          unfold nvF at g ⊢
          rw [ZS 40 j (by unfold rdK; omega) (by omega) (by omega) (by omega), ZS 41 j (by unfold rdK; omega) (by omega) (by omega) (by omega), eb]
          exact g
        · intro i hi b e eb ee hb6 he6
          by_cases ei : i = r
          · subst ei
            have y1 : b = hn0 := nI_inj5 (eb.symm.trans ((ZS 42 i (by unfold rdK; omega) (by omega) (by omega) (by omega)).trans q42)) hb6 (by omega)
            have y2 : e = n1 + w1 := nI_inj5 (ee.symm.trans Z42) he6 (by omega)
            rw [y1, y2, dpF_c (V := S.1 40) _ (fun j hj => ZS 40 _ (by unfold rdK; omega) (by omega) (by omega) (by omega)), s2.2.2.2.1]
            rfl
          · obtain ⟨b0, e0, o1, o2, o3, o4, -⟩ := p5 i (by omega)
            have z1 : Z.1 42 i = m.1 42 i := (ZS 42 i (by unfold rdK; omega) (by omega) (by omega) (by omega)).trans (qm i ei)
            have z2 : Z.1 42 (i + 1) = m.1 42 (i + 1) := by
              by_cases e9 : i + 1 = r
              · rw [e9, ZS 42 r (by unfold rdK; omega) (by omega) (by omega) (by omega), q42, p6 (by omega)]
              · exact (ZS 42 (i + 1) (by unfold rdK; omega) (by omega) (by omega) (by omega)).trans (qm (i + 1) e9)
            have y1 : b = b0 := nI_inj5 (eb.symm.trans (z1.trans o1)) hb6 (by omega)
            have y2 : e = e0 := nI_inj5 (ee.symm.trans (z2.trans o2)) he6 (by omega)
            rw [y1, y2, dpF_c (V := m.1 40) _ (fun j hj => (ZS 40 _ (by unfold rdK; omega) (by omega) (by omega) (by omega)).trans (q40 40 _ (Or.inl rfl) (by omega)))]
            exact hd i (by omega) b0 e0 o1 o2 (by omega) (by omega)
set_option maxHeartbeats 200000 in
theorem rlL_n : ∀ (q : Nat) (m : Mem), (m.1 0 2 = 0 → ∃ r, PrI r m ∧ NV m ∧ PD r m) → (rlL q m).1 0 2 = 0 → ∃ r, PrI r (rlL q m) ∧ NV (rlL q m) ∧ PD r (rlL q m) := by
  intro q
  induction q with
  | zero => intro m h h0; exact h h0
  | succ q ih =>
    intro m h h0
    unfold rlL at h0 ⊢
    by_cases c : m.1 0 2 = 0 ∧ ¬ m.1 0 6 = 0
    · rw [if_pos c] at h0 ⊢
      obtain ⟨r, h1, h2, h3⟩ := h c.1
      exact ih _ (fun z => ⟨r + 1, (readRule_s h1).2.2 z, readRule_n h1 h2 h3 z⟩) h0
    · rw [if_neg c] at h0 ⊢
      exact h h0
set_option maxHeartbeats 200000 in
theorem rl3_e {r : Nat} {m : Mem} (h : PrI r m) (hv : NV m) (hd : PD r m) : WFe (rl3 m) := by
  obtain ⟨-, s2, s3, -, s5, s6⟩ := rl3_s h
  obtain ⟨t, hs, -, -, -, hr6, n, u, p1, p2, p3, p4, p5, -⟩ := h
  have hp5 : plN m ≤ 500 := by have := t.2.2.2.2.1; omega
  have kr : rlN (rl3 m) = r := by unfold rlN; rw [s2]; exact nI_c (by omega)
  have hnt : ntN m = n := ntN_e p1 (by omega)
  have eb : nbx (rl3 m) = nbx m := by unfold nbx; rw [s3 0 31 (by omega) (by omega) (by omega) (by omega) (by omega)]
  refine fun i hi => ?_
  rw [kr] at hi
  obtain ⟨b, e, o1, o2, o3, o4, -⟩ := p5 i hi
  have hb : bgN (rl3 m) i = b := by unfold bgN; rw [(s6 i hi).1, o1]; exact nI_c (by omega)
  have he : bgN (rl3 m) (i + 1) = e := by unfold bgN; rw [(s6 i hi).2.1, o2]; exact nI_c (by omega)
  rw [hb, he, dpS_F]
  refine ⟨(dpF_c (V := m.1 40) _ (fun j hj => (s5 _ (by omega)).1)).trans (hd i hi b e o1 o2 (by omega) (by omega)), fun p q1 q2 => ?_⟩
  have g := hv p (by omega)
  unfold nvF at g
  rw [(s5 p (by omega)).1, (s5 p (by omega)).2, eb]
  exact g
set_option maxHeartbeats 200000 in
theorem rules_ks {σ : Mem} (ht : WFt σ) (hb : WFb σ) (h5 : ¬ 500 < σ.1 0 1) (h : WFk σ) (h0 : (rl2 σ).1 0 2 = 0) : WFk (rl3 (rl2 σ)) := by
  have hz := rl2_z ht hb h5
  have e70 := (rlA_70 (σ := σ)).1
  have hg : (rlL 7 (rlA σ)).1 0 2 = 0 → ∃ r, PrI r (rlL 7 (rlA σ)) ∧ NV (rlL 7 (rlA σ)) ∧ PD r (rlL 7 (rlA σ)) := rlL_n 7 (rlA σ) (fun y => by
    obtain ⟨r0, q1, q2⟩ := (rlA_s ht hb h5).2 y
    refine ⟨r0, q1, fun j hj => ?_, fun i hi => absurd hi (by omega)⟩
    have e : ntN (rlA σ) = 0 := ntN_e (n := 0) e70 (by omega)
    omega)
  have e2 : rlL 7 (rlA σ) = rl2 σ := by unfold rl2; rfl
  rw [e2] at hg
  obtain ⟨r, g1, g2, g3⟩ := hg h0
  obtain ⟨-, s2, s3, s4, s5, s6⟩ := rl3_s g1
  have o : ∀ i j, ¬ (i = 0 ∧ 1 ≤ j ∧ j ≤ 10) → ¬ (i = 0 ∧ 70 ≤ j ∧ j ≤ 75) → ¬ (40 ≤ i ∧ i ≤ 46) → ¬ (48 ≤ i ∧ i ≤ 49) → (rl3 (rl2 σ)).1 i j = σ.1 i j := fun i j q1 q2 q3 q4 => by
    rw [s3 i j (by omega) (by omega) (by omega) (by omega) (by omega), rl2_o hz q1 (by omega) (by omega) (by omega) (by omega)]
  have en : nbx (rl3 (rl2 σ)) = nbx σ := by unfold nbx; rw [o 0 31 (by omega) (by omega) (by omega) (by omega)]
  have el : ∀ j, (rl3 (rl2 σ)).2.1 3 j = σ.2.1 3 j := fun j => by rw [s4]; exact rl2_q hz
  obtain ⟨⟨a1, a2, -, a4⟩, a5⟩ := h
  refine ⟨⟨fun b hb h3 => ?_, fun d hd => ?_, rl3_e g1 g2 g3, fun a b ha hb e => ?_⟩, ?_⟩
  · rw [en] at hb
    rw [o 7 b (by omega) (by omega) (by omega) (by omega)] at h3
    rw [o 8 _ (by omega) (by omega) (by omega) (by omega), o 8 _ (by omega) (by omega) (by omega) (by omega)]
    exact a1 b hb h3
  · rw [o 19 d (by omega) (by omega) (by omega) (by omega)]
    exact a2 d hd
  · rw [en] at ha hb
    rw [el, el] at e
    exact a4 a b ha hb e
  · rw [o 0 43 (by omega) (by omega) (by omega) (by omega)]
    exact a5
set_option maxHeartbeats 200000 in
theorem rules_k {σ : Mem} (ht : WFt σ) (hb : WFb σ) (h : WFk σ) : WFk (sp_rules σ).2 := by
  by_cases h5 : 500 < σ.1 0 1
  · rw [(sp_rules_5 h5).2]
    exact h
  · by_cases q : 0 < (rl2 σ).1 0 2
    · rw [(sp_rules_f h5 q).2]
      exact rules_kf h (rl2_z ht hb h5)
    · rw [(sp_rules_s h5 q).2]
      have f := (rlL_s 7 _ (rlA_s ht hb h5)).1
      have e2 : rlL 7 (rlA σ) = rl2 σ := by unfold rl2; rfl
      rw [e2] at f
      exact rules_ks ht hb h5 h (Fg.z f (Int32.not_lt.mp q))

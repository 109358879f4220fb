/-! steps of the class -/
def adM (μ : Mem) (k v : Int32) : Mem := if μ.1 30 3 < 500 then wI (wI μ 33 (μ.1 30 3).toNatClampNeg (k <<< ((16 : Int32) &&& 31) ||| v)) 30 3 (μ.1 30 3 + 1) else μ
def CM (μ : Mem) : Prop := (∃ n : Nat, n ≤ 500 ∧ μ.1 30 3 = nI n) ∧ ∃ u : Nat, u ≤ 60 ∧ μ.1 35 3 = nI u
set_option maxHeartbeats 100000 in
set_option maxRecDepth 100000 in
theorem T_X6_addStep {l : Launch} {G : Wd} {k v : Int32} {μ : Mem} (hc : CM μ) : Mt l G KC yX6_addStep cX6_addStep 3 none 1 [.ref (gA G 30), .int k, .int v] μ (Qv (fun μ' => μ' = adM μ k v)) := by
  refine Mt.of (own := RX6) (n := 0) (by decide) rfl [some (.ref (gA G 30)), some (.int k), some (.int v)] rfl (Nat.le_of_ble_eq_true rfl) ?_
  refine A_aload0 dX6_addStep_0 ?_
  refine A_getI gf_X6_28 rfl dX6_addStep_1 ?_
  refine A_sipush (v := 500) dX6_addStep_4 (by decide) ?_
  refine A_icmp_ge (tgt := 35) dX6_addStep_7 (by decide) (fun c_7 => ?_) (fun c_7 => ?_)
  · refine A_vret dX6_addStep_35 ?_
    exact ⟨rfl, (if_neg (Int32.not_lt.mpr c_7)).symm⟩
  · obtain ⟨⟨n, hn, en⟩, -⟩ := hc
    have hlt : n < 500 := by
      rw [en] at c_7
      exact (nI_ltI (by omega) (by decide)).mp (Int32.not_le.mp c_7)
    refine A_aload0 dX6_addStep_10 ?_
    refine A_getR gf_X6_18 rfl dX6_addStep_11 ?_
    refine A_aload0 dX6_addStep_14 ?_
    refine A_getI gf_X6_28 rfl dX6_addStep_15 ?_
    refine A_iload1 dX6_addStep_18 ?_
    refine A_bipush (v := 16) dX6_addStep_19 (by decide) ?_
    refine A_ishl dX6_addStep_21 ?_
    refine A_iload2 dX6_addStep_22 ?_
    refine A_ior dX6_addStep_23 ?_
    refine A_iast (rfl) (by rw [en]; exact vp_in_nI hlt (by omega)) dX6_addStep_24 ?_
    refine A_aload0 dX6_addStep_25 ?_
    refine A_dup dX6_addStep_26 rfl ?_
    refine A_getI gf_X6_28 rfl dX6_addStep_27 ?_
    refine A_val (y := μ.1 30 3) (wI_ne (by omega)) ?_
    refine A_iconst (v := 1) dX6_addStep_30 (by decide) ?_
    refine A_iadd dX6_addStep_31 ?_
    refine A_putI gf_X6_28 rfl dX6_addStep_32 ?_
    refine A_vret dX6_addStep_35 ?_
    exact ⟨rfl, (if_pos (Int32.not_le.mp c_7)).symm⟩
set_option maxHeartbeats 200000 in
theorem adM_n {μ : Mem} {k v : Int32} {n : Nat} (h : μ.1 30 3 = nI n) (hn : n < 500) : adM μ k v = wI (wI μ 33 n (k <<< ((16 : Int32) &&& 31) ||| v)) 30 3 (nI (n + 1)) := by
  unfold adM
  rw [h, show (500 : Int32) = nI 500 from rfl, if_pos (nI_lt hn (by decide)), nI_c (by omega), nI_1]
set_option maxHeartbeats 200000 in
theorem adM_o {μ : Mem} {k v : Int32} {i j : Nat} (h1 : ¬ (i = 30 ∧ j = 3)) (h2 : i ≠ 33) : (adM μ k v).1 i j = μ.1 i j := by
  unfold adM
  split
  · rw [wI_ne (by omega), wI_ne (by omega)]
  · rfl
set_option maxHeartbeats 200000 in
theorem adM_2 {μ : Mem} {k v : Int32} : (adM μ k v).2 = μ.2 := by
  unfold adM
  split <;> rfl
set_option maxHeartbeats 200000 in
theorem CM.ad {μ : Mem} {k v : Int32} (h : CM μ) : CM (adM μ k v) := by
  obtain ⟨⟨n, hn, en⟩, u, hu, eu⟩ := h
  refine ⟨?_, u, hu, (adM_o (by omega) (by omega)).trans eu⟩
  by_cases c : n < 500
  · exact ⟨n + 1, by omega, by rw [adM_n en c, wI_same]⟩
  · refine ⟨n, hn, ?_⟩
    unfold adM
    rw [if_neg (by rw [en]; exact nI_nlt (a := n) (b := 500) (by omega) (by omega))]
    exact en
set_option maxHeartbeats 200000 in
theorem CM.f4 {a b : Mem} (h : CM a) (f : F4 a b) : CM b := by
  obtain ⟨⟨n, hn, en⟩, u, hu, eu⟩ := h
  exact ⟨⟨n, hn, (f.1 30 3 (by omega)).trans en⟩, u, hu, (f.1 35 3 (by omega)).trans eu⟩
set_option maxHeartbeats 200000 in
theorem TS.ad {G : Wd} {m μ : Mem} {k v : Int32} (h : TS G m μ) : TS G m (adM μ k v) := by
  unfold adM
  split
  · exact (h.cw (by omega)).cw (by omega)
  · exact h
/-- only the reader and what rules are made in have changed -/
def Fq (μ μ' : Mem) : Prop := (∀ i j, ¬ (i = 2 ∧ 4 ≤ j ∧ j ≤ 10) → ¬ (i = 30 ∧ j = 3) → i ≠ 33 → ¬ (i = 35 ∧ j = 3) → μ'.1 i j = μ.1 i j) ∧ (∀ i j, ¬ (i = 2 ∧ j = 8) → μ'.2.1 i j = μ.2.1 i j) ∧ μ'.2.2 = μ.2.2
set_option maxHeartbeats 200000 in
theorem Fq.rf {μ : Mem} : Fq μ μ := ⟨fun _ _ _ _ _ _ => rfl, fun _ _ _ => rfl, rfl⟩
set_option maxHeartbeats 200000 in
theorem Fq.tr {a b c : Mem} (h : Fq a b) (g : Fq b c) : Fq a c := ⟨fun i j q q1 q2 q3 => (g.1 i j q q1 q2 q3).trans (h.1 i j q q1 q2 q3), fun i j q => (g.2.1 i j q).trans (h.2.1 i j q), g.2.2.trans h.2.2⟩
set_option maxHeartbeats 200000 in
theorem F4.fq {a b : Mem} (h : F4 a b) : Fq a b := ⟨fun i j q _ _ _ => h.1 i j q, h.2.1, h.2.2⟩
set_option maxHeartbeats 200000 in
theorem Fq.ad {a b : Mem} {k v : Int32} (h : Fq a b) : Fq a (adM b k v) := h.tr ⟨fun i j _ q1 q2 _ => adM_o q1 q2, fun i j _ => by rw [adM_2], by rw [adM_2]⟩
/-! both rule readers side by side -/
/-- the class's steps are the reference's notes, once all that waits above w has gone to them -/
def SR (w : Nat) (m μ : Mem) : Prop := ∃ n t : Nat, m.1 0 70 = nI n ∧ m.1 0 74 = nI t ∧ w ≤ t ∧ n + t ≤ 500 ∧ μ.1 30 3 = nI (n + (t - w)) ∧ (∀ j, j < n → μ.1 33 j = stE (m.1 40 j) (m.1 41 j)) ∧ ∀ j, j < t - w → μ.1 33 (n + j) = stE (m.1 46 (t - 1 - j)) 0
def HN (m μ : Mem) : Prop := nbx m ≤ 5 ∧ m.1 0 31 = nI (nbx m) ∧ μ.1 4 0 = m.1 0 31 ∧ (∀ b, b < nbx m → NmR (μ.2.1 5 b) (m.2.1 3 b)) ∧ ∀ a b, a < nbx m → b < nbx m → m.2.1 3 a = m.2.1 3 b → a = b
set_option maxHeartbeats 200000 in
theorem HN.mv {m m' μ μ' : Mem} (h : HN m μ) (a : m'.1 0 31 = m.1 0 31) (al : ∀ j, m'.2.1 3 j = m.2.1 3 j) (c : μ'.1 4 0 = μ.1 4 0) (cl : ∀ j, μ'.2.1 5 j = μ.2.1 5 j) : HN m' μ' := by
  obtain ⟨h1, h2, h3, h4, h5⟩ := h
  have e : nbx m' = nbx m := by unfold nbx; rw [a]
  refine ⟨by omega, by rw [a, e]; exact h2, by rw [c, a]; exact h3, fun b hb => ?_, fun x y hx hy hxy => ?_⟩
  · rw [cl, al]; exact h4 b (by omega)
  · rw [al, al] at hxy; exact h5 x y (by omega) (by omega) hxy
set_option maxHeartbeats 200000 in
theorem HN.q {β : Nat} {m m' μ μ' : Mem} (h : HN m μ) (r : Rq β m m') (f : Fq μ μ') : HN m' μ' := h.mv (r.1 0 31 (by unfold rdK; omega) (by omega) (by omega) (by omega)) (fun j => r.2.1 3 j (by omega)) (f.1 4 0 (by omega) (by omega) (by omega) (by omega)) (fun j => f.2.1 5 j (by omega))
/-- at an operand: class and reference stand at one place, w wait, k levels are left -/
def IP (G : Wd) (β k : Nat) (x : Int32) (w : Nat) (m μ : Mem) : Prop := TS G m μ ∧ CM μ ∧ (m.1 0 2 = 0 → RuI β x m ∧ DI m ∧ m.1 0 74 = nI w ∧ SR w m μ ∧ cnW (m.1 46) w + k = 7 ∧ μ.1 35 3 = m.1 0 73 ∧ HN m μ)
/-- behind an operand, of level L over the base U of height w -/
def IB (G : Wd) (β k : Nat) (L : Int) (w : Nat) (U : Nat → Int32) (m μ : Mem) : Prop := TS G m μ ∧ CM μ ∧ (m.1 0 2 = 0 → RuI β 2 m ∧ DI m ∧ SR w m μ ∧ (∀ j, j < w → m.1 46 j = U j) ∧ (∀ j, w ≤ j → j < wtN m → L ≤ (m.1 46 j).toInt ∧ (m.1 46 j).toInt ≤ 28) ∧ cnW U w + k = 7 ∧ μ.1 35 3 = m.1 0 73 ∧ HN m μ)
def TC (L : Int) (w : Nat) (U : Nat → Int32) : Prop := w = 0 ∨ U (w - 1) = 30 ∨ (U (w - 1)).toInt < L
set_option maxHeartbeats 200000 in
theorem IB.lo {G : Wd} {β k w : Nat} {L M : Int} {U : Nat → Int32} {m μ : Mem} (h : IB G β k L w U m μ) (hM : M ≤ L) : IB G β k M w U m μ := by
  refine ⟨h.1, h.2.1, fun y => ?_⟩
  obtain ⟨a1, a2, a3, a4, a5, a6, a7, a8⟩ := h.2.2 y
  exact ⟨a1, a2, a3, a4, fun j j1 j2 => ⟨Int.le_trans hM (a5 j j1 j2).1, (a5 j j1 j2).2⟩, a6, a7, a8⟩
set_option maxHeartbeats 200000 in
theorem SR.t {w : Nat} {m μ : Mem} (h : SR w m μ) : ∃ n t : Nat, m.1 0 70 = nI n ∧ m.1 0 74 = nI t ∧ wtN m = t ∧ w ≤ t ∧ n + t ≤ 500 := by
  obtain ⟨n, t, h1, h2, h3, h4, -⟩ := h
  exact ⟨n, t, h1, h2, wtN_e h2 (by omega), h3, h4⟩
set_option maxHeartbeats 200000 in
theorem SR.c {w : Nat} {m μ μ' : Mem} (h : SR w m μ) (e3 : μ'.1 30 3 = μ.1 30 3) (e : ∀ j, μ'.1 33 j = μ.1 33 j) : SR w m μ' := by
  obtain ⟨n, t, h1, h2, h3, h4, h5, h6, h7⟩ := h
  exact ⟨n, t, h1, h2, h3, h4, by rw [e3]; exact h5, fun j hj => by rw [e]; exact h6 j hj, fun j hj => by rw [e]; exact h7 j hj⟩
set_option maxHeartbeats 200000 in
/-- settled down to the base: then nothing is pending -/
theorem SR.stl {a : Int32} {w : Nat} {m μ : Mem} (h : SR w m μ) (hs : ∀ n t : Nat, m.1 0 70 = nI n → m.1 0 74 = nI t → n + t ≤ 500 → w ≤ t → Stl a t n m (sp_settle m a) w) : SR w (sp_settle m a) μ ∧ (sp_settle m a).1 0 74 = nI w := by
  obtain ⟨n', t', g1, g2, g3, g4, g5, g6, g7⟩ := h
  obtain ⟨q1, q2, q3, q4, q5, q6, q7, q8, q9⟩ := hs n' t' g1 g2 g4 g3
  refine ⟨⟨n' + (t' - w), w, q3, q2, Nat.le_refl _, by omega, by rw [g5]; congr 1; omega, fun j hj => ?_, fun j hj => absurd hj (by omega)⟩, q2⟩
  rcases Nat.lt_or_ge j n' with c | c
  · rw [(q6 j c).1, (q6 j c).2]; exact g6 j c
  · obtain ⟨z1, z2⟩ := q7 (j - n') (by omega)
    rw [show n' + (j - n') = j by omega] at z1 z2
    rw [z1, z2]
    have g := g7 (j - n') (by omega)
    rw [show n' + (j - n') = j by omega] at g
    exact g
set_option maxHeartbeats 200000 in
theorem SR.hold {w : Nat} {v : Int32} {m μ : Mem} (h : SR w m μ) (h4 : m.1 0 74 = nI w) (hw : w < 500) (hb : ∃ n : Nat, m.1 0 70 = nI n ∧ n + w < 500) : SR (w + 1) (sp_hold m v) μ := by
  obtain ⟨n, t, g1, g2, g3, g4, g5, g6, g7⟩ := h
  obtain ⟨n2, k1, k2⟩ := hb
  have en : n = n2 := by
    have e := nI_c (n := n) (by omega)
    rw [← g1, k1, nI_c (by omega)] at e
    exact e.symm
  obtain ⟨r1, r2, r3, -⟩ := hold_r (a := v) h4 (by omega)
  have et : t = w := by
    have e := nI_c (n := t) (by omega)
    rw [← g2, h4, nI_c (by omega)] at e
    exact e.symm
  refine ⟨n, w + 1, (r3 0 70 (by omega) (by omega)).trans g1, r1, Nat.le_refl _, by omega, by rw [g5, et]; congr 1; omega, fun j hj => ?_, fun j hj => absurd hj (by omega)⟩
  rw [r3 40 j (by omega) (by omega), r3 41 j (by omega) (by omega)]
  exact g6 j hj
set_option maxHeartbeats 200000 in
theorem SR.rd {w : Nat} {m m' μ : Mem} (h : SR w m μ) (r : Rd m m') : SR w m' μ := by
  obtain ⟨n, t, g1, g2, g3, g4, g5, g6, g7⟩ := h
  refine ⟨n, t, (r.1 0 70 (by unfold rdK; omega)).trans g1, (r.1 0 74 (by unfold rdK; omega)).trans g2, g3, g4, g5, fun j hj => ?_, fun j hj => ?_⟩
  · rw [r.1 40 j (by unfold rdK; omega), r.1 41 j (by unfold rdK; omega)]; exact g6 j hj
  · rw [r.1 46 _ (by unfold rdK; omega)]; exact g7 j hj
set_option maxHeartbeats 200000 in
/-- the operator that waits lowest has its step now -/
theorem SR.fin {w : Nat} {v : Int32} {m μ : Mem} (h : SR (w + 1) m μ) (hv : m.1 46 w = v) (hk : ¬ (v = 0 ∨ v = 1 ∨ v = 2)) : SR w m (adM μ (kdE v) 0) := by
  obtain ⟨n, t, g1, g2, g3, g4, g5, g6, g7⟩ := h
  rw [adM_n g5 (by omega)]
  have es : stE v 0 = kdE v <<< ((16 : Int32) &&& 31) ||| 0 := by
    unfold stE
    rw [if_neg hk]
  refine ⟨n, t, g1, g2, by omega, g4, by rw [wI_same]; congr 1; omega, fun j hj => ?_, fun j hj => ?_⟩
  · rw [wI_ne (by omega), wI_ne (by omega)]; exact g6 j hj
  · rw [wI_ne (by omega)]
    rcases Nat.lt_or_ge j (t - (w + 1)) with c | c
    · rw [wI_ne (by omega)]; exact g7 j c
    · have ej : j = t - (w + 1) := by omega
      rw [ej, wI_same, show t - 1 - (t - (w + 1)) = w by omega, hv, es]

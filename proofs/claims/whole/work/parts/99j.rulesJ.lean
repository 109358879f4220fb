/-! oneRule -/
set_option maxHeartbeats 200000 in
theorem stQ_o (a : Int32) {i j : Nat} (h1 : i ≠ 40) (h2 : i ≠ 41) (h3 : ¬ (i = 0 ∧ (j = 70 ∨ j = 74 ∨ j = 75))) : ∀ (w : Nat) (m : Mem), (stQ a w m).1 i j = m.1 i j := by
  intro w
  induction w with
  | zero => intro m; rfl
  | succ w ih =>
    intro m
    unfold stQ
    split
    · rfl
    · rw [ih]
      unfold popAt sp_note
      rw [wI_ne (by omega), wI_ne (by omega), wI_ne (by omega)]
      exact ppA_r (by omega)
set_option maxHeartbeats 200000 in
theorem settle_o {a : Int32} {m : Mem} {i j : Nat} (h1 : i ≠ 40) (h2 : i ≠ 41) (h3 : ¬ (i = 0 ∧ (j = 70 ∨ j = 74 ∨ j = 75))) : (sp_settle m a).1 i j = m.1 i j := stQ_o a h1 h2 h3 _ m
set_option maxHeartbeats 200000 in
/-- what a rule that was read leaves, of what stood when its condition was settled -/
theorem rule_v {r : Nat} {m : Mem} (h : PrI r m) (hA : (rrA m).1 0 2 = 0) (y : (sp_readRule m).1 0 2 = 0) : (rrC m).1 0 2 = 0 ∧ (∀ i j, ¬ rdK i j → ¬ (i = 48 ∧ j = r) → ¬ (i = 0 ∧ j = 71) → ¬ (i = 42 ∧ j = r + 1) → (sp_readRule m).1 i j = (sp_settle (rrC m) 0).1 i j) ∧ (sp_readRule m).1 48 r = bz (isWd (tkn (sp_settle (rrC m) 0)) 7824756) ∧ (sp_readRule m).1 42 (r + 1) = (sp_settle (rrC m) 0).1 0 70 ∧ (∀ i j, ¬ rdK i j → ¬ (i = 42 ∧ j = r) → i ≠ 40 → i ≠ 41 → i ≠ 46 → ¬ (i = 0 ∧ (j = 70 ∨ j = 73 ∨ j = 74 ∨ j = 75)) → (sp_settle (rrC m) 0).1 i j = m.1 i j) ∧ r < 6 := by
  obtain ⟨hr6, n, u, b1, b2, b3, b4, b5, b6, b7, b8⟩ := rrB_s h hA
  have hA2 : ¬ 0 < (rrA m).1 0 2 := by rw [hA]; decide
  obtain ⟨l1, l2, -⟩ := rrL_s 502 0 (rrB (rrA m)) ((b3.lp (by omega)) : LpI n 502 0 (rrB (rrA m)))
  have eC : rrL 502 0 (rrB (rrA m)) = rrC m := rfl
  rw [eC] at l1 l2
  have fr : ∀ i j, ¬ rdK i j → ¬ (i = 42 ∧ j = r) → i ≠ 40 → i ≠ 41 → i ≠ 46 → ¬ (i = 0 ∧ (j = 70 ∨ j = 73 ∨ j = 74 ∨ j = 75)) → (sp_settle (rrC m) 0).1 i j = m.1 i j := fun i j k1 k2 k3 k4 k5 k6 => by
    rw [settle_o k3 k4 (by omega), l2.1 i j k1 k5 k6 (by omega), b6 i j k1 k2 (by omega)]
  have c0 : (rrC m).1 0 2 = 0 := by
    by_cases c : 0 < (rrC m).1 0 2
    · rw [show sp_readRule m = rrC m from (if_neg hA2).trans (if_pos c)] at y
      exact absurd y (ps_0 c)
    · exact Fg.z l1 (Int32.not_lt.mp c)
  have hC2 : ¬ 0 < (rrC m).1 0 2 := by rw [c0]; decide
  have g0 : ¬ 0 < (rrG m).1 0 2 := by
    intro c
    rw [show sp_readRule m = rrG m from (if_neg hA2).trans ((if_neg hC2).trans (if_pos c))] at y
    exact ps_0 c y
  have eR : sp_readRule m = rrZ (rrG m) := (if_neg hA2).trans ((if_neg hC2).trans (if_neg g0))
  have s71 : (sp_settle (rrC m) 0).1 0 71 = nI r := by
    rw [fr 0 71 (by unfold rdK; omega) (by omega) (by omega) (by omega) (by omega) (by omega)]
    exact h.2.2.2.2.1
  have hG : rrG m = hlS (hlT (rrF (rrW (tkn (sp_settle (rrC m) 0))))) := rfl
  rw [eR] at y ⊢
  generalize sp_settle (rrC m) 0 = S at fr s71 hG
  have yG : (rrG m).1 0 2 = 0 := by
    unfold rrZ at y
    rw [wI_ne (by omega), wI_ne (by omega), tkn_2] at y
    exact y
  have w71 : (tkn S).1 0 71 = nI r := (tk_same (by unfold rdK; omega)).trans s71
  have eW : rrW (tkn S) = wI (tkn S) 48 r (bz (isWd (tkn S) 7824756)) := by
    unfold rrW
    rw [w71, nI_c (by omega)]
  rw [hG] at yG
  obtain ⟨k1, -⟩ := hlS_0 yG
  rw [k1, hlT_2] at yG
  obtain ⟨k2, -⟩ := rrF_0 yG
  have eG : rrG m = tkn (wI (tkn S) 48 r (bz (isWd (tkn S) 7824756))) := by
    rw [hG, k1, k2, ← eW]
    rw [k2] at yG
    exact hlT_0 yG
  generalize hz : bz (isWd (tkn S) 7824756) = z at eG
  have key : ∀ i j, ¬ rdK i j → ¬ (i = 48 ∧ j = r) → (tkn (rrG m)).1 i j = S.1 i j := fun i j q1 q2 => by
    rw [tk_same q1, eG, tk_same q1, wI_ne (by omega), tk_same q1]
  have k48 : (tkn (rrG m)).1 48 r = z := by
    rw [tk_same (by unfold rdK; omega), eG, tk_same (by unfold rdK; omega), wI_same]
  have k71 : (tkn (rrG m)).1 0 71 = nI r := (key 0 71 (by unfold rdK; omega) (by omega)).trans s71
  refine ⟨c0, fun i j q1 q2 q3 q4 => ?_, ?_, ?_, fr, hr6⟩
  · unfold rrZ
    rw [k71, nI_1, nI_c (by omega), wI_ne (by omega), wI_ne (by omega)]
    exact key i j q1 q2
  · unfold rrZ
    rw [k71, nI_1, nI_c (by omega), wI_ne (by omega), wI_ne (by omega)]
    exact k48
  · unfold rrZ
    rw [k71, nI_1, nI_c (by omega), wI_same]
    exact key 0 70 (by unfold rdK; omega) (by omega)
def NTs (m μ : Mem) : Prop := ∃ n : Nat, m.1 0 70 = nI n ∧ n ≤ 500 ∧ μ.1 30 3 = nI n ∧ ∀ j, j < n → μ.1 33 j = stE (m.1 40 j) (m.1 41 j)
/-- between two rules -/
def RIx (G : Wd) (r : Nat) (m μ : Mem) : Prop := TS G m μ ∧ CM μ ∧ CC μ ∧ (m.1 0 2 = 0 → PrI r m ∧ μ.1 30 0 = nI r ∧ NTs m μ ∧ μ.1 35 3 = m.1 0 73 ∧ HN m μ ∧ (∀ i, i < r → μ.1 31 i = m.1 48 i ∧ μ.1 32 i = m.1 42 (i + 1)) ∧ (r = 0 → m.1 0 70 = 0) ∧ (0 < r → m.1 42 0 = 0))
set_option maxHeartbeats 200000 in
theorem rrA_t {r : Nat} {m : Mem} (h : PrI r m) (hr : r < 6) (hw : isWd m 26982) : rrA m = tkn m := by
  have h0 : m.1 0 2 = 0 := h.2.2.2.1
  unfold rrA
  rw [if_neg (by rw [h.2.2.2.2.1, show (6 : Int32) = nI 6 from rfl]; intro y; have := nI_inj5 y (by omega) (by omega); omega)]
  exact (if_neg (by rw [h0]; decide)).trans (if_pos hw)
set_option maxHeartbeats 200000 in
theorem rule_ip {r : Nat} {G : Wd} {m μ μ1 : Mem} (h : RIx G r m μ) (h0 : m.1 0 2 = 0) (hr : r < 6) (hw : isWd m 26982) (t1 : TS G (tkn m) μ1) (f1 : F4 μ μ1) : ∃ n, IP G n 7 0 0 (rrB (rrA m)) μ1 ∧ rrC m = RF 0 (rrB (rrA m)) ∧ (rrA m).1 0 2 = 0 := by
  obtain ⟨a1, a2, ⟨n0, c1, c2, c3, c4⟩, a4, a5, -⟩ := h.2.2.2 h0
  have eA := rrA_t a1 hr hw
  have hA : (rrA m).1 0 2 = 0 := by rw [eA, tkn_2]; exact h0
  obtain ⟨-, n, u, b1, b2, b3, b4, b5, b6, b7, b8⟩ := rrB_s a1 hA
  have e71 : (tkn m).1 0 71 = nI r := (tk_same (by unfold rdK; omega)).trans a1.2.2.2.2.1
  have en : n0 = n := nI_inj5 (c1.symm.trans b1) (by omega) (by have := a1.1.2.2.2.2.1; have := a1.2.1; omega)
  have mB : Mk (tkn m) (rrB (rrA m)) := by
    rw [eA]
    unfold rrB
    exact ((Mk.rf.w (by omega)).w (by omega)).w (by omega)
  have d75 : (rrB (rrA m)).1 0 75 = 0 := by unfold rrB; exact wI_same
  have d74 : (rrB (rrA m)).1 0 74 = nI 0 := by unfold rrB; rw [wI_ne (by omega), wI_same]; rfl
  have fr : ∀ i j, ¬ rdK i j → ¬ (i = 42 ∧ j = r) → ¬ (i = 0 ∧ (j = 74 ∨ j = 75)) → (rrB (rrA m)).1 i j = m.1 i j := b6
  refine ⟨n, ⟨t1.mv mB Ck.rf, h.2.1.f4 f1, fun _ => ⟨b3, ?_, d74, ⟨n, 0, (fr 0 70 (by unfold rdK; omega) (by omega) (by omega)).trans b1, d74, Nat.le_refl _, by omega, ?_, fun j hj => ?_, fun j hj => absurd hj (by omega)⟩, rfl, ?_, ?_⟩⟩, RF_C (b3.lp (by omega)), hA⟩
  · unfold DI
    rw [d75, wtN_e d74 (by omega)]
    rfl
  · rw [f1.1 30 3 (by omega), c3, en]
    rfl
  · rw [f1.1 33 j (by omega), fr 40 j (by unfold rdK; omega) (by omega) (by omega), fr 41 j (by unfold rdK; omega) (by omega) (by omega)]
    exact c4 j (by omega)
  · rw [f1.1 35 3 (by omega), fr 0 73 (by unfold rdK; omega) (by omega) (by omega)]
    exact a4
  · exact a5.mv (fr 0 31 (by unfold rdK; omega) (by omega) (by omega)) (fun j => b7 3 j (by omega)) (f1.1 4 0 (by omega)) (fun j => f1.2.1 5 j (by omega))
set_option maxHeartbeats 200000 in
theorem CC.e {a b : Mem} (h : CC a) (e : b.1 30 0 = a.1 30 0) : CC b := by
  obtain ⟨c, hc, ec⟩ := h
  exact ⟨c, hc, e.trans ec⟩
set_option maxHeartbeats 200000 in
theorem CM.cu {μ : Mem} {z : Int32} (h : CM μ) : CM (cuM μ z) := by
  obtain ⟨⟨n, hn, en⟩, u, hu, eu⟩ := h
  exact ⟨⟨n, hn, (cuM_o (by omega) (by omega)).trans en⟩, u, hu, (cuM_o (by omega) (by omega)).trans eu⟩
set_option maxHeartbeats 200000 in
/-- a rule is read: the relation between two rules again -/
theorem rule_ri {r β : Nat} {G : Wd} {m μ m2 μ2 μ5 : Mem} {U : Nat → Int32} {z : Int32} (h : RIx G r m μ) (h0 : m.1 0 2 = 0) (hA : (rrA m).1 0 2 = 0) (ib : IB G β 7 20 0 U m2 μ2) (hsay : (rrC m).1 0 2 = 0 → m2.1 0 2 = 0 ∧ rrC m = m2 ∧ (sayM m) = tkn (sp_settle m2 0) ∧ (∀ n t : Nat, m2.1 0 70 = nI n → m2.1 0 74 = nI t → n + t ≤ 500 → 0 ≤ t → Stl 0 t n m2 (sp_settle m2 0) 0)) (hz : (sayM m).1 0 2 = 0 → (if z = 0 then (0 : Int32) else 1) = bz (isWd (sayM m) 7824756)) (t5 : TS G (sp_readRule m) μ5) (fq : Fq μ μ5) (f5 : F4 μ2 μ5) : RIx G (r + 1) (sp_readRule m) (cuM μ5 z) := by
  have cc : CC μ5 := h.2.2.1.e (fq.1 30 0 (by omega) (by omega) (by omega) (by omega))
  refine ⟨t5.cu, (ib.2.1.f4 f5).cu, cc.cu, fun y => ?_⟩
  obtain ⟨a1, a2, a3, a4, a5, a6, a7, a8⟩ := h.2.2.2 h0
  obtain ⟨v1, v2, v3, v4, v5, v6⟩ := rule_v a1 hA y
  obtain ⟨s1, s2, s3, s4⟩ := hsay v1
  obtain ⟨p1, p2, p3⟩ := readRule_s a1
  obtain ⟨i1, i2, i3, i4, i5, i6, i7, i8⟩ := ib.2.2 s1
  obtain ⟨sr, sh⟩ := i3.stl s4
  have c0 : μ5.1 30 0 = nI r := (fq.1 30 0 (by omega) (by omega) (by omega) (by omega)).trans a2
  have eS : sp_settle (rrC m) 0 = sp_settle m2 0 := by rw [s2]
  rw [eS] at v2 v3 v4 v5
  obtain ⟨n, t, n1, n2, n3, n4, n5, n6, n7⟩ := sr
  have et : t = 0 := nI_inj5 (n2.symm.trans sh) (by omega) (by omega)
  have e70 : (sp_readRule m).1 0 70 = nI n := (v2 0 70 (by unfold rdK; omega) (by omega) (by omega) (by omega)).trans n1
  have k3 : μ5.1 30 3 = nI n := by
    rw [f5.1 30 3 (by omega), n5, et]
    rfl
  refine ⟨p3 y, by rw [cuM_n c0 v6, wI_same], ⟨n, e70, by omega, ?_, fun j hj => ?_⟩, ?_, ?_, fun i hi => ?_, fun q => absurd q (by omega), fun _ => ?_⟩
  · rw [cuM_o (by omega) (by omega)]; exact k3
  · rw [cuM_o (by omega) (by omega), f5.1 33 j (by omega), v2 40 j (by unfold rdK; omega) (by omega) (by omega) (by omega), v2 41 j (by unfold rdK; omega) (by omega) (by omega) (by omega)]
    exact n6 j hj
  · rw [cuM_o (by omega) (by omega), f5.1 35 3 (by omega), v2 0 73 (by unfold rdK; omega) (by omega) (by omega) (by omega), settle_o (by omega) (by omega) (by omega)]
    exact i7
  · refine a5.mv (p2.1 0 31 (by unfold rdK; omega) (by omega) (by omega) (by omega) (by omega) (by omega) (by omega)) (fun j => p2.2.1 3 j (by omega)) ?_ (fun j => ?_)
    · rw [cuM_o (by omega) (by omega)]; exact fq.1 4 0 (by omega) (by omega) (by omega) (by omega)
    · rw [cuM_2]; exact fq.2.1 5 j (by omega)
  · rw [cuM_n c0 v6]
    by_cases c : i = r
    · rw [c]
      refine ⟨?_, ?_⟩
      · rw [wI_ne (by omega), wI_ne (by omega), wI_same, v3, ← s3]
        refine hz ?_
        rw [s3, tkn_2, settle_o (by omega) (by omega) (by omega)]
        exact s1
      · rw [wI_ne (by omega), wI_same, v4, k3, n1]
    · obtain ⟨q1, q2⟩ := a6 i (by omega)
      rw [wI_ne (by omega), wI_ne (by omega), wI_ne (by omega), wI_ne (by omega), wI_ne (by omega), wI_ne (by omega), fq.1 31 i (by omega) (by omega) (by omega) (by omega), fq.1 32 i (by omega) (by omega) (by omega) (by omega), v2 48 i (by unfold rdK; omega) (by omega) (by omega) (by omega), v2 42 (i + 1) (by unfold rdK; omega) (by omega) (by omega) (by omega), v5 48 i (by unfold rdK; omega) (by omega) (by omega) (by omega) (by omega) (by omega)]
      refine ⟨q1, ?_⟩
      by_cases e : i + 1 = r
      · have b42 : (sp_settle m2 0).1 42 r = m.1 0 70 := by
          obtain ⟨-, n9, u9, b1, -, b3, -, b5, -⟩ := rrB_s a1 hA
          obtain ⟨-, l2, -⟩ := rrL_s 502 0 (rrB (rrA m)) ((b3.lp (by omega)) : LpI n9 502 0 (rrB (rrA m)))
          have eC : rrL 502 0 (rrB (rrA m)) = rrC m := rfl
          rw [eC, s2] at l2
          rw [settle_o (by omega) (by omega) (by omega), l2.1 42 r (by unfold rdK; omega) (by omega) (by omega) (by omega), b5, b1]
        rw [e, b42, q2, e]
        obtain ⟨-, -, -, -, -, -, nn, uu, g1, -, -, -, -, g6⟩ := a1
        rw [g6 (by omega), g1]
      · rw [v5 42 (i + 1) (by unfold rdK; omega) (by omega) (by omega) (by omega) (by omega) (by omega)]
        exact q2
  · by_cases c : r = 0
    · rw [v2 42 0 (by unfold rdK; omega) (by omega) (by omega) (by omega)]
      obtain ⟨-, n9, u9, b1, -, b3, -, b5, -⟩ := rrB_s a1 hA
      obtain ⟨-, l2, -⟩ := rrL_s 502 0 (rrB (rrA m)) ((b3.lp (by omega)) : LpI n9 502 0 (rrB (rrA m)))
      have eC : rrL 502 0 (rrB (rrA m)) = rrC m := rfl
      rw [eC, s2] at l2
      rw [c] at b5
      rw [settle_o (by omega) (by omega) (by omega), l2.1 42 0 (by unfold rdK; omega) (by omega) (by omega) (by omega), b5, ← b1]
      exact a7 c
    · rw [v2 42 0 (by unfold rdK; omega) (by omega) (by omega) (by omega), v5 42 0 (by unfold rdK; omega) (by omega) (by omega) (by omega) (by omega) (by omega)]
      exact a8 (by omega)
set_option maxHeartbeats 1000000 in
set_option maxRecDepth 100000 in
theorem T_X7_oneRule {l : Launch} {G : Wd} {r : Nat} {m μ : Mem} (hS : okS G) (h : RIx G r m μ) (h0 : m.1 0 2 = 0) (hr : r < 6) (hk : μ.1 2 5 = 145) : Mt l G KC yX7_oneRule cX7_oneRule 2 none 70 [.ref (gA G 35)] μ (Qv (fun μ' => Fy μ μ' ∧ RIx G (r + 1) (sp_readRule m) μ')) := by
  refine Mt.of (own := RX7) (n := 1) (by decide) rfl [some (.ref (gA G 35)), none] rfl (Nat.le_of_ble_eq_true rfl) ?_
  obtain ⟨-, -, wif⟩ := wt_s h.1 h0
  have hw : isWd m 26982 := wif.mpr hk
  have h3 : ¬ m.1 0 6 = 3 := by rw [hw.1]; decide
  have hcc := h.2.2.1
  refine A_aload0 dX7_oneRule_0 ?_
  refine A_getR gf_X7_9 rfl dX7_oneRule_1 ?_
  refine A_vv0 lk_X7_46 yv_X9_step dX7_oneRule_4 (rfl) (rfl) (T_step hS h.1 h0 h3) (by omega) (Nat.le_of_ble_eq_true rfl) (fun μ_4 h_4 => ?_)
  obtain ⟨t1, f1⟩ := h_4
  obtain ⟨n, ip, eC, hA0⟩ := rule_ip h h0 hr hw t1 f1
  refine A_aload0 dX7_oneRule_7 ?_
  refine A_iconst (v := 0) dX7_oneRule_8 (by decide) ?_
  refine A_val (y := nI (7 - 7)) rfl ?_
  refine A_vv1 lk_X7_49 yv_X7_either dX7_oneRule_9 (rfl) (rfl) ((gr_all hS 7).1 n 0 0 (rrB (rrA m)) μ_4 ip (fun _ => ⟨rfl, Or.inl rfl⟩)) (by omega) (Nat.le_of_ble_eq_true rfl) (fun μ_9 h_9 => ?_)
  obtain ⟨fq2, m2, e2, ib2, g2⟩ := h_9
  refine A_aload0 dX7_oneRule_12 ?_
  refine A_getR gf_X7_9 rfl dX7_oneRule_13 ?_
  refine A_sipush (v := 146) dX7_oneRule_16 (by decide) ?_
  refine A_val (y := nI (128 + 18)) (by decide) ?_
  refine A_vv1 lk_X7_53 yv_X9_take dX7_oneRule_19 (rfl) (rfl) (T_take_w (i := 18) hS ib2.1 (by decide)) (by omega) (Nat.le_of_ble_eq_true rfl) (fun μ_19 h_19 => ?_)
  have k19 := h_19
  rw [wd_18] at k19
  obtain ⟨tS, hsy⟩ := say_step (eC.trans e2) ib2 (fun y => (g2 y).2.2) k19.1
  have hC0 : 0 ≤ (rrC m).1 0 2 := by
    by_cases c : 0 < (rrC m).1 0 2
    · exact Int32.le_of_lt c
    · have e9 : sayM m = tkn (sp_settle (rrC m) 0) := if_neg c
      have h9 := tS.f0
      rw [e9, tkn_2, settle_o (by omega) (by omega) (by omega)] at h9
      exact h9
  refine A_aload0 dX7_oneRule_22 ?_
  refine A_getR gf_X7_9 rfl dX7_oneRule_23 ?_
  refine A_getI gf_X7_32 rfl dX7_oneRule_26 ?_
  refine A_sipush (v := 147) dX7_oneRule_29 (by decide) ?_
  refine A_icmp_ne (tgt := 39) dX7_oneRule_32 (by decide) (fun c_32 => ?_) (fun c_32 => ?_)
  · refine A_iconst (v := 0) dX7_oneRule_39 (by decide) ?_
    refine A_istore1 dX7_oneRule_40 rfl (by decide) ?_
    refine A_aload0 dX7_oneRule_41 ?_
    refine A_getR gf_X7_9 rfl dX7_oneRule_42 ?_
    refine A_iload1 dX7_oneRule_45 ?_
    refine A_if_eq (tgt := 55) dX7_oneRule_46 (by decide) (fun c_46 => ?_) (fun c_46 => absurd c_46 (not_not_intro rfl))
    refine A_sipush (v := 148) dX7_oneRule_55 (by decide) ?_
    refine A_vv1 lk_X7_53 yv_X9_take dX7_oneRule_58 (rfl) (rfl) (T_X9_take (x := 148) hS tS (by decide) (fun y1 y2 => by obtain ⟨w1, w2, -⟩ := wt_s tS y1; rw [(w2.mpr y2).1]; decide)) (by omega) (Nat.le_of_ble_eq_true rfl) (fun μ_58 h_58 => ?_)
    have tW : TS G (wetM (sayM m)) μ_58 := wet_step tS (if_neg c_32).symm h_58.2
    refine A_aload0 dX7_oneRule_61 ?_
    refine A_getR gf_X7_9 rfl dX7_oneRule_62 ?_
    refine A_bipush (v := 59) dX7_oneRule_65 (by decide) ?_
    refine A_vv1 lk_X7_53 yv_X9_take dX7_oneRule_67 (rfl) (rfl) (T_take_s hS tW) (by omega) (Nat.le_of_ble_eq_true rfl) (fun μ_67 h_67 => ?_)
    refine A_aload0 dX7_oneRule_70 ?_
    refine A_getR gf_X7_19 rfl dX7_oneRule_71 ?_
    refine A_iload1 dX7_oneRule_74 ?_
    refine A_vv1 lk_X7_56 yv_X6_close dX7_oneRule_75 (rfl) (rfl) (T_X6_close (hcc.e ((((h_67.2.1 30 0 (by omega)).trans (h_58.1.1 30 0 (by omega))).trans ((k19.2.1 30 0 (by omega)).trans (fq2.1 30 0 (by omega) (by omega) (by omega) (by omega)))).trans (f1.1 30 0 (by omega))))) (by omega) (Nat.le_of_ble_eq_true rfl) (fun μ_75 h_75 => ?_)
    refine A_vret dX7_oneRule_78 ?_
    have hcl : TS G (sp_readRule m) μ_67 := rule_end (by rw [hA0]; decide) hC0 h_67.1
    subst h_75
    have fqa : Fq μ μ_67 := (((f1.fq.tr fq2).tr k19.2.fq).tr h_58.1.fq).tr h_67.2.fq
    have f4a : F4 μ_9 μ_67 := (k19.2.tr h_58.1).tr h_67.2
    refine ⟨rfl, fqa.fy.cu, rule_ri h h0 hA0 ib2 hsy (fun y => ?_) hcl fqa f4a⟩
    obtain ⟨w1, -⟩ := wt_s tS y
    rw [if_pos rfl]
    exact (bz_f (fun q => c_32 (w1.mp q))).symm
  · refine A_iconst (v := 1) dX7_oneRule_35 (by decide) ?_
    refine A_goto (tgt := 40) dX7_oneRule_36 (by decide) ?_
    refine A_istore1 dX7_oneRule_40 rfl (by decide) ?_
    refine A_aload0 dX7_oneRule_41 ?_
    refine A_getR gf_X7_9 rfl dX7_oneRule_42 ?_
    refine A_iload1 dX7_oneRule_45 ?_
    refine A_if_eq (tgt := 55) dX7_oneRule_46 (by decide) (fun c_46 => absurd c_46 (by decide)) (fun c_46 => ?_)
    refine A_sipush (v := 147) dX7_oneRule_49 (by decide) ?_
    refine A_goto (tgt := 58) dX7_oneRule_52 (by decide) ?_
    refine A_vv1 lk_X7_53 yv_X9_take dX7_oneRule_58 (rfl) (rfl) (T_X9_take (x := 147) hS tS (by decide) (fun y1 y2 => by obtain ⟨w1, w2, -⟩ := wt_s tS y1; rw [(w1.mpr y2).1]; decide)) (by omega) (Nat.le_of_ble_eq_true rfl) (fun μ_58 h_58 => ?_)
    have tW : TS G (wetM (sayM m)) μ_58 := wet_step tS (if_pos c_32).symm h_58.2
    refine A_aload0 dX7_oneRule_61 ?_
    refine A_getR gf_X7_9 rfl dX7_oneRule_62 ?_
    refine A_bipush (v := 59) dX7_oneRule_65 (by decide) ?_
    refine A_vv1 lk_X7_53 yv_X9_take dX7_oneRule_67 (rfl) (rfl) (T_take_s hS tW) (by omega) (Nat.le_of_ble_eq_true rfl) (fun μ_67 h_67 => ?_)
    refine A_aload0 dX7_oneRule_70 ?_
    refine A_getR gf_X7_19 rfl dX7_oneRule_71 ?_
    refine A_iload1 dX7_oneRule_74 ?_
    refine A_vv1 lk_X7_56 yv_X6_close dX7_oneRule_75 (rfl) (rfl) (T_X6_close (hcc.e ((((h_67.2.1 30 0 (by omega)).trans (h_58.1.1 30 0 (by omega))).trans ((k19.2.1 30 0 (by omega)).trans (fq2.1 30 0 (by omega) (by omega) (by omega) (by omega)))).trans (f1.1 30 0 (by omega))))) (by omega) (Nat.le_of_ble_eq_true rfl) (fun μ_75 h_75 => ?_)
    refine A_vret dX7_oneRule_78 ?_
    have hcl : TS G (sp_readRule m) μ_67 := rule_end (by rw [hA0]; decide) hC0 h_67.1
    subst h_75
    have fqa : Fq μ μ_67 := (((f1.fq.tr fq2).tr k19.2.fq).tr h_58.1.fq).tr h_67.2.fq
    have f4a : F4 μ_9 μ_67 := (k19.2.tr h_58.1).tr h_67.2
    refine ⟨rfl, fqa.fy.cu, rule_ri h h0 hA0 ib2 hsy (fun y => ?_) hcl fqa f4a⟩
    obtain ⟨w1, -⟩ := wt_s tS y
    rw [if_neg (by decide)]
    exact (bz_t (w1.mpr c_32)).symm

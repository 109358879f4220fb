/-! all rules -/
set_option maxHeartbeats 200000 in
theorem rule_no {r : Nat} {m : Mem} (h : PrI r m) (hb : ¬ (isWd m 26982 ∧ r < 6)) : sp_readRule m = sp_spoil m 2 := by
  have h0 : m.1 0 2 = 0 := h.2.2.2.1
  have hp : 0 < (sp_spoil m 2).1 0 2 := sp_spoil_2 (by decide)
  have e : rrA m = sp_spoil m 2 := by
    unfold rrA
    by_cases c : m.1 0 71 = 6
    · rw [if_pos c]
      exact if_pos hp
    · rw [if_neg c]
      refine (if_neg (by rw [h0]; decide)).trans (if_neg (fun y => hb ⟨y, ?_⟩))
      rcases Nat.lt_or_ge r 6 with z | z
      · exact z
      · have e6 : r = 6 := by have := h.2.2.2.2.2.1; omega
        exact absurd (by rw [h.2.2.2.2.1, e6]; rfl) c
  unfold sp_readRule
  rw [e, if_pos hp]
set_option maxHeartbeats 400000 in
set_option maxRecDepth 100000 in
theorem L_X7_parse_14 {l : Launch} {G : Wd} {d : Nat} {M : Mem} {Q : Option Value → Mem → Prop} (hS : okS G) (hd : 70 < d) : ∀ (q n r : Nat) (m μ : Mem), n + q = 7 → RIx G r m μ → Fy M μ → (m.1 0 2 = 0 → r + q = 7) → (∀ (x : Int32) (r2 : Nat) (μ2 : Mem), RIx G r2 (rlL q m) μ2 → Fy M μ2 → AW l G KC RX7 cX7_parse 2 d none Q 76 [some (.ref (gA G 35)), some (.int x)] [] μ2) → AW l G KC RX7 cX7_parse 2 d none Q 14 [some (.ref (gA G 35)), some (.int (nI n))] [] μ := by
  intro q
  induction q with
  | zero =>
    intro n r m μ hn h hf hr hk
    have e5 : μ.1 2 5 = 0 := (h.1.en (fun y => by
      have h1 := hr y
      have h2 := (h.2.2.2 y).1.2.2.2.2.2.1
      omega)).1
    refine A_iload1 dX7_parse_14 ?_
    refine A_sipush (v := 500) dX7_parse_15 (by decide) ?_
    refine A_icmp_ge (tgt := 76) dX7_parse_18 (by decide) (fun c_18 => absurd c_18 (nI_ge (a := n) (b := 500) (by omega) (by decide))) (fun c_18 => ?_)
    refine A_aload0 dX7_parse_21 ?_
    refine A_getR gf_X7_9 rfl dX7_parse_22 ?_
    refine A_getI gf_X7_32 rfl dX7_parse_25 ?_
    refine A_if_eq (tgt := 76) dX7_parse_28 (by decide) (fun c_28 => ?_) (fun c_28 => absurd c_28 (not_not_intro e5))
    exact hk _ r μ h hf
  | succ q ih =>
    intro n r m μ hn h hf hr hk
    by_cases e5 : μ.1 2 5 = 0
    · refine A_iload1 dX7_parse_14 ?_
      refine A_sipush (v := 500) dX7_parse_15 (by decide) ?_
      refine A_icmp_ge (tgt := 76) dX7_parse_18 (by decide) (fun c_18 => absurd c_18 (nI_ge (a := n) (b := 500) (by omega) (by decide))) (fun c_18 => ?_)
      refine A_aload0 dX7_parse_21 ?_
      refine A_getR gf_X7_9 rfl dX7_parse_22 ?_
      refine A_getI gf_X7_32 rfl dX7_parse_25 ?_
      refine A_if_eq (tgt := 76) dX7_parse_28 (by decide) (fun c_28 => ?_) (fun c_28 => absurd c_28 (not_not_intro e5))
      have eL : rlL (q + 1) m = m := if_neg (fun y => y.2 ((h.1.kr y.1).k0.mpr e5))
      exact hk _ r μ (by rw [eL]; exact h) hf
    · have h0 := h.1.no e5
      have hs0 : ¬ m.1 0 6 = 0 := fun y => e5 ((h.1.kr h0).k0.mp y)
      have eL : rlL (q + 1) m = rlL q (sp_readRule m) := if_pos ⟨h0, hs0⟩
      have hrq := hr h0
      obtain ⟨a1, a2, -⟩ := h.2.2.2 h0
      have hr6 := a1.2.2.2.2.2.1
      obtain ⟨-, -, wif⟩ := wt_s h.1 h0
      have hgo : ∀ (r1 : Nat) (μ1 : Mem), RIx G r1 (sp_readRule m) μ1 → ((sp_readRule m).1 0 2 = 0 → r1 = r + 1) → Fy μ μ1 → AW l G KC RX7 cX7_parse 2 d none Q 14 [some (.ref (gA G 35)), some (.int (nI (n + 1)))] [] μ1 := by
        intro r1 μ1 h1 e1 f1
        exact ih (n + 1) r1 (sp_readRule m) μ1 (by omega) h1 (hf.tr f1) (fun z => by have := e1 z; omega) (fun x r2 μ2 h2 f2 => hk x r2 μ2 (by rw [eL]; exact h2) f2)
      refine A_iload1 dX7_parse_14 ?_
      refine A_sipush (v := 500) dX7_parse_15 (by decide) ?_
      refine A_icmp_ge (tgt := 76) dX7_parse_18 (by decide) (fun c_18 => absurd c_18 (nI_ge (a := n) (b := 500) (by omega) (by decide))) (fun c_18 => ?_)
      refine A_aload0 dX7_parse_21 ?_
      refine A_getR gf_X7_9 rfl dX7_parse_22 ?_
      refine A_getI gf_X7_32 rfl dX7_parse_25 ?_
      refine A_if_eq (tgt := 76) dX7_parse_28 (by decide) (fun c_28 => absurd c_28 (e5)) (fun c_28 => ?_)
      refine A_aload0 dX7_parse_31 ?_
      refine A_getR gf_X7_9 rfl dX7_parse_32 ?_
      refine A_getI gf_X7_32 rfl dX7_parse_35 ?_
      refine A_sipush (v := 145) dX7_parse_38 (by decide) ?_
      refine A_icmp_ne (tgt := 56) dX7_parse_41 (by decide) (fun c_41 => ?_) (fun c_41 => ?_)
      · refine A_aload0 dX7_parse_56 ?_
        refine A_getR gf_X7_9 rfl dX7_parse_57 ?_
        refine A_vv0 lk_X7_40 yv_X9_refuse dX7_parse_60 (rfl) (rfl) (T_refuse h.1) (by omega) (Nat.le_of_ble_eq_true rfl) (fun μ_60 h_60 => ?_)
        refine A_goto (tgt := 70) dX7_parse_63 (by decide) ?_
        refine A_iinc1 dX7_parse_70 rfl rfl (by decide) ?_
        rw [show nI n + Int32.ofInt 1 = nI (n + 1) from nI_1 n]
        refine A_goto (tgt := 14) dX7_parse_73 (by decide) ?_
        have eR := rule_no a1 (fun y => c_41 (wif.mp y.1))
        have h9 : RIx G r (sp_readRule m) μ_60 := by
          rw [eR]
          exact ⟨h_60.1, h.2.1.f4 h_60.2, h.2.2.1.e (h_60.2.1 30 0 (by omega)), fun y => absurd y (ps_0 (sp_spoil_2 (by decide)))⟩
        exact hgo r μ_60 h9 (fun y => by rw [eR] at y; exact absurd y (ps_0 (sp_spoil_2 (by decide)))) h_60.2.fq.fy
      · refine A_aload0 dX7_parse_44 ?_
        refine A_getR gf_X7_19 rfl dX7_parse_45 ?_
        refine A_getI gf_X7_37 rfl dX7_parse_48 ?_
        refine A_bipush (v := 6) dX7_parse_51 (by decide) ?_
        refine A_icmp_lt (tgt := 66) dX7_parse_53 (by decide) (fun c_53 => ?_) (fun c_53 => ?_)
        · refine A_aload0 dX7_parse_66 ?_
          refine A_vv0 lk_X7_43 yv_X7_oneRule dX7_parse_67 (rfl) (rfl) (T_X7_oneRule hS h h0 (by rw [a2] at c_53; exact (nI_ltI (b := 6) (by omega) (by decide)).mp c_53) c_41) (hd) (Nat.le_of_ble_eq_true rfl) (fun μ_67 h_67 => ?_)
          refine A_iinc1 dX7_parse_70 rfl rfl (by decide) ?_
          rw [show nI n + Int32.ofInt 1 = nI (n + 1) from nI_1 n]
          refine A_goto (tgt := 14) dX7_parse_73 (by decide) ?_
          exact hgo (r + 1) μ_67 h_67.2 (fun _ => rfl) h_67.1
        · refine A_aload0 dX7_parse_56 ?_
          refine A_getR gf_X7_9 rfl dX7_parse_57 ?_
          refine A_vv0 lk_X7_40 yv_X9_refuse dX7_parse_60 (rfl) (rfl) (T_refuse h.1) (by omega) (Nat.le_of_ble_eq_true rfl) (fun μ_60 h_60 => ?_)
          refine A_goto (tgt := 70) dX7_parse_63 (by decide) ?_
          refine A_iinc1 dX7_parse_70 rfl rfl (by decide) ?_
          rw [show nI n + Int32.ofInt 1 = nI (n + 1) from nI_1 n]
          refine A_goto (tgt := 14) dX7_parse_73 (by decide) ?_
          have eR := rule_no a1 (fun y => c_53 (by rw [a2]; exact nI_lt (b := 6) y.2 (by decide)))
          have h9 : RIx G r (sp_readRule m) μ_60 := by
            rw [eR]
            exact ⟨h_60.1, h.2.1.f4 h_60.2, h.2.2.1.e (h_60.2.1 30 0 (by omega)), fun y => absurd y (ps_0 (sp_spoil_2 (by decide)))⟩
          exact hgo r μ_60 h9 (fun y => by rw [eR] at y; exact absurd y (ps_0 (sp_spoil_2 (by decide)))) h_60.2.fq.fy
set_option maxHeartbeats 100000 in
set_option maxRecDepth 100000 in
theorem T_X7_parse {l : Launch} {G : Wd} {m μ : Mem} (hS : okS G) (hI : RIx G 0 m (wI (wI (wI μ 30 0 0) 30 3 0) 35 3 0)) : Mt l G KC yX7_parse cX7_parse 2 none 71 [.ref (gA G 35)] μ (Qv (fun μ' => Fy μ μ' ∧ ∃ r, RIx G r (rlL 7 m) μ')) := by
  refine Mt.of (own := RX7) (n := 1) (by decide) rfl [some (.ref (gA G 35)), none] rfl (Nat.le_of_ble_eq_true rfl) ?_
  refine A_aload0 dX7_parse_0 ?_
  refine A_getR gf_X7_19 rfl dX7_parse_1 ?_
  refine A_vv0 lk_X7_23 yv_X6_clear dX7_parse_4 (rfl) (rfl) (T_X6_clear_30) (by omega) (Nat.le_of_ble_eq_true rfl) (fun μ_4 h_4 => ?_)
  subst h_4
  refine A_aload0 dX7_parse_7 ?_
  refine A_iconst (v := 0) dX7_parse_8 (by decide) ?_
  refine A_putI gf_X7_28 rfl dX7_parse_9 ?_
  refine A_iconst (v := 0) dX7_parse_12 (by decide) ?_
  refine A_istore1 dX7_parse_13 rfl (by decide) ?_
  refine L_X7_parse_14 (M := μ) hS (by omega) 7 0 0 m _ (by omega) hI ⟨fun i j q1 q2 q3 => ?_, fun _ _ _ => rfl, rfl⟩ (fun _ => by omega) (fun x r2 μ2 h2 f2 => ?_)
  · rw [wI_ne (by omega), wI_ne (by omega), wI_ne (by omega)]
  · refine A_vret dX7_parse_76 ?_
    exact ⟨rfl, f2, r2, h2⟩
def bcR (μ : Mem) : Mem := cpI (cpI (cpI (wI (wI μ 25 0 (μ.1 30 0)) 25 3 (μ.1 30 3)) 31 26 6) 32 27 6) 33 28 500
set_option maxHeartbeats 400000 in
set_option maxRecDepth 100000 in
theorem T_X6_become {l : Launch} {G : Wd} {μ : Mem}  : Mt l G KC yX6_become cX6_become 2 none 2 [.ref (gA G 25), .ref (gA G 30)] μ (Qv (fun μ' => μ' = bcR μ)) := by
  refine Mt.of (own := RX6) (n := 0) (by decide) rfl [some (.ref (gA G 25)), some (.ref (gA G 30))] rfl (Nat.le_of_ble_eq_true rfl) ?_
  refine A_aload0 dX6_become_0 ?_
  refine A_aload1 dX6_become_1 ?_
  refine A_getI gf_X6_24 rfl dX6_become_2 ?_
  refine A_putI gf_X6_24 rfl dX6_become_5 ?_
  refine A_aload0 dX6_become_8 ?_
  refine A_aload1 dX6_become_9 ?_
  refine A_getI gf_X6_28 rfl dX6_become_10 ?_
  refine A_val (y := μ.1 30 3) (wI_ne (by omega)) ?_
  refine A_putI gf_X6_28 rfl dX6_become_13 ?_
  refine A_aload1 dX6_become_16 ?_
  refine A_getR gf_X6_11 rfl dX6_become_17 ?_
  refine A_iconst (v := 0) dX6_become_20 (by decide) ?_
  refine A_aload0 dX6_become_21 ?_
  refine A_getR gf_X6_11 rfl dX6_become_22 ?_
  refine A_iconst (v := 0) dX6_become_25 (by decide) ?_
  refine A_bipush (v := 6) dX6_become_26 (by decide) ?_
  refine A_cpI (k := 6) ac_X6 (by decide) (by decide) rfl rfl (by decide) (by decide) (by decide) (Nat.le_of_ble_eq_true rfl) dX6_become_28 ?_
  refine A_aload1 dX6_become_31 ?_
  refine A_getR gf_X6_15 rfl dX6_become_32 ?_
  refine A_iconst (v := 0) dX6_become_35 (by decide) ?_
  refine A_aload0 dX6_become_36 ?_
  refine A_getR gf_X6_15 rfl dX6_become_37 ?_
  refine A_iconst (v := 0) dX6_become_40 (by decide) ?_
  refine A_bipush (v := 6) dX6_become_41 (by decide) ?_
  refine A_cpI (k := 6) ac_X6 (by decide) (by decide) rfl rfl (by decide) (by decide) (by decide) (Nat.le_of_ble_eq_true rfl) dX6_become_43 ?_
  refine A_aload1 dX6_become_46 ?_
  refine A_getR gf_X6_18 rfl dX6_become_47 ?_
  refine A_iconst (v := 0) dX6_become_50 (by decide) ?_
  refine A_aload0 dX6_become_51 ?_
  refine A_getR gf_X6_18 rfl dX6_become_52 ?_
  refine A_iconst (v := 0) dX6_become_55 (by decide) ?_
  refine A_sipush (v := 500) dX6_become_56 (by decide) ?_
  refine A_cpI (k := 500) ac_X6 (by decide) (by decide) rfl rfl (by decide) (by decide) (by decide) (Nat.le_of_ble_eq_true rfl) dX6_become_59 ?_
  refine A_vret dX6_become_62 ?_
  exact ⟨rfl, rfl⟩
set_option maxHeartbeats 200000 in
theorem bcR_26 {μ : Mem} {j : Nat} (h : j < 6) : (bcR μ).1 26 j = μ.1 31 j ∧ (bcR μ).1 27 j = μ.1 32 j := by
  unfold bcR
  rw [cpI_ne (by omega), cpI_ne (by omega), cpI_in h, cpI_ne (by omega), cpI_in h, wI_ne (by omega), wI_ne (by omega), cpI_ne (by omega), wI_ne (by omega), wI_ne (by omega)]
  exact ⟨rfl, rfl⟩
set_option maxHeartbeats 200000 in
theorem bcR_28 {μ : Mem} {j : Nat} (h : j < 500) : (bcR μ).1 28 j = μ.1 33 j := by
  unfold bcR
  rw [cpI_in h, cpI_ne (by omega), cpI_ne (by omega), wI_ne (by omega), wI_ne (by omega)]
set_option maxHeartbeats 200000 in
theorem bcR_25 {μ : Mem} : (bcR μ).1 25 0 = μ.1 30 0 := by
  unfold bcR
  rw [cpI_ne (by omega), cpI_ne (by omega), cpI_ne (by omega), wI_ne (by omega), wI_same]
set_option maxHeartbeats 200000 in
theorem bcR_o {μ : Mem} {i j : Nat} (h1 : ¬ (i = 25 ∧ (j = 0 ∨ j = 3))) (h2 : ¬ (26 ≤ i ∧ i ≤ 28)) : (bcR μ).1 i j = μ.1 i j := by
  unfold bcR
  rw [cpI_ne (by omega), cpI_ne (by omega), cpI_ne (by omega), wI_ne (by omega), wI_ne (by omega)]
set_option maxHeartbeats 200000 in
theorem bcR_2 {μ : Mem} : (bcR μ).2 = μ.2 := by
  unfold bcR
  rw [cpI_2, cpI_2, cpI_2]
  rfl
def WFd (σ : Mem) : Prop := ∀ a b, a < nbx σ → b < nbx σ → σ.2.1 3 a = σ.2.1 3 b → a = b
def rl0 (σ : Mem) : Mem := wI (wI (wI σ 0 70 0) 0 71 0) 0 73 0
set_option maxHeartbeats 200000 in
theorem rl0_o {σ : Mem} {i j : Nat} (h : ¬ (i = 0 ∧ (j = 70 ∨ j = 71 ∨ j = 73))) : (rl0 σ).1 i j = σ.1 i j := by
  unfold rl0
  rw [wI_ne (by omega), wI_ne (by omega), wI_ne (by omega)]
set_option maxHeartbeats 200000 in
theorem rlA_e (σ : Mem) : rlA σ = sp_start (rl0 σ) 1 := rfl
set_option maxHeartbeats 200000 in
theorem rlA_o {σ : Mem} {i j : Nat} (h1 : ¬ (i = 0 ∧ 1 ≤ j ∧ j ≤ 10)) (h : ¬ (i = 0 ∧ (j = 70 ∨ j = 71 ∨ j = 73))) : (rlA σ).1 i j = σ.1 i j := by
  rw [rlA_e, start_o h1, rl0_o h]
set_option maxHeartbeats 200000 in
theorem rlA_70 {σ : Mem} : (rlA σ).1 0 70 = 0 ∧ (rlA σ).1 0 73 = 0 := by
  rw [rlA_e, start_o (by omega), start_o (by omega)]
  unfold rl0
  rw [wI_ne (by omega), wI_ne (by omega), wI_same, wI_same]
  exact ⟨rfl, rfl⟩
set_option maxHeartbeats 200000 in
theorem rl2_z {σ : Mem} (ht : WFt σ) (hb : WFb σ) (h5 : ¬ 500 < σ.1 0 1) : Rz (rlA σ) (rl2 σ) := (rlL_s 7 _ (rlA_s ht hb h5)).2.1
set_option maxHeartbeats 200000 in
theorem rl2_o {σ : Mem} (hz : Rz (rlA σ) (rl2 σ)) {i j : Nat} (h1 : ¬ (i = 0 ∧ 1 ≤ j ∧ j ≤ 10)) (h2 : ¬ (i = 0 ∧ 70 ≤ j ∧ j ≤ 75 ∧ j ≠ 72)) (h3 : ¬ (40 ≤ i ∧ i ≤ 42)) (h4 : i ≠ 46) (h5 : i ≠ 48) : (rl2 σ).1 i j = σ.1 i j := by
  rw [hz.1 i j (by unfold rdK; omega) h2 (by omega) (by omega) (by omega) h4 h5, rlA_o h1 (by omega)]
set_option maxHeartbeats 200000 in
theorem rl2_1 {σ : Mem} (hz : Rz (rlA σ) (rl2 σ)) : (rl2 σ).1 0 1 = 0 := by
  rw [hz.1 0 1 (by unfold rdK; omega) (by omega) (by omega) (by omega) (by omega) (by omega) (by omega), rlA_e]
  unfold sp_start
  rw [tk_same (by unfold rdK; omega), wI_ne (by omega), wI_ne (by omega), wI_ne (by omega), wI_same]
set_option maxHeartbeats 200000 in
theorem rl2_q {σ : Mem} (hz : Rz (rlA σ) (rl2 σ)) {j : Nat} : (rl2 σ).2.1 3 j = σ.2.1 3 j := by
  rw [hz.2.1 3 j (by omega), rlA_e, start_q (by omega)]
  rfl
/-- only the reader, what rules are made in, and the tape's three numbers may differ -/
def Fz (μ c : Mem) : Prop := (∀ i j, i ≠ 2 → ¬ (30 ≤ i ∧ i ≤ 33) → ¬ (i = 35 ∧ j = 3) → ¬ (i = 0 ∧ 1 ≤ j ∧ j ≤ 3) → c.1 i j = μ.1 i j) ∧ ∀ i j, i ≠ 2 → c.2.1 i j = μ.2.1 i j
set_option maxHeartbeats 200000 in
theorem rules_t {G : Wd} {σ μ2 : Mem} (hz : Rz (rlA σ) (rl2 σ)) (t2 : TS G (rl2 σ) μ2) : RcT (rl2 σ) (csT μ2) := by
  have tb := t2.1.2.2.1
  refine ⟨by rw [csT_1.1, rl2_1 hz], by rw [csT_1.2.1]; exact t2.2.1, by rw [csT_1.2.2]; exact t2.2.2.1, fun j hj => ?_⟩
  rw [csT_o (by omega)]
  exact tb j hj
set_option maxHeartbeats 200000 in
theorem rules_f {G : Wd} {σ μ μ2 : Mem} {n : Nat} (hR : Rc σ n μ) (hn : n + 1 ≤ 600) (hz : Rz (rlA σ) (rl2 σ)) (t2 : TS G (rl2 σ) μ2) (f : Fz μ (csT μ2)) : Rc (rl2 σ) (n + 1) (csT μ2) := by
  have h0 := hR
  obtain ⟨⟨r1, r2, r3, r4, r5⟩, w1, -⟩ := hR
  have o : ∀ i j, ¬ (i = 0 ∧ 1 ≤ j ∧ j ≤ 10) → ¬ (i = 0 ∧ 70 ≤ j ∧ j ≤ 75 ∧ j ≠ 72) → ¬ (40 ≤ i ∧ i ≤ 42) → i ≠ 46 → i ≠ 48 → (rl2 σ).1 i j = σ.1 i j := fun i j q1 q2 q3 q4 q5 => rl2_o hz q1 q2 q3 q4 q5
  exact Rc.mv h0 hn (fun i j q => o i j (by omega) (by omega) (by omega) (by omega) (by omega)) (fun i j q1 q2 => f.1 i j (by omega) (by omega) (by omega) (by omega)) ⟨rules_t hz t2, r2.mv (fun i j q => o i j (by omega) (by omega) (by omega) (by omega) (by omega)) (fun i j q => f.1 i j (by omega) (by omega) (by omega) (by omega)) (f.2 36 3 (by omega)), r3.mv (fun i j q => o i j (by omega) (by omega) (by omega) (by omega) (by omega)) (fun j => rl2_q hz) (fun i j q => f.1 i j (by omega) (by omega) (by omega) (by omega)) (fun j => f.2 5 j (by omega)), r4.mv (fun i j q => o i j (by omega) (by omega) (by omega) (by omega) (by omega)) (fun i j q => f.1 i j (by omega) (by omega) (by omega) (by omega)), r5.mv (fun b hb => f.1 _ _ (by omega) (by omega) (by omega) (by omega)) (fun j => f.2 3 j (by omega))⟩ ⟨⟨⟨0, by decide, rl2_1 hz⟩, w1.1.2.1.mv (fun i j q => o i j (by omega) (by omega) (by omega) (by omega) (by omega)), w1.1.2.2.mv (fun i j q => o i j (by omega) (by omega) (by omega) (by omega) (by omega))⟩, w1.2.mv (fun i j q => o i j (by omega) (by omega) (by omega) (by omega) (by omega))⟩ (f.1 36 2 (by omega) (by omega) (by omega) (by omega))
set_option maxHeartbeats 200000 in
theorem rules_s {G : Wd} {σ μ μ2 : Mem} {n r : Nat} (hR : Rc σ n μ) (hn : n + 1 ≤ 600) (hz : Rz (rlA σ) (rl2 σ)) (h2 : RIx G r (rl2 σ) μ2) (h0 : (rl2 σ).1 0 2 = 0) (f : Fz μ (csT μ2)) : Rc (rl3 (rl2 σ)) (n + 1) (bcR (csT μ2)) := by
  have hR0 := hR
  obtain ⟨⟨r1, r2, r3, r4, r5⟩, w1, -⟩ := hR
  obtain ⟨p1, p2, ⟨nn, c1, c2, c3, c4⟩, -, -, p6, -, p8⟩ := h2.2.2.2 h0
  obtain ⟨s1, s2, s3, s4, s5, s6⟩ := rl3_s p1
  have hr6 := p1.2.2.2.2.2.1
  have o : ∀ i j, ¬ (i = 0 ∧ 1 ≤ j ∧ j ≤ 10) → ¬ (i = 0 ∧ 70 ≤ j ∧ j ≤ 75) → ¬ (40 ≤ i ∧ i ≤ 46) → ¬ (48 ≤ i ∧ i ≤ 49) → (rl3 (rl2 σ)).1 i j = σ.1 i j := fun i j q1 q2 q3 q4 => by
    rw [s3 i j (by omega) (by omega) (by omega) (by omega) (by omega), rl2_o hz q1 (by omega) (by omega) (by omega) (by omega)]
  have kr : rlN (rl3 (rl2 σ)) = r := by unfold rlN; rw [s2]; exact nI_c (by omega)
  have e1 : (rl3 (rl2 σ)).1 0 1 = 0 := by
    rw [s3 0 1 (by omega) (by omega) (by omega) (by omega) (by omega)]
    exact rl2_1 hz
  have hT := rules_t hz h2.1
  have g : ∀ i j, i ≠ 2 → ¬ (30 ≤ i ∧ i ≤ 33) → ¬ (i = 35 ∧ j = 3) → ¬ (i = 0 ∧ 1 ≤ j ∧ j ≤ 3) → ¬ (25 ≤ i ∧ i ≤ 28) → (bcR (csT μ2)).1 i j = μ.1 i j := fun i j q1 q2 q3 q4 q5 => by
    rw [bcR_o (by omega) (by omega)]
    exact f.1 i j q1 q2 q3 q4
  have gl : ∀ i j, i ≠ 2 → (bcR (csT μ2)).2.1 i j = μ.2.1 i j := fun i j q1 => by
    rw [bcR_2]
    exact f.2 i j q1
  refine Rc.mv hR0 hn (fun i j q => o i j (by omega) (by omega) (by omega) (by omega)) (fun i j q1 q2 => g i j (by omega) (by omega) (by omega) (by omega) (by omega)) ⟨?_, r2.mv (fun i j q => o i j (by omega) (by omega) (by omega) (by omega)) (fun i j q => g i j (by omega) (by omega) (by omega) (by omega) (by omega)) (gl 36 3 (by omega)), r3.mv (fun i j q => o i j (by omega) (by omega) (by omega) (by omega)) (fun j => by rw [s4]; exact rl2_q hz) (fun i j q => g i j (by omega) (by omega) (by omega) (by omega) (by omega)) (fun j => gl 5 j (by omega)), ?_, r5.mv (fun b hb => g _ _ (by omega) (by omega) (by omega) (by omega) (by omega)) (fun j => gl 3 j (by omega))⟩ ⟨⟨⟨0, by decide, e1⟩, w1.1.2.1.mv (fun i j q => o i j (by omega) (by omega) (by omega) (by omega)), w1.1.2.2.mv (fun i j q => o i j (by omega) (by omega) (by omega) (by omega))⟩, s1⟩ (g 36 2 (by omega) (by omega) (by omega) (by omega) (by omega))
  · exact hT.mv (fun i j q => s3 i j (by omega) (by omega) (by omega) (by omega) (by omega)) (fun i j q => bcR_o (by omega) (by omega))
  · refine ⟨?_, fun q => ?_, fun i hi => ?_, fun i hi k hk => ?_⟩
    · rw [bcR_25, csT_o (by omega), p2, s2]
    · rw [kr] at q
      rw [(s6 0 q).1]
      exact p8 q
    · rw [kr] at hi
      obtain ⟨q1, q2, q3⟩ := s6 i hi
      rw [(bcR_26 (by omega)).1, (bcR_26 (by omega)).2, csT_o (by omega), csT_o (by omega), q2, q3]
      exact p6 i hi
    · rw [kr] at hi
      obtain ⟨-, -, -, -, -, -, n1, u1, g1, g2, g3, g4, g5, g6⟩ := p1
      have en : n1 = nn := nI_inj5 (g1.symm.trans c1) (by have := h2.2.2.2 h0; have := this.1.1.2.2.2.2.1; have := h2.2.2.2 h0; have := this.1.2.1; omega) (by omega)
      obtain ⟨b, e, o1, o2, o3, o4, -⟩ := g5 i hi
      have hb : bgN (rl3 (rl2 σ)) (i + 1) = e := by
        unfold bgN
        rw [(s6 i hi).2.1, o2]
        exact nI_c (by omega)
      rw [hb] at hk
      have hnt : ntN (rl2 σ) = nn := ntN_e c1 (by omega)
      rw [bcR_28 (by omega), csT_o (by omega), (s5 k (by omega)).1, (s5 k (by omega)).2]
      exact c4 k (by omega)
set_option maxHeartbeats 200000 in
theorem sp_rules_f {σ : Mem} (h5 : ¬ 500 < σ.1 0 1) (h : 0 < (rl2 σ).1 0 2) : (sp_rules σ).1 = -1 ∧ (sp_rules σ).2 = rl2 σ := by
  have e : sp_rules σ = (-1, rl2 σ) := (if_neg h5).trans (if_pos h)
  exact pr_e e
set_option maxHeartbeats 200000 in
theorem sp_rules_s {σ : Mem} (h5 : ¬ 500 < σ.1 0 1) (h : ¬ 0 < (rl2 σ).1 0 2) : (sp_rules σ).1 = (rl3 (rl2 σ)).1 0 72 ∧ (sp_rules σ).2 = rl3 (rl2 σ) := by
  have e : sp_rules σ = ((rl3 (rl2 σ)).1 0 72, rl3 (rl2 σ)) := (if_neg h5).trans (if_neg h)
  exact pr_e e
set_option maxHeartbeats 200000 in
theorem sp_rules_5 {σ : Mem} (h5 : 500 < σ.1 0 1) : (sp_rules σ).1 = -2 ∧ (sp_rules σ).2 = σ := by
  have e : sp_rules σ = (-2, σ) := if_pos h5
  exact pr_e e
set_option maxHeartbeats 400000 in
set_option maxRecDepth 100000 in
theorem C_rules {l : Launch} {G : Wd} {n : Nat} {σ μ : Mem} (hS : okS G) (hd : WFd σ) (hR : Rc σ n μ) (hn : n + 1 ≤ 600) : Mt l G KC yX11_rules cX11_rules 1 (some .int) 72 [.ref (gA G 0)] μ (Qi (fun v μ' => v = (sp_rules σ).1 ∧ Rc (sp_rules σ).2 (n + 1) μ')) := by
  refine Mt.of (own := RX11) (n := 0) (by decide) rfl [some (.ref (gA G 0))] rfl (Nat.le_of_ble_eq_true rfl) ?_
  obtain ⟨htn, ht⟩ := hR.2.1.1.1.t
  have hwt0 : WFt (rl0 σ) := ⟨tpd σ, htn, (rl0_o (by omega)).trans ht⟩
  obtain ⟨b1, b2, b3, b4, b5⟩ := st_tb (G := G) (μ := μ) (t := tpd σ) (z := 1) (x := 1) hwt0 rfl ((rl0_o (by omega)).trans ht) (fun j hj => by rw [rl0_o (by omega)]; exact hR.1.1.2.2.2 j hj) (fun w hw => hR.1.2.2.2.2.1 w hw)
  refine A_aload0 dX11_rules_0 ?_
  refine A_getI gf_X11_114 rfl dX11_rules_1 ?_
  rw [hR.1.1.1]
  refine A_sipush (v := 500) dX11_rules_4 (by decide) ?_
  refine A_icmp_le (tgt := 13) dX11_rules_7 (by decide) (fun c_7 => ?_) (fun c_7 => ?_)
  · have h5 : ¬ 500 < σ.1 0 1 := Int32.not_lt.mpr c_7
    refine A_aload0 dX11_rules_13 ?_
    refine A_getR gf_X11_22 rfl dX11_rules_14 ?_
    refine A_aload0 dX11_rules_17 ?_
    refine A_getI gf_X11_114 rfl dX11_rules_18 ?_
    rw [hR.1.1.1, ht]
    refine A_ldcS (fun s1 H1 g1 => (hS s1 H1 g1).2.2.2) dX11_rules_21 ?_
    refine A_vv2 lk_X11_123 yv_X9_open dX11_rules_23 (rfl) (rfl) (T_X9_open (m := stM (rl0 σ) 1) (t := tpd σ) (z := 1) hS htn b1 b2 b3 b4 b5) (by omega) (Nat.le_of_ble_eq_true rfl) (fun μ_23 h_23 => ?_)
    have g1 := h_23
    rw [← start_e, ← rlA_e] at g1
    have hc : CM (wI (wI (wI μ_23 30 0 0) 30 3 0) 35 3 0) := ⟨⟨0, by decide, by rw [wI_ne (by omega), wI_same]; rfl⟩, 0, by decide, wI_same⟩
    have hI0 : RIx G 0 (rlA σ) (wI (wI (wI μ_23 30 0 0) 30 3 0) 35 3 0) := by
      refine ⟨((g1.1.cw (by omega)).cw (by omega)).cw (by omega), hc, ⟨0, by decide, by rw [wI_ne (by omega), wI_ne (by omega), wI_same]; rfl⟩, fun y => ⟨?_, by rw [wI_ne (by omega), wI_ne (by omega), wI_same]; rfl, ⟨0, rlA_70.1, by decide, by rw [wI_ne (by omega), wI_same]; rfl, fun j hj => absurd hj (Nat.not_lt_zero _)⟩, by rw [wI_same, rlA_70.2], ?_, fun i hi => absurd hi (Nat.not_lt_zero _), fun _ => rlA_70.1, fun q => absurd q (Nat.not_lt_zero _)⟩⟩
      · obtain ⟨r0, q1, q2⟩ := (rlA_s hR.2.1.1.1 hR.2.1.1.2.2.1 h5).2 y
        have er : r0 = 0 := by omega
        rw [er] at q1
        exact q1
      · have hHN : HN σ μ := ⟨(hR.2.1.1.2.2.1.t).1, (hR.2.1.1.2.2.1.t).2, hR.1.2.2.1.1, fun b hb => (hR.1.2.2.1.2.2.1 b hb).1, hd⟩
        refine hHN.mv (rlA_o (by omega) (by omega)) (fun j => by rw [rlA_e, start_q (by omega)]; rfl) ?_ (fun j => g1.2.2 5 j (by omega))
        rw [wI_ne (by omega), wI_ne (by omega), wI_ne (by omega)]
        exact g1.2.1 4 0 (by omega)
    refine A_aload0 dX11_rules_26 ?_
    refine A_getR gf_X11_60 rfl dX11_rules_27 ?_
    refine A_vv0 lk_X11_152 yv_X7_parse dX11_rules_30 (rfl) (rfl) (T_X7_parse (m := rlA σ) hS hI0) (by omega) (Nat.le_of_ble_eq_true rfl) (fun μ_30 h_30 => ?_)
    obtain ⟨fy, r2, h2⟩ := h_30
    have e2 : rlL 7 (rlA σ) = rl2 σ := by unfold rl2; rfl
    rw [e2] at h2
    have t2 := h2.1
    have hz := rl2_z hR.2.1.1.1 hR.2.1.1.2.2.1 h5
    refine A_aload0 dX11_rules_33 ?_
    refine A_vv0 lk_X11_130 yv_X11_closeText dX11_rules_34 (rfl) (rfl) (T_X11_closeText) (by omega) (Nat.le_of_ble_eq_true rfl) (fun μ_34 h_34 => ?_)
    subst h_34
    have f9 : Fz μ (csT μ_30) := ⟨fun i j q1 q2 q3 q4 => by rw [csT_o q4, fy.1 i j (by omega) q2 q3, g1.2.1 i j q1], fun i j q1 => (fy.2.1 i j (by omega)).trans (g1.2.2 i j q1)⟩
    refine A_aload0 dX11_rules_37 ?_
    refine A_getI gf_X11_133 rfl dX11_rules_38 ?_
    rw [csT_1.2.1, t2.2.1]
    refine A_if_eq (tgt := 46) dX11_rules_41 (by decide) (fun c_41 => ?_) (fun c_41 => ?_)
    · have h02 : (rl2 σ).1 0 2 = 0 := c_41
      have hneg : ¬ 0 < (rl2 σ).1 0 2 := by rw [h02]; decide
      refine A_aload0 dX11_rules_46 ?_
      refine A_getR gf_X11_48 rfl dX11_rules_47 ?_
      refine A_aload0 dX11_rules_50 ?_
      refine A_getR gf_X11_52 rfl dX11_rules_51 ?_
      refine A_vv1 lk_X11_153 yv_X6_become dX11_rules_54 (rfl) (rfl) (T_X6_become) (by omega) (Nat.le_of_ble_eq_true rfl) (fun μ_54 h_54 => ?_)
      subst h_54
      refine A_aload0 dX11_rules_57 ?_
      refine A_getR gf_X11_48 rfl dX11_rules_58 ?_
      refine A_getI gf_X11_156 rfl dX11_rules_61 ?_
      refine A_iret dX11_rules_64 ?_
      obtain ⟨e1, e3⟩ := sp_rules_s h5 hneg
      have hfin := rules_s hR hn hz h2 h02 f9
      refine ⟨_, rfl, ?_, ?_⟩
      · rw [e1, hfin.1.2.2.2.1.1]
      · rw [e3]; exact hfin
    · have hpos : 0 < (rl2 σ).1 0 2 := (t2.en c_41).2
      refine A_iconst (v := -1) dX11_rules_44 (by decide) ?_
      refine A_iret dX11_rules_45 ?_
      obtain ⟨e1, e3⟩ := sp_rules_f h5 hpos
      refine ⟨_, rfl, e1.symm, ?_⟩
      rw [e3]
      exact rules_f hR hn hz t2 f9
  · have h5 : 500 < σ.1 0 1 := Int32.not_le.mp c_7
    refine A_bipush (v := -2) dX11_rules_10 (by decide) ?_
    refine A_iret dX11_rules_12 ?_
    obtain ⟨e1, e2⟩ := sp_rules_5 h5
    refine ⟨_, rfl, e1.symm, ?_⟩
    rw [e2]
    exact hR.up hn

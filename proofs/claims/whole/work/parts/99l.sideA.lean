/-! what the law's loop keeps beside the relation -/
def WFs (σ : Mem) : Prop := WFw σ ∧ WFm σ ∧ WFe σ ∧ WFd σ
def WFk (σ : Mem) : Prop := WFs σ ∧ 0 ≤ (σ.1 0 43).toInt ∧ (σ.1 0 43).toInt ≤ 100000
set_option maxHeartbeats 200000 in
theorem WFs.mv {σ τ : Mem} (h : WFs σ) (o : ∀ i j, (i = 0 ∧ (j = 31 ∨ j = 72)) ∨ i = 7 ∨ i = 8 ∨ i = 19 ∨ (43 ≤ i ∧ i ≤ 45) → τ.1 i j = σ.1 i j) (q : ∀ j, τ.2.1 3 j = σ.2.1 3 j) : WFs τ := by
  obtain ⟨a1, a2, a3, a4⟩ := h
  have en : nbx τ = nbx σ := by unfold nbx; rw [o 0 31 (by omega)]
  have er : rlN τ = rlN σ := by unfold rlN; rw [o 0 72 (by omega)]
  have eb : ∀ r, bgN τ r = bgN σ r := fun r => by unfold bgN; rw [o 45 r (by omega)]
  have ed : ∀ b n, dpS τ b n = dpS σ b n := fun b n => by
    rw [dpS_F, dpS_F]
    exact dpF_c _ (fun j _ => o 43 _ (by omega))
  refine ⟨fun b hb h3 => ?_, fun d hd => ?_, fun r hr => ?_, fun a b ha hb e => ?_⟩
  · rw [en] at hb
    rw [o 7 b (by omega)] at h3
    rw [o 8 _ (by omega), o 8 _ (by omega)]
    exact a1 b hb h3
  · rw [o 19 d (by omega)]
    exact a2 d hd
  · rw [er] at hr
    obtain ⟨x1, x2⟩ := a3 r hr
    rw [eb, eb, ed]
    refine ⟨x1, fun p h1 h2 => ?_⟩
    rw [o 43 p (by omega), o 44 p (by omega), en]
    exact x2 p h1 h2
  · rw [en] at ha hb
    rw [q, q] at e
    exact a4 a b ha hb e
set_option maxHeartbeats 200000 in
theorem WFk.mv {σ τ : Mem} (h : WFk σ) (o : ∀ i j, (i = 0 ∧ (j = 31 ∨ j = 43 ∨ j = 72)) ∨ i = 7 ∨ i = 8 ∨ i = 19 ∨ (43 ≤ i ∧ i ≤ 45) → τ.1 i j = σ.1 i j) (q : ∀ j, τ.2.1 3 j = σ.2.1 3 j) : WFk τ := by
  refine ⟨h.1.mv (fun i j z => o i j (by omega)) q, ?_⟩
  rw [o 0 43 (by omega)]
  exact h.2
set_option maxHeartbeats 200000 in
theorem feed_k {σ : Mem} {a b c d e : Int32} (h : WFk σ) : WFk (sp_feed σ a b c d e).2 := by
  by_cases q : tpd σ + 20 ≤ 800
  · have e1 : sp_feed σ a b c d e = (nI (tpd σ + 20), put4 (put4 (put4 (put4 (put4 σ (tpd σ) a) (tpd σ + 4) b) (tpd σ + 8) c) (tpd σ + 12) d) (tpd σ + 16) e) := if_pos q
    rw [(pr_e e1).2]
    exact h.mv (fun i j z => by rw [put4_s (by omega) (by omega), put4_s (by omega) (by omega), put4_s (by omega) (by omega), put4_s (by omega) (by omega), put4_s (by omega) (by omega)]) (fun j => by rw [put4_2, put4_2, put4_2, put4_2, put4_2])
  · have e1 : sp_feed σ a b c d e = (-1, σ) := if_neg q
    rw [(pr_e e1).2]
    exact h
set_option maxHeartbeats 200000 in
theorem WFk.w {σ : Mem} {i j : Nat} {v : Int32} (h : WFk σ) (q : ¬ ((i = 0 ∧ (j = 31 ∨ j = 43 ∨ j = 72)) ∨ i = 7 ∨ i = 8 ∨ i = 19 ∨ (43 ≤ i ∧ i ≤ 45))) : WFk (wI σ i j v) := h.mv (fun a b z => wI_ne (by omega)) (fun _ => rfl)
set_option maxHeartbeats 200000 in
theorem end_k {σ : Mem} {x : Int32} (h : WFk σ) : WFk (sp_end σ x).2 := by
  by_cases q : x < 0 ∨ σ.1 0 1 < x
  · have e1 : sp_end σ x = (-1, σ) := if_pos q
    rw [(pr_e e1).2]
    exact h
  · have e1 : sp_end σ x = (x, wI σ 0 1 x) := if_neg q
    rw [(pr_e e1).2]
    exact h.w (by omega)
set_option maxHeartbeats 200000 in
theorem share_k {σ : Mem} {d z : Int32} (h : WFk σ) : WFk (sp_share σ d z).2 := by
  by_cases q : isDy d ∧ σ.1 27 d.toNatClampNeg ≠ z
  · have e1 : sp_share σ d z = (1, wI σ 27 d.toNatClampNeg z) := if_pos q
    rw [(pr_e e1).2]
    exact h.w (by omega)
  · have e1 : sp_share σ d z = (0, σ) := if_neg q
    rw [(pr_e e1).2]
    exact h
set_option maxHeartbeats 200000 in
theorem doubt_k {σ : Mem} {d z : Int32} (h : WFk σ) : WFk (sp_doubt σ d z).2 := by
  by_cases q : isRd d ∧ σ.1 28 d.toNatClampNeg ≠ z
  · have e1 : sp_doubt σ d z = (1, wI σ 28 d.toNatClampNeg z) := if_pos q
    rw [(pr_e e1).2]
    exact h.w (by omega)
  · have e1 : sp_doubt σ d z = (0, σ) := if_neg q
    rw [(pr_e e1).2]
    exact h
set_option maxHeartbeats 200000 in
theorem WFk.add {σ : Mem} {a b c d e : Int32} (h : WFk σ) : WFk (add1 σ a b c d e) := h.mv (fun i j z => add1_o (Or.inl (by omega))) (fun _ => rfl)
set_option maxHeartbeats 200000 in
theorem far_k {σ : Mem} {q d x : Int32} (h : WFk σ) : WFk (sp_far σ q d x).2 := by
  by_cases y : okFar σ q d x
  · have e1 : sp_far σ q d x = (nI (nfc σ), add1 σ 1 q d 0 x) := if_pos y
    rw [(pr_e e1).2]
    exact h.add
  · have e1 : sp_far σ q d x = (-1, σ) := if_neg y
    rw [(pr_e e1).2]
    exact h
set_option maxHeartbeats 200000 in
theorem read_k {σ : Mem} {b d r x : Int32} (h : WFk σ) : WFk (sp_read σ b d r x).2 := by
  by_cases y : okRd σ b d r x
  · have e1 : sp_read σ b d r x = (nI (nfc σ), add1 σ 0 b d r x) := if_pos y
    rw [(pr_e e1).2]
    exact h.add
  · have e1 : sp_read σ b d r x = (-1, σ) := if_neg y
    rw [(pr_e e1).2]
    exact h
set_option maxHeartbeats 200000 in
theorem untell_k {σ : Mem} {f : Int32} (h : WFk σ) : WFk (sp_untell σ f).2 := by
  by_cases y : 0 ≤ f ∧ f < σ.1 0 42 ∧ σ.1 25 f.toNatClampNeg < 0
  · have e1 : sp_untell σ f = (1, wI σ 25 f.toNatClampNeg (σ.1 0 43)) := if_pos y
    rw [(pr_e e1).2]
    exact h.w (by omega)
  · have e1 : sp_untell σ f = (0, σ) := if_neg y
    rw [(pr_e e1).2]
    exact h
set_option maxHeartbeats 200000 in
theorem later_k {σ : Mem} {b : Int32} (h : WFk σ) : WFk (sp_later σ b).2 := by
  by_cases y : 0 ≤ b ∧ b ≤ 1000 ∧ σ.1 0 43 + b ≤ 100000
  · have e1 : sp_later σ b = (σ.1 0 43 + b, wI σ 0 43 (σ.1 0 43 + b)) := if_pos y
    rw [(pr_e e1).2]
    obtain ⟨y1, y2, y3⟩ := y
    have z1 := i_le.mp y1
    have z2 := i_le.mp y2
    have z3 := i_le.mp y3
    have c0 : (0 : Int32).toInt = 0 := rfl
    have c1 : (1000 : Int32).toInt = 1000 := rfl
    have c2 : (100000 : Int32).toInt = 100000 := rfl
    rw [c0] at z1
    rw [c1] at z2
    rw [c2] at z3
    have t1 := h.2.1
    have t2 := h.2.2
    have ea := i_add (a := σ.1 0 43) (b := b) (by omega)
    refine ⟨h.1.mv (fun i j z => wI_ne (by omega)) (fun _ => rfl), ?_⟩
    rw [wI_same]
    omega
  · have e1 : sp_later σ b = (-1, σ) := if_neg y
    rw [(pr_e e1).2]
    exact h
set_option maxHeartbeats 200000 in
theorem hill_kf {σ : Mem} (h : WFk σ) : WFk (hl2 σ) := h.mv (fun i j z => hl2_o (by omega) (by omega) (by omega) (by omega)) (fun j => hl2_q)
set_option maxHeartbeats 200000 in
theorem hill_ks {σ : Mem} (hw : WFt σ) (h : WFk σ) (h0 : (hl2 σ).1 0 2 = 0) (hD : DN (hl2 σ)) : WFk (hk3 (hl2 σ)) := by
  have hwl : WFl (hl2 σ) := hlL_c 22 _ (start_l (z := 0) (hl0_t hw) hl0_29 hl0_30).1
  obtain ⟨hb5, h29⟩ := hwl.2.1.t
  obtain ⟨hBI, hTI⟩ := hl2_i hw h0
  obtain ⟨k1, k2, k3, k4, k5, k6, k7, k8, k9, k10, k11⟩ := hk3_s (hl2 σ)
  have kn : nbx (hk3 (hl2 σ)) = nbN (hl2 σ) := by unfold nbx nbN; rw [k7]
  have kr : rlN (hk3 (hl2 σ)) = 0 := by unfold rlN; rw [k10]; rfl
  refine ⟨⟨fun b hb h3 => ?_, fun d hd => ?_, fun r hr => absurd hr (by omega), fun a b ha hb e => ?_⟩, ?_⟩
  · rw [kn] at hb
    rw [(k1 b (by omega)).2.1] at h3
    rw [k2 _ (by omega), k2 _ (by omega)]
    exact (hBI b hb).2 h3
  · rw [k4 19 d (by omega) hd, nar_01 (hTI 14 d (by omega) (fun _ => by omega) (fun _ => hd))]
    exact hTI 14 d (by omega) (fun _ => by omega) (fun _ => hd)
  · rw [kn] at ha hb
    rw [(k1 a (by omega)).1, (k1 b (by omega)).1] at e
    exact hD a b ha hb e
  · rw [k11 0 43 (by omega) (by omega) (by omega) (by omega) (by omega), hl2_o (by omega) (by omega) (by omega) (by omega)]
    exact h.2
set_option maxHeartbeats 200000 in
theorem rules_kf {σ : Mem} (h : WFk σ) (hz : Rz (rlA σ) (rl2 σ)) : WFk (rl2 σ) := h.mv (fun i j z => rl2_o hz (by omega) (by omega) (by omega) (by omega) (by omega)) (fun j => rl2_q hz)
set_option maxHeartbeats 400000 in
set_option maxRecDepth 100000 in
theorem C_hillK {l : Launch} {G : Wd} {n : Nat} {σ μ : Mem} (hS : okS G) (hZ : okZ G) (hk : WFk σ) (hR : Rc σ n μ) (hn : n + 1 ≤ 600) : Mt l G KC yX11_hill cX11_hill 1 (some .int) 10 [.ref (gA G 0)] μ (Qi (fun v μ' => v = (sp_hill σ).1 ∧ Rc (sp_hill σ).2 (n + 1) μ' ∧ WFk (sp_hill σ).2)) := by
  refine Mt.of (own := RX11) (n := 0) (by decide) rfl [some (.ref (gA G 0))] rfl (Nat.le_of_ble_eq_true rfl) ?_
  obtain ⟨htn, ht⟩ := hR.2.1.1.1.t
  obtain ⟨hwl, hsum, -⟩ := start_l (z := 0) (hl0_t hR.2.1.1.1) hl0_29 hl0_30
  obtain ⟨b1, b2, b3, b4, b5⟩ := st_tb (G := G) (μ := μ) (t := tpd σ) (z := 0) (x := 0) (hl0_t hR.2.1.1.1) rfl ((hl0_k (by omega) (by omega)).trans ht) (fun j hj => by rw [hl0_k (by omega) (by omega)]; exact hR.1.1.2.2.2 j hj) (fun w hw => hR.1.2.2.2.2.1 w hw)
  refine A_aload0 dX11_hill_0 ?_
  refine A_getR gf_X11_22 rfl dX11_hill_1 ?_
  refine A_aload0 dX11_hill_4 ?_
  refine A_getI gf_X11_114 rfl dX11_hill_5 ?_
  rw [hR.1.1.1, ht]
  refine A_ldcS (fun s1 H1 g1 => (hS s1 H1 g1).2.2.1) dX11_hill_8 ?_
  refine A_vv2 lk_X11_123 yv_X9_open dX11_hill_10 (rfl) (rfl) (T_X9_open (m := stM (hl0 σ) 0) (t := tpd σ) (z := 0) hS htn b1 b2 b3 b4 b5) (by decide) (Nat.le_of_ble_eq_true rfl) (fun μ_10 h_10 => ?_)
  have g1 := h_10
  rw [← start_e] at g1
  have hI0 : HI (sp_start (hl0 σ) 0) (wI (wI μ_10 14 0 0) 14 1 0) := HI_0 (by rw [start_o (by omega)]; exact hl0_29) (by rw [start_o (by omega)]; exact hl0_30) ⟨fun i j q hj => by rw [start_o (by omega)]; exact hl0_z.1 i j q hj, fun i j q hj => by rw [start_o (by omega)]; exact hl0_z.2 i j q hj⟩
  refine A_aload0 dX11_hill_13 ?_
  refine A_getR gf_X11_41 rfl dX11_hill_14 ?_
  refine A_vv0 lk_X11_127 yv_X3_parse dX11_hill_17 (rfl) (rfl) (T_X3_parse (m := sp_start (hl0 σ) 0) hS hZ g1.1 hwl hsum hI0) (by decide) (Nat.le_of_ble_eq_true rfl) (fun μ_17 h_17 => ?_)
  have g2 := h_17
  have e2 : hlL 22 (sp_start (hl0 σ) 0) = hl2 σ := by unfold hl2; rfl
  rw [e2] at g2
  have t2 := g2.1
  refine A_aload0 dX11_hill_20 ?_
  refine A_vv0 lk_X11_130 yv_X11_closeText dX11_hill_21 (rfl) (rfl) (T_X11_closeText) (by decide) (Nat.le_of_ble_eq_true rfl) (fun μ_21 h_21 => ?_)
  subst h_21
  have f9 : Fx9 μ (csT μ_17) := ⟨fun i j q1 q2 q3 => by rw [csT_o q3, g2.2.1.1 i j (by omega) q2, g1.2.1 i j q1], fun i j q1 q2 => (g2.2.1.2.1 i j (by omega) q2).trans (g1.2.2 i j q1)⟩
  refine A_aload0 dX11_hill_24 ?_
  refine A_getI gf_X11_133 rfl dX11_hill_25 ?_
  rw [csT_1.2.1, t2.2.1]
  refine A_if_eq (tgt := 33) dX11_hill_28 (by decide) (fun c_28 => ?_) (fun c_28 => ?_)
  · have h02 : (hl2 σ).1 0 2 = 0 := c_28
    have hneg : ¬ 0 < (hl2 σ).1 0 2 := by rw [h02]; decide
    refine A_aload0 dX11_hill_33 ?_
    refine A_getR gf_X11_29 rfl dX11_hill_34 ?_
    refine A_aload0 dX11_hill_37 ?_
    refine A_getR gf_X11_33 rfl dX11_hill_38 ?_
    refine A_vv1 lk_X11_136 yv_X2_become dX11_hill_41 (rfl) (rfl) (T_X2_become) (by decide) (Nat.le_of_ble_eq_true rfl) (fun μ_41 h_41 => ?_)
    subst h_41
    refine A_aload0 dX11_hill_44 ?_
    refine A_getR gf_X11_48 rfl dX11_hill_45 ?_
    refine A_vv0 lk_X11_140 yv_X6_clear dX11_hill_48 (rfl) (rfl) (T_X6_clear_25) (by decide) (Nat.le_of_ble_eq_true rfl) (fun μ_48 h_48 => ?_)
    subst h_48
    refine A_aload0 dX11_hill_51 ?_
    refine A_getR gf_X11_67 rfl dX11_hill_52 ?_
    refine A_vv0 lk_X11_143 yv_X1_clear dX11_hill_55 (rfl) (rfl) (T_X1_clear) (by decide) (Nat.le_of_ble_eq_true rfl) (fun μ_55 h_55 => ?_)
    have e55 : μ_55 = hlC μ_17 := h_55
    subst e55
    refine A_aload0 dX11_hill_58 ?_
    refine A_getR gf_X11_29 rfl dX11_hill_59 ?_
    refine A_getI gf_X11_144 rfl dX11_hill_62 ?_
    refine A_aload0 dX11_hill_65 ?_
    refine A_getR gf_X11_29 rfl dX11_hill_66 ?_
    refine A_getI gf_X11_147 rfl dX11_hill_69 ?_
    refine A_iadd dX11_hill_72 ?_
    refine A_iret dX11_hill_73 ?_
    obtain ⟨e1, e3⟩ := sp_hill_s hneg
    have hfin := hill_s hR hn t2 h02 (g2.2.2 h02) f9
    refine ⟨_, rfl, ?_, ?_, ?_⟩
    · rw [e1, hfin.1.2.2.1.1, hfin.1.2.2.1.2.1]
    · rw [e3]; exact hfin
    · rw [e3]; exact hill_ks hR.2.1.1.1 hk h02 (g2.2.2 h02).2
  · have hpos : 0 < (hl2 σ).1 0 2 := (t2.en c_28).2
    refine A_iconst (v := -1) dX11_hill_31 (by decide) ?_
    refine A_iret dX11_hill_32 ?_
    obtain ⟨e1, e2⟩ := sp_hill_f hpos
    refine ⟨_, rfl, e1.symm, ?_⟩
    rw [e2]
    exact ⟨hill_f hR hn t2 f9, hill_kf hk⟩

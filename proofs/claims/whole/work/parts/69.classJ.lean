/-! caches -/
/-- within a query at k: edition e, the laws that bear it are those of their stretch -/
def Ce (σ : Mem) (k : Int32) (e : Nat) (μ : Mem) : Prop := Wk σ k μ ∧ μ.1 43 7 = nI e ∧ e ≤ 1000 ∧ ∀ b, b < 5 → ∃ eb : Nat, eb ≤ e ∧ μ.1 (48 + 5 * b) 4 = nI eb ∧ (eb = e → b < nbx σ → LV σ k b μ)
def Ca (σ : Mem) (k : Int32) (n : Nat) (μ : Mem) : Prop := ∃ e c : Nat, Ce σ k e μ ∧ μ.1 36 2 = nI c ∧ μ.1 43 6 = nI c ∧ μ.1 43 5 = k ∧ 1 ≤ e ∧ e ≤ n + 1 ∧ c ≤ n ∧ n ≤ 600
/-- between calls, n of them done -/
def Rc (σ : Mem) (n : Nat) (μ : Mem) : Prop := LC σ μ ∧ WFa σ ∧ n ≤ 600 ∧ ∃ e c s : Nat, μ.1 43 7 = nI e ∧ μ.1 36 2 = nI c ∧ μ.1 43 6 = nI s ∧ e ≤ n ∧ s ≤ c ∧ c ≤ n ∧ (0 < e → s = c → Ce σ (μ.1 43 5) e μ) ∧ ∀ b, b < 5 → ∃ eb : Nat, eb ≤ e ∧ μ.1 (48 + 5 * b) 4 = nI eb
theorem LV.keep {σ a c : Mem} {k : Int32} {b : Nat} (h : LV σ k b a) (g : ∀ i j, 48 + 5 * b ≤ i → i ≤ 52 + 5 * b → c.1 i j = a.1 i j) : LV σ k b c := by
  obtain ⟨d, d6, h1, h2, ⟨h3, h4⟩, h5, h6⟩ := h
  exact ⟨d, d6, (g _ 5 (by omega) (by omega)).trans h1, (g _ 6 (by omega) (by omega)).trans h2, ⟨(g _ 12 (by omega) (by omega)).trans h3, fun i x hx => (g _ i (by omega) (by omega)).trans (h4 i x hx)⟩, (g _ 13 (by omega) (by omega)).trans h5, (g _ 14 (by omega) (by omega)).trans h6⟩
/-- only scratch behind the laws has changed -/
def Sf (μ μ' : Mem) : Prop := μ'.2 = μ.2 ∧ ∀ i j, i < 73 → μ'.1 i j = μ.1 i j
theorem Sf.rf {μ : Mem} : Sf μ μ := ⟨rfl, fun _ _ _ => rfl⟩
theorem Sf.tr {a b c : Mem} (h : Sf a b) (g : Sf b c) : Sf a c := ⟨g.1.trans h.1, fun i j q => (g.2 i j q).trans (h.2 i j q)⟩
theorem Sf.w {a b : Mem} {i k : Nat} {v : Int32} (h : Sf a b) (hi : 73 ≤ i) : Sf a (wI b i k v) := ⟨h.1, fun x j q => (wI_ne (by omega)).trans (h.2 x j q)⟩
theorem Sf.k {a b : Mem} (h : Sf a b) : Kc a b := ⟨fun i j q => h.2 i j (by omega), fun i j _ => by rw [h.1]⟩
theorem Ce.sf {σ a c : Mem} {k : Int32} {e : Nat} (h : Ce σ k e a) (g : Sf a c) : Ce σ k e c := by
  obtain ⟨h1, h2, h3, h4⟩ := h
  refine ⟨h1.keep g.k (fun i j _ _ => g.2 i j (by omega)), (g.2 43 7 (by omega)).trans h2, h3, fun b hb => ?_⟩
  obtain ⟨eb, b1, b2, b3⟩ := h4 b hb
  exact ⟨eb, b1, (g.2 _ 4 (by omega)).trans b2, fun z y => (b3 z y).keep (fun i j _ _ => g.2 i j (by omega))⟩
theorem Ca.sf {σ a c : Mem} {k : Int32} {n : Nat} (h : Ca σ k n a) (g : Sf a c) : Ca σ k n c := by
  obtain ⟨e, x, h1, h2, h3, h4, h5⟩ := h
  exact ⟨e, x, h1.sf g, (g.2 36 2 (by omega)).trans h2, (g.2 43 6 (by omega)).trans h3, (g.2 43 5 (by omega)).trans h4, h5⟩
theorem Ca.wk {σ μ : Mem} {k : Int32} {n : Nat} (h : Ca σ k n μ) : Wk σ k μ := by obtain ⟨e, c, h1, -⟩ := h; exact h1.1
theorem Ca.V {σ μ : Mem} {k : Int32} {n b : Nat} (h : Ca σ k n μ) (hb : b < nbx σ) (h5 : b < 5) : μ.1 (48 + 5 * b) 4 = μ.1 43 7 → LV σ k b μ := by
  obtain ⟨e, c, ⟨h1, h2, h3, h4⟩, -⟩ := h
  obtain ⟨eb, b1, b2, b3⟩ := h4 b h5
  intro z
  rw [b2, h2] at z
  exact b3 ((nI_eq (by omega) (by omega)).mp z) hb
theorem Ca.fit {σ μ μ' : Mem} {k : Int32} {n b d : Nat} (h : Ca σ k n μ) (h5 : b < 5) (hd : d < 60) (f1 : FT σ k b d μ') (f2 : μ'.1 (48 + 5 * b) 4 = μ.1 43 7) (f3 : LF b μ μ') : Ca σ k n μ' := by
  obtain ⟨e, c, ⟨h1, h2, h3, h4⟩, g1, g2, g3, g4⟩ := h
  refine ⟨e, c, ⟨f3.wk h5 h1, (f3.2 43 7 (by omega) (by omega)).trans h2, h3, fun b' hb' => ?_⟩, (f3.2 36 2 (by omega) (by omega)).trans g1, (f3.2 43 6 (by omega) (by omega)).trans g2, (f3.2 43 5 (by omega) (by omega)).trans g3, g4⟩
  by_cases q : b' = b
  · subst q
    exact ⟨e, Nat.le_refl _, f2.trans h2, fun _ _ => ⟨d, hd, f1⟩⟩
  · obtain ⟨eb, b1, b2, b3⟩ := h4 b' hb'
    exact ⟨eb, b1, (f3.2 _ 4 (by omega) (by omega)).trans b2, fun z y => (b3 z y).keep (fun i j _ _ => f3.2 i j (by omega) (by omega))⟩
theorem Ca.rc {σ μ : Mem} {k : Int32} {n : Nat} (h : Ca σ k n μ) (hw : WFa σ) (hn : n + 1 ≤ 600) : Rc σ (n + 1) μ := by
  obtain ⟨e, c, h1, h2, h3, h4, h5, h6, h7, h8⟩ := h
  refine ⟨h1.1.1, hw, hn, e, c, c, h1.2.1, h2, h3, h6, Nat.le_refl _, by omega, fun _ _ => by rw [h4]; exact h1, fun b hb => ?_⟩
  obtain ⟨eb, b1, b2, -⟩ := h1.2.2.2 b hb
  exact ⟨eb, b1, b2⟩
theorem Rc.up {σ μ : Mem} {n : Nat} (h : Rc σ n μ) (hn : n + 1 ≤ 600) : Rc σ (n + 1) μ := by
  obtain ⟨h1, h2, h3, e, c, s, h4, h5, h6, h7, h8, h9, h10⟩ := h
  exact ⟨h1, h2, hn, e, c, s, h4, h5, h6, by omega, h8, by omega, h10⟩
/-- asking Known leads from between calls into a query -/
theorem Rc.at {σ μ μ' : Mem} {k : Int32} {n : Nat} (h : Rc σ n μ) (hp : (0 < μ.1 43 7 ∧ k = μ.1 43 5 ∧ μ.1 43 6 = μ.1 36 2 ∧ μ' = μ) ∨ (¬ (0 < μ.1 43 7 ∧ k = μ.1 43 5 ∧ μ.1 43 6 = μ.1 36 2) ∧ Kn σ k μ' ∧ AtK μ k μ')) : Ca σ k n μ' := by
  obtain ⟨h1, h2, h3, e, c, s, h4, h5, h6, h7, h8, h9, h10, h11⟩ := h
  rcases hp with ⟨p1, p2, p3, p4⟩ | ⟨-, p2, p3⟩
  · rw [p4]
    have e0 : 0 < e := by rw [h4] at p1; exact (nI_gt (by omega)).mp p1
    have es : s = c := (nI_eq (by omega) (by omega)).mp (h6.symm.trans (p3.trans h5))
    refine ⟨e, c, by rw [p2]; exact h10 e0 es, h5, by rw [← es]; exact h6, p2.symm, e0, by omega, by omega, h3⟩
  · have hk := p3.k
    obtain ⟨q1, q2, q3, q4, q5⟩ := p3
    refine ⟨e + 1, c, ⟨⟨h1.keep hk, p2, h2.1⟩, by rw [q3, h4, nI_1], by omega, fun b hb => ?_⟩, (q5 36 2 (by omega)).trans h5, q2.trans h5, q1, by omega, by omega, by omega, h3⟩
    obtain ⟨eb, b1, b2⟩ := h11 b hb
    exact ⟨eb, by omega, (q5 _ 4 (by omega)).trans b2, fun z => absurd z (by omega)⟩
theorem T_at {l : Launch} {G : Wd} {k : Int32} {n : Nat} {σ μ : Mem} (h : Rc σ n μ) : Mt l G KC yX4_at cX4_at 3 none 5 [.ref (gA G 43), .int k] μ (Qv (fun μ' => (0 < μ.1 43 7 ∧ k = μ.1 43 5 ∧ μ.1 43 6 = μ.1 36 2 ∧ μ' = μ) ∨ (¬ (0 < μ.1 43 7 ∧ k = μ.1 43 5 ∧ μ.1 43 6 = μ.1 36 2) ∧ Kn σ k μ' ∧ AtK μ k μ'))) := T_X4_at h.1.2.1 h.1.2.2.1.2.2.2 h.2.1.1.2.1
theorem bc_bx {σ μ : Mem} (h : LC σ μ) (x : Int32) : isBc μ x ↔ isBx σ x := by unfold isBc isBx; rw [h.2.2.1.1]
theorem q_lt {q : Int32} : q < 4 ↔ q ≤ 3 := by rw [i_lt, i_le]; have e4 : (4 : Int32).toInt = 4 := rfl; have e3 : (3 : Int32).toInt = 3 := rfl; omega
set_option maxHeartbeats 100000 in
set_option maxRecDepth 100000 in
theorem C_farOf {l : Launch} {G : Wd} {q d : Int32} {k : Int32} {n : Nat} {σ μ : Mem} (hR : Rc σ n μ) (hn : n + 1 ≤ 600) : Mt l G KC yX11_farOf cX11_farOf 4 (some .int) 9 [.ref (gA G 0), .int q, .int d, .int k] μ (Qi (fun v μ' => v = sp_farOf σ q d k ∧ Rc σ (n + 1) μ')) := by
  refine Mt.of (own := RX11) (n := 0) (by decide) rfl [some (.ref (gA G 0)), some (.int q), some (.int d), some (.int k)] rfl (Nat.le_of_ble_eq_true rfl) ?_
  refine A_aload0 dX11_farOf_0 ?_
  refine A_getR gf_X11_76 rfl dX11_farOf_1 ?_
  refine A_iload3 dX11_farOf_4 ?_
  refine A_vv1 lk_X11_201 yv_X4_at dX11_farOf_5 (rfl) (rfl) (T_at hR) (by decide) (Nat.le_of_ble_eq_true rfl) (fun μ_5 h_5 => ?_)
  have hC := hR.at h_5
  refine A_aload0 dX11_farOf_8 ?_
  refine A_getR gf_X11_76 rfl dX11_farOf_9 ?_
  refine A_iload1 dX11_farOf_12 ?_
  refine A_iload2 dX11_farOf_13 ?_
  refine A_vi2 lk_X11_204 yv_X4_distant dX11_farOf_14 (rfl) (rfl) (T_X4_distant) (by decide) (Nat.le_of_ble_eq_true rfl) (fun r_14 μ_14 h_14 => ?_)
  obtain ⟨v_14, e_14⟩ := h_14
  replace v_14 := Eq.symm v_14
  subst v_14
  replace e_14 := e_14.symm
  subst e_14
  refine A_iret dX11_farOf_17 ?_
  refine ⟨_, rfl, ?_, hC.rc hR.2.1 hn⟩
  unfold sp_farOf farS
  by_cases c : isQt q ∧ isDy d
  · have hq : q < 4 := q_lt.mpr c.1.2
    rw [if_pos c, if_pos ⟨c.1.1, hq, c.2.1, c.2.2⟩]
    obtain ⟨x, hx, rfl⟩ := nI_rng (n := 4) c.1.1 hq (by decide)
    obtain ⟨y, hy, rfl⟩ := nI_rng (n := 60) c.2.1 c.2.2 (by decide)
    rw [nI_60, nI_c (by omega)]
    exact hC.wk.2.1.1 _ (by omega)
  · rw [if_neg c, if_neg (fun z => c ⟨⟨z.1, q_lt.mp z.2.1⟩, z.2.2.1, z.2.2.2⟩)]
set_option maxHeartbeats 100000 in
set_option maxRecDepth 100000 in
theorem C_reading {l : Launch} {G : Wd} {b d : Int32} {k : Int32} {n : Nat} {σ μ : Mem} (hR : Rc σ n μ) (hn : n + 1 ≤ 600) : Mt l G KC yX11_reading cX11_reading 4 (some .int) 9 [.ref (gA G 0), .int b, .int d, .int k] μ (Qi (fun v μ' => v = sp_reading σ b d k ∧ Rc σ (n + 1) μ')) := by
  refine Mt.of (own := RX11) (n := 0) (by decide) rfl [some (.ref (gA G 0)), some (.int b), some (.int d), some (.int k)] rfl (Nat.le_of_ble_eq_true rfl) ?_
  refine A_aload0 dX11_reading_0 ?_
  refine A_getR gf_X11_76 rfl dX11_reading_1 ?_
  refine A_iload3 dX11_reading_4 ?_
  refine A_vv1 lk_X11_201 yv_X4_at dX11_reading_5 (rfl) (rfl) (T_at hR) (by decide) (Nat.le_of_ble_eq_true rfl) (fun μ_5 h_5 => ?_)
  have hC := hR.at h_5
  refine A_aload0 dX11_reading_8 ?_
  refine A_getR gf_X11_76 rfl dX11_reading_9 ?_
  refine A_iload1 dX11_reading_12 ?_
  refine A_iload2 dX11_reading_13 ?_
  refine A_vi2 lk_X11_208 yv_X4_number dX11_reading_14 (rfl) (rfl) (T_X4_number hC.wk.n5) (by decide) (Nat.le_of_ble_eq_true rfl) (fun r_14 μ_14 h_14 => ?_)
  obtain ⟨v_14, e_14⟩ := h_14
  replace v_14 := Eq.symm v_14
  subst v_14
  replace e_14 := e_14.symm
  subst e_14
  refine A_iret dX11_reading_17 ?_
  refine ⟨_, rfl, ?_, hC.rc hR.2.1 hn⟩
  unfold sp_reading rdS
  have e0 := hC.wk.1.2.2.1.1
  by_cases c : isPl σ b d
  · rw [if_pos c, if_pos ⟨c.1.1, by rw [e0]; exact c.1.2, c.2.1, c.2.2⟩]
    obtain ⟨x, y, rfl, rfl, hx, hy, -⟩ := i_pl hR.2.1.1.2.2 c
    rw [nI_60, nI_c (by omega)]
    exact hC.wk.2.1.2.1 _ (by omega)
  · rw [if_neg c, if_neg (fun z => c ⟨⟨z.1, by rw [← e0]; exact z.2.1⟩, z.2.2.1, z.2.2.2⟩)]
set_option maxHeartbeats 100000 in
set_option maxRecDepth 100000 in
theorem T_X11_fitted {l : Launch} {G : Wd} {b d : Int32} {k : Int32} {n : Nat} {σ μ : Mem} (hR : Rc σ n μ) (hn : n + 1 ≤ 600) : Mt l G KC yX11_fitted cX11_fitted 4 (some .boolean) 6 [.ref (gA G 0), .int b, .int d, .int k] μ (Qi (fun v μ' => (v = 0 ∧ ¬ isPl σ b d ∧ Rc σ (n + 1) μ') ∨ (v = 1 ∧ isPl σ b d ∧ Ca σ k n μ' ∧ FT σ k b.toNatClampNeg d.toNatClampNeg μ'))) := by
  refine Mt.of (own := RX11) (n := 0) (by decide) rfl [some (.ref (gA G 0)), some (.int b), some (.int d), some (.int k)] rfl (Nat.le_of_ble_eq_true rfl) ?_
  refine A_aload0 dX11_fitted_0 ?_
  refine A_iload1 dX11_fitted_1 ?_
  refine A_iload2 dX11_fitted_2 ?_
  refine A_vi2 lk_X11_181 yv_X11_isSpot dX11_fitted_3 (rfl) (rfl) (T_X11_isSpot) (by decide) (Nat.le_of_ble_eq_true rfl) (fun r_3 μ_3 h_3 => ?_)
  obtain ⟨v_3, e_3⟩ := h_3
  replace v_3 := Eq.symm v_3
  subst v_3
  replace e_3 := e_3.symm
  subst e_3
  refine A_if_ne (tgt := 11) dX11_fitted_6 (by decide) (fun c_6 => ?_) (fun c_6 => ?_)
  · have hp : isPl σ b d := ⟨(bc_bx hR.1 b).mp (bz_y c_6).1, (bz_y c_6).2⟩
    obtain ⟨x, y, rfl, rfl, hb, hd, hok, ex, ey, hbn⟩ := i_pl hR.2.1.1.2.2 hp
    refine A_aload0 dX11_fitted_11 ?_
    refine A_getR gf_X11_76 rfl dX11_fitted_12 ?_
    refine A_iload3 dX11_fitted_15 ?_
    refine A_vv1 lk_X11_201 yv_X4_at dX11_fitted_16 (rfl) (rfl) (T_at hR) (by decide) (Nat.le_of_ble_eq_true rfl) (fun μ_16 h_16 => ?_)
    have hC := hR.at h_16
    refine A_aload0 dX11_fitted_19 ?_
    refine A_getR gf_X11_82 rfl dX11_fitted_20 ?_
    refine A_iload1 dX11_fitted_23 ?_
    refine A_aald (n := 5) rfl (vp_in_nI (by omega) (by omega)) (aL hb) dX11_fitted_24 ?_
    refine A_iload2 dX11_fitted_25 ?_
    refine A_vv1 lk_X11_269 yv_X5_fit dX11_fitted_26 (oL hb) (rfl) (T_X5_fit hC.wk hbn hb hd (hC.V hbn hb)) (by decide) (Nat.le_of_ble_eq_true rfl) (fun μ_26 h_26 => ?_)
    obtain ⟨f1, f2, f3⟩ := h_26
    refine A_iconst (v := 1) dX11_fitted_29 (by decide) ?_
    refine A_zret dX11_fitted_30 (by decide) ?_
    exact ⟨_, rfl, Or.inr ⟨rfl, hp, hC.fit hb hd f1 f2 f3, by rw [ex, ey]; exact f1⟩⟩
  · refine A_iconst (v := 0) dX11_fitted_9 (by decide) ?_
    refine A_zret dX11_fitted_10 (by decide) ?_
    exact ⟨_, rfl, Or.inl ⟨rfl, fun z => bz_0.mp c_6 ⟨(bc_bx hR.1 b).mpr z.1, z.2⟩, hR.up hn⟩⟩
set_option maxHeartbeats 100000 in
set_option maxRecDepth 100000 in
theorem C_laws {l : Launch} {G : Wd} {b d : Int32} {k : Int32} {n : Nat} {σ μ : Mem} (hR : Rc σ n μ) (hn : n + 1 ≤ 600) : Mt l G KC yX11_laws cX11_laws 4 (some .int) 9 [.ref (gA G 0), .int b, .int d, .int k] μ (Qi (fun v μ' => v = sp_laws σ b d k ∧ Rc σ (n + 1) μ')) := by
  refine Mt.of (own := RX11) (n := 0) (by decide) rfl [some (.ref (gA G 0)), some (.int b), some (.int d), some (.int k)] rfl (Nat.le_of_ble_eq_true rfl) ?_
  refine A_aload0 dX11_laws_0 ?_
  refine A_iload1 dX11_laws_1 ?_
  refine A_iload2 dX11_laws_2 ?_
  refine A_iload3 dX11_laws_3 ?_
  refine A_vi3 lk_X11_211 yv_X11_fitted dX11_laws_4 (rfl) (rfl) (T_X11_fitted hR hn) (by decide) (Nat.le_of_ble_eq_true rfl) (fun r_4 μ_4 h_4 => ?_)
  refine A_if_eq (tgt := 22) dX11_laws_7 (by decide) (fun c_7 => ?_) (fun c_7 => ?_)
  · refine A_iconst (v := -1) dX11_laws_22 (by decide) ?_
    refine A_iret dX11_laws_23 ?_
    rcases h_4 with ⟨-, hp, hC⟩ | ⟨h0, -⟩
    · refine ⟨_, rfl, ?_, hC⟩
      unfold sp_laws
      rw [if_neg hp]
    · exact absurd (h0.symm.trans c_7) (by decide)
  · rcases h_4 with ⟨h0, -⟩ | ⟨-, hp, hC, hF⟩
    · exact absurd h0 c_7
    obtain ⟨x, y, rfl, rfl, hb, hd, hok, ex, ey, hbn⟩ := i_pl hR.2.1.1.2.2 hp
    rw [ex, ey] at hF
    refine A_aload0 dX11_laws_10 ?_
    refine A_getR gf_X11_82 rfl dX11_laws_11 ?_
    refine A_iload1 dX11_laws_14 ?_
    refine A_aald (n := 5) rfl (vp_in_nI (by omega) (by omega)) (aL hb) dX11_laws_15 ?_
    refine A_getI gf_X11_215 (kL_12 hb) dX11_laws_16 ?_
    rw [hF.2.2.1.1]
    refine A_goto (tgt := 23) dX11_laws_19 (by decide) ?_
    refine A_iret dX11_laws_23 ?_
    refine ⟨_, rfl, ?_, hC.rc hR.2.1 hn⟩
    unfold sp_laws fI
    rw [if_pos hp, ex, ey]
set_option maxHeartbeats 100000 in
set_option maxRecDepth 100000 in
theorem C_misses {l : Launch} {G : Wd} {b d : Int32} {k : Int32} {n : Nat} {σ μ : Mem} (hR : Rc σ n μ) (hn : n + 1 ≤ 600) : Mt l G KC yX11_misses cX11_misses 4 (some .int) 9 [.ref (gA G 0), .int b, .int d, .int k] μ (Qi (fun v μ' => v = sp_misses σ b d k ∧ Rc σ (n + 1) μ')) := by
  refine Mt.of (own := RX11) (n := 0) (by decide) rfl [some (.ref (gA G 0)), some (.int b), some (.int d), some (.int k)] rfl (Nat.le_of_ble_eq_true rfl) ?_
  refine A_aload0 dX11_misses_0 ?_
  refine A_iload1 dX11_misses_1 ?_
  refine A_iload2 dX11_misses_2 ?_
  refine A_iload3 dX11_misses_3 ?_
  refine A_vi3 lk_X11_211 yv_X11_fitted dX11_misses_4 (rfl) (rfl) (T_X11_fitted hR hn) (by decide) (Nat.le_of_ble_eq_true rfl) (fun r_4 μ_4 h_4 => ?_)
  refine A_if_eq (tgt := 22) dX11_misses_7 (by decide) (fun c_7 => ?_) (fun c_7 => ?_)
  · refine A_iconst (v := -1) dX11_misses_22 (by decide) ?_
    refine A_iret dX11_misses_23 ?_
    rcases h_4 with ⟨-, hp, hC⟩ | ⟨h0, -⟩
    · refine ⟨_, rfl, ?_, hC⟩
      unfold sp_misses
      rw [if_neg hp]
    · exact absurd (h0.symm.trans c_7) (by decide)
  · rcases h_4 with ⟨h0, -⟩ | ⟨-, hp, hC, hF⟩
    · exact absurd h0 c_7
    obtain ⟨x, y, rfl, rfl, hb, hd, hok, ex, ey, hbn⟩ := i_pl hR.2.1.1.2.2 hp
    rw [ex, ey] at hF
    refine A_aload0 dX11_misses_10 ?_
    refine A_getR gf_X11_82 rfl dX11_misses_11 ?_
    refine A_iload1 dX11_misses_14 ?_
    refine A_aald (n := 5) rfl (vp_in_nI (by omega) (by omega)) (aL hb) dX11_misses_15 ?_
    refine A_getI gf_X11_223 (kL_13 hb) dX11_misses_16 ?_
    rw [hF.2.2.2.1]
    refine A_goto (tgt := 23) dX11_misses_19 (by decide) ?_
    refine A_iret dX11_misses_23 ?_
    refine ⟨_, rfl, ?_, hC.rc hR.2.1 hn⟩
    unfold sp_misses fI
    rw [if_pos hp, ex, ey]
set_option maxHeartbeats 100000 in
set_option maxRecDepth 100000 in
theorem C_frost {l : Launch} {G : Wd} {b d : Int32} {k : Int32} {n : Nat} {σ μ : Mem} (hR : Rc σ n μ) (hn : n + 1 ≤ 600) : Mt l G KC yX11_frost cX11_frost 4 (some .int) 9 [.ref (gA G 0), .int b, .int d, .int k] μ (Qi (fun v μ' => v = sp_frost σ b d k ∧ Rc σ (n + 1) μ')) := by
  refine Mt.of (own := RX11) (n := 0) (by decide) rfl [some (.ref (gA G 0)), some (.int b), some (.int d), some (.int k)] rfl (Nat.le_of_ble_eq_true rfl) ?_
  refine A_aload0 dX11_frost_0 ?_
  refine A_iload1 dX11_frost_1 ?_
  refine A_iload2 dX11_frost_2 ?_
  refine A_iload3 dX11_frost_3 ?_
  refine A_vi3 lk_X11_211 yv_X11_fitted dX11_frost_4 (rfl) (rfl) (T_X11_fitted hR hn) (by decide) (Nat.le_of_ble_eq_true rfl) (fun r_4 μ_4 h_4 => ?_)
  refine A_if_eq (tgt := 22) dX11_frost_7 (by decide) (fun c_7 => ?_) (fun c_7 => ?_)
  · refine A_iconst (v := -1) dX11_frost_22 (by decide) ?_
    refine A_iret dX11_frost_23 ?_
    rcases h_4 with ⟨-, hp, hC⟩ | ⟨h0, -⟩
    · refine ⟨_, rfl, ?_, hC⟩
      unfold sp_frost
      rw [if_neg hp]
    · exact absurd (h0.symm.trans c_7) (by decide)
  · rcases h_4 with ⟨h0, -⟩ | ⟨-, hp, hC, hF⟩
    · exact absurd h0 c_7
    obtain ⟨x, y, rfl, rfl, hb, hd, hok, ex, ey, hbn⟩ := i_pl hR.2.1.1.2.2 hp
    rw [ex, ey] at hF
    refine A_aload0 dX11_frost_10 ?_
    refine A_getR gf_X11_82 rfl dX11_frost_11 ?_
    refine A_iload1 dX11_frost_14 ?_
    refine A_aald (n := 5) rfl (vp_in_nI (by omega) (by omega)) (aL hb) dX11_frost_15 ?_
    refine A_getI gf_X11_229 (kL_14 hb) dX11_frost_16 ?_
    rw [hF.2.2.2.2]
    refine A_goto (tgt := 23) dX11_frost_19 (by decide) ?_
    refine A_iret dX11_frost_23 ?_
    refine ⟨_, rfl, ?_, hC.rc hR.2.1 hn⟩
    unfold sp_frost fI
    rw [if_pos hp, ex, ey]

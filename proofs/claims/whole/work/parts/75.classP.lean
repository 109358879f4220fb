/-! from one state to another that answers alike -/
theorem Ce.mv {σ τ a c : Mem} {k : Int32} {e : Nat} (h : Ce σ k e a) (g : Sm σ τ) (gk : Sk a c) (hl : LC τ c) (hw : WF τ) : Ce τ k e c := by
  obtain ⟨⟨h0, ⟨k1, k2, k3⟩, hw0⟩, h2, h3, h4⟩ := h
  have hKn : Kn σ k c := ⟨fun j hj => (gk 44 j (by omega) (by omega)).trans (k1 j hj), fun j hj => (gk 45 j (by omega) (by omega)).trans (k2 j hj), fun j hj z => (gk 46 j (by omega) (by omega)).trans (k3 j hj z)⟩
  refine ⟨⟨hl, g.xKn hKn, hw⟩, (gk 43 7 (by omega) (by omega)).trans h2, h3, fun b hb => ?_⟩
  obtain ⟨eb, b1, b2, b3⟩ := h4 b hb
  exact ⟨eb, b1, (gk _ 4 (by omega) (by omega)).trans b2, fun z y => g.lv ((b3 z (by rw [← g.xnbx]; exact y)).keep (fun i j q1 q2 => gk i j (by omega) (by omega)))⟩
theorem Rc.mv {σ τ a c : Mem} {n : Nat} (h : Rc σ n a) (hn : n + 1 ≤ 600) (g : Sm σ τ) (gk : Sk a c) (hl : LC τ c) (hw : WFa τ) (g2 : c.1 36 2 = a.1 36 2) : Rc τ (n + 1) c := by
  obtain ⟨h1, h2, h3, e, x, s, h4, h5, h6, h7, h8, h9, h10, h11⟩ := h
  refine ⟨hl, hw, hn, e, x, s, (gk 43 7 (by omega) (by omega)).trans h4, g2.trans h5, (gk 43 6 (by omega) (by omega)).trans h6, by omega, h8, by omega, fun z y => ?_, fun b hb => ?_⟩
  · rw [gk 43 5 (by omega) (by omega)]
    exact (h10 z y).mv g gk hl hw.1
  · obtain ⟨eb, b1, b2⟩ := h11 b hb
    exact ⟨eb, b1, (gk _ 4 (by omega) (by omega)).trans b2⟩
theorem Rc.later {σ μ : Mem} {n : Nat} {v : Int32} (h : Rc σ n μ) (hn : n + 1 ≤ 600) : Rc (wI σ 0 43 v) (n + 1) (wI μ 36 1 v) := by
  have h0 := h
  obtain ⟨⟨r1, ⟨f1, f2, f3, f4, f5⟩, r3, r4, r5⟩, w1, -⟩ := h
  have s0 : ∀ i j, ¬ (i = 0 ∧ j = 43) → (wI σ 0 43 v).1 i j = σ.1 i j := fun i j q => wI_ne (by omega)
  have c0 : ∀ i j, ¬ (i = 36 ∧ j = 1) → (wI μ 36 1 v).1 i j = μ.1 i j := fun i j q => wI_ne (by omega)
  have en : nfc (wI σ 0 43 v) = nfc σ := by unfold nfc; rw [s0 0 42 (by omega)]
  refine Rc.mv h0 hn (fun i j q => s0 i j (by omega)) (fun i j q1 q2 => c0 i j (by omega)) ⟨r1.mv (fun i j q => s0 i j (by omega)) (fun i j q => c0 i j (by omega)), ⟨(c0 36 0 (by omega)).trans (f1.trans (s0 0 42 (by omega)).symm), wI_same.trans wI_same.symm, ?_, ?_, fun f hf => ?_⟩, r3.mv (fun i j q => s0 i j (by omega)) (fun _ => rfl) (fun i j q => c0 i j (by omega)) (fun _ => rfl), r4.mv (fun i j q => s0 i j (by omega)) (fun i j q => c0 i j (by omega)), r5.mv (fun b hb => c0 _ _ (by omega)) (fun _ => rfl)⟩ ⟨⟨w1.1.1.mv (s0 0 1 (by omega)), w1.1.2.1.mv (fun i j q => s0 i j (by omega)), w1.1.2.2.mv (fun i j q => s0 i j (by omega))⟩, w1.2.mv (fun i j q => s0 i j (by omega))⟩ (c0 36 2 (by omega))
  · obtain ⟨N, d1, d2, d3⟩ := f3
    exact ⟨N, d1, d2, fun x hx => (s0 27 x (by omega)).trans (d3 x hx)⟩
  · obtain ⟨D, d1, d2, d3⟩ := f4
    exact ⟨D, d1, (c0 36 4 (by omega)).trans d2, fun x hx => (s0 28 x (by omega)).trans (d3 x hx)⟩
  · rw [en] at hf
    rw [c0 37 f (by omega), c0 38 f (by omega), c0 39 f (by omega), c0 40 f (by omega), c0 41 f (by omega), c0 42 f (by omega), s0 20 f (by omega), s0 21 f (by omega), s0 22 f (by omega), s0 23 f (by omega), s0 24 f (by omega), s0 25 f (by omega), s0 26 f (by omega)]
    exact f5 f hf
set_option maxHeartbeats 100000 in
set_option maxRecDepth 100000 in
theorem C_later {l : Launch} {G : Wd} {b : Int32} {n : Nat} {σ μ : Mem} (hR : Rc σ n μ) (hn : n + 1 ≤ 600) : Mt l G KC yX11_later cX11_later 2 (some .int) 9 [.ref (gA G 0), .int b] μ (Qi (fun v μ' => v = (sp_later σ b).1 ∧ Rc (sp_later σ b).2 (n + 1) μ')) := by
  refine Mt.of (own := RX11) (n := 0) (by decide) rfl [some (.ref (gA G 0)), some (.int b)] rfl (Nat.le_of_ble_eq_true rfl) ?_
  refine A_aload0 dX11_later_0 ?_
  refine A_getR gf_X11_67 rfl dX11_later_1 ?_
  refine A_iload1 dX11_later_4 ?_
  refine A_vi1 lk_X11_197 yv_X1_goOn dX11_later_5 (rfl) (rfl) (T_X1_goOn) (by decide) (Nat.le_of_ble_eq_true rfl) (fun r_5 μ_5 h_5 => ?_)
  refine A_iret dX11_later_8 ?_
  have e1 := hR.1.2.1.2.1
  rw [e1] at h_5
  rcases h_5 with ⟨a1, a2, a3⟩ | ⟨a1, a2, a3⟩
  · have e : sp_later σ b = (-1, σ) := if_neg a2
    exact ⟨_, rfl, by rw [e]; exact a1, by rw [e, a3]; exact hR.up hn⟩
  · have e : sp_later σ b = (σ.1 0 43 + b, wI σ 0 43 (σ.1 0 43 + b)) := if_pos a2
    exact ⟨_, rfl, by rw [e]; exact a1, by rw [e, a3]; exact hR.later hn⟩
theorem Rc.cut {σ μ : Mem} {n : Nat} {v : Int32} (h : Rc σ n μ) (hn : n + 1 ≤ 600) (h1 : 0 ≤ v) (h2 : v ≤ σ.1 0 1) : Rc (wI σ 0 1 v) (n + 1) (wI μ 0 1 v) := by
  have h0 := h
  obtain ⟨⟨⟨t1, t2, t3, t4⟩, r2, r3, r4, r5⟩, w1, -⟩ := h
  have s0 : ∀ i j, ¬ (i = 0 ∧ j = 1) → (wI σ 0 1 v).1 i j = σ.1 i j := fun i j q => wI_ne (by omega)
  have c0 : ∀ i j, ¬ (i = 0 ∧ j = 1) → (wI μ 0 1 v).1 i j = μ.1 i j := fun i j q => wI_ne (by omega)
  refine Rc.mv h0 hn (fun i j q => s0 i j (by omega)) (fun i j q1 q2 => c0 i j (by omega)) ⟨⟨wI_same.trans wI_same.symm, by rw [c0 0 2 (by omega), s0 0 2 (by omega)]; exact t2, by rw [c0 0 3 (by omega), s0 0 3 (by omega)]; exact t3, fun j hj => by rw [c0 1 j (by omega), s0 1 j (by omega)]; exact t4 j hj⟩, r2.mv (fun i j q => s0 i j (by omega)) (fun i j q => c0 i j (by omega)) rfl, r3.mv (fun i j q => s0 i j (by omega)) (fun _ => rfl) (fun i j q => c0 i j (by omega)) (fun _ => rfl), r4.mv (fun i j q => s0 i j (by omega)) (fun i j q => c0 i j (by omega)), r5.mv (fun b hb => c0 _ _ (by omega)) (fun _ => rfl)⟩ ⟨⟨?_, w1.1.2.1.mv (fun i j q => s0 i j (by omega)), w1.1.2.2.mv (fun i j q => s0 i j (by omega))⟩, w1.2.mv (fun i j q => s0 i j (by omega))⟩ (c0 36 2 (by omega))
  obtain ⟨t, q1, q2⟩ := w1.1.1
  obtain ⟨x, x1, x2, x3, -⟩ := i_nat h1
  have := i_le.mp h2
  rw [q2, nI_i (by omega)] at this
  exact ⟨x, by omega, by rw [wI_same]; exact x2⟩
set_option maxHeartbeats 100000 in
set_option maxRecDepth 100000 in
theorem C_end {l : Launch} {G : Wd} {x : Int32} {n : Nat} {σ μ : Mem} (hR : Rc σ n μ) (hn : n + 1 ≤ 600) : Mt l G KC yX11_end cX11_end 2 (some .int) 9 [.ref (gA G 0), .int x] μ (Qi (fun v μ' => v = (sp_end σ x).1 ∧ Rc (sp_end σ x).2 (n + 1) μ')) := by
  refine Mt.of (own := RX11) (n := 0) (by decide) rfl [some (.ref (gA G 0)), some (.int x)] rfl (Nat.le_of_ble_eq_true rfl) ?_
  refine A_iload1 dX11_end_0 ?_
  refine A_if_lt (tgt := 12) dX11_end_1 (by decide) (fun c_1 => ?_) (fun c_1 => ?_)
  · refine A_iconst (v := -1) dX11_end_12 (by decide) ?_
    refine A_iret dX11_end_13 ?_
    have e : sp_end σ x = (-1, σ) := if_pos (Or.inl c_1)
    exact ⟨_, rfl, by rw [e], by rw [e]; exact hR.up hn⟩
  · refine A_iload1 dX11_end_4 ?_
    refine A_aload0 dX11_end_5 ?_
    refine A_getI gf_X11_114 rfl dX11_end_6 ?_
    rw [hR.1.1.1]
    refine A_icmp_le (tgt := 14) dX11_end_9 (by decide) (fun c_9 => ?_) (fun c_9 => ?_)
    · refine A_aload0 dX11_end_14 ?_
      refine A_iload1 dX11_end_15 ?_
      refine A_putI gf_X11_114 rfl dX11_end_16 ?_
      refine A_iload1 dX11_end_19 ?_
      refine A_iret dX11_end_20 ?_
      have e : sp_end σ x = (x, wI σ 0 1 x) := if_neg (fun z => by rcases z with z | z; exact c_1 z; exact absurd z (Int32.not_lt.mpr c_9))
      exact ⟨_, rfl, by rw [e], by rw [e]; exact hR.cut hn (Int32.not_lt.mp c_1) c_9⟩
    · refine A_iconst (v := -1) dX11_end_12 (by decide) ?_
      refine A_iret dX11_end_13 ?_
      have e : sp_end σ x = (-1, σ) := if_pos (Or.inr (Int32.not_le.mp c_9))
      exact ⟨_, rfl, by rw [e], by rw [e]; exact hR.up hn⟩
theorem rd15 {v : Int32} (h1 : 0 ≤ v) (h2 : v ≤ 15) : -999 ≤ v ∧ v ≤ 999 := by
  have e1 : (-999 : Int32).toInt = -999 := rfl
  have e2 : (999 : Int32).toInt = 999 := rfl
  have e3 : (15 : Int32).toInt = 15 := rfl
  have e0 : (0 : Int32).toInt = 0 := rfl
  have a := i_le.mp h1
  have b := i_le.mp h2
  rw [i_le, i_le, e1, e2]
  omega
set_option maxHeartbeats 400000 in
set_option maxRecDepth 100000 in
theorem C_read {l : Launch} {G : Wd} {b d r v : Int32} {n : Nat} {σ μ : Mem} (hR : Rc σ n μ) (hn : n + 1 ≤ 600) : Mt l G KC yX11_read cX11_read 6 (some .int) 9 [.ref (gA G 0), .int b, .int d, .int r, .int v] μ (Qi (fun z μ' => z = (sp_read σ b d r v).1 ∧ Rc (sp_read σ b d r v).2 (n + 1) μ')) := by
  refine Mt.of (own := RX11) (n := 1) (by decide) rfl [some (.ref (gA G 0)), some (.int b), some (.int d), some (.int r), some (.int v), none] rfl (Nat.le_of_ble_eq_true rfl) ?_
  have hnf := hR.nf
  refine A_aload0 dX11_read_0 ?_
  refine A_iload1 dX11_read_1 ?_
  refine A_iload2 dX11_read_2 ?_
  refine A_vi2 lk_X11_181 yv_X11_isSpot dX11_read_3 (rfl) (rfl) (T_X11_isSpot) (by decide) (Nat.le_of_ble_eq_true rfl) (fun r_3 μ_3 h_3 => ?_)
  obtain ⟨v_3, e_3⟩ := h_3
  replace v_3 := Eq.symm v_3
  subst v_3
  replace e_3 := e_3.symm
  subst e_3
  refine A_if_eq (tgt := 16) dX11_read_6 (by decide) (fun c_6 => ?_) (fun c_6 => ?_)
  · refine A_iconst (v := -1) dX11_read_16 (by decide) ?_
    refine A_iret dX11_read_17 ?_
    have e : sp_read σ b d r v = (-1, σ) := if_neg (fun z => bz_0.mp c_6 ⟨(bc_bx hR.1 b).mpr z.1, z.2.1⟩)
    exact ⟨_, rfl, by rw [e], by rw [e]; exact hR.up hn⟩
  · refine A_iload3 dX11_read_9 ?_
    refine A_si1 lk_X11_185 ys_X11_isReader dX11_read_10 (T_X11_isReader) (by decide) (Nat.le_of_ble_eq_true rfl) (fun r_10 μ_10 h_10 => ?_)
    obtain ⟨v_10, e_10⟩ := h_10
    replace v_10 := Eq.symm v_10
    subst v_10
    replace e_10 := e_10.symm
    subst e_10
    refine A_if_ne (tgt := 18) dX11_read_13 (by decide) (fun c_13 => ?_) (fun c_13 => ?_)
    · have hp : isPl σ b d := ⟨(bc_bx hR.1 b).mp (bz_y c_6).1, (bz_y c_6).2⟩
      obtain ⟨x, y, rfl, rfl, hb, hd, hok, ex, ey, hbn⟩ := i_pl hR.2.1.1.2.2 hp
      obtain ⟨w, hw10, rfl⟩ := nI_rng (n := 10) (bz_y c_13).1 (bz_y c_13).2 (by decide)
      have e7 : μ.1 6 x = σ.1 7 x := (hR.1.2.2.1.2.2.1 x hbn).2.1
      refine A_aload0 dX11_read_18 ?_
      refine A_getR gf_X11_29 rfl dX11_read_19 ?_
      refine A_iload1 dX11_read_22 ?_
      refine A_vi1 lk_X11_188 yv_X2_isWind dX11_read_23 (rfl) (rfl) (T_X2_isWind hb) (by decide) (Nat.le_of_ble_eq_true rfl) (fun r_23 μ_23 h_23 => ?_)
      obtain ⟨v_23, e_23⟩ := h_23
      replace v_23 := Eq.symm v_23
      subst v_23
      replace e_23 := e_23.symm
      subst e_23
      refine A_istore5 dX11_read_26 rfl (by decide) ?_
      refine A_iload4 dX11_read_28 ?_
      refine A_iload5 dX11_read_30 ?_
      refine A_if_eq (tgt := 39) dX11_read_32 (by decide) (fun c_32 => ?_) (fun c_32 => ?_)
      · refine A_sipush (v := -999) dX11_read_39 (by decide) ?_
        refine A_icmp_lt (tgt := 63) dX11_read_42 (by decide) (fun c_42 => ?_) (fun c_42 => ?_)
        · refine A_iconst (v := -1) dX11_read_63 (by decide) ?_
          refine A_iret dX11_read_64 ?_
          have e : sp_read σ (nI x) (nI y) (nI w) v = (-1, σ) := if_neg (fun z => by have z5 := z.2.2.2.2; rw [ex, if_neg (fun q => bz_0.mp c_32 (e7.trans q))] at z5; exact absurd z5.1 (Int32.not_le.mpr c_42))
          exact ⟨_, rfl, by rw [e], by rw [e]; exact hR.up hn⟩
        · refine A_iload4 dX11_read_45 ?_
          refine A_iload5 dX11_read_47 ?_
          refine A_if_eq (tgt := 57) dX11_read_49 (by decide) (fun c_49 => ?_) (fun c_49 => absurd c_49 (fun z => z c_32))
          refine A_sipush (v := 999) dX11_read_57 (by decide) ?_
          refine A_icmp_le (tgt := 65) dX11_read_60 (by decide) (fun c_60 => ?_) (fun c_60 => ?_)
          · refine A_aload0 dX11_read_65 ?_
            refine A_getR gf_X11_67 rfl dX11_read_66 ?_
            refine A_iload1 dX11_read_69 ?_
            refine A_iload2 dX11_read_70 ?_
            refine A_iload3 dX11_read_71 ?_
            refine A_iload4 dX11_read_72 ?_
            refine A_vi4 lk_X11_177 yv_X1_tell dX11_read_74 (rfl) (rfl) (T_X1_tell hnf.2.1 hnf.1) (by decide) (Nat.le_of_ble_eq_true rfl) (fun r_74 μ_74 h_74 => ?_)
            refine A_iret dX11_read_77 ?_
            rcases h_74 with ⟨a1, a2, a3⟩ | ⟨a1, a2, a3⟩
            · have e : sp_read σ (nI x) (nI y) (nI w) v = (-1, σ) := if_neg (fun z => z.2.2.2.1 (by rw [hnf.2.2, a2]; rfl))
              exact ⟨_, rfl, by rw [e]; exact a1, by rw [e, a3]; exact hR.up hn⟩
            · have e : sp_read σ (nI x) (nI y) (nI w) v = (nI (nfc σ), add1 σ 0 (nI x) (nI y) (nI w) v) := if_pos ⟨hp.1, hp.2, bz_y c_13, fun z => by rw [hnf.2.2] at z; have := (nI_eq (b := 300) (by omega) (by decide)).mp z; omega, by rw [ex, if_neg (fun q => bz_0.mp c_32 (e7.trans q))]; exact ⟨Int32.not_lt.mp c_42, c_60⟩⟩
              refine ⟨_, rfl, by rw [e]; exact a1, ?_⟩
              rw [e, a3]
              exact hR.tell hn a2 rfl ⟨Or.inl rfl, ⟨x, y, w, rfl, rfl, rfl, hb, fun z => absurd z (by decide), fun _ => hp.1.2, hd, hw10⟩, ⟨Int32.not_lt.mp c_42, c_60⟩⟩
          · refine A_iconst (v := -1) dX11_read_63 (by decide) ?_
            refine A_iret dX11_read_64 ?_
            have e : sp_read σ (nI x) (nI y) (nI w) v = (-1, σ) := if_neg (fun z => by have z5 := z.2.2.2.2; rw [ex, if_neg (fun q => bz_0.mp c_32 (e7.trans q))] at z5; exact c_60 z5.2)
            exact ⟨_, rfl, by rw [e], by rw [e]; exact hR.up hn⟩
      · refine A_iconst (v := 0) dX11_read_35 (by decide) ?_
        refine A_goto (tgt := 42) dX11_read_36 (by decide) ?_
        refine A_icmp_lt (tgt := 63) dX11_read_42 (by decide) (fun c_42 => ?_) (fun c_42 => ?_)
        · refine A_iconst (v := -1) dX11_read_63 (by decide) ?_
          refine A_iret dX11_read_64 ?_
          have e : sp_read σ (nI x) (nI y) (nI w) v = (-1, σ) := if_neg (fun z => by have z5 := z.2.2.2.2; rw [ex, if_pos (e7.symm.trans (bz_y c_32))] at z5; exact absurd z5.1 (Int32.not_le.mpr c_42))
          exact ⟨_, rfl, by rw [e], by rw [e]; exact hR.up hn⟩
        · refine A_iload4 dX11_read_45 ?_
          refine A_iload5 dX11_read_47 ?_
          refine A_if_eq (tgt := 57) dX11_read_49 (by decide) (fun c_49 => absurd c_49 (fun z => c_32 z)) (fun c_49 => ?_)
          refine A_bipush (v := 15) dX11_read_52 (by decide) ?_
          refine A_goto (tgt := 60) dX11_read_54 (by decide) ?_
          refine A_icmp_le (tgt := 65) dX11_read_60 (by decide) (fun c_60 => ?_) (fun c_60 => ?_)
          · refine A_aload0 dX11_read_65 ?_
            refine A_getR gf_X11_67 rfl dX11_read_66 ?_
            refine A_iload1 dX11_read_69 ?_
            refine A_iload2 dX11_read_70 ?_
            refine A_iload3 dX11_read_71 ?_
            refine A_iload4 dX11_read_72 ?_
            refine A_vi4 lk_X11_177 yv_X1_tell dX11_read_74 (rfl) (rfl) (T_X1_tell hnf.2.1 hnf.1) (by decide) (Nat.le_of_ble_eq_true rfl) (fun r_74 μ_74 h_74 => ?_)
            refine A_iret dX11_read_77 ?_
            rcases h_74 with ⟨a1, a2, a3⟩ | ⟨a1, a2, a3⟩
            · have e : sp_read σ (nI x) (nI y) (nI w) v = (-1, σ) := if_neg (fun z => z.2.2.2.1 (by rw [hnf.2.2, a2]; rfl))
              exact ⟨_, rfl, by rw [e]; exact a1, by rw [e, a3]; exact hR.up hn⟩
            · have e : sp_read σ (nI x) (nI y) (nI w) v = (nI (nfc σ), add1 σ 0 (nI x) (nI y) (nI w) v) := if_pos ⟨hp.1, hp.2, bz_y c_13, fun z => by rw [hnf.2.2] at z; have := (nI_eq (b := 300) (by omega) (by decide)).mp z; omega, by rw [ex, if_pos (e7.symm.trans (bz_y c_32))]; exact ⟨Int32.not_lt.mp c_42, c_60⟩⟩
              refine ⟨_, rfl, by rw [e]; exact a1, ?_⟩
              rw [e, a3]
              exact hR.tell hn a2 rfl ⟨Or.inl rfl, ⟨x, y, w, rfl, rfl, rfl, hb, fun z => absurd z (by decide), fun _ => hp.1.2, hd, hw10⟩, rd15 (Int32.not_lt.mp c_42) c_60⟩
          · refine A_iconst (v := -1) dX11_read_63 (by decide) ?_
            refine A_iret dX11_read_64 ?_
            have e : sp_read σ (nI x) (nI y) (nI w) v = (-1, σ) := if_neg (fun z => by have z5 := z.2.2.2.2; rw [ex, if_pos (e7.symm.trans (bz_y c_32))] at z5; exact c_60 z5.2)
            exact ⟨_, rfl, by rw [e], by rw [e]; exact hR.up hn⟩
    · refine A_iconst (v := -1) dX11_read_16 (by decide) ?_
      refine A_iret dX11_read_17 ?_
      have e : sp_read σ b d r v = (-1, σ) := if_neg (fun z => bz_0.mp c_13 z.2.2.1)
      exact ⟨_, rfl, by rw [e], by rw [e]; exact hR.up hn⟩
theorem Rc.untell {σ μ : Mem} {n f : Nat} (h : Rc σ n μ) (hn : n + 1 ≤ 600) (h0t : 0 ≤ σ.1 0 43) (hf : f < nfc σ) : Rc (wI σ 25 f (σ.1 0 43)) (n + 1) (tbM μ f) := by
  have h0 := h
  obtain ⟨⟨r1, ⟨f1, f2, f3, f4, f5⟩, r3, r4, r5⟩, w1, -⟩ := h
  have s0 : ∀ i j, ¬ (i = 25 ∧ j = f) → (wI σ 25 f (σ.1 0 43)).1 i j = σ.1 i j := fun i j q => wI_ne (by omega)
  have c0 : ∀ i j, ¬ (i = 42 ∧ j = f) → ¬ (i = 36 ∧ j = 2) → (tbM μ f).1 i j = μ.1 i j := fun i j q1 q2 => by unfold tbM; rw [wI_ne (by omega), wI_ne (by omega)]
  have en : nfc (wI σ 25 f (σ.1 0 43)) = nfc σ := by unfold nfc; rw [s0 0 42 (by omega)]
  refine Rc.step h0 hn (fun i j q1 q2 => c0 i j (by omega) (by omega)) ⟨r1.mv (fun i j q => s0 i j (by omega)) (fun i j q => c0 i j (by omega) (by omega)), ⟨(c0 36 0 (by omega) (by omega)).trans (f1.trans (s0 0 42 (by omega)).symm), (c0 36 1 (by omega) (by omega)).trans (f2.trans (s0 0 43 (by omega)).symm), ?_, ?_, fun g hg => ?_⟩, r3.mv (fun i j q => s0 i j (by omega)) (fun _ => rfl) (fun i j q => c0 i j (by omega) (by omega)) (fun _ => rfl), r4.mv (fun i j q => s0 i j (by omega)) (fun i j q => c0 i j (by omega) (by omega)), r5.mv (fun b hb => c0 _ _ (by omega) (by omega)) (fun _ => rfl)⟩ ⟨⟨w1.1.1.mv (s0 0 1 (by omega)), ⟨?_, fun g hg => ?_⟩, w1.1.2.2.mv (fun i j q => s0 i j (by omega))⟩, w1.2.mv (fun i j q => s0 i j (by omega))⟩ (by unfold tbM; rw [wI_same])
  · obtain ⟨N, d1, d2, d3⟩ := f3
    exact ⟨N, d1, d2, fun x hx => (s0 27 x (by omega)).trans (d3 x hx)⟩
  · obtain ⟨D, d1, d2, d3⟩ := f4
    exact ⟨D, d1, (c0 36 4 (by omega) (by omega)).trans d2, fun x hx => (s0 28 x (by omega)).trans (d3 x hx)⟩
  · rw [en] at hg
    obtain ⟨a1, a2, a3, a4, a5, a6⟩ := f5 g hg
    refine ⟨by rw [c0 37 g (by omega) (by omega), s0 20 g (by omega)]; exact a1, by rw [c0 38 g (by omega) (by omega), s0 21 g (by omega)]; exact a2, by rw [c0 39 g (by omega) (by omega), s0 26 g (by omega), s0 22 g (by omega)]; exact a3, by rw [c0 40 g (by omega) (by omega), s0 23 g (by omega)]; exact a4, by rw [c0 41 g (by omega) (by omega), s0 24 g (by omega)]; exact a5, ?_⟩
    by_cases q : g = f
    · subst q
      unfold tbM
      rw [wI_ne (by omega), wI_same, wI_same]
      exact f2
    · rw [c0 42 g (by omega) (by omega), s0 25 g (by omega)]
      exact a6
  · obtain ⟨t, t1, t2⟩ := w1.1.2.1.1
    exact ⟨t, t1, (s0 0 42 (by omega)).trans t2⟩
  · rw [en] at hg
    have := w1.1.2.1.2 g hg
    unfold okFt at this ⊢
    rw [s0 20 g (by omega), s0 21 g (by omega), s0 22 g (by omega), s0 23 g (by omega), s0 26 g (by omega), s0 0 31 (by omega)]
    refine ⟨this.1, this.2.1, this.2.2.1, ?_⟩
    by_cases q : g = f
    · subst q; rw [wI_same]; exact Or.inr h0t
    · rw [s0 25 g (by omega)]; exact this.2.2.2
set_option maxHeartbeats 400000 in
set_option maxRecDepth 100000 in
theorem C_untell {l : Launch} {G : Wd} {f : Int32} {n : Nat} {σ μ : Mem} (hR : Rc σ n μ) (hn : n + 1 ≤ 600) (h0t : 0 ≤ σ.1 0 43) : Mt l G KC yX11_untell cX11_untell 2 (some .boolean) 9 [.ref (gA G 0), .int f] μ (Qi (fun v μ' => v = (sp_untell σ f).1 ∧ Rc (sp_untell σ f).2 (n + 1) μ')) := by
  refine Mt.of (own := RX11) (n := 0) (by decide) rfl [some (.ref (gA G 0)), some (.int f)] rfl (Nat.le_of_ble_eq_true rfl) ?_
  have hnf := hR.nf
  refine A_aload0 dX11_untell_0 ?_
  refine A_getR gf_X11_67 rfl dX11_untell_1 ?_
  refine A_iload1 dX11_untell_4 ?_
  refine A_vi1 lk_X11_194 yv_X1_takeBack dX11_untell_5 (rfl) (rfl) (T_X1_takeBack hnf.2.1 hnf.1) (by decide) (Nat.le_of_ble_eq_true rfl) (fun r_5 μ_5 h_5 => ?_)
  have hv5 : r_5 = 0 ∨ r_5 = 1 := by rcases h_5 with ⟨a1, -⟩ | ⟨a1, -⟩; exact Or.inl a1; exact Or.inr a1
  rw [hR.1.2.1.1] at h_5
  refine A_zret dX11_untell_8 (hv5) ?_
  have hcond : (0 ≤ f ∧ f < σ.1 0 42 ∧ μ.1 42 f.toNatClampNeg = -1) ↔ (0 ≤ f ∧ f < σ.1 0 42 ∧ σ.1 25 f.toNatClampNeg < 0) := by
    constructor
    · rintro ⟨b1, b2, b3⟩
      obtain ⟨j, hj, ej⟩ := nI_rng b1 (hnf.2.2 ▸ b2) (by omega)
      have ec : f.toNatClampNeg = j := by rw [ej]; exact nI_c (by omega)
      rw [ec] at b3 ⊢
      rw [(hR.1.2.1.2.2.2.2 j hj).2.2.2.2.2] at b3
      exact ⟨b1, b2, by rw [b3]; decide⟩
    · rintro ⟨b1, b2, b3⟩
      obtain ⟨j, hj, ej⟩ := nI_rng b1 (hnf.2.2 ▸ b2) (by omega)
      have ec : f.toNatClampNeg = j := by rw [ej]; exact nI_c (by omega)
      rw [ec] at b3 ⊢
      rw [(hR.1.2.1.2.2.2.2 j hj).2.2.2.2.2]
      rcases (hR.2.1.1.2.1.2 j hj).2.2.2 with q | q
      · exact ⟨b1, b2, q⟩
      · exact absurd b3 (Int32.not_lt.mpr q)
  rcases h_5 with ⟨a1, a2, a3⟩ | ⟨a1, a2, a3⟩
  · have e : sp_untell σ f = (0, σ) := if_neg (fun z => a2 (hcond.mpr z))
    exact ⟨_, rfl, by rw [e]; exact a1, by rw [e, a3]; exact hR.up hn⟩
  · have e : sp_untell σ f = (1, wI σ 25 f.toNatClampNeg (σ.1 0 43)) := if_pos (hcond.mp a2)
    obtain ⟨j, hj, ej⟩ := nI_rng a2.1 (hnf.2.2 ▸ a2.2.1) (by omega)
    have ec : f.toNatClampNeg = j := by rw [ej]; exact nI_c (by omega)
    rw [ec] at e a3
    exact ⟨_, rfl, by rw [e]; exact a1, by rw [e, a3]; exact hR.untell hn h0t hj⟩

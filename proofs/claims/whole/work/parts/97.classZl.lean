/-! what a hill that was read keeps: the reference's side -/
theorem sM_7 {m : Mem} {j : Nat} : (sM m).1 7 j = m.1 4 j := by
  unfold sM
  dsimp only
  rw [if_neg (by omega), if_neg (by omega), if_pos rfl]
theorem sM_8 {m : Mem} {j : Nat} : (sM m).1 8 j = m.1 5 j := by
  unfold sM
  dsimp only
  rw [if_neg (by omega), if_neg (by omega), if_neg (by omega), if_pos rfl]
theorem sM_9 {m : Mem} {j : Nat} : (sM m).1 9 j = m.1 6 j := by
  unfold sM
  dsimp only
  rw [if_neg (by omega), if_neg (by omega), if_neg (by omega), if_neg (by omega), if_pos rfl]
def BI (m : Mem) : Prop := ∀ b, b < nbN m → okBx (sM m) b ∧ (m.1 4 b = 3 → (m.1 5 (8 * b + 2)).toInt = 10 ∧ (m.1 5 (8 * b + 3)).toInt = 10)
def TI (m : Mem) : Prop := ∀ i j, 10 ≤ i ∧ i ≤ 14 → (i ≤ 12 → j < 300) → (13 ≤ i → j < 60) → m.1 i j = 0 ∨ m.1 i j = 1
theorem okB_e {m m' : Mem} {b : Nat} (h : okBx (sM m) b) (h4 : m'.1 4 b = m.1 4 b) (h6 : m'.1 6 b = m.1 6 b) (h5 : ∀ j, j < 8 → m'.1 5 (8 * b + j) = m.1 5 (8 * b + j)) : okBx (sM m') b := by
  unfold okBx at h ⊢
  rw [sM_7, sM_9, sM_8, sM_8, sM_8, sM_8, sM_8, sM_8, sM_8, sM_8] at h ⊢
  have e0 := h5 0 (by omega)
  rw [Nat.add_zero] at e0
  rw [h4, h6, e0, h5 1 (by omega), h5 2 (by omega), h5 3 (by omega), h5 4 (by omega), h5 5 (by omega), h5 6 (by omega), h5 7 (by omega)]
  exact h
theorem rng_v {z a b : Int32} {m : Mem} (h : (rng z m a b).2.1 0 2 = 0) : a ≤ (rng z m a b).1 ∧ (rng z m a b).1 ≤ b := by
  by_cases hz : z = 0
  · rw [rng_0 hz] at h ⊢
    obtain ⟨-, -, h1, h2, h3⟩ := told_F0 h
    rw [h3]
    exact ⟨h1, h2⟩
  · rw [rng_1 hz] at h ⊢
    obtain ⟨-, -, h1, h2, h3⟩ := signed_F0 h
    rw [h3]
    exact ⟨h1, h2⟩
theorem rr_o {m : Mem} {b q j : Nat} {w : Int64} {lo hi z : Int32} (h1 : j ≠ 8 * b + 2 * q) (h2 : j ≠ 8 * b + 2 * q + 1) : (sp_readRange m b q w lo hi z).1 5 j = m.1 5 j := by
  unfold sp_readRange
  rw [wI_ne (by omega), wI_ne (by omega), (Rd.rg (z := z) (Rd.rf.wa.rg.wa) (b := _)).1 5 j (by unfold rdK; omega)]
theorem rr_F {m : Mem} {b q : Nat} {w : Int64} {lo hi z : Int32} (h : (sp_readRange m b q w lo hi z).1 0 2 = 0) : m.1 0 2 = 0 ∧ lo.toInt ≤ ((sp_readRange m b q w lo hi z).1 5 (8 * b + 2 * q)).toInt ∧ ((sp_readRange m b q w lo hi z).1 5 (8 * b + 2 * q)).toInt ≤ ((sp_readRange m b q w lo hi z).1 5 (8 * b + 2 * q + 1)).toInt ∧ ((sp_readRange m b q w lo hi z).1 5 (8 * b + 2 * q + 1)).toInt ≤ hi.toInt := by
  unfold sp_readRange at h ⊢
  rw [wI_ne (by omega), wI_ne (by omega)] at h
  have v3 := rng_v h
  have h3 := rng_F0 h
  have h2 := (want_F0 h3).1
  have v1 := rng_v h2
  have h1 := rng_F0 h2
  rw [wI_same, wI_ne (a := 5) (b := 8 * b + 2 * q) (by omega), wI_same]
  exact ⟨(want_F0 h1).1, i_le.mp v1.1, i_le.mp v3.1, i_le.mp v3.2⟩
theorem kdO_v {m : Mem} (h : ¬ kdO m < 0) : ∃ q : Nat, q < 4 ∧ kdO m = nI q := by
  unfold kdO at h ⊢
  by_cases h1 : isWd m 2002874989
  · rw [if_pos h1]; exact ⟨0, by decide, rfl⟩
  · rw [if_neg h1] at h ⊢
    by_cases h2 : isWd m 1684106608
    · rw [if_pos h2]; exact ⟨1, by decide, rfl⟩
    · rw [if_neg h2] at h ⊢
      by_cases h3 : isWd m 1918986606
      · rw [if_pos h3]; exact ⟨2, by decide, rfl⟩
      · rw [if_neg h3] at h ⊢
        by_cases h4 : isWd m 2003398244
        · rw [if_pos h4]; exact ⟨3, by decide, rfl⟩
        · rw [if_neg h4] at h; exact absurd (by decide) h
theorem readBox_0 {m : Mem} (h29 : m.1 0 29 = nI (nbN m)) (h : (sp_readBox m).1 0 2 = 0) : ¬ kdO (tkn (rbB m)) < 0 ∧ rbD m = rbC m ∧ (rbJ m).1 0 2 = 0 ∧ sp_readBox m = wI (rbJ m) 0 29 (nI (nbN m + 1)) := by
  by_cases hB : 0 < (rbB m).1 0 2
  · rw [show sp_readBox m = rbB m from if_pos hB] at h
    exact absurd h (ps_0 hB)
  · by_cases hD : 0 < (rbD m).1 0 2
    · rw [show sp_readBox m = rbD m from (if_neg hB).trans (if_pos hD)] at h
      exact absurd h (ps_0 hD)
    · have eJ : sp_readBox m = if (rbJ m).1 0 2 = 0 then wI (rbJ m) 0 29 ((rbJ m).1 0 29 + 1) else rbJ m := (if_neg hB).trans (if_neg hD)
      have yJ : (rbJ m).1 0 2 = 0 := by
        rw [eJ] at h
        by_cases yy : (rbJ m).1 0 2 = 0
        · exact yy
        · rw [if_neg yy] at h; exact h
      have e29 : (rbJ m).1 0 29 = nI (nbN m) := (Rh.bJ.1 0 29 (by unfold rdK; omega) (by omega) (by omega) (by omega)).trans h29
      have hk : ¬ kdO (tkn (rbB m)) < 0 := by
        intro y
        have e1 : rbD m = sp_spoil (rbC m) 2 := if_pos y
        rw [e1] at hD
        exact hD (sp_spoil_2 (by decide))
      exact ⟨hk, if_neg hk, yJ, by rw [eJ, if_pos yJ, e29, nI_1]⟩
theorem rb4_4 (m : Mem) (j : Nat) : (rb4 m).1 4 j = (tkn (rbD m)).1 4 j := by
  unfold rb4 rbF rbE
  rw [rr_4, rr_4, rr_4, rr_4]
theorem rb4_5 {m : Mem} {j : Nat} (h : j < 8 * nbN m) : (rb4 m).1 5 j = (tkn (rbD m)).1 5 j := by
  unfold rb4 rbF rbE
  rw [rr_o (by omega) (by omega), rr_o (by omega) (by omega), rr_o (by omega) (by omega), rr_o (by omega) (by omega)]
theorem rr_6 {m : Mem} {b q j : Nat} {w : Int64} {lo hi z : Int32} : (sp_readRange m b q w lo hi z).1 6 j = m.1 6 j := by
  unfold sp_readRange
  rw [wI_ne (by omega), wI_ne (by omega), (Rd.rg (z := z) (Rd.rf.wa.rg.wa) (b := _)).1 6 j (by unfold rdK; omega)]
theorem rb4_6 (m : Mem) (j : Nat) : (rb4 m).1 6 j = (tkn (rbD m)).1 6 j := by
  unfold rb4 rbF rbE
  rw [rr_6, rr_6, rr_6, rr_6]
theorem rbB_c {m : Mem} {i j : Nat} (h : 4 ≤ i ∧ i ≤ 6) : (rbB m).1 i j = m.1 i j := by
  show (rbA m).1 i j = _
  rw [(Rd.bA (a := m) (b := m) Rd.rf).1 i j (by unfold rdK; omega)]
set_option maxHeartbeats 400000 in
theorem readBox_i {m : Mem} (h5 : nbN m < 5) (h29 : m.1 0 29 = nI (nbN m)) (hB : BI m) (h : (sp_readBox m).1 0 2 = 0) : BI (sp_readBox m) := by
  obtain ⟨hk, eD, yJ, eZ⟩ := readBox_0 h29 h
  have yT : (sp_told (rbH m) 0 9).2.1 0 2 = 0 := (wI_ne (by omega)).symm.trans yJ
  have yH := (told_F0 yT).1
  rw [rbH_e] at yH
  have y4 := (want_F0 yH).1
  have rH : Rd (rb4 m) (sp_told (rbH m) 0 9).2 := by
    rw [rbH_e]
    exact Rd.rf.wa.td
  have en : nbN (sp_readBox m) = nbN m + 1 := by
    unfold nbN
    rw [eZ, wI_same]
    exact nI_c (by omega)
  have z5 : ∀ j, (sp_readBox m).1 5 j = (rb4 m).1 5 j := fun j => by
    rw [eZ, wI_ne (by omega)]
    unfold rbJ
    rw [wI_ne (by omega), rH.1 5 j (by unfold rdK; omega)]
  have z4 : ∀ j, (sp_readBox m).1 4 j = (rb4 m).1 4 j := fun j => by
    rw [eZ, wI_ne (by omega)]
    unfold rbJ
    rw [wI_ne (by omega), rH.1 4 j (by unfold rdK; omega)]
  have z6 : ∀ j, j ≠ nbN m → (sp_readBox m).1 6 j = (rb4 m).1 6 j := fun j hj => by
    rw [eZ, wI_ne (by omega)]
    unfold rbJ
    rw [wI_ne (by omega), rH.1 6 j (by unfold rdK; omega)]
  have z6n : (sp_readBox m).1 6 (nbN m) = (sp_told (rbH m) 0 9).1 := by
    rw [eZ, wI_ne (by omega)]
    unfold rbJ
    rw [wI_same]
  have q4 : (tkn (rbD m)).1 4 (nbN m) = kdO (tkn (rbB m)) := by
    rw [tk_same (by unfold rdK; omega), eD]
    exact wI_same
  intro b hb
  rw [en] at hb
  rcases Nat.lt_or_ge b (nbN m) with g | g
  · have c4 : (sp_readBox m).1 4 b = m.1 4 b := by
      rw [z4, rb4_4, tk_same (by unfold rdK; omega), eD, show (rbC m).1 4 b = (tkn (rbB m)).1 4 b from wI_ne (by omega), tk_same (by unfold rdK; omega), rbB_c (by omega)]
    have c6 : (sp_readBox m).1 6 b = m.1 6 b := by
      rw [z6 b (by omega), rb4_6, tk_same (by unfold rdK; omega), eD, show (rbC m).1 6 b = (tkn (rbB m)).1 6 b from wI_ne (by omega), tk_same (by unfold rdK; omega), rbB_c (by omega)]
    have c5 : ∀ j, j < 8 → (sp_readBox m).1 5 (8 * b + j) = m.1 5 (8 * b + j) := fun j hj => by
      rw [z5, rb4_5 (by omega), tk_same (by unfold rdK; omega), eD, show (rbC m).1 5 (8 * b + j) = (tkn (rbB m)).1 5 (8 * b + j) from wI_ne (by omega), tk_same (by unfold rdK; omega), rbB_c (by omega)]
    refine ⟨okB_e (hB b g).1 c4 c6 c5, fun y => ?_⟩
    rw [c5 2 (by omega), c5 3 (by omega)]
    exact (hB b g).2 (by rw [← c4]; exact y)
  · have eb : b = nbN m := by omega
    rw [eb]
    have c4 : (sp_readBox m).1 4 (nbN m) = kdO (tkn (rbB m)) := by rw [z4, rb4_4, q4]
    obtain ⟨t1, t2⟩ := rng_v (z := 0) (a := 0) (b := 9) (m := rbH m) (by rw [rng_0 rfl]; exact yT)
    rw [rng_0 rfl] at t1 t2
    obtain ⟨f2, a1, a2, a3⟩ := rr_F (m := sp_readRange (rbF m) (nbN m) 2 7102823 0 2 0) y4
    obtain ⟨f1, b1, b2, b3⟩ := rr_F (m := rbF m) f2
    obtain ⟨f0, c1, c2, c3⟩ := rr_F (m := rbE m) f1
    obtain ⟨-, d1, d2, d3⟩ := rr_F (m := tkn (rbD m)) f0
    have eE : (rbE m).1 4 (nbN m) = kdO (tkn (rbB m)) := rr_4.trans q4
    have w6 : ∀ j, j = 6 ∨ j = 7 → (sp_readBox m).1 5 (8 * nbN m + j) = (rb4 m).1 5 (8 * nbN m + j) := fun j _ => z5 _
    have w4 : ∀ j, j = 4 ∨ j = 5 → (sp_readBox m).1 5 (8 * nbN m + j) = (sp_readRange (rbF m) (nbN m) 2 7102823 0 2 0).1 5 (8 * nbN m + j) := fun j hj => by
      rw [z5]
      exact rr_o (by omega) (by omega)
    have w2 : ∀ j, j = 2 ∨ j = 3 → (sp_readBox m).1 5 (8 * nbN m + j) = (rbF m).1 5 (8 * nbN m + j) := fun j hj => by
      rw [z5]
      exact (rr_o (by omega) (by omega)).trans (rr_o (by omega) (by omega))
    have w0 : ∀ j, j = 0 ∨ j = 1 → (sp_readBox m).1 5 (8 * nbN m + j) = (rbE m).1 5 (8 * nbN m + j) := fun j hj => by
      rw [z5]
      exact (rr_o (by omega) (by omega)).trans ((rr_o (by omega) (by omega)).trans (rr_o (by omega) (by omega)))
    rw [show 8 * nbN m + 2 * 3 = 8 * nbN m + 6 by omega] at a1 a2
    rw [show 8 * nbN m + 2 * 3 + 1 = 8 * nbN m + 7 by omega] at a2 a3
    rw [show 8 * nbN m + 2 * 2 = 8 * nbN m + 4 by omega] at b1 b2
    rw [show 8 * nbN m + 2 * 2 + 1 = 8 * nbN m + 5 by omega] at b2 b3
    rw [show 8 * nbN m + 2 * 1 = 8 * nbN m + 2 by omega] at c1 c2
    rw [show 8 * nbN m + 2 * 1 + 1 = 8 * nbN m + 3 by omega] at c2 c3
    rw [show 8 * nbN m + 2 * 0 = 8 * nbN m + 0 by omega] at d1 d2
    rw [show 8 * nbN m + 2 * 0 + 1 = 8 * nbN m + 1 by omega] at d2 d3
    have i0 := i_0
    have i2 := i_n2
    have i3 := i_n3
    have i5 : (5 : Int32).toInt = 5 := rfl
    have im5 : (-5 : Int32).toInt = -5 := rfl
    have i9 : (9 : Int32).toInt = 9 := rfl
    have i8 : (8 : Int32).toInt = 8 := rfl
    have i10 : (10 : Int32).toInt = 10 := rfl
    have i12 : (12 : Int32).toInt = 12 := rfl
    have hsl : 8 ≤ ((rbF m).1 5 (8 * nbN m + 2)).toInt ∧ ((rbF m).1 5 (8 * nbN m + 3)).toInt ≤ 12 ∧ (kdO (tkn (rbB m)) = 3 → ((rbF m).1 5 (8 * nbN m + 2)).toInt = 10 ∧ ((rbF m).1 5 (8 * nbN m + 3)).toInt = 10) := by
      have c1' : (if (rbE m).1 4 (nbN m) = 3 then (10 : Int32) else 8).toInt ≤ ((rbF m).1 5 (8 * nbN m + 2)).toInt := c1
      have c3' : ((rbF m).1 5 (8 * nbN m + 3)).toInt ≤ (if (rbE m).1 4 (nbN m) = 3 then (10 : Int32) else 12).toInt := c3
      have c2' : ((rbF m).1 5 (8 * nbN m + 2)).toInt ≤ ((rbF m).1 5 (8 * nbN m + 3)).toInt := c2
      rw [eE] at c1' c3'
      by_cases y : kdO (tkn (rbB m)) = 3
      · rw [if_pos y, i10] at c1' c3'
        exact ⟨by omega, by omega, fun _ => ⟨by omega, by omega⟩⟩
      · rw [if_neg y, i8] at c1'
        rw [if_neg y, i12] at c3'
        exact ⟨c1', c3', fun z => absurd z y⟩
    refine ⟨⟨?_, ?_, ?_, ?_, ?_, ?_⟩, ?_⟩
    · rw [sM_7, c4]; exact kdO_v hk
    · rw [sM_9, z6n]
      have u1 := i_le.mp t1
      have u2 := i_le.mp t2
      rw [i0] at u1
      rw [i9] at u2
      obtain ⟨t, -, t2, t3, -⟩ := i_nat (x := (sp_told (rbH m) 0 9).1) (i_le.mpr (by rw [i0]; exact u1))
      exact ⟨t, by omega, t2⟩
    · have e := w0 0 (by omega)
      rw [Nat.add_zero] at e d1 d2
      rw [sM_8, sM_8, e, w0 1 (by omega)]
      rw [im5] at d1
      rw [i5] at d3
      exact ⟨d1, d2, d3⟩
    · rw [sM_8, sM_8, w2 2 (by omega), w2 3 (by omega)]
      exact ⟨hsl.1, c2, hsl.2.1⟩
    · rw [sM_8, sM_8, w4 4 (by omega), w4 5 (by omega)]
      rw [i0] at b1
      rw [i2] at b3
      exact ⟨b1, b2, b3⟩
    · rw [sM_8, sM_8, w6 6 (by omega), w6 7 (by omega)]
      rw [i0] at a1
      rw [i3] at a3
      exact ⟨a1, a2, a3⟩
    · intro y
      rw [c4] at y
      rw [w2 2 (by omega), w2 3 (by omega)]
      exact hsl.2.2 y
theorem TI.mv {m m' : Mem} (h : TI m) (e : ∀ i j, 10 ≤ i ∧ i ≤ 14 → m'.1 i j = m.1 i j) : TI m' := fun i j q q1 q2 => by
  rw [e i j q]
  exact h i j q q1 q2
theorem TI.w {m : Mem} {x k : Nat} (h : TI m) : TI (wI m x k 1) := fun i j q q1 q2 => by
  rw [wI_at]
  split
  · exact Or.inr rfl
  · exact h i j q q1 q2
theorem readOther_t {m : Mem} (h : TI m) : TI (sp_readOther m) := by
  have h1 : TI (roC m).2 := h.mv (fun i j q => Rd.zC.1 i j (by unfold rdK; omega))
  have h2 : TI (roM m) := by
    unfold roM
    split
    · exact h1.w
    · exact h1
  have h3 : TI (roN m) := by
    unfold roN
    split
    · exact h2.w
    · exact h2
  have h4 : TI (roD m) := h3.mv (fun i j q => wI_ne (by omega))
  have r1 : Rd (roD m) (roE m).2 := Rd.rf.wa.td
  have h5 : TI (roE m).2 := h4.mv (fun i j q => r1.1 i j (by unfold rdK; omega))
  unfold sp_readOther
  split
  · exact h1
  · split
    · exact h4
    · unfold roF
      split
      · intro i j q q1 q2
        rw [flN_at]
        split
        · exact Or.inr rfl
        · exact h5 i j q q1 q2
      · exact h5
theorem BI.mv {m m' : Mem} (h : BI m) (hn : nbN m' = nbN m) (e : ∀ i j, 4 ≤ i ∧ i ≤ 6 → m'.1 i j = m.1 i j) : BI m' := by
  intro b hb
  rw [hn] at hb
  refine ⟨okB_e (h b hb).1 (e _ _ (by omega)) (e _ _ (by omega)) (fun j _ => e _ _ (by omega)), fun y => ?_⟩
  rw [e 5 _ (by omega), e 5 _ (by omega)]
  exact (h b hb).2 (by rw [← e 4 b (by omega)]; exact y)
theorem hlB_i {m : Mem} (hw : WFl m) (h0 : m.1 0 2 = 0) (hB : BI m) (hT : TI m) (h : (hlB m).1 0 2 = 0) : BI (hlB m) ∧ TI (hlB m) := by
  obtain ⟨h1, h2⟩ := hlTS_F (m := hlA m) h
  have e : hlB m = tkn (hlA m) := h2
  obtain ⟨hb5, h29⟩ := hw.2.1.t
  have key : BI (hlA m) ∧ TI (hlA m) := by
    by_cases c1 : isWd m 6451064 ∧ m.1 0 29 < 5
    · have eA : hlA m = sp_readBox m := if_pos c1
      rw [eA] at h1 ⊢
      refine ⟨readBox_i ((nI_ltC h29 (by omega) (by decide)).mp c1.2) h29 hB h1, ?_⟩
      obtain ⟨-, -, -, eZ⟩ := readBox_0 h29 h1
      refine hT.mv (fun i j q => ?_)
      rw [eZ, wI_ne (by omega), Rh.bJ.1 i j (by unfold rdK; omega) (by omega) (by omega) (by omega)]
    · by_cases c2 : isOt m ∧ m.1 0 30 < 16
      · have eA : hlA m = sp_readOther m := (if_neg c1).trans (if_pos c2)
        rw [eA]
        have rO : Ro m (sp_readOther m) := Ro.rO
        refine ⟨hB.mv ?_ (fun i j q => rO.1 i j (by unfold rdK; omega) (by omega) (by omega)), readOther_t hT⟩
        unfold nbN
        rw [rO.1 0 29 (by unfold rdK; omega) (by omega) (by omega)]
      · have eA : hlA m = sp_spoil m 2 := (if_neg c1).trans (if_neg c2)
        rw [eA] at h1
        exact absurd h1 (ps_0 (sp_spoil_2 (by decide)))
  rw [e]
  refine ⟨key.1.mv ?_ (fun i j q => tk_same (by unfold rdK; omega)), key.2.mv (fun i j q => tk_same (by unfold rdK; omega))⟩
  unfold nbN
  rw [tk_same (by unfold rdK; omega)]
theorem hlL_i : ∀ (q : Nat) (m : Mem), WFl m → (m.1 0 2 = 0 → BI m ∧ TI m) → (hlL q m).1 0 2 = 0 → BI (hlL q m) ∧ TI (hlL q m) := by
  intro q
  induction q with
  | zero => intro m _ h h0; exact h h0
  | succ q ih =>
    intro m hw h h0
    by_cases c : m.1 0 2 = 0 ∧ ¬ m.1 0 6 = 0
    · rw [show hlL (q + 1) m = hlL q (hlB m) from if_pos c] at h0 ⊢
      exact ih _ (hlB_c hw c.1).1 (fun y => hlB_i hw c.1 (h c.1).1 (h c.1).2 y) h0
    · rw [show hlL (q + 1) m = m from if_neg c] at h0 ⊢
      exact h h0
theorem hl0_z {m : Mem} : (∀ i j, 10 ≤ i ∧ i ≤ 12 → j < 300 → (hl0 m).1 i j = 0) ∧ ∀ i j, 13 ≤ i ∧ i ≤ 14 → j < 60 → (hl0 m).1 i j = 0 := by
  have a := itN_inv (f := hcA) (fun k x => ∀ i j, 10 ≤ i ∧ i ≤ 12 → j < k → x.1 i j = 0) 300 (fun k x _ hx i j q hj => by
    unfold hcA
    rw [wI_at, wI_at, wI_at]
    by_cases c : j = k
    · have : i = 10 ∨ i = 11 ∨ i = 12 := by omega
      rcases this with e | e | e <;> rw [e, c] <;> simp
    · rw [if_neg (by omega), if_neg (by omega), if_neg (by omega)]
      exact hx i j q (by omega)) 300 0 (wI (wI m 0 29 0) 0 30 0) (by omega) (fun i j _ hj => absurd hj (Nat.not_lt_zero _))
  have b := itN_inv (f := hcB) (fun k x => (∀ i j, 10 ≤ i ∧ i ≤ 12 → j < 300 → x.1 i j = 0) ∧ ∀ i j, 13 ≤ i ∧ i ≤ 14 → j < k → x.1 i j = 0) 60 (fun k x _ hx => by
    refine ⟨fun i j q hj => ?_, fun i j q hj => ?_⟩
    · unfold hcB
      rw [wI_ne (by omega), wI_ne (by omega)]
      exact hx.1 i j q hj
    · unfold hcB
      rw [wI_at, wI_at]
      by_cases c : j = k
      · have : i = 13 ∨ i = 14 := by omega
        rcases this with e | e <;> rw [e, c] <;> simp
      · rw [if_neg (by omega), if_neg (by omega)]
        exact hx.2 i j q (by omega)) 60 0 (itN hcA 300 0 (wI (wI m 0 29 0) 0 30 0)) (by omega) ⟨a, fun i j _ hj => absurd hj (Nat.not_lt_zero _)⟩
  exact b
theorem start_o {m : Mem} {z : Int32} {i j : Nat} (h : ¬ (i = 0 ∧ 1 ≤ j ∧ j ≤ 10)) : (sp_start m z).1 i j = m.1 i j := by
  unfold sp_start
  rw [tk_same (by unfold rdK; omega), wI_ne (by omega), wI_ne (by omega), wI_ne (by omega), wI_ne (by omega), wI_ne (by omega), wI_ne (by omega)]
theorem start_q {m : Mem} {z : Int32} {i j : Nat} (h : ¬ (i = 0 ∧ j = 9)) : (sp_start m z).2.1 i j = m.2.1 i j := by
  unfold sp_start
  rw [tk_sl h]
  rfl
theorem hl2_i {σ : Mem} (hw : WFt σ) (h : (hl2 σ).1 0 2 = 0) : BI (hl2 σ) ∧ TI (hl2 σ) := by
  obtain ⟨s1, s2, s3⟩ := start_l (z := 0) (hl0_t hw) hl0_29 hl0_30
  have h1 : BI (sp_start (hl0 σ) 0) := fun b hb => absurd hb (by omega)
  have h2 : TI (sp_start (hl0 σ) 0) := by
    intro i j q q1 q2
    refine Or.inl ?_
    rw [start_o (by omega)]
    by_cases c : i ≤ 12
    · exact hl0_z.1 i j (by omega) (q1 c)
    · exact hl0_z.2 i j (by omega) (q2 (by omega))
  unfold hl2 at h ⊢
  generalize sp_start (hl0 σ) 0 = m at s1 s2 s3 h1 h2 h ⊢
  exact hlL_i 22 m s1 (fun _ => ⟨h1, h2⟩) h

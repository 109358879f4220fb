/-! another line on both sides -/
theorem flN_at (i : Nat) : ∀ (n a : Nat) (m : Mem) (x j : Nat), (flN m i a n).1 x j = if x = i ∧ a ≤ j ∧ j < a + n then 1 else m.1 x j := by
  intro n
  induction n with
  | zero =>
    intro a m x j
    rw [if_neg (by omega)]
    rfl
  | succ n ih =>
    intro a m x j
    show (flN (wI m i a 1) i (a + 1) n).1 x j = _
    rw [ih, wI_at]
    by_cases h1 : x = i ∧ a + 1 ≤ j ∧ j < a + 1 + n
    · rw [if_pos h1, if_pos (by omega)]
    · rw [if_neg h1]
      by_cases h2 : x = i ∧ j = a
      · rw [if_pos h2, if_pos (by omega)]
      · rw [if_neg h2, if_neg (by omega)]
theorem flN_l (i : Nat) : ∀ (n a : Nat) (m : Mem), (flN m i a n).2 = m.2 := by
  intro n
  induction n with
  | zero => intro a m; rfl
  | succ n ih =>
    intro a m
    show (flN (wI m i a 1) i (a + 1) n).2 = _
    rw [ih]
    rfl
/-- what one more line of a kind, a box, a first and a last day adds -/
def LnC (m m' : Mem) (kd w f u : Int32) : Prop := (∀ d, d < 60 → (¬ m'.1 13 d = 0 ↔ (¬ m.1 13 d = 0 ∨ (kd = 143 ∧ w = -1 ∧ f ≤ nI d ∧ nI d ≤ u)))) ∧ (∀ d, d < 60 → (¬ m'.1 14 d = 0 ↔ (¬ m.1 14 d = 0 ∨ (kd = 144 ∧ w = -1 ∧ f ≤ nI d ∧ nI d ≤ u)))) ∧ (∀ b d, b < 5 → d < 60 → (¬ m'.1 12 (60 * b + d) = 0 ↔ (¬ m.1 12 (60 * b + d) = 0 ∨ (kd = 142 ∧ w = nI b ∧ f ≤ nI d ∧ nI d ≤ u)))) ∧ (∀ b d, b < 5 → d < 60 → (¬ m'.1 10 (60 * b + d) = 0 ↔ (¬ m.1 10 (60 * b + d) = 0 ∨ (kd = 139 ∧ w = nI b ∧ f = nI d)))) ∧ ∀ b d, b < 5 → d < 60 → (¬ m'.1 11 (60 * b + d) = 0 ↔ (¬ m.1 11 (60 * b + d) = 0 ∨ (kd = 140 ∧ w = nI b ∧ f = nI d)))
theorem rcl_add {m m' μ μ' : Mem} {t : Nat} {kd w f u : Int32} (h : RcL (sM m) (sC μ)) (ht : μ.1 14 1 = nI t) (h16 : t < 16) (h1 : μ'.1 14 1 = nI (t + 1)) (hs : ∀ i j, 20 ≤ i ∧ i ≤ 23 → j < t → μ'.1 i j = μ.1 i j) (e0 : μ'.1 20 t = kd) (e1 : μ'.1 21 t = w) (e2 : μ'.1 22 t = f) (e3 : μ'.1 23 t = u) (hf : ∃ a b : Nat, a < 60 ∧ b < 60 ∧ f = nI a ∧ u = nI b) (hc : LnC m m' kd w f u) : RcL (sM m') (sC μ') := by
  have n0 : wthN (sC μ) = t := by
    unfold wthN
    rw [sC_t (by omega)]
    show (μ.1 14 1).toNatClampNeg = t
    rw [ht]
    exact nI_c (by omega)
  have n1 : wthN (sC μ') = t + 1 := by
    unfold wthN
    rw [sC_t (by omega)]
    show (μ'.1 14 1).toNatClampNeg = t + 1
    rw [h1]
    exact nI_c (by omega)
  have g0 : ∀ (P : Int32 → Int32 → Int32 → Int32 → Prop), (∃ i, i < wthN (sC μ') ∧ P ((sC μ').1 10 i) ((sC μ').1 11 i) ((sC μ').1 12 i) ((sC μ').1 13 i)) ↔ ((∃ i, i < wthN (sC μ) ∧ P ((sC μ).1 10 i) ((sC μ).1 11 i) ((sC μ).1 12 i) ((sC μ).1 13 i)) ∨ P kd w f u) := by
    intro P
    rw [n0, n1]
    have old : ∀ i, i < t → (P ((sC μ').1 10 i) ((sC μ').1 11 i) ((sC μ').1 12 i) ((sC μ').1 13 i) ↔ P ((sC μ).1 10 i) ((sC μ).1 11 i) ((sC μ).1 12 i) ((sC μ).1 13 i)) := by
      intro i hi
      rw [sC_t (by omega), sC_t (by omega), sC_t (by omega), sC_t (by omega), sC_t (by omega), sC_t (by omega), sC_t (by omega), sC_t (by omega), hs _ i (by omega) hi, hs _ i (by omega) hi, hs _ i (by omega) hi, hs _ i (by omega) hi]
    have new : P ((sC μ').1 10 t) ((sC μ').1 11 t) ((sC μ').1 12 t) ((sC μ').1 13 t) ↔ P kd w f u := by
      rw [sC_t (by omega), sC_t (by omega), sC_t (by omega), sC_t (by omega)]
      rw [show 10 + 10 = 20 from rfl, show 11 + 10 = 21 from rfl, show 12 + 10 = 22 from rfl, show 13 + 10 = 23 from rfl, e0, e1, e2, e3]
    constructor
    · rintro ⟨i, hi, hP⟩
      rcases Nat.lt_or_ge i t with q | q
      · exact Or.inl ⟨i, q, (old i q).mp hP⟩
      · have ei : i = t := by omega
        rw [ei] at hP
        exact Or.inr (new.mp hP)
    · rintro (⟨i, hi, hP⟩ | hP)
      · exact ⟨i, by omega, (old i hi).mpr hP⟩
      · exact ⟨t, by omega, new.mpr hP⟩
  obtain ⟨r1, r2, r3, r4, r5, r6, r7⟩ := h
  obtain ⟨c1, c2, c3, c4, c5⟩ := hc
  refine ⟨⟨by omega, ?_⟩, fun d hd => ?_, fun d hd => ?_, fun b d hb hd => ?_, fun b d hb hd => ?_, fun b d hb hd => ?_, fun i hi => ?_⟩
  · rw [n1, sC_t (by omega)]; exact h1
  · rw [sM_t (by omega)]
    refine (c1 d hd).trans (Iff.trans ?_ (g0 (fun k0 w0 f0 u0 => k0 = 143 ∧ w0 = -1 ∧ f0 ≤ nI d ∧ nI d ≤ u0)).symm)
    have z := r2 d hd
    rw [sM_t (by omega)] at z
    exact or_congr z Iff.rfl
  · rw [sM_t (by omega)]
    refine (c2 d hd).trans (Iff.trans ?_ (g0 (fun k0 w0 f0 u0 => k0 = 144 ∧ w0 = -1 ∧ f0 ≤ nI d ∧ nI d ≤ u0)).symm)
    have z := r3 d hd
    rw [sM_t (by omega)] at z
    exact or_congr z Iff.rfl
  · rw [sM_t (by omega)]
    refine (c3 b d hb hd).trans (Iff.trans ?_ (g0 (fun k0 w0 f0 u0 => k0 = 142 ∧ w0 = nI b ∧ f0 ≤ nI d ∧ nI d ≤ u0)).symm)
    have z := r4 b d hb hd
    rw [sM_t (by omega)] at z
    exact or_congr z Iff.rfl
  · rw [sM_t (by omega)]
    refine (c4 b d hb hd).trans (Iff.trans ?_ (g0 (fun k0 w0 f0 _ => k0 = 139 ∧ w0 = nI b ∧ f0 = nI d)).symm)
    have z := r5 b d hb hd
    rw [sM_t (by omega)] at z
    exact or_congr z Iff.rfl
  · rw [sM_t (by omega)]
    refine (c5 b d hb hd).trans (Iff.trans ?_ (g0 (fun k0 w0 f0 _ => k0 = 140 ∧ w0 = nI b ∧ f0 = nI d)).symm)
    have z := r6 b d hb hd
    rw [sM_t (by omega)] at z
    exact or_congr z Iff.rfl
  · rw [n1] at hi
    rcases Nat.lt_or_ge i t with q | q
    · obtain ⟨a, b, a1, a2, a3, a4⟩ := r7 i (by omega)
      rw [sC_t (by omega)] at a3 a4
      exact ⟨a, b, a1, a2, by rw [sC_t (by omega), hs _ i (by omega) q]; exact a3, by rw [sC_t (by omega), hs _ i (by omega) q]; exact a4⟩
    · have ei : i = t := by omega
      obtain ⟨a, b, a1, a2, a3, a4⟩ := hf
      exact ⟨a, b, a1, a2, by rw [sC_t (by omega), ei]; exact e2.trans a3, by rw [sC_t (by omega), ei]; exact e3.trans a4⟩
theorem wd_11 : e256 (wdK.getD 11 []) = 470021465444 := by decide +kernel
theorem wd_12 : e256 (wdK.getD 12 []) = 440005915496 := by decide +kernel
theorem wd_13 : e256 (wdK.getD 13 []) = 28526 := by decide +kernel
theorem wd_14 : e256 (wdK.getD 14 []) = 108243635103086 := by decide +kernel
theorem wd_15 : e256 (wdK.getD 15 []) = 29395908993245561 := by decide +kernel
theorem wd_16 : e256 (wdK.getD 16 []) = 1835099237 := by decide +kernel
theorem ot_w {G : Wd} {m μ : Mem} (h : TS G m μ) (h0 : m.1 0 2 = 0) : (isWd m 470021465444 ↔ μ.1 2 5 = 139) ∧ (isWd m 440005915496 ↔ μ.1 2 5 = 140) ∧ (isWd m 108243635103086 ↔ μ.1 2 5 = 142) ∧ (isWd m 29395908993245561 ↔ μ.1 2 5 = 143) ∧ (isWd m 1835099237 ↔ μ.1 2 5 = 144) := by
  have hk := h.kr h0
  have a1 := hk.wd (i := 11) (by decide)
  have a2 := hk.wd (i := 12) (by decide)
  have a3 := hk.wd (i := 14) (by decide)
  have a4 := hk.wd (i := 15) (by decide)
  have a5 := hk.wd (i := 16) (by decide)
  rw [wd_11] at a1
  rw [wd_12] at a2
  rw [wd_14] at a3
  rw [wd_15] at a4
  rw [wd_16] at a5
  exact ⟨a1, a2, a3, a4, a5⟩
/-- only the reader and the new line's places have changed -/
def LnF (t : Nat) (μ μ' : Mem) : Prop := (∀ i j, ¬ (i = 2 ∧ 4 ≤ j ∧ j ≤ 10) → ¬ ((20 ≤ i ∧ i ≤ 23) ∧ j = t) → μ'.1 i j = μ.1 i j) ∧ (∀ i j, ¬ (i = 2 ∧ j = 8) → μ'.2.1 i j = μ.2.1 i j) ∧ μ'.2.2 = μ.2.2
theorem LnF.rf {t : Nat} {μ : Mem} : LnF t μ μ := ⟨fun _ _ _ _ => rfl, fun _ _ _ => rfl, rfl⟩
theorem LnF.f4 {t : Nat} {a b c : Mem} (h : LnF t a b) (g : F4 b c) : LnF t a c := ⟨fun i j q q1 => (g.1 i j q).trans (h.1 i j q q1), fun i j q => (g.2.1 i j q).trans (h.2.1 i j q), g.2.2.trans h.2.2⟩
theorem LnF.w {t : Nat} {a b : Mem} {i : Nat} {v : Int32} (h : LnF t a b) (hi : 20 ≤ i ∧ i ≤ 23) : LnF t a (wI b i t v) := ⟨fun x j q q1 => (wI_ne (by omega)).trans (h.1 x j q q1), h.2.1, h.2.2⟩
theorem LnF.fh {t : Nat} {a b : Mem} (h : LnF t a b) : Fh a b := ⟨fun i j q q1 => h.1 i j q (by omega), fun i j q _ => h.2.1 i j q, h.2.2⟩
set_option maxHeartbeats 400000 in
set_option maxRecDepth 100000 in
theorem L_X3_ot_177 {x3 : Option Value} {l : Launch} {G : Wd} {kd : Int32} {m μ0 μ : Mem} (hS : okS G) (h16 : noN m < 16) (h30 : m.1 0 30 = nI (noN m)) (hn : WFn m) (h0 : m.1 0 2 = 0) (hH : HI m μ0) (t : TS G (sp_readOther m) μ) (f : LnF (noN m) μ0 μ) (d : ((sp_readOther m).1 0 2 = 0 → ∃ w f u : Int32, μ.1 20 (noN m) = kd ∧ μ.1 21 (noN m) = w ∧ μ.1 22 (noN m) = f ∧ μ.1 23 (noN m) = u ∧ (∃ a b : Nat, a < 60 ∧ b < 60 ∧ f = nI a ∧ u = nI b) ∧ LnC m (sp_readOther m) kd w f u)) : AW l G KC RX3 cX3_otherLine 4 8 none (Qv (fun μ' => TS G (hlT (hlS (sp_readOther m))) μ' ∧ Fh μ0 μ' ∧ ((hlT (hlS (sp_readOther m))).1 0 2 = 0 → HI (hlT (hlS (sp_readOther m))) μ'))) 177 [some (.ref (gA G 24)), some (.int kd), some (.int (nI (noN m))), x3] [] μ := by
  refine A_aload0 dX3_otherLine_177 ?_
  refine A_getR gf_X3_9 rfl dX3_otherLine_178 ?_
  refine A_bipush (v := 59) dX3_otherLine_181 (by decide) ?_
  refine A_vv1 lk_X3_66 yv_X9_take dX3_otherLine_183 (rfl) (rfl) (T_take_s hS t) (by decide) (Nat.le_of_ble_eq_true rfl) (fun μ_183 h_183 => ?_)
  refine A_aload0 dX3_otherLine_186 ?_
  refine A_getR gf_X3_15 rfl dX3_otherLine_187 ?_
  refine A_iload2 dX3_otherLine_190 ?_
  refine A_iconst (v := 1) dX3_otherLine_191 (by decide) ?_
  refine A_iadd dX3_otherLine_192 ?_
  rw [nI_1]
  refine A_putI gf_X3_40 rfl dX3_otherLine_193 ?_
  refine A_vret dX3_otherLine_196 ?_
  refine ⟨rfl, h_183.1.cw (by omega), ((f.f4 h_183.2).fh).w (by omega), fun y => ?_⟩
  obtain ⟨y1, y2⟩ := hlTS_F y
  obtain ⟨q1, q2, -, q4⟩ := readOther_c hn ⟨noN m, by omega, h30⟩ h16 (by rw [h0]; decide)
  obtain ⟨q5, q6⟩ := q4 y1
  have e30 := q2.t.2
  rw [q6] at e30
  rw [y2]
  have rT : Rd (sp_readOther m) (tkn (sp_readOther m)) := Rd.rf.tk
  have rO : Ro m (sp_readOther m) := Ro.rO
  have en : nbN (tkn (sp_readOther m)) = nbN m := by
    unfold nbN
    rw [tk_same (by unfold rdK; omega), rO.1 0 29 (by unfold rdK; omega) (by omega) (by omega)]
  have m30 : μ0.1 14 1 = nI (noN m) := hH.1.2.1.trans h30
  obtain ⟨w, ff, u, d1, d2, d3, d4, d5, d6⟩ := d y1
  have cf : ∀ i j, ¬ (i = 2 ∧ 4 ≤ j ∧ j ≤ 10) → ¬ (i = 14 ∧ j = 1) → (wI μ_183 14 1 (nI (noN m + 1))).1 i j = μ.1 i j := fun i j a1 a2 => (wI_ne (by omega)).trans (h_183.2.1 i j a1)
  have cn : ∀ k, (tkn (sp_readOther m)).2.1 2 k = m.2.1 2 k := fun k => by
    rw [rT.dm.2 k, rO.2.1 2 k (by omega)]
  refine ⟨⟨?_, ?_, ?_, ?_⟩, ?_⟩
  · rw [cf 14 0 (by omega) (by omega), f.1 14 0 (by omega) (by omega), hH.1.1, tk_same (by unfold rdK; omega), rO.1 0 29 (by unfold rdK; omega) (by omega) (by omega)]
  · rw [wI_same, tk_same (by unfold rdK; omega), e30]
  · rw [en]
    intro k hk
    refine (hH.1.2.2.1 k hk).mv ⟨fun i j qq => ?_, cn⟩ ⟨fun i j qq => ?_, fun j => ?_⟩
    · rw [rT.dm.1 i j qq, rO.1 i j (by unfold rdK; omega) (by omega) (by omega)]
    · rw [cf i j (by omega) (by omega), f.1 i j (by omega) (by omega)]
    · rw [wI_l, h_183.2.2.1 15 j (by omega), f.2.1 15 j (by omega)]
  · refine rcl_add (t := noN m) (kd := kd) (w := w) (f := ff) (u := u) hH.1.2.2.2 m30 h16 wI_same (fun i j qq jt => ?_) ?_ ?_ ?_ ?_ d5 ?_
    · rw [cf i j (by omega) (by omega), f.1 i j (by omega) (by omega)]
    · rw [cf 20 _ (by omega) (by omega)]; exact d1
    · rw [cf 21 _ (by omega) (by omega)]; exact d2
    · rw [cf 22 _ (by omega) (by omega)]; exact d3
    · rw [cf 23 _ (by omega) (by omega)]; exact d4
    · obtain ⟨c1, c2, c3, c4, c5⟩ := d6
      refine ⟨fun d hd => ?_, fun d hd => ?_, fun b d hb hd => ?_, fun b d hb hd => ?_, fun b d hb hd => ?_⟩
      · rw [tk_same (by unfold rdK; omega)]; exact c1 d hd
      · rw [tk_same (by unfold rdK; omega)]; exact c2 d hd
      · rw [tk_same (by unfold rdK; omega)]; exact c3 b d hb hd
      · rw [tk_same (by unfold rdK; omega)]; exact c4 b d hb hd
      · rw [tk_same (by unfold rdK; omega)]; exact c5 b d hb hd
  · intro a b ha hb hab
    rw [en] at ha hb
    rw [cn, cn] at hab
    exact hH.2 a b ha hb hab
theorem ro_once {m : Mem} {kd w : Int32} {bn fn : Nat} (ho : onc m) (hk1 : isWd m 470021465444 ↔ kd = 139) (hk2 : isWd m 440005915496 ↔ kd = 140) (hb5 : bn < 5) (hA : (roA m).1 = nI bn) (hw : w = nI bn) (hf6 : fn < 60) (hC : (roC m).1 = nI fn) : LnC m (roD m) kd w (nI fn) (nI fn) := by
  have eP : roP m = 60 * bn + fn := by unfold roP; rw [hA, hC, nI_c (by omega), nI_c (by omega)]
  have hc3 : kd = 139 ∨ kd = 140 := ho.elim (fun y => Or.inl (hk1.mp y)) (fun y => Or.inr (hk2.mp y))
  have eN : ∀ i j, 10 ≤ i ∧ i ≤ 14 → (roD m).1 i j = (roN m).1 i j := fun i j q => wI_ne (by omega)
  have eC : ∀ i j, 10 ≤ i ∧ i ≤ 14 → (roC m).2.1 i j = m.1 i j := fun i j q => Rd.zC.1 i j (by unfold rdK; omega)
  have e1 : ∀ i j, 10 ≤ i ∧ i ≤ 14 → (roD m).1 i j = if (kd = 139 ∧ i = 10 ∧ j = 60 * bn + fn) ∨ (kd = 140 ∧ i = 11 ∧ j = 60 * bn + fn) then 1 else m.1 i j := by
    intro i j q
    rw [eN i j q]
    unfold roN roM
    rcases hc3 with k1 | k1
    · rw [if_neg (fun y => absurd ((hk2.mp y).symm.trans k1) (by decide)), if_pos (hk1.mpr k1), wI_at, eP, eC i j q]
      by_cases y : i = 10 ∧ j = 60 * bn + fn
      · rw [if_pos y, if_pos (Or.inl ⟨k1, y⟩)]
      · rw [if_neg y, if_neg (fun z => z.elim (fun z => y z.2) (fun z => absurd (z.1.symm.trans k1) (by decide)))]
    · rw [if_pos (hk2.mpr k1), if_neg (fun y => absurd ((hk1.mp y).symm.trans k1) (by decide)), wI_at, eP, eC i j q]
      by_cases y : i = 11 ∧ j = 60 * bn + fn
      · rw [if_pos y, if_pos (Or.inr ⟨k1, y⟩)]
      · rw [if_neg y, if_neg (fun z => z.elim (fun z => absurd (z.1.symm.trans k1) (by decide)) (fun z => y z.2))]
  have ne : ∀ k0 : Int32, (k0 = 142 ∨ k0 = 143 ∨ k0 = 144) → ¬ kd = k0 := by
    intro k0 h9 e
    rw [e] at hc3
    rcases h9 with y | y | y <;> rw [y] at hc3 <;> exact absurd hc3 (by decide)
  have eb : ∀ b d, b < 5 → d < 60 → (60 * b + d = 60 * bn + fn ↔ (w = nI b ∧ nI fn = nI d)) := by
    intro b d hb hd
    rw [hw, nI_eq (by omega) (by omega), nI_eq (by omega) (by omega)]
    omega
  refine ⟨fun d hd => ?_, fun d hd => ?_, fun b d hb hd => ?_, fun b d hb hd => ?_, fun b d hb hd => ?_⟩
  · rw [e1 13 d (by omega), if_neg (by omega)]
    exact ⟨fun y => Or.inl y, fun y => y.elim id (fun y => absurd y.1 (ne _ (by decide)))⟩
  · rw [e1 14 d (by omega), if_neg (by omega)]
    exact ⟨fun y => Or.inl y, fun y => y.elim id (fun y => absurd y.1 (ne _ (by decide)))⟩
  · rw [e1 12 _ (by omega), if_neg (by omega)]
    exact ⟨fun y => Or.inl y, fun y => y.elim id (fun y => absurd y.1 (ne _ (by decide)))⟩
  · rw [e1 10 _ (by omega)]
    by_cases y : kd = 139 ∧ w = nI b ∧ nI fn = nI d
    · rw [if_pos (Or.inl ⟨y.1, rfl, (eb b d hb hd).mpr y.2⟩)]
      exact ⟨fun _ => Or.inr y, fun _ => by decide⟩
    · rw [if_neg (fun z => z.elim (fun z => y ⟨z.1, (eb b d hb hd).mp z.2.2⟩) (fun z => absurd z.2.1 (by decide)))]
      exact ⟨fun z => Or.inl z, fun z => z.elim id (fun z => absurd z y)⟩
  · rw [e1 11 _ (by omega)]
    by_cases y : kd = 140 ∧ w = nI b ∧ nI fn = nI d
    · rw [if_pos (Or.inr ⟨y.1, rfl, (eb b d hb hd).mpr y.2⟩)]
      exact ⟨fun _ => Or.inr y, fun _ => by decide⟩
    · rw [if_neg (fun z => z.elim (fun z => absurd z.2.1 (by decide)) (fun z => y ⟨z.1, (eb b d hb hd).mp z.2.2⟩))]
      exact ⟨fun z => Or.inl z, fun z => z.elim id (fun z => absurd z y)⟩
theorem ro_rng {m : Mem} {kd w : Int32} {bn fn tn : Nat} (ho : ¬ onc m) (hi : isOt m) (k1 : isWd m 470021465444 ↔ kd = 139) (k2 : isWd m 440005915496 ↔ kd = 140) (k3 : isWd m 108243635103086 ↔ kd = 142) (k4 : isWd m 29395908993245561 ↔ kd = 143) (k5 : isWd m 1835099237 ↔ kd = 144) (hb5 : bn < 5) (hA : kd = 142 → (roA m).1 = nI bn ∧ w = nI bn) (hB : ¬ kd = 142 → w = -1) (hf6 : fn < 60) (hC : (roC m).1 = nI fn) (ht6 : tn < 60) (hft : fn ≤ tn) (hE : (roE m).1 = nI tn) (h0 : (roE m).2.1 0 2 = 0) : LnC m (roF m) kd w (nI fn) (nI tn) := by
  have hc3 : kd = 142 ∨ kd = 143 ∨ kd = 144 := by
    rcases hi with y | y | y | y | y
    · exact absurd (Or.inl y) ho
    · exact absurd (Or.inr y) ho
    · exact Or.inl (k3.mp y)
    · exact Or.inr (Or.inl (k4.mp y))
    · exact Or.inr (Or.inr (k5.mp y))
  have eD : roD m = wI (roC m).2 0 30 ((roN m).1 0 30 + 1) := by
    unfold roD
    have e : roN m = (roC m).2 := by
      unfold roN roM
      rw [if_neg (fun y => ho (Or.inr y)), if_neg (fun y => ho (Or.inl y))]
    rw [e]
  have eS : ∀ i j, 10 ≤ i ∧ i ≤ 14 → (roE m).2.1 i j = m.1 i j := by
    intro i j q
    have r1 : Rd (roD m) (roE m).2 := Rd.rf.wa.td
    rw [r1.1 i j (by unfold rdK; omega), eD, wI_ne (by omega), Rd.zC.1 i j (by unfold rdK; omega)]
  have e1 : ∀ i j, 10 ≤ i ∧ i ≤ 14 → (roF m).1 i j = if i = roI m ∧ roJ m ≤ j ∧ j < roJ m + (tn + 1 - fn) then 1 else m.1 i j := by
    intro i j q
    have e : roF m = flN (roE m).2 (roI m) (roJ m) (tn + 1 - fn) := by
      unfold roF
      rw [if_pos h0, hE, hC, nI_c (by omega), nI_c (by omega)]
    rw [e, flN_at, eS i j q]
  have ne : ∀ k0 : Int32, (k0 = 139 ∨ k0 = 140) → ¬ kd = k0 := by
    intro k0 h9 e
    rw [e] at hc3
    rcases h9 with y | y <;> rw [y] at hc3 <;> exact absurd hc3 (by decide)
  have lr : ∀ d, d < 60 → ((nI fn ≤ nI d ∧ nI d ≤ nI tn) ↔ (fn ≤ d ∧ d ≤ tn)) := by
    intro d hd
    rw [nI_leI (by omega) (by omega), nI_leI (by omega) (by omega)]
  have same : ∀ i j, 10 ≤ i ∧ i ≤ 14 → ¬ i = roI m → ∀ (Pp : Prop), ¬ Pp → ((¬ (roF m).1 i j = 0) ↔ (¬ m.1 i j = 0 ∨ Pp)) := by
    intro i j q hne Pp hP
    rw [e1 i j q, if_neg (fun y => hne y.1)]
    exact ⟨fun y => Or.inl y, fun y => y.elim id (fun y => absurd y hP)⟩
  have fill : ∀ i j, 10 ≤ i ∧ i ≤ 14 → i = roI m → ∀ (Pp : Prop), ((roJ m ≤ j ∧ j < roJ m + (tn + 1 - fn)) ↔ Pp) → ((¬ (roF m).1 i j = 0) ↔ (¬ m.1 i j = 0 ∨ Pp)) := by
    intro i j q he Pp hP
    rw [e1 i j q]
    by_cases y : Pp
    · rw [if_pos ⟨he, hP.mpr y⟩]
      exact ⟨fun _ => Or.inr y, fun _ => by decide⟩
    · rw [if_neg (fun z => y (hP.mp z.2))]
      exact ⟨fun z => Or.inl z, fun z => z.elim id (fun z => absurd z y)⟩
  rcases hc3 with c | c | c
  · obtain ⟨a1, a2⟩ := hA c
    have eI : roI m = 12 := if_pos (k3.mpr c)
    have eJ : roJ m = 60 * bn + fn := by
      unfold roJ roP
      rw [if_pos (k3.mpr c), a1, hC, nI_c (by omega), nI_c (by omega)]
    refine ⟨fun d hd => same 13 d (by omega) (by omega) _ (fun y => absurd (y.1.symm.trans c) (by decide)), fun d hd => same 14 d (by omega) (by omega) _ (fun y => absurd (y.1.symm.trans c) (by decide)), fun b d hb hd => fill 12 _ (by omega) (by omega) _ ?_, fun b d hb hd => same 10 _ (by omega) (by omega) _ (fun y => ne _ (by decide) y.1), fun b d hb hd => same 11 _ (by omega) (by omega) _ (fun y => ne _ (by decide) y.1)⟩
    rw [eJ, lr d hd, a2, nI_eq (by omega) (by omega)]
    constructor
    · intro y; exact ⟨c, by omega, by omega⟩
    · intro y; omega
  · have hn3 : ¬ isWd m 108243635103086 := fun y => absurd ((k3.mp y).symm.trans c) (by decide)
    have eI : roI m = 13 := (if_neg hn3).trans (if_pos (k4.mpr c))
    have eJ : roJ m = fn := by
      unfold roJ
      rw [if_neg hn3, hC, nI_c (by omega)]
    have ew := hB (by rw [c]; decide)
    refine ⟨fun d hd => fill 13 d (by omega) (by omega) _ ?_, fun d hd => same 14 d (by omega) (by omega) _ (fun y => absurd (y.1.symm.trans c) (by decide)), fun b d hb hd => same 12 _ (by omega) (by omega) _ (fun y => absurd (y.1.symm.trans c) (by decide)), fun b d hb hd => same 10 _ (by omega) (by omega) _ (fun y => ne _ (by decide) y.1), fun b d hb hd => same 11 _ (by omega) (by omega) _ (fun y => ne _ (by decide) y.1)⟩
    rw [eJ, lr d hd]
    constructor
    · intro y; exact ⟨c, ew, by omega, by omega⟩
    · intro y; omega
  · have hn3 : ¬ isWd m 108243635103086 := fun y => absurd ((k3.mp y).symm.trans c) (by decide)
    have hn4 : ¬ isWd m 29395908993245561 := fun y => absurd ((k4.mp y).symm.trans c) (by decide)
    have eI : roI m = 14 := (if_neg hn3).trans (if_neg hn4)
    have eJ : roJ m = fn := by
      unfold roJ
      rw [if_neg hn3, hC, nI_c (by omega)]
    have ew := hB (by rw [c]; decide)
    refine ⟨fun d hd => same 13 d (by omega) (by omega) _ (fun y => absurd (y.1.symm.trans c) (by decide)), fun d hd => fill 14 d (by omega) (by omega) _ ?_, fun b d hb hd => same 12 _ (by omega) (by omega) _ (fun y => absurd (y.1.symm.trans c) (by decide)), fun b d hb hd => same 10 _ (by omega) (by omega) _ (fun y => ne _ (by decide) y.1), fun b d hb hd => same 11 _ (by omega) (by omega) _ (fun y => ne _ (by decide) y.1)⟩
    rw [eJ, lr d hd]
    constructor
    · intro y; exact ⟨c, ew, by omega, by omega⟩
    · intro y; omega

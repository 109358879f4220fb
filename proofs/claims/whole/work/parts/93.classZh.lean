/-! the hill that is being read, on both sides -/
def sC (μ : Mem) : Mem := (fun i j => if 4 ≤ i ∧ i ≤ 13 then μ.1 (i + 10) j else μ.1 i j, fun i j => if i = 5 then μ.2.1 15 j else μ.2.1 i j, μ.2.2)
def sM (m : Mem) : Mem := (fun i j => if i = 0 ∧ j = 31 then m.1 0 29 else if i = 0 ∧ j = 32 then m.1 0 30 else if i = 7 then m.1 4 j else if i = 8 then m.1 5 j else if i = 9 then m.1 6 j else if 15 ≤ i ∧ i ≤ 19 then m.1 (i - 5) j else m.1 i j, fun i j => if i = 3 then m.2.1 2 j else m.2.1 i j, m.2.2)
theorem sC_t {μ : Mem} {i j : Nat} (h : 4 ≤ i ∧ i ≤ 13) : (sC μ).1 i j = μ.1 (i + 10) j := if_pos h
theorem sM_t {m : Mem} {i j : Nat} (h : 15 ≤ i ∧ i ≤ 19) : (sM m).1 i j = m.1 (i - 5) j := by
  unfold sM
  dsimp only
  rw [if_neg (by omega), if_neg (by omega), if_neg (by omega), if_neg (by omega), if_neg (by omega), if_pos h]
def HR (m μ : Mem) : Prop := μ.1 14 0 = m.1 0 29 ∧ μ.1 14 1 = m.1 0 30 ∧ (∀ b, b < nbN m → BxR b m μ) ∧ RcL (sM m) (sC μ)
def DN (m : Mem) : Prop := ∀ a b, a < nbN m → b < nbN m → m.2.1 2 a = m.2.1 2 b → a = b
def HI (m μ : Mem) : Prop := HR m μ ∧ DN m
theorem rcl_mv {m m' μ μ' : Mem} (h : RcL (sM m) (sC μ)) (a : ∀ i j, 10 ≤ i ∧ i ≤ 14 → m'.1 i j = m.1 i j) (c1 : μ'.1 14 1 = μ.1 14 1) (c : ∀ i j, 20 ≤ i ∧ i ≤ 23 → μ'.1 i j = μ.1 i j) : RcL (sM m') (sC μ') := by
  refine h.mv (fun i j q => ?_) (fun i j q => ?_)
  · rw [sM_t q, sM_t q]; exact a _ _ (by omega)
  · rw [sC_t (by omega), sC_t (by omega)]
    rcases q with ⟨e1, e2⟩ | q
    · rw [e1, e2]; exact c1
    · exact c _ _ (by omega)
def Fh (μ μ' : Mem) : Prop := (∀ i j, ¬ (i = 2 ∧ 4 ≤ j ∧ j ≤ 10) → ¬ (14 ≤ i ∧ i ≤ 23) → μ'.1 i j = μ.1 i j) ∧ (∀ i j, ¬ (i = 2 ∧ j = 8) → i ≠ 15 → μ'.2.1 i j = μ.2.1 i j) ∧ μ'.2.2 = μ.2.2
theorem Fh.rf {μ : Mem} : Fh μ μ := ⟨fun _ _ _ _ => rfl, fun _ _ _ _ => rfl, rfl⟩
theorem Fh.tr {a b c : Mem} (h : Fh a b) (g : Fh b c) : Fh a c := ⟨fun i j q q1 => (g.1 i j q q1).trans (h.1 i j q q1), fun i j q q1 => (g.2.1 i j q q1).trans (h.2.1 i j q q1), g.2.2.trans h.2.2⟩
theorem Fh.w {a b : Mem} {i k : Nat} {v : Int32} (h : Fh a b) (hi : 14 ≤ i ∧ i ≤ 23) : Fh a (wI b i k v) := ⟨fun x j q q1 => (wI_ne (by omega)).trans (h.1 x j q q1), h.2.1, h.2.2⟩
theorem F4.fh {a b : Mem} (h : F4 a b) : Fh a b := ⟨fun i j q _ => h.1 i j q, fun i j q _ => h.2.1 i j q, h.2.2⟩
theorem Fb.fh {a b : Mem} (h : Fb a b) : Fh a b := ⟨fun i j q q1 => h.1 i j q (by omega), h.2.1, h.2.2⟩
theorem BD.fin {nb : Nat} {N : Nat → Int64} {q r : Int32} {m μ : Mem} (h : BD nb 4 N q m μ) : ∀ k, k < nb + 1 → BxR k (wI m 6 nb r) (wI μ 17 nb r) := by
  obtain ⟨h1, h2, h3, h4, h5, h6⟩ := h
  intro k hk
  rcases Nat.lt_or_ge k nb with g | g
  · obtain ⟨a1, a2, a3, a4⟩ := h1 k g
    refine ⟨a1, ?_, ?_, fun y hy => ?_⟩
    · rw [wI_ne (by omega), wI_ne (by omega)]; exact a2
    · rw [wI_ne (by omega), wI_ne (by omega)]; exact a3
    · rw [wI_ne (by omega), wI_ne (by omega), wI_ne (by omega), wI_ne (by omega)]; exact a4 y hy
  · have ek : k = nb := by omega
    rw [ek]
    refine ⟨h2, ?_, ?_, fun y hy => ?_⟩
    · rw [wI_ne (by omega), wI_ne (by omega)]; exact h3
    · rw [wI_same, wI_same]
    · rw [wI_ne (by omega), wI_ne (by omega), wI_ne (by omega), wI_ne (by omega)]; exact h6 y hy
theorem hlTS_F {m : Mem} (h : (hlT (hlS m)).1 0 2 = 0) : m.1 0 2 = 0 ∧ hlT (hlS m) = tkn m := by
  rw [hlT_2] at h
  have e := (hlS_0 h).1
  rw [e] at h ⊢
  exact ⟨h, hlT_0 h⟩
theorem rr_4 {m : Mem} {b q j : Nat} {w : Int64} {lo hi z : Int32} : (sp_readRange m b q w lo hi z).1 4 j = m.1 4 j := by
  unfold sp_readRange
  rw [wI_ne (by omega), wI_ne (by omega), (Rd.rg (z := z) (Rd.rf.wa.rg.wa) (b := _)).1 4 j (by unfold rdK; omega)]
theorem tk_sl {m : Mem} {i j : Nat} (h : ¬ (i = 0 ∧ j = 9)) : (tkn m).2.1 i j = m.2.1 i j := (Rd.tk (a := m) (b := m) Rd.rf).2.1 i j h
theorem wd_5 : e256 (wdK.getD (5 + 0) []) = 2053468783 := by decide +kernel
theorem wd_6 : e256 (wdK.getD (5 + 1) []) = 495740481637 := by decide +kernel
theorem wd_7 : e256 (wdK.getD (5 + 2) []) = 7102823 := by decide +kernel
theorem wd_8 : e256 (wdK.getD (5 + 3) []) = 1953067621 := by decide +kernel
theorem wd_10 : e256 (wdK.getD 10 []) = 7300710 := by decide +kernel
def rb4 (m : Mem) : Mem := sp_readRange (sp_readRange (rbF m) (nbN m) 2 7102823 0 2 0) (nbN m) 3 1953067621 0 3 0
theorem rbH_e (m : Mem) : rbH m = sp_want (rb4 m) 7300710 := rfl
set_option maxHeartbeats 400000 in
set_option maxRecDepth 100000 in
theorem L_X3_box_223 {l : Launch} {G : Wd} {N : Nat → Int64} {kd q : Int32} {x3 x4 x5 x6 x7 : Option Value} {m μ0 μ : Mem} (hS : okS G) (h5 : nbN m < 5) (h29 : m.1 0 29 = nI (nbN m)) (hH : HI m μ0) (hB : ¬ 0 < (rbB m).1 0 2) (hD : ¬ 0 < (rbD m).1 0 2) (hN : ∀ a b, a < nbN m + 1 → b < nbN m + 1 → N a = N b → a = b) (t : TS G (rb4 m) μ) (f : Fb μ0 μ) (d : (rb4 m).1 0 2 = 0 → BD (nbN m) 4 N q (rb4 m) μ) : AW l G KC RX3 cX3_boxLine 8 8 none (Qv (fun μ' => TS G (hlT (hlS (sp_readBox m))) μ' ∧ Fh μ0 μ' ∧ ((hlT (hlS (sp_readBox m))).1 0 2 = 0 → HI (hlT (hlS (sp_readBox m))) μ'))) 223 [some (.ref (gA G 24)), some (.int (nI (nbN m))), some (.int kd), x3, x4, x5, x6, x7] [] μ := by
  have eJ : sp_readBox m = if (rbJ m).1 0 2 = 0 then wI (rbJ m) 0 29 ((rbJ m).1 0 29 + 1) else rbJ m := (if_neg hB).trans (if_neg hD)
  have e29 : (rbJ m).1 0 29 = nI (nbN m) := (Rh.bJ.1 0 29 (by unfold rdK; omega) (by omega) (by omega) (by omega)).trans h29
  have e30 : (rbJ m).1 0 30 = m.1 0 30 := Rh.bJ.1 0 30 (by unfold rdK; omega) (by omega) (by omega) (by omega)
  have eR : rng 0 (rbH m) 0 9 = sp_told (rbH m) 0 9 := rng_0 rfl
  refine A_aload0 dX3_boxLine_223 ?_
  refine A_getR gf_X3_9 rfl dX3_boxLine_224 ?_
  refine A_sipush (v := 138) dX3_boxLine_227 (by decide) ?_
  refine A_val (y := nI (128 + 10)) (by decide) ?_
  refine A_vv1 lk_X3_66 yv_X9_take dX3_boxLine_230 (rfl) (rfl) (T_take_w (i := 10) hS t (by decide)) (by decide) (Nat.le_of_ble_eq_true rfl) (fun μ_230 h_230 => ?_)
  have k1 := h_230
  rw [wd_10, ← rbH_e] at k1
  refine A_aload0 dX3_boxLine_233 ?_
  refine A_getR gf_X3_15 rfl dX3_boxLine_234 ?_
  refine A_getR gf_X3_79 rfl dX3_boxLine_237 ?_
  refine A_iload1 dX3_boxLine_240 ?_
  refine A_aload0 dX3_boxLine_241 ?_
  refine A_iconst (v := 0) dX3_boxLine_242 (by decide) ?_
  refine A_bipush (v := 9) dX3_boxLine_243 (by decide) ?_
  refine A_iconst (v := 0) dX3_boxLine_245 (by decide) ?_
  refine A_vi3 lk_X3_69 yv_X3_takeNumber dX3_boxLine_246 (rfl) (rfl) (T_X3_takeNumber hS k1.1) (by decide) (Nat.le_of_ble_eq_true rfl) (fun r_246 μ_246 h_246 => ?_)
  obtain ⟨k2, k3, k4⟩ := h_246
  rw [eR] at k3 k4
  refine A_iast (rfl) (vp_in_nI (by omega) (by omega)) dX3_boxLine_249 ?_
  rw [nI_c (by omega)]
  have t3 : TS G (sp_readBox m) (wI μ_246 17 (nbN m) r_246) := by
    rw [eJ]
    have t4 : TS G (rbJ m) (wI μ_246 17 (nbN m) r_246) := (k3.mw (by omega)).cw (by omega)
    split
    · exact t4.mw (by omega)
    · exact t4
  refine A_aload0 dX3_boxLine_250 ?_
  refine A_getR gf_X3_9 rfl dX3_boxLine_251 ?_
  refine A_bipush (v := 59) dX3_boxLine_254 (by decide) ?_
  refine A_vv1 lk_X3_66 yv_X9_take dX3_boxLine_256 (rfl) (rfl) (T_take_s hS t3) (by decide) (Nat.le_of_ble_eq_true rfl) (fun μ_256 h_256 => ?_)
  refine A_aload0 dX3_boxLine_259 ?_
  refine A_getR gf_X3_15 rfl dX3_boxLine_260 ?_
  refine A_iload1 dX3_boxLine_263 ?_
  refine A_iconst (v := 1) dX3_boxLine_264 (by decide) ?_
  refine A_iadd dX3_boxLine_265 ?_
  rw [nI_1]
  refine A_putI gf_X3_30 rfl dX3_boxLine_266 ?_
  refine A_vret dX3_boxLine_269 ?_
  refine ⟨rfl, h_256.1.cw (by omega), (((((f.f4 k1.2).f4 k2).fh).w (by omega)).tr h_256.2.fh).w (by omega), fun y => ?_⟩
  obtain ⟨y1, y2⟩ := hlTS_F y
  have yJ : (rbJ m).1 0 2 = 0 := by
    rw [eJ] at y1
    by_cases yy : (rbJ m).1 0 2 = 0
    · exact yy
    · rw [if_neg yy] at y1; exact y1
  have eZ : sp_readBox m = wI (rbJ m) 0 29 (nI (nbN m + 1)) := by
    rw [eJ, if_pos yJ, e29, nI_1]
  have yT : (sp_told (rbH m) 0 9).2.1 0 2 = 0 := (wI_ne (by omega)).symm.trans yJ
  have yH := (told_F0 yT).1
  rw [rbH_e] at yH
  have y4 := (want_F0 yH).1
  have ev : r_246 = (sp_told (rbH m) 0 9).1 := k4 yT
  have rw1 : Rd (rb4 m) (rbH m) := Rd.rf.wa
  have d2 : BD (nbN m) 4 N q (sp_told (rbH m) 0 9).2 μ_246 := ((d y4).mv rw1.dm k1.2.dc).mv Rd.rf.td.dm k2.dc
  have b2 := d2.fin (r := r_246)
  rw [ev] at b2
  have eJ2 : rbJ m = wI (sp_told (rbH m) 0 9).2 6 (nbN m) (sp_told (rbH m) 0 9).1 := rfl
  rw [← eJ2] at b2
  have en : nbN (tkn (sp_readBox m)) = nbN m + 1 := by
    unfold nbN
    rw [tk_same (by unfold rdK; omega), eZ, wI_same]
    exact nI_c (by omega)
  rw [y2]
  have rT : Rd (sp_readBox m) (tkn (sp_readBox m)) := Rd.rf.tk
  refine ⟨⟨?_, ?_, ?_, ?_⟩, ?_⟩
  · rw [wI_same, tk_same (by unfold rdK; omega), eZ, wI_same]
  · rw [wI_ne (by omega), h_256.2.1 14 1 (by omega), wI_ne (by omega), k2.1 14 1 (by omega), k1.2.1 14 1 (by omega), f.1 14 1 (by omega) (by omega), hH.1.2.1, tk_same (by unfold rdK; omega), eZ, wI_ne (by omega), e30]
  · rw [en]
    intro k hk
    have b3 := b2 k hk
    refine (b3.mv (m' := tkn (sp_readBox m)) (μ' := μ_256) ?_ ?_).mv ⟨fun _ _ _ => rfl, fun _ => rfl⟩ ⟨fun i j qq => wI_ne (by omega), fun _ => rfl⟩
    · refine ⟨fun i j qq => ?_, fun j => ?_⟩
      · rw [rT.dm.1 i j qq, eZ, wI_ne (by omega)]
      · rw [rT.dm.2 j, eZ, wI_l]
    · rw [← ev]; exact h_256.2.dc
  · refine rcl_mv hH.1.2.2.2 (fun i j qq => ?_) ?_ (fun i j qq => ?_)
    · rw [rT.1 i j (by unfold rdK; omega), eZ, wI_ne (by omega), Rh.bJ.1 i j (by unfold rdK; omega) (by omega) (by omega) (by omega)]
    · rw [wI_ne (by omega), h_256.2.1 14 1 (by omega), wI_ne (by omega), k2.1 14 1 (by omega), k1.2.1 14 1 (by omega), f.1 14 1 (by omega) (by omega)]
    · rw [wI_ne (by omega), h_256.2.1 i j (by omega), wI_ne (by omega), k2.1 i j (by omega), k1.2.1 i j (by omega), f.1 i j (by omega) (by omega)]
  · intro a b ha hb hab
    rw [en] at ha hb
    have eN : ∀ k, (tkn (sp_readBox m)).2.1 2 k = N k := fun k => by
      rw [rT.dm.2 k, eZ, wI_l, eJ2, wI_l]
      exact d2.2.2.2.1 k
    rw [eN, eN] at hab
    exact hN a b ha hb hab
theorem rbC_l (m : Mem) : (rbC m).2.1 = (tkn (rbB m)).2.1 := by
  unfold rbC
  exact wI_l
theorem wd_1 : e256 (wdK.getD 1 []) = 2002874989 := by decide +kernel
theorem wd_2 : e256 (wdK.getD 2 []) = 1684106608 := by decide +kernel
theorem wd_3 : e256 (wdK.getD 3 []) = 1918986606 := by decide +kernel
theorem wd_4 : e256 (wdK.getD 4 []) = 2003398244 := by decide +kernel
theorem kd_w {G : Wd} {m μ : Mem} (h : TS G m μ) (h0 : m.1 0 2 = 0) : (isWd m 2002874989 ↔ μ.1 2 5 = 129) ∧ (isWd m 1684106608 ↔ μ.1 2 5 = 130) ∧ (isWd m 1918986606 ↔ μ.1 2 5 = 131) ∧ (isWd m 2003398244 ↔ μ.1 2 5 = 132) := by
  have hk := h.kr h0
  have a1 := hk.wd (i := 1) (by decide)
  have a2 := hk.wd (i := 2) (by decide)
  have a3 := hk.wd (i := 3) (by decide)
  have a4 := hk.wd (i := 4) (by decide)
  rw [wd_1] at a1
  rw [wd_2] at a2
  rw [wd_3] at a3
  rw [wd_4] at a4
  exact ⟨a1, a2, a3, a4⟩
theorem kd_in {G : Wd} {m μ : Mem} (h : TS G m μ) (h0 : m.1 0 2 = 0) (h1 : ¬ μ.1 2 5 < 129) (h2 : μ.1 2 5 ≤ 132) : kdO m = μ.1 2 5 - 129 ∧ ¬ kdO m < 0 ∧ (kdO m = 3 ↔ μ.1 2 5 = 132) ∧ m.1 0 6 = 1 := by
  obtain ⟨a1, a2, a3, a4⟩ := kd_w h h0
  have b1 := i_le.mp (Int32.not_lt.mp h1)
  have b2 := i_le.mp h2
  have c1 : (129 : Int32).toInt = 129 := rfl
  have c2 : (132 : Int32).toInt = 132 := rfl
  have hc : μ.1 2 5 = 129 ∨ μ.1 2 5 = 130 ∨ μ.1 2 5 = 131 ∨ μ.1 2 5 = 132 := by
    rw [i_eq, i_eq, i_eq, i_eq]
    have c3 : (130 : Int32).toInt = 130 := rfl
    have c4 : (131 : Int32).toInt = 131 := rfl
    omega
  unfold kdO
  rcases hc with e | e | e | e
  · rw [if_pos (a1.mpr e), e]; exact ⟨by decide, by decide, by decide, (a1.mpr e).1⟩
  · rw [if_neg (fun y => absurd ((a1.mp y).symm.trans e) (by decide)), if_pos (a2.mpr e), e]; exact ⟨by decide, by decide, by decide, (a2.mpr e).1⟩
  · rw [if_neg (fun y => absurd ((a1.mp y).symm.trans e) (by decide)), if_neg (fun y => absurd ((a2.mp y).symm.trans e) (by decide)), if_pos (a3.mpr e), e]; exact ⟨by decide, by decide, by decide, (a3.mpr e).1⟩
  · rw [if_neg (fun y => absurd ((a1.mp y).symm.trans e) (by decide)), if_neg (fun y => absurd ((a2.mp y).symm.trans e) (by decide)), if_neg (fun y => absurd ((a3.mp y).symm.trans e) (by decide)), if_pos (a4.mpr e), e]; exact ⟨by decide, by decide, by decide, (a4.mpr e).1⟩
theorem kd_out {G : Wd} {m μ : Mem} (h : TS G m μ) (h0 : m.1 0 2 = 0) (h1 : ¬ (¬ μ.1 2 5 < 129 ∧ μ.1 2 5 ≤ 132)) : kdO m = -1 := by
  obtain ⟨a1, a2, a3, a4⟩ := kd_w h h0
  unfold kdO
  rw [if_neg (fun y => h1 (by rw [a1.mp y]; decide)), if_neg (fun y => h1 (by rw [a2.mp y]; decide)), if_neg (fun y => h1 (by rw [a3.mp y]; decide)), if_neg (fun y => h1 (by rw [a4.mp y]; decide))]
theorem Mk.tks {m m' : Mem} (h : Mk m m') : Mk (tkn m) (tkn m') := by
  have e1 : m'.1 1 = m.1 1 := funext h.2.1
  have e2 : szN m' = szN m := by unfold szN; rw [h.1 5 (by omega)]
  have e3 : atN m' = atN m := by unfold atN; rw [h.1 4 (by omega)]
  have e4 : m'.1 0 10 = m.1 0 10 := h.1 10 (by omega)
  have eT : tkn m' = tkM m' (spN (m.1 1) (szN m) (atN m)) (tk (m.1 1) (szN m) (m.1 0 10) (spN (m.1 1) (szN m) (atN m))) := by
    show tkM m' (spN (m'.1 1) (szN m') (atN m')) (tk (m'.1 1) (szN m') (m'.1 0 10) (spN (m'.1 1) (szN m') (atN m'))) = _
    rw [e1, e2, e3, e4]
  have eS : tkn m = tkM m (spN (m.1 1) (szN m) (atN m)) (tk (m.1 1) (szN m) (m.1 0 10) (spN (m.1 1) (szN m) (atN m))) := rfl
  refine ⟨fun j hj => ?_, fun j => ?_, ?_⟩
  · have hc : j < 4 ∨ j = 4 ∨ j = 6 ∨ j = 7 ∨ j = 8 ∨ (j = 5 ∨ 9 ≤ j) := by omega
    rcases hc with g | g | g | g | g | g
    · rw [eT, eS, tkM_o _ _ _ g, tkM_o _ _ _ g]; exact h.1 j hj
    · rw [g, eT, eS, tkM_4, tkM_4]
    · rw [g, eT, eS, tkM_6, tkM_6]
    · rw [g, eT, eS, tkM_7, tkM_7]
    · rw [g, eT, eS, tkM_8, tkM_8]
    · rw [tk_same (by unfold rdK; omega), tk_same (by unfold rdK; omega)]; exact h.1 j hj
  · rw [tk_same (by unfold rdK; omega), tk_same (by unfold rdK; omega)]; exact h.2.1 j
  · rw [eT, eS, tkM_9, tkM_9]
set_option maxHeartbeats 1000000 in
set_option maxRecDepth 100000 in
theorem L_X3_box_20 {l : Launch} {G : Wd} {x2 x3 x4 x5 x6 x7 : Option Value} {m μ0 μ : Mem} (hS : okS G) (hZ : okZ G) (h5 : nbN m < 5) (h29 : m.1 0 29 = nI (nbN m)) (hH : HI m μ0) (hB : ¬ 0 < (rbB m).1 0 2) (hN : ∀ a b, a < nbN m + 1 → b < nbN m + 1 → (rbB m).2.1 2 a = (rbB m).2.1 2 b → a = b) (t : TS G (tkn (rbB m)) μ) (h0 : (rbB m).1 0 2 = 0) (f : Fb μ0 μ) (hx : ∀ k, k < nbN m → BxR k (rbB m) μ) (hn : NmR (μ.2.1 15 (nbN m)) ((rbB m).2.1 2 (nbN m))) : AW l G KC RX3 cX3_boxLine 8 8 none (Qv (fun μ' => TS G (hlT (hlS (sp_readBox m))) μ' ∧ Fh μ0 μ' ∧ ((hlT (hlS (sp_readBox m))).1 0 2 = 0 → HI (hlT (hlS (sp_readBox m))) μ'))) 20 [some (.ref (gA G 24)), some (.int (nI (nbN m))), x2, x3, x4, x5, x6, x7] [] μ := by
  have h02 : (tkn (rbB m)).1 0 2 = 0 := (tkn_2 _).trans h0
  have tC : TS G (rbC m) μ := t.mw (by omega)
  have hout : kdO (tkn (rbB m)) = -1 → rbD m = sp_spoil (rbC m) 2 ∧ sp_readBox m = sp_spoil (rbC m) 2 ∧ ¬ (sp_spoil (rbC m) 2).1 0 2 = 0 := by
    intro y
    have e1 : rbD m = sp_spoil (rbC m) 2 := if_pos (by rw [y]; decide)
    have e2 : 0 < (sp_spoil (rbC m) 2).1 0 2 := sp_spoil_2 (by decide)
    exact ⟨e1, (if_neg hB).trans ((if_pos (by rw [e1]; exact e2)).trans e1), ps_0 e2⟩
  refine A_aload0 dX3_boxLine_20 ?_
  refine A_getR gf_X3_9 rfl dX3_boxLine_21 ?_
  refine A_getI gf_X3_24 rfl dX3_boxLine_24 ?_
  refine A_istore2 dX3_boxLine_27 rfl (by decide) ?_
  refine A_iload2 dX3_boxLine_28 ?_
  refine A_sipush (v := 129) dX3_boxLine_29 (by decide) ?_
  refine A_icmp_lt (tgt := 42) dX3_boxLine_32 (by decide) (fun c_32 => ?_) (fun c_32 => ?_)
  · refine A_aload0 dX3_boxLine_42 ?_
    refine A_getR gf_X3_9 rfl dX3_boxLine_43 ?_
    refine A_vv0 lk_X3_47 yv_X9_refuse dX3_boxLine_46 (rfl) (rfl) (T_refuse tC) (by decide) (Nat.le_of_ble_eq_true rfl) (fun μ_46 h_46 => ?_)
    refine A_vret dX3_boxLine_49 ?_
    obtain ⟨e1, e2, e3⟩ := hout (kd_out t h02 (fun y => y.1 c_32))
    rw [e2, hlTS_1 e3]
    exact ⟨rfl, h_46.1, (f.f4 h_46.2).fh, fun y => absurd y e3⟩
  · refine A_iload2 dX3_boxLine_35 ?_
    refine A_sipush (v := 132) dX3_boxLine_36 (by decide) ?_
    refine A_icmp_le (tgt := 50) dX3_boxLine_39 (by decide) (fun c_39 => ?_) (fun c_39 => ?_)
    · obtain ⟨i1, i2, i3, i4⟩ := kd_in t h02 c_32 c_39
      have eD : rbD m = rbC m := if_neg i2
      have hD : ¬ 0 < (rbD m).1 0 2 := by rw [eD, show (rbC m).1 0 2 = (tkn (rbB m)).1 0 2 from wI_ne (by omega), h02]; decide
      refine A_aload0 dX3_boxLine_50 ?_
      refine A_getR gf_X3_15 rfl dX3_boxLine_51 ?_
      refine A_getR gf_X3_56 rfl dX3_boxLine_54 ?_
      refine A_iload1 dX3_boxLine_57 ?_
      refine A_iload2 dX3_boxLine_58 ?_
      refine A_sipush (v := 129) dX3_boxLine_59 (by decide) ?_
      refine A_isub dX3_boxLine_62 ?_
      refine A_iast (rfl) (vp_in_nI (by omega) (by omega)) dX3_boxLine_63 ?_
      rw [nI_c (by omega), ← i1]
      refine A_aload0 dX3_boxLine_64 ?_
      refine A_getR gf_X3_9 rfl dX3_boxLine_65 ?_
      refine A_vv0 lk_X3_50 yv_X9_step dX3_boxLine_68 (rfl) (rfl) (T_step hS (tC.cw (by omega)) ((wI_ne (by omega)).trans h02) (by rw [show (rbC m).1 0 6 = (tkn (rbB m)).1 0 6 from wI_ne (by omega), i4]; decide)) (by decide) (Nat.le_of_ble_eq_true rfl) (fun μ_68 h_68 => ?_)
      obtain ⟨t1, f1⟩ := h_68
      rw [← eD] at t1
      have f2 := (f.w (i := 16) (k := nbN m) (v := kdO (tkn (rbB m))) (by omega)).f4 f1
      refine A_iconst (v := 0) dX3_boxLine_71 (by decide) ?_
      refine A_istore3 dX3_boxLine_72 rfl (by decide) ?_
      have q4 : (tkn (rbD m)).1 4 (nbN m) = kdO (tkn (rbB m)) := by
        rw [tk_same (by unfold rdK; omega), eD]
        exact wI_same
      have dm0 : ∀ j, (tkn (rbD m)).2.1 2 j = (rbB m).2.1 2 j := fun j => by
        rw [tk_sl (by omega), eD, rbC_l, tk_sl (by omega)]
      have d0 : BD (nbN m) 0 ((rbB m).2.1 2) (kdO (tkn (rbB m))) (tkn (rbD m)) μ_68 := by
        refine ⟨fun k hk => ?_, ?_, ?_, dm0, q4, fun x hx2 => absurd hx2 (Nat.not_lt_zero _)⟩
        · obtain ⟨a1, a2, a3, a4⟩ := hx k hk
          have r1 : ∀ i j, 4 ≤ i ∧ i ≤ 6 → ¬ (i = 4 ∧ j = nbN m) → (tkn (rbD m)).1 i j = (rbB m).1 i j := fun i j qq qn => by
            rw [tk_same (by unfold rdK; omega), eD, show (rbC m).1 i j = (tkn (rbB m)).1 i j from wI_ne (by omega), tk_same (by unfold rdK; omega)]
          have r2 : ∀ i j, 16 ≤ i ∧ i ≤ 19 → ¬ (i = 16 ∧ j = nbN m) → μ_68.1 i j = μ.1 i j := fun i j qq qn => (f1.1 i j (by omega)).trans (wI_ne (by omega))
          refine ⟨?_, ?_, ?_, fun p hp => ?_⟩
          · rw [dm0, f1.2.1 15 k (by omega)]; exact a1
          · rw [r1 4 k (by omega) (by omega), r2 16 k (by omega) (by omega)]; exact a2
          · rw [r1 6 k (by omega) (by omega), r2 17 k (by omega) (by omega)]; exact a3
          · rw [r1 5 _ (by omega) (by omega), r1 5 _ (by omega) (by omega), r2 18 _ (by omega) (by omega), r2 19 _ (by omega) (by omega)]; exact a4 p hp
        · rw [dm0, f1.2.1 15 _ (by omega)]; exact hn
        · rw [q4, f1.1 16 _ (by omega), wI_same]
      have eE : (rbE m).1 4 (nbN m) = kdO (tkn (rbB m)) := rr_4.trans q4
      refine L_X3_box_73 (p := 0) (N := (rbB m).2.1 2) (q := kdO (tkn (rbB m))) (lo := -5) (hi := 5) (z := 1) (w := 2053468783) hS hZ h5 (by decide) wd_5 (Or.inl ⟨rfl, rfl⟩) (Or.inr ⟨fun y => absurd y.1 (by decide), rfl, rfl⟩) t1 f2 (fun _ => d0) (fun x4 x5 x6 x7 μ1 g1 g2 g3 => ?_)
      refine L_X3_box_73 (p := 1) (N := (rbB m).2.1 2) (q := kdO (tkn (rbB m))) (lo := (if (rbE m).1 4 (nbN m) = 3 then 10 else 8)) (hi := (if (rbE m).1 4 (nbN m) = 3 then 10 else 12)) (z := 0) (w := 495740481637) hS hZ h5 (by decide) wd_6 (Or.inr ⟨by decide, rfl⟩) (?_) g1 g2 (fun y => (g3 y).2) (fun x4 x5 x6 x7 μ2 g4 g5 g6 => ?_)
      · rw [eE]
        by_cases y : μ.1 2 5 = 132
        · rw [if_pos (i3.mpr y), if_pos (i3.mpr y)]; exact Or.inl ⟨⟨rfl, y⟩, rfl, rfl⟩
        · rw [if_neg (fun y2 => y (i3.mp y2)), if_neg (fun y2 => y (i3.mp y2))]; exact Or.inr ⟨fun y2 => y y2.2, rfl, rfl⟩
      refine L_X3_box_73 (p := 2) (N := (rbB m).2.1 2) (q := kdO (tkn (rbB m))) (lo := 0) (hi := 2) (z := 0) (w := 7102823) hS hZ h5 (by decide) wd_7 (Or.inr ⟨by decide, rfl⟩) (Or.inr ⟨fun y => absurd y.1 (by decide), rfl, rfl⟩) g4 g5 (fun y => (g6 y).2) (fun x4 x5 x6 x7 μ3 g7 g8 g9 => ?_)
      refine L_X3_box_73 (p := 3) (N := (rbB m).2.1 2) (q := kdO (tkn (rbB m))) (lo := 0) (hi := 3) (z := 0) (w := 1953067621) hS hZ h5 (by decide) wd_8 (Or.inr ⟨by decide, rfl⟩) (Or.inr ⟨fun y => absurd y.1 (by decide), rfl, rfl⟩) g7 g8 (fun y => (g9 y).2) (fun x4 x5 x6 x7 μ4 j1 j2 j3 => ?_)
      refine A_iload3 dX3_boxLine_73 ?_
      refine A_iconst (v := 4) dX3_boxLine_74 (by decide) ?_
      refine A_icmp_ge (tgt := 223) dX3_boxLine_75 (by decide) (fun c_75 => ?_) (fun c_75 => absurd c_75 (fun y => y (by decide)))
      exact L_X3_box_223 hS h5 h29 hH hB hD hN j1 j2 (fun y => (j3 y).2)
    · refine A_aload0 dX3_boxLine_42 ?_
      refine A_getR gf_X3_9 rfl dX3_boxLine_43 ?_
      refine A_vv0 lk_X3_47 yv_X9_refuse dX3_boxLine_46 (rfl) (rfl) (T_refuse tC) (by decide) (Nat.le_of_ble_eq_true rfl) (fun μ_46 h_46 => ?_)
      refine A_vret dX3_boxLine_49 ?_
      obtain ⟨e1, e2, e3⟩ := hout (kd_out t h02 (fun y => c_39 y.2))
      rw [e2, hlTS_1 e3]
      exact ⟨rfl, h_46.1, (f.f4 h_46.2).fh, fun y => absurd y e3⟩
set_option maxHeartbeats 400000 in
set_option maxRecDepth 100000 in
theorem L_X3_box_20f {l : Launch} {G : Wd} {x2 x3 x4 x5 x6 x7 : Option Value} {m μ0 μ : Mem} (hB : 0 < (rbB m).1 0 2) (t : TS G (rbB m) μ) (f : Fb μ0 μ) : AW l G KC RX3 cX3_boxLine 8 8 none (Qv (fun μ' => TS G (hlT (hlS (sp_readBox m))) μ' ∧ Fh μ0 μ' ∧ ((hlT (hlS (sp_readBox m))).1 0 2 = 0 → HI (hlT (hlS (sp_readBox m))) μ'))) 20 [some (.ref (gA G 24)), some (.int (nI (nbN m))), x2, x3, x4, x5, x6, x7] [] μ := by
  have eB : sp_readBox m = rbB m := if_pos hB
  have h5 := (t.en (ps_0 hB)).1
  refine A_aload0 dX3_boxLine_20 ?_
  refine A_getR gf_X3_9 rfl dX3_boxLine_21 ?_
  refine A_getI gf_X3_24 rfl dX3_boxLine_24 ?_
  rw [h5]
  refine A_istore2 dX3_boxLine_27 rfl (by decide) ?_
  refine A_iload2 dX3_boxLine_28 ?_
  refine A_sipush (v := 129) dX3_boxLine_29 (by decide) ?_
  refine A_icmp_lt (tgt := 42) dX3_boxLine_32 (by decide) (fun c_32 => ?_) (fun c_32 => absurd c_32 (by decide))
  refine A_aload0 dX3_boxLine_42 ?_
  refine A_getR gf_X3_9 rfl dX3_boxLine_43 ?_
  refine A_vv0 lk_X3_47 yv_X9_refuse dX3_boxLine_46 (rfl) (rfl) (T_refuse t) (by decide) (Nat.le_of_ble_eq_true rfl) (fun μ_46 h_46 => ?_)
  refine A_vret dX3_boxLine_49 ?_
  rw [eB, hlTS_1 (ps_0 hB)]
  rw [spoil_1 (ps_0 hB) t.f0] at h_46
  exact ⟨rfl, h_46.1, (f.f4 h_46.2).fh, fun y => absurd y (ps_0 hB)⟩
set_option maxHeartbeats 1000000 in
set_option maxRecDepth 100000 in
theorem T_X3_boxLine {l : Launch} {G : Wd} {m μ : Mem} (hS : okS G) (hZ : okZ G) (h : TS G m μ) (h0 : m.1 0 2 = 0) (hw : isWd m 6451064) (h5 : nbN m < 5) (h29 : m.1 0 29 = nI (nbN m)) (hH : HI m μ) : Mt l G KC yX3_boxLine cX3_boxLine 8 none 8 [.ref (gA G 24)] μ (Qv (fun μ' => TS G (hlT (hlS (sp_readBox m))) μ' ∧ Fh μ μ' ∧ ((hlT (hlS (sp_readBox m))).1 0 2 = 0 → HI (hlT (hlS (sp_readBox m))) μ'))) := by
  refine Mt.of (own := RX3) (n := 7) (by decide) rfl [some (.ref (gA G 24)), none, none, none, none, none, none, none] rfl (Nat.le_of_ble_eq_true rfl) ?_
  refine A_aload0 dX3_boxLine_0 ?_
  refine A_getR gf_X3_15 rfl dX3_boxLine_1 ?_
  refine A_getI gf_X3_30 rfl dX3_boxLine_4 ?_
  rw [hH.1.1, h29]
  refine A_istore1 dX3_boxLine_7 rfl (by decide) ?_
  refine A_aload0 dX3_boxLine_8 ?_
  refine A_getR gf_X3_9 rfl dX3_boxLine_9 ?_
  refine A_vv0 lk_X3_50 yv_X9_step dX3_boxLine_12 (rfl) (rfl) (T_step hS h h0 (by rw [hw.1]; decide)) (by decide) (Nat.le_of_ble_eq_true rfl) (fun μ_12 h_12 => ?_)
  obtain ⟨t1, f1⟩ := h_12
  have h01 : (tkn m).1 0 2 = 0 := (tkn_2 m).trans h0
  have h291 : (tkn m).1 0 29 = nI (nbN m) := (tk_same (by unfold rdK; omega)).trans h29
  have hc1 : μ_12.1 14 0 = nI (nbN m) := (f1.1 14 0 (by omega)).trans (hH.1.1.trans h29)
  have eL : ∀ j, (tkn m).2.1 2 j = m.2.1 2 j := fun j => tk_sl (by omega)
  have hN1 : NmS (nbN m) (tkn m) μ_12 := ⟨fun k hk => by rw [eL, f1.2.1 15 k (by omega)]; exact (hH.1.2.2.1 k hk).1, fun a b ha hb hab => by rw [eL, eL] at hab; exact hH.2 a b ha hb hab⟩
  refine A_aload0 dX3_boxLine_15 ?_
  refine A_iload1 dX3_boxLine_16 ?_
  refine A_vv1 lk_X3_53 yv_X3_newName dX3_boxLine_17 (rfl) (rfl) (T_X3_newName (nb := nbN m) hS t1 h01 h5 h291 hc1 hN1) (by decide) (Nat.le_of_ble_eq_true rfl) (fun μ_17 h_17 => ?_)
  obtain ⟨f2, g1, g2⟩ := h_17
  have eA : nwA (tkn m) = rbA m := rfl
  rw [eA] at g1 g2
  by_cases hA : (rbA m).1 0 2 = 0
  · obtain ⟨t2, hn, e2, hno⟩ := g1 hA
    have eB : rbB m = wL (tkn m) 2 (nbN m) ((tkn m).2.1 0 9) := by
      unfold rbB
      rw [e2]
    have hB0 : (rbB m).1 0 2 = 0 := by rw [eB]; exact h01
    have eN : (rbB m).2.1 2 (nbN m) = (tkn m).2.1 0 9 := by rw [eB]; exact w2_same
    have eM : ∀ k, k < nbN m → (rbB m).2.1 2 k = m.2.1 2 k := fun k hk => by
      rw [eB]
      exact (w2_ne (by omega)).trans (eL k)
    refine L_X3_box_20 hS hZ h5 h29 hH (by rw [hB0]; decide) ?_ ?_ hB0 ((Fb.rf.f4 f1).fn f2) ?_ ?_
    · intro a b ha hb hab
      rcases Nat.lt_or_ge a (nbN m) with a1 | a1
      · rcases Nat.lt_or_ge b (nbN m) with b1 | b1
        · rw [eM a a1, eM b b1] at hab; exact hH.2 a b a1 b1 hab
        · have eb : b = nbN m := by omega
          rw [eM a a1, eb, eN, ← eL] at hab
          exact absurd hab (hno a a1)
      · have ea : a = nbN m := by omega
        rcases Nat.lt_or_ge b (nbN m) with b1 | b1
        · rw [eM b b1, ea, eN, ← eL] at hab
          exact absurd hab.symm (hno b b1)
        · omega
    · rw [eB]
      exact t2.mv (Mk.rf.l (by omega)).tks Ck.rf
    · intro k hk
      refine ⟨?_, ?_, ?_, fun p hp => ?_⟩
      · rw [eM k hk, f2.2.1 15 k (by omega) (by omega), f1.2.1 15 k (by omega)]; exact (hH.1.2.2.1 k hk).1
      · rw [eB, f2.1 16 k (by omega), f1.1 16 k (by omega), show (wL (tkn m) 2 (nbN m) ((tkn m).2.1 0 9)).1 4 k = (tkn m).1 4 k from rfl, tk_same (by unfold rdK; omega)]; exact (hH.1.2.2.1 k hk).2.1
      · rw [eB, f2.1 17 k (by omega), f1.1 17 k (by omega), show (wL (tkn m) 2 (nbN m) ((tkn m).2.1 0 9)).1 6 k = (tkn m).1 6 k from rfl, tk_same (by unfold rdK; omega)]; exact (hH.1.2.2.1 k hk).2.2.1
      · rw [eB, f2.1 18 _ (by omega), f1.1 18 _ (by omega), f2.1 19 _ (by omega), f1.1 19 _ (by omega), show ∀ j, (wL (tkn m) 2 (nbN m) ((tkn m).2.1 0 9)).1 5 j = (tkn m).1 5 j from fun _ => rfl, show ∀ j, (wL (tkn m) 2 (nbN m) ((tkn m).2.1 0 9)).1 5 j = (tkn m).1 5 j from fun _ => rfl, tk_same (by unfold rdK; omega), tk_same (by unfold rdK; omega)]; exact (hH.1.2.2.1 k hk).2.2.2 p hp
    · rw [eN]; exact hn
  · have t2 := g2 hA
    have hB : 0 < (rbB m).1 0 2 := (t2.en hA).2
    exact L_X3_box_20f hB (t2.mv (Mk.rf.l (by omega)) Ck.rf) ((Fb.rf.f4 f1).fn f2)

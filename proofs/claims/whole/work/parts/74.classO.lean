/-! what stands as it stood -/
theorem RcT.mv {σ τ a c : Mem} (h : RcT σ a) (s : ∀ i j, (i = 0 ∧ 1 ≤ j ∧ j ≤ 3) ∨ i = 1 → τ.1 i j = σ.1 i j) (g : ∀ i j, (i = 0 ∧ 1 ≤ j ∧ j ≤ 3) ∨ i = 1 → c.1 i j = a.1 i j) : RcT τ c := by
  obtain ⟨h1, h2, h3, h4⟩ := h
  refine ⟨by rw [s 0 1 (by omega), g 0 1 (by omega)]; exact h1, by rw [s 0 2 (by omega), g 0 2 (by omega)]; exact h2, by rw [s 0 3 (by omega), g 0 3 (by omega)]; exact h3, fun j hj => ?_⟩
  rw [s 1 j (by omega), g 1 j (by omega)]
  exact h4 j hj
theorem RcF.mv {σ τ a c : Mem} (h : RcF σ a) (s : ∀ i j, (i = 0 ∧ (j = 42 ∨ j = 43)) ∨ (20 ≤ i ∧ i ≤ 28) → τ.1 i j = σ.1 i j) (g : ∀ i j, 36 ≤ i ∧ i ≤ 42 ∧ ¬ (i = 36 ∧ j = 2) → c.1 i j = a.1 i j) (gl : c.2.1 36 3 = a.2.1 36 3) : RcF τ c := by
  obtain ⟨h1, h2, h3, h4, h5⟩ := h
  have en : nfc τ = nfc σ := by unfold nfc; rw [s 0 42 (by omega)]
  refine ⟨by rw [s 0 42 (by omega), g 36 0 (by omega)]; exact h1, by rw [s 0 43 (by omega), g 36 1 (by omega)]; exact h2, ?_, ?_, fun f hf => ?_⟩
  · obtain ⟨N, n1, n2, n3⟩ := h3
    exact ⟨N, n1, gl.trans n2, fun d hd => (s 27 d (by omega)).trans (n3 d hd)⟩
  · obtain ⟨D, n1, n2, n3⟩ := h4
    exact ⟨D, n1, (g 36 4 (by omega)).trans n2, fun d hd => (s 28 d (by omega)).trans (n3 d hd)⟩
  · rw [g 37 f (by omega), g 38 f (by omega), g 39 f (by omega), g 40 f (by omega), g 41 f (by omega), g 42 f (by omega), s 20 f (by omega), s 21 f (by omega), s 22 f (by omega), s 23 f (by omega), s 24 f (by omega), s 25 f (by omega), s 26 f (by omega)]
    exact h5 f (by rw [← en]; exact hf)
theorem RcL.mv {σ τ a c : Mem} (h : RcL σ a) (s : ∀ i j, 15 ≤ i ∧ i ≤ 19 → τ.1 i j = σ.1 i j) (g : ∀ i j, (i = 4 ∧ j = 1) ∨ (10 ≤ i ∧ i ≤ 13) → c.1 i j = a.1 i j) : RcL τ c := by
  obtain ⟨h1, h2, h3, h4, h5, h6, h7⟩ := h
  have en : wthN c = wthN a := by unfold wthN; rw [g 4 1 (by omega)]
  have e10 : c.1 10 = a.1 10 := funext fun j => g 10 j (by omega)
  have e11 : c.1 11 = a.1 11 := funext fun j => g 11 j (by omega)
  have e12 : c.1 12 = a.1 12 := funext fun j => g 12 j (by omega)
  have e13 : c.1 13 = a.1 13 := funext fun j => g 13 j (by omega)
  have th : ∀ k w d, wth c k w d ↔ wth a k w d := by
    intro k w d
    unfold wth lnP
    rw [en]
    simp only [e10, e11, e12, e13]
  refine ⟨⟨by rw [en]; exact h1.1, by rw [en, g 4 1 (by omega)]; exact h1.2⟩, fun d hd => by rw [s 18 d (by omega), th]; exact h2 d hd, fun d hd => by rw [s 19 d (by omega), th]; exact h3 d hd, fun x d hx hd => by rw [s 17 _ (by omega), th]; exact h4 x d hx hd, fun x d hx hd => by rw [s 15 _ (by omega), en, e10, e11, e12]; exact h5 x d hx hd, fun x d hx hd => by rw [s 16 _ (by omega), en, e10, e11, e12]; exact h6 x d hx hd, fun i hi => by rw [e12, e13]; exact h7 i (by rw [← en]; exact hi)⟩
theorem RcH.mv {σ τ a c : Mem} (h : RcH σ a) (s : ∀ i j, (i = 0 ∧ (j = 31 ∨ j = 32)) ∨ (7 ≤ i ∧ i ≤ 9) ∨ (15 ≤ i ∧ i ≤ 19) → τ.1 i j = σ.1 i j) (sl : ∀ j, τ.2.1 3 j = σ.2.1 3 j) (g : ∀ i j, (i = 4 ∧ j ≤ 1) ∨ (6 ≤ i ∧ i ≤ 13) → c.1 i j = a.1 i j) (gl : ∀ j, c.2.1 5 j = a.2.1 5 j) : RcH τ c := by
  obtain ⟨h1, h2, h3, h4⟩ := h
  have en : nbx τ = nbx σ := by unfold nbx; rw [s 0 31 (by omega)]
  refine ⟨by rw [s 0 31 (by omega), g 4 0 (by omega)]; exact h1, by rw [s 0 32 (by omega), g 4 1 (by omega)]; exact h2, fun b hb => ?_, h4.mv (fun i j q => s i j (by omega)) (fun i j q => g i j (by omega))⟩
  rw [en] at hb
  obtain ⟨a1, a2, a3, a4⟩ := h3 b hb
  refine ⟨by rw [gl, sl]; exact a1, by rw [g 6 b (by omega), s 7 b (by omega)]; exact a2, by rw [g 7 b (by omega), s 9 b (by omega)]; exact a3, fun p hp => ?_⟩
  rw [g 8 _ (by omega), g 9 _ (by omega), s 8 _ (by omega), s 8 _ (by omega)]
  exact a4 p hp
theorem RcR.mv {σ τ a c : Mem} (h : RcR σ a) (s : ∀ i j, (i = 0 ∧ j = 72) ∨ (43 ≤ i ∧ i ≤ 45) ∨ i = 49 → τ.1 i j = σ.1 i j) (g : ∀ i j, (i = 25 ∧ j = 0) ∨ (26 ≤ i ∧ i ≤ 28) → c.1 i j = a.1 i j) : RcR τ c := by
  obtain ⟨h1, h0, h2, h3⟩ := h
  have en : rlN τ = rlN σ := by unfold rlN; rw [s 0 72 (by omega)]
  refine ⟨by rw [s 0 72 (by omega), g 25 0 (by omega)]; exact h1, by rw [en, s 45 0 (by omega)]; exact h0, fun r hr => ?_, fun r hr k hk => ?_⟩
  · rw [en] at hr
    rw [g 26 r (by omega), g 27 r (by omega), s 49 r (by omega), s 45 _ (by omega)]
    exact h2 r hr
  · rw [en] at hr
    have eb : bgN τ (r + 1) = bgN σ (r + 1) := by unfold bgN; rw [s 45 _ (by omega)]
    rw [eb] at hk
    rw [g 28 k (by omega), s 43 k (by omega), s 44 k (by omega)]
    exact h3 r hr k hk
theorem RcX.mv {a c : Mem} (h : RcX a) (g : ∀ b, b < 5 → c.1 (48 + 5 * b) 3 = a.1 (48 + 5 * b) 3) (gl : ∀ j, c.2.1 3 j = a.2.1 3 j) : RcX c := ⟨fun w hw => (gl w).trans (h.1 w hw), fun b hb => (g b hb).trans (h.2 b hb)⟩
theorem WFf.mv {σ τ : Mem} (h : WFf σ) (s : ∀ i j, (i = 0 ∧ (j = 31 ∨ j = 42)) ∨ (20 ≤ i ∧ i ≤ 26) → τ.1 i j = σ.1 i j) : WFf τ := by
  have en : nfc τ = nfc σ := by unfold nfc; rw [s 0 42 (by omega)]
  obtain ⟨⟨t, t1, t2⟩, h2⟩ := h
  refine ⟨⟨t, t1, (s 0 42 (by omega)).trans t2⟩, fun f hf => ?_⟩
  have := h2 f (by rw [← en]; exact hf)
  unfold okFt at this ⊢
  rw [s 20 f (by omega), s 21 f (by omega), s 22 f (by omega), s 23 f (by omega), s 25 f (by omega), s 26 f (by omega), s 0 31 (by omega)]
  exact this
theorem WFh.mv {σ τ : Mem} (h : WFh σ) (s : ∀ i j, (i = 0 ∧ j = 31) ∨ (7 ≤ i ∧ i ≤ 9) → τ.1 i j = σ.1 i j) : WFh τ := by
  have en : nbx τ = nbx σ := by unfold nbx; rw [s 0 31 (by omega)]
  obtain ⟨⟨t, t1, t2⟩, h2⟩ := h
  refine ⟨⟨t, t1, (s 0 31 (by omega)).trans t2⟩, fun b hb => ?_⟩
  have := h2 b (by rw [← en]; exact hb)
  have e8 : τ.1 8 = σ.1 8 := funext fun j => s 8 j (by omega)
  unfold okBx at this ⊢
  rw [s 7 b (by omega), s 9 b (by omega), e8]
  exact this
theorem WFr.mv {σ τ : Mem} (h : WFr σ) (s : ∀ i j, (i = 0 ∧ j = 72) ∨ (43 ≤ i ∧ i ≤ 45) ∨ i = 49 → τ.1 i j = σ.1 i j) : WFr τ := by
  have en : rlN τ = rlN σ := by unfold rlN; rw [s 0 72 (by omega)]
  have e3 : τ.1 43 = σ.1 43 := funext fun j => s 43 j (by omega)
  have e4 : τ.1 44 = σ.1 44 := funext fun j => s 44 j (by omega)
  have e5 : τ.1 45 = σ.1 45 := funext fun j => s 45 j (by omega)
  have e9 : τ.1 49 = σ.1 49 := funext fun j => s 49 j (by omega)
  have ed : ∀ b m, dpS τ b m = dpS σ b m := fun b m => by rw [dpS_F, dpS_F, e3]
  have eb : ∀ r, bgN τ r = bgN σ r := fun r => by unfold bgN; rw [e5]
  obtain ⟨h1, h2, h3⟩ := h
  refine ⟨by rw [en]; exact h1, by rw [en, s 0 72 (by omega)]; exact h2, fun r hr => ?_⟩
  have := h3 r (by rw [← en]; exact hr)
  unfold okRl okNt at this ⊢
  simp only [eb, ed, e3, e4, e5, e9]
  exact this
theorem WFt.mv {σ τ : Mem} (h : WFt σ) (s : τ.1 0 1 = σ.1 0 1) : WFt τ := by
  obtain ⟨t, t1, t2⟩ := h
  exact ⟨t, t1, s.trans t2⟩
theorem xorL {N d : Nat} (hN : N < 2 ^ 60) (hd : d < 60) : lN N ^^^ (1 <<< ((nI d).toInt64 &&& 63)) = lN (N ^^^ 2 ^ d) := by
  rw [show (1 : Int64) = lN 1 from rfl, wb_shl 1 (by omega), Nat.one_mul]
  apply wb_inj
  rw [Int64.toBitVec_xor, wb_tb, wb_tb, wb_tb]
  apply BitVec.eq_of_toNat_eq
  have h1 : 2 ^ d < 2 ^ 64 := Nat.pow_lt_pow_right (by decide) (by omega)
  have h2 : N < 2 ^ 64 := Nat.lt_trans hN (by decide)
  rw [BitVec.toNat_xor, BitVec.toNat_ofNat, BitVec.toNat_ofNat, BitVec.toNat_ofNat, Nat.mod_eq_of_lt h1, Nat.mod_eq_of_lt h2, Nat.mod_eq_of_lt (Nat.xor_lt_two_pow h2 h1)]
theorem xorI {D r : Nat} (hD : D < 1024) (hr : r < 10) : nI D ^^^ (1 <<< (nI r &&& 31)) = nI (D ^^^ 2 ^ r) := by
  have e : (1 : Int32) <<< (nI r &&& 31) = nI (2 ^ r) := by
    have : r = 0 ∨ r = 1 ∨ r = 2 ∨ r = 3 ∨ r = 4 ∨ r = 5 ∨ r = 6 ∨ r = 7 ∨ r = 8 ∨ r = 9 := by omega
    rcases this with rfl | rfl | rfl | rfl | rfl | rfl | rfl | rfl | rfl | rfl <;> decide
  rw [e, nx_xor]
theorem tb_x {N d j : Nat} : (N ^^^ 2 ^ d).testBit j = (N.testBit j ^^ decide (d = j)) := by rw [Nat.testBit_xor, Nat.testBit_two_pow]
/-- a change of the facts' bits alone -/
theorem fl_bit {x z : Int32} (hx : x = 0 ∨ x = 1) (hz : z = 0 ∨ z = 1) (h : ¬ x = z) : z = if x = 1 then 0 else 1 := by
  rcases hx with rfl | rfl <;> rcases hz with rfl | rfl
  · exact absurd rfl h
  · rfl
  · rfl
  · exact absurd rfl h
set_option maxHeartbeats 100000 in
set_option maxRecDepth 100000 in
theorem C_fault {l : Launch} {G : Wd} {w : Int32} {n : Nat} {σ μ : Mem} (hR : Rc σ n μ) (hn : n + 1 ≤ 600) : Mt l G KC yX11_fault cX11_fault 2 (some .int) 9 [.ref (gA G 0), .int w] μ (Qi (fun v μ' => v = sp_fault σ w ∧ Rc σ (n + 1) μ')) := by
  refine Mt.of (own := RX11) (n := 0) (by decide) rfl [some (.ref (gA G 0)), some (.int w)] rfl (Nat.le_of_ble_eq_true rfl) ?_
  refine A_iload1 dX11_fault_0 ?_
  refine A_if_ne (tgt := 9) dX11_fault_1 (by decide) (fun c_1 => ?_) (fun c_1 => ?_)
  · refine A_iload1 dX11_fault_9 ?_
    refine A_iconst (v := 1) dX11_fault_10 (by decide) ?_
    refine A_icmp_ne (tgt := 21) dX11_fault_11 (by decide) (fun c_11 => ?_) (fun c_11 => ?_)
    · refine A_iconst (v := -1) dX11_fault_21 (by decide) ?_
      refine A_iret dX11_fault_22 ?_
      exact ⟨_, rfl, by unfold sp_fault; rw [if_neg c_1, if_neg c_11], hR.up hn⟩
    · refine A_aload0 dX11_fault_14 ?_
      refine A_getI gf_X11_13 rfl dX11_fault_15 ?_
      refine A_goto (tgt := 22) dX11_fault_18 (by decide) ?_
      refine A_iret dX11_fault_22 ?_
      exact ⟨_, rfl, by unfold sp_fault; rw [if_neg c_1, if_pos c_11]; exact hR.1.1.2.2.1, hR.up hn⟩
  · refine A_aload0 dX11_fault_4 ?_
    refine A_getI gf_X11_133 rfl dX11_fault_5 ?_
    refine A_iret dX11_fault_8 ?_
    exact ⟨_, rfl, by unfold sp_fault; rw [if_pos c_1]; exact hR.1.1.2.1, hR.up hn⟩
theorem Rc.share {σ μ : Mem} {n d : Nat} {z : Int32} (h : Rc σ n μ) (hn : n + 1 ≤ 600) (hd : d < 60) (hz : z = 0 ∨ z = 1) (hq : ¬ bz (fsh μ d) = z) : ¬ σ.1 27 d = z ∧ Rc (wI σ 27 d z) (n + 1) (ssM μ d) := by
  have hF := h.1.2.1
  have h0 := h
  have hsh := hF.sh hd
  obtain ⟨f1, f2, ⟨N, n1, n2, n3⟩, f4, f5⟩ := hF
  have e27 : σ.1 27 d = bz (fsh μ d) := by
    rw [n3 d hd]
    by_cases q : N.testBit d = true
    · rw [if_pos q, bz_t (hsh.mpr (by rw [n3 d hd, if_pos q]; decide))]
    · rw [if_neg q, bz_f (fun y => hsh.mp y (by rw [n3 d hd, if_neg q]))]
  refine ⟨by rw [e27]; exact hq, ?_⟩
  have c0 : ∀ i j, ¬ (i = 36 ∧ j = 2) → (ssM μ d).1 i j = μ.1 i j := fun i j q => by unfold ssM; rw [wI_ne (by omega)]; rfl
  have l0 : ∀ i j, ¬ (i = 36 ∧ j = 3) → (ssM μ d).2.1 i j = μ.2.1 i j := fun i j q => w2_ne (by omega)
  have s0 : ∀ i j, i ≠ 27 → (wI σ 27 d z).1 i j = σ.1 i j := fun i j q => wI_ne (by omega)
  obtain ⟨⟨r1, r2, r3, r4, r5⟩, w1, -⟩ := h
  refine Rc.step h0 hn (fun i j q1 q2 => c0 i j (by omega)) ⟨r1.mv (fun i j q => s0 i j (by omega)) (fun i j q => c0 i j (by omega)), ?_, r3.mv (fun i j q => s0 i j (by omega)) (fun _ => rfl) (fun i j q => c0 i j (by omega)) (fun j => l0 5 j (by omega)), r4.mv (fun i j q => s0 i j (by omega)) (fun i j q => c0 i j (by omega)), r5.mv (fun b hb => c0 _ _ (by omega)) (fun j => l0 3 j (by omega))⟩ ⟨⟨w1.1.1.mv (s0 0 1 (by omega)), w1.1.2.1.mv (fun i j q => s0 i j (by omega)), w1.1.2.2.mv (fun i j q => s0 i j (by omega))⟩, w1.2.mv (fun i j q => s0 i j (by omega))⟩ (by unfold ssM; rw [wI_same])
  have en : nfc (wI σ 27 d z) = nfc σ := by unfold nfc; rw [s0 0 42 (by omega)]
  refine ⟨(c0 36 0 (by omega)).trans (f1.trans (s0 0 42 (by omega)).symm), (c0 36 1 (by omega)).trans (f2.trans (s0 0 43 (by omega)).symm), ⟨N ^^^ 2 ^ d, Nat.xor_lt_two_pow n1 (Nat.pow_lt_pow_right (by decide) hd), ?_, fun j hj => ?_⟩, ?_, fun f hf => ?_⟩
  · show (wL μ 36 3 (μ.2.1 36 3 ^^^ (1 <<< ((nI d).toInt64 &&& 63)))).2.1 36 3 = _
    rw [wL_at, if_pos ⟨rfl, rfl⟩, n2, xorL n1 hd]
  · rw [tb_x]
    by_cases e : d = j
    · subst e
      rw [wI_same]
      have hx : bz (fsh μ d) = 0 ∨ bz (fsh μ d) = 1 := bz_01 _
      rw [fl_bit hx hz hq, ← e27, n3 d hd]
      cases N.testBit d <;> simp
    · rw [wI_ne (by omega), n3 j hj]
      have : decide (d = j) = false := decide_eq_false e
      rw [this, Bool.xor_false]
  · obtain ⟨D, d1, d2, d3⟩ := f4
    exact ⟨D, d1, (c0 36 4 (by omega)).trans d2, fun r hr => (s0 28 r (by omega)).trans (d3 r hr)⟩
  · rw [en] at hf
    rw [c0 37 f (by omega), c0 38 f (by omega), c0 39 f (by omega), c0 40 f (by omega), c0 41 f (by omega), c0 42 f (by omega), s0 20 f (by omega), s0 21 f (by omega), s0 22 f (by omega), s0 23 f (by omega), s0 24 f (by omega), s0 25 f (by omega), s0 26 f (by omega)]
    exact f5 f hf
theorem RcF.e27 {σ μ : Mem} (h : RcF σ μ) {d : Nat} (hd : d < 60) : σ.1 27 d = bz (fsh μ d) := by
  have hsh := h.sh hd
  obtain ⟨f1, f2, ⟨N, n1, n2, n3⟩, f4, f5⟩ := h
  rw [n3 d hd]
  by_cases q : N.testBit d = true
  · rw [if_pos q, bz_t (hsh.mpr (by rw [n3 d hd, if_pos q]; decide))]
  · rw [if_neg q, bz_f (fun y => hsh.mp y (by rw [n3 d hd, if_neg q]))]
theorem RcF.e28 {σ μ : Mem} (h : RcF σ μ) {r : Nat} (hr : r < 10) : σ.1 28 r = bz (fdb μ r) := by
  have hdb := h.db hr
  obtain ⟨f1, f2, f3, ⟨D, n1, n2, n3⟩, f5⟩ := h
  rw [n3 r hr]
  by_cases q : D.testBit r = true
  · rw [if_pos q, bz_t (hdb.mpr (by rw [n3 r hr, if_pos q]; decide))]
  · rw [if_neg q, bz_f (fun y => hdb.mp y (by rw [n3 r hr, if_neg q]))]
theorem Rc.doubt {σ μ : Mem} {n r : Nat} {z : Int32} (h : Rc σ n μ) (hn : n + 1 ≤ 600) (hr : r < 10) (hz : z = 0 ∨ z = 1) (hq : ¬ bz (fdb μ r) = z) : Rc (wI σ 28 r z) (n + 1) (sdM μ r) := by
  have hF := h.1.2.1
  have h0 := h
  have e28 := hF.e28 hr
  obtain ⟨f1, f2, f3, ⟨D, n1, n2, n3⟩, f5⟩ := hF
  have c0 : ∀ i j, ¬ (i = 36 ∧ (j = 2 ∨ j = 4)) → (sdM μ r).1 i j = μ.1 i j := fun i j q => by unfold sdM; rw [wI_ne (by omega), wI_ne (by omega)]
  have s0 : ∀ i j, i ≠ 28 → (wI σ 28 r z).1 i j = σ.1 i j := fun i j q => wI_ne (by omega)
  obtain ⟨⟨r1, r2, r3, r4, r5⟩, w1, -⟩ := h
  refine Rc.step h0 hn (fun i j q1 q2 => c0 i j (by omega)) ⟨r1.mv (fun i j q => s0 i j (by omega)) (fun i j q => c0 i j (by omega)), ?_, r3.mv (fun i j q => s0 i j (by omega)) (fun _ => rfl) (fun i j q => c0 i j (by omega)) (fun _ => rfl), r4.mv (fun i j q => s0 i j (by omega)) (fun i j q => c0 i j (by omega)), r5.mv (fun b hb => c0 _ _ (by omega)) (fun _ => rfl)⟩ ⟨⟨w1.1.1.mv (s0 0 1 (by omega)), w1.1.2.1.mv (fun i j q => s0 i j (by omega)), w1.1.2.2.mv (fun i j q => s0 i j (by omega))⟩, w1.2.mv (fun i j q => s0 i j (by omega))⟩ (by unfold sdM; rw [wI_same])
  have en : nfc (wI σ 28 r z) = nfc σ := by unfold nfc; rw [s0 0 42 (by omega)]
  refine ⟨(c0 36 0 (by omega)).trans (f1.trans (s0 0 42 (by omega)).symm), (c0 36 1 (by omega)).trans (f2.trans (s0 0 43 (by omega)).symm), ?_, ⟨D ^^^ 2 ^ r, Nat.xor_lt_two_pow (n := 10) n1 (Nat.pow_lt_pow_right (by decide) hr), ?_, fun j hj => ?_⟩, fun f hf => ?_⟩
  · obtain ⟨N, d1, d2, d3⟩ := f3
    exact ⟨N, d1, d2, fun d hd => (s0 27 d (by omega)).trans (d3 d hd)⟩
  · unfold sdM
    rw [wI_ne (by omega), wI_same, n2, xorI n1 hr]
  · rw [tb_x]
    by_cases e : r = j
    · subst e
      rw [wI_same]
      have hx : bz (fdb μ r) = 0 ∨ bz (fdb μ r) = 1 := bz_01 _
      rw [fl_bit hx hz hq, ← e28, n3 r hr]
      cases D.testBit r <;> simp
    · rw [wI_ne (by omega), n3 j hj]
      have : decide (r = j) = false := decide_eq_false e
      rw [this, Bool.xor_false]
  · rw [en] at hf
    rw [c0 37 f (by omega), c0 38 f (by omega), c0 39 f (by omega), c0 40 f (by omega), c0 41 f (by omega), c0 42 f (by omega), s0 20 f (by omega), s0 21 f (by omega), s0 22 f (by omega), s0 23 f (by omega), s0 24 f (by omega), s0 25 f (by omega), s0 26 f (by omega)]
    exact f5 f hf
set_option maxHeartbeats 100000 in
set_option maxRecDepth 100000 in
theorem C_share {l : Launch} {G : Wd} {d z : Int32} {n : Nat} {σ μ : Mem} (hR : Rc σ n μ) (hn : n + 1 ≤ 600) (hz : z = 0 ∨ z = 1) : Mt l G KC yX11_share cX11_share 3 (some .boolean) 9 [.ref (gA G 0), .int d, .int z] μ (Qi (fun v μ' => v = (sp_share σ d z).1 ∧ Rc (sp_share σ d z).2 (n + 1) μ')) := by
  refine Mt.of (own := RX11) (n := 0) (by decide) rfl [some (.ref (gA G 0)), some (.int d), some (.int z)] rfl (Nat.le_of_ble_eq_true rfl) ?_
  refine A_iload1 dX11_share_0 ?_
  refine A_si1 lk_X11_159 ys_X11_isDay dX11_share_1 (T_X11_isDay) (by decide) (Nat.le_of_ble_eq_true rfl) (fun r_1 μ_1 h_1 => ?_)
  obtain ⟨v_1, e_1⟩ := h_1
  replace v_1 := Eq.symm v_1
  subst v_1
  replace e_1 := e_1.symm
  subst e_1
  refine A_if_eq (tgt := 23) dX11_share_4 (by decide) (fun c_4 => ?_) (fun c_4 => ?_)
  · refine A_iconst (v := 0) dX11_share_23 (by decide) ?_
    refine A_zret dX11_share_24 (by decide) ?_
    have e : sp_share σ d z = (0, σ) := if_neg (fun q => bz_0.mp c_4 q.1)
    exact ⟨_, rfl, by rw [e], by rw [e]; exact hR.up hn⟩
  · obtain ⟨y, hy, rfl⟩ := nI_rng (n := 60) (bz_y c_4).1 (bz_y c_4).2 (by decide)
    have e2 := hR.1.2.1.e27 hy
    refine A_aload0 dX11_share_7 ?_
    refine A_getR gf_X11_67 rfl dX11_share_8 ?_
    refine A_iload1 dX11_share_11 ?_
    refine A_iload2 dX11_share_12 ?_
    refine A_vi2 lk_X11_163 yv_X1_setShared dX11_share_13 (rfl) (rfl) (T_X1_setShared) (by decide) (Nat.le_of_ble_eq_true rfl) (fun r_13 μ_13 h_13 => ?_)
    refine A_if_eq (tgt := 23) dX11_share_16 (by decide) (fun c_16 => ?_) (fun c_16 => ?_)
    · refine A_iconst (v := 0) dX11_share_23 (by decide) ?_
      refine A_zret dX11_share_24 (by decide) ?_
      rcases h_13 with ⟨a1, a2, a3⟩ | ⟨a1, -, -⟩
      · have e : sp_share σ (nI y) z = (0, σ) := if_neg (fun q => q.2 (by rw [nI_c (by omega), e2]; exact a2))
        exact ⟨_, rfl, by rw [e], by rw [e, a3]; exact hR.up hn⟩
      · exact absurd (a1.symm.trans c_16) (by decide)
    · refine A_iconst (v := 1) dX11_share_19 (by decide) ?_
      refine A_goto (tgt := 24) dX11_share_20 (by decide) ?_
      refine A_zret dX11_share_24 (by decide) ?_
      rcases h_13 with ⟨a1, -, -⟩ | ⟨a1, a2, a3⟩
      · exact absurd a1 c_16
      · have e : sp_share σ (nI y) z = (1, wI σ 27 (nI y).toNatClampNeg z) := if_pos ⟨bz_y c_4, by rw [nI_c (by omega), e2]; exact a2⟩
        rw [nI_c (by omega)] at e
        exact ⟨_, rfl, by rw [e], by rw [e, a3]; exact (hR.share hn hy hz a2).2⟩
set_option maxHeartbeats 100000 in
set_option maxRecDepth 100000 in
theorem C_doubt {l : Launch} {G : Wd} {d z : Int32} {n : Nat} {σ μ : Mem} (hR : Rc σ n μ) (hn : n + 1 ≤ 600) (hz : z = 0 ∨ z = 1) : Mt l G KC yX11_doubt cX11_doubt 3 (some .boolean) 9 [.ref (gA G 0), .int d, .int z] μ (Qi (fun v μ' => v = (sp_doubt σ d z).1 ∧ Rc (sp_doubt σ d z).2 (n + 1) μ')) := by
  refine Mt.of (own := RX11) (n := 0) (by decide) rfl [some (.ref (gA G 0)), some (.int d), some (.int z)] rfl (Nat.le_of_ble_eq_true rfl) ?_
  refine A_iload1 dX11_doubt_0 ?_
  refine A_si1 lk_X11_185 ys_X11_isReader dX11_doubt_1 (T_X11_isReader) (by decide) (Nat.le_of_ble_eq_true rfl) (fun r_1 μ_1 h_1 => ?_)
  obtain ⟨v_1, e_1⟩ := h_1
  replace v_1 := Eq.symm v_1
  subst v_1
  replace e_1 := e_1.symm
  subst e_1
  refine A_if_eq (tgt := 23) dX11_doubt_4 (by decide) (fun c_4 => ?_) (fun c_4 => ?_)
  · refine A_iconst (v := 0) dX11_doubt_23 (by decide) ?_
    refine A_zret dX11_doubt_24 (by decide) ?_
    have e : sp_doubt σ d z = (0, σ) := if_neg (fun q => bz_0.mp c_4 q.1)
    exact ⟨_, rfl, by rw [e], by rw [e]; exact hR.up hn⟩
  · obtain ⟨y, hy, rfl⟩ := nI_rng (n := 10) (bz_y c_4).1 (bz_y c_4).2 (by decide)
    have e2 := hR.1.2.1.e28 hy
    refine A_aload0 dX11_doubt_7 ?_
    refine A_getR gf_X11_67 rfl dX11_doubt_8 ?_
    refine A_iload1 dX11_doubt_11 ?_
    refine A_iload2 dX11_doubt_12 ?_
    refine A_vi2 lk_X11_191 yv_X1_setDoubted dX11_doubt_13 (rfl) (rfl) (T_X1_setDoubted) (by decide) (Nat.le_of_ble_eq_true rfl) (fun r_13 μ_13 h_13 => ?_)
    refine A_if_eq (tgt := 23) dX11_doubt_16 (by decide) (fun c_16 => ?_) (fun c_16 => ?_)
    · refine A_iconst (v := 0) dX11_doubt_23 (by decide) ?_
      refine A_zret dX11_doubt_24 (by decide) ?_
      rcases h_13 with ⟨a1, a2, a3⟩ | ⟨a1, -, -⟩
      · have e : sp_doubt σ (nI y) z = (0, σ) := if_neg (fun q => q.2 (by rw [nI_c (by omega), e2]; exact a2))
        exact ⟨_, rfl, by rw [e], by rw [e, a3]; exact hR.up hn⟩
      · exact absurd (a1.symm.trans c_16) (by decide)
    · refine A_iconst (v := 1) dX11_doubt_19 (by decide) ?_
      refine A_goto (tgt := 24) dX11_doubt_20 (by decide) ?_
      refine A_zret dX11_doubt_24 (by decide) ?_
      rcases h_13 with ⟨a1, -, -⟩ | ⟨a1, a2, a3⟩
      · exact absurd a1 c_16
      · have e : sp_doubt σ (nI y) z = (1, wI σ 28 (nI y).toNatClampNeg z) := if_pos ⟨bz_y c_4, by rw [nI_c (by omega), e2]; exact a2⟩
        rw [nI_c (by omega)] at e
        exact ⟨_, rfl, by rw [e], by rw [e, a3]; exact hR.doubt hn hy hz a2⟩
/-- a fact is told -/
theorem add1_o {σ : Mem} {a b c d e : Int32} {i j : Nat} (h : (i < 20 ∨ 26 < i) ∧ ¬ (i = 0 ∧ j = 42) ∨ ((20 ≤ i ∧ i ≤ 26) ∧ j ≠ nfc σ)) : (add1 σ a b c d e).1 i j = σ.1 i j := by
  unfold add1
  rw [wI_ne (by omega), wI_ne (by omega), wI_ne (by omega), wI_ne (by omega), wI_ne (by omega), wI_ne (by omega), wI_ne (by omega), wI_ne (by omega)]
theorem add1_n {σ : Mem} {a b c d e : Int32} : (add1 σ a b c d e).1 26 (nfc σ) = a ∧ (add1 σ a b c d e).1 20 (nfc σ) = b ∧ (add1 σ a b c d e).1 21 (nfc σ) = c ∧ (add1 σ a b c d e).1 22 (nfc σ) = d ∧ (add1 σ a b c d e).1 23 (nfc σ) = e ∧ (add1 σ a b c d e).1 24 (nfc σ) = σ.1 0 43 ∧ (add1 σ a b c d e).1 25 (nfc σ) = -1 ∧ (add1 σ a b c d e).1 0 42 = nI (nfc σ + 1) := by
  unfold add1
  refine ⟨?_, ?_, ?_, ?_, ?_, ?_, ?_, wI_same⟩
  · rw [wI_ne (by omega), wI_ne (by omega), wI_ne (by omega), wI_ne (by omega), wI_ne (by omega), wI_ne (by omega), wI_ne (by omega), wI_same]
  · rw [wI_ne (by omega), wI_ne (by omega), wI_ne (by omega), wI_ne (by omega), wI_ne (by omega), wI_ne (by omega), wI_same]
  · rw [wI_ne (by omega), wI_ne (by omega), wI_ne (by omega), wI_ne (by omega), wI_ne (by omega), wI_same]
  · rw [wI_ne (by omega), wI_ne (by omega), wI_ne (by omega), wI_ne (by omega), wI_same]
  · rw [wI_ne (by omega), wI_ne (by omega), wI_ne (by omega), wI_same]
  · rw [wI_ne (by omega), wI_ne (by omega), wI_same]
  · rw [wI_ne (by omega), wI_same]
theorem tlM_o {μ : Mem} {n : Nat} {s d r x : Int32} {i j : Nat} (h : (i < 36 ∨ 42 < i) ∨ (i = 36 ∧ j ≠ 0 ∧ j ≠ 2) ∨ ((37 ≤ i ∧ i ≤ 42) ∧ j ≠ n)) : (tlM μ n s d r x).1 i j = μ.1 i j := by
  unfold tlM
  rw [wI_ne (by omega), wI_ne (by omega), wI_ne (by omega), wI_ne (by omega), wI_ne (by omega), wI_ne (by omega), wI_ne (by omega), wI_ne (by omega)]
theorem tlM_n {μ : Mem} {n : Nat} {s d r x : Int32} : (tlM μ n s d r x).1 37 n = s ∧ (tlM μ n s d r x).1 38 n = d ∧ (tlM μ n s d r x).1 39 n = r ∧ (tlM μ n s d r x).1 40 n = x ∧ (tlM μ n s d r x).1 41 n = μ.1 36 1 ∧ (tlM μ n s d r x).1 42 n = -1 ∧ (tlM μ n s d r x).1 36 0 = nI (n + 1) ∧ (tlM μ n s d r x).1 36 2 = μ.1 36 2 + 1 := by
  unfold tlM
  refine ⟨?_, ?_, ?_, ?_, ?_, ?_, ?_, wI_same⟩
  · rw [wI_ne (by omega), wI_ne (by omega), wI_ne (by omega), wI_ne (by omega), wI_ne (by omega), wI_ne (by omega), wI_ne (by omega), wI_same]
  · rw [wI_ne (by omega), wI_ne (by omega), wI_ne (by omega), wI_ne (by omega), wI_ne (by omega), wI_ne (by omega), wI_same]
  · rw [wI_ne (by omega), wI_ne (by omega), wI_ne (by omega), wI_ne (by omega), wI_ne (by omega), wI_same]
  · rw [wI_ne (by omega), wI_ne (by omega), wI_ne (by omega), wI_ne (by omega), wI_same]
  · rw [wI_ne (by omega), wI_ne (by omega), wI_ne (by omega), wI_same]
  · rw [wI_ne (by omega), wI_ne (by omega), wI_same]
  · rw [wI_ne (by omega), wI_same]
theorem Rc.tell {σ μ : Mem} {n : Nat} {a b c d e r : Int32} (h : Rc σ n μ) (hn : n + 1 ≤ 600) (h3 : nfc σ < 300) (hr : r = if a = 0 then d else -1) (hok : (a = 0 ∨ a = 1) ∧ (∃ q y w : Nat, b = nI q ∧ c = nI y ∧ d = nI w ∧ q < 5 ∧ (a = 1 → q < 4) ∧ (a = 0 → nI q < σ.1 0 31) ∧ y < 60 ∧ w < 10) ∧ (-999 ≤ e ∧ e ≤ 999)) : Rc (add1 σ a b c d e) (n + 1) (tlM μ (nfc σ) b c r e) := by
  have h0 := h
  obtain ⟨⟨r1, ⟨f1, f2, f3, f4, f5⟩, r3, r4, r5⟩, w1, -⟩ := h
  obtain ⟨n26, n20, n21, n22, n23, n24, n25, n42⟩ := add1_n (σ := σ) (a := a) (b := b) (c := c) (d := d) (e := e)
  obtain ⟨m37, m38, m39, m40, m41, m42, m0, m2⟩ := tlM_n (μ := μ) (n := nfc σ) (s := b) (d := c) (r := r) (x := e)
  have en : nfc (add1 σ a b c d e) = nfc σ + 1 := by show (_ : Int32).toNatClampNeg = _; rw [n42]; exact nI_c (by omega)
  have s0 : ∀ i j, (i < 20 ∨ 26 < i) ∧ ¬ (i = 0 ∧ j = 42) → (add1 σ a b c d e).1 i j = σ.1 i j := fun i j q => add1_o (Or.inl q)
  have s1 : ∀ i j, 20 ≤ i → i ≤ 26 → j ≠ nfc σ → (add1 σ a b c d e).1 i j = σ.1 i j := fun i j q1 q2 q3 => add1_o (Or.inr ⟨⟨q1, q2⟩, q3⟩)
  have c0 : ∀ i j, (i < 36 ∨ 42 < i) ∨ (i = 36 ∧ j ≠ 0 ∧ j ≠ 2) → (tlM μ (nfc σ) b c r e).1 i j = μ.1 i j := fun i j q => tlM_o (by omega)
  have c1 : ∀ i j, 37 ≤ i → i ≤ 42 → j ≠ nfc σ → (tlM μ (nfc σ) b c r e).1 i j = μ.1 i j := fun i j q1 q2 q3 => tlM_o (Or.inr (Or.inr ⟨⟨q1, q2⟩, q3⟩))
  refine Rc.step h0 hn (fun i j q1 q2 => c0 i j (by omega)) ⟨r1.mv (fun i j q => s0 i j (by omega)) (fun i j q => c0 i j (by omega)), ⟨m0.trans n42.symm, (c0 36 1 (by omega)).trans (f2.trans (s0 0 43 (by omega)).symm), ?_, ?_, fun f hf => ?_⟩, r3.mv (fun i j q => s0 i j (by omega)) (fun _ => rfl) (fun i j q => c0 i j (by omega)) (fun _ => rfl), r4.mv (fun i j q => s0 i j (by omega)) (fun i j q => c0 i j (by omega)), r5.mv (fun b hb => c0 _ _ (by omega)) (fun _ => rfl)⟩ ⟨⟨w1.1.1.mv (s0 0 1 (by omega)), ⟨⟨nfc σ + 1, by omega, n42⟩, fun f hf => ?_⟩, w1.1.2.2.mv (fun i j q => s0 i j (by omega))⟩, w1.2.mv (fun i j q => s0 i j (by omega))⟩ m2
  · obtain ⟨N, d1, d2, d3⟩ := f3
    exact ⟨N, d1, d2, fun x hx => (s0 27 x (by omega)).trans (d3 x hx)⟩
  · obtain ⟨D, d1, d2, d3⟩ := f4
    exact ⟨D, d1, (c0 36 4 (by omega)).trans d2, fun x hx => (s0 28 x (by omega)).trans (d3 x hx)⟩
  · rw [en] at hf
    by_cases q : f = nfc σ
    · subst q
      rw [m37, m38, m39, m40, m41, m42, n20, n21, n22, n23, n24, n25, n26]
      exact ⟨rfl, rfl, hr, rfl, f2, rfl⟩
    · rw [c1 37 f (by omega) (by omega) q, c1 38 f (by omega) (by omega) q, c1 39 f (by omega) (by omega) q, c1 40 f (by omega) (by omega) q, c1 41 f (by omega) (by omega) q, c1 42 f (by omega) (by omega) q, s1 20 f (by omega) (by omega) q, s1 21 f (by omega) (by omega) q, s1 22 f (by omega) (by omega) q, s1 23 f (by omega) (by omega) q, s1 24 f (by omega) (by omega) q, s1 25 f (by omega) (by omega) q, s1 26 f (by omega) (by omega) q]
      exact f5 f (by omega)
  · rw [en] at hf
    by_cases q : f = nfc σ
    · subst q
      unfold okFt
      rw [n20, n21, n22, n23, n25, n26, s0 0 31 (by omega)]
      exact ⟨hok.1, hok.2.1, hok.2.2, Or.inl rfl⟩
    · have := w1.1.2.1.2 f (by omega)
      unfold okFt at this ⊢
      rw [s1 20 f (by omega) (by omega) q, s1 21 f (by omega) (by omega) q, s1 22 f (by omega) (by omega) q, s1 23 f (by omega) (by omega) q, s1 25 f (by omega) (by omega) q, s1 26 f (by omega) (by omega) q, s0 0 31 (by omega)]
      exact this
theorem Rc.nf {σ μ : Mem} {n : Nat} (h : Rc σ n μ) : nfc σ ≤ 300 ∧ μ.1 36 0 = nI (nfc σ) ∧ σ.1 0 42 = nI (nfc σ) := by
  obtain ⟨t, t1, t2⟩ := h.2.1.1.2.1.1
  have e : nfc σ = t := by unfold nfc; rw [t2]; exact nI_c (by omega)
  rw [e]
  exact ⟨t1, h.1.2.1.1.trans t2, t2⟩
theorem lm_b {y : Nat} {x : Int32} (hy : y < 4) (h1 : lstOf (nI y) ≤ x) (h2 : x ≤ mstOf (nI y)) : -999 ≤ x ∧ x ≤ 999 := by
  have : y = 0 ∨ y = 1 ∨ y = 2 ∨ y = 3 := by omega
  have e1 : (-999 : Int32).toInt = -999 := rfl
  have e2 : (999 : Int32).toInt = 999 := rfl
  rw [i_le] at h1 h2
  rw [i_le, i_le, e1, e2]
  rcases this with rfl | rfl | rfl | rfl
  · have a : (lstOf (nI 0)).toInt = -20 := rfl
    have b : (mstOf (nI 0)).toInt = 40 := rfl
    omega
  · have a : (lstOf (nI 1)).toInt = 0 := rfl
    have b : (mstOf (nI 1)).toInt = 100 := rfl
    omega
  · have a : (lstOf (nI 2)).toInt = 0 := rfl
    have b : (mstOf (nI 2)).toInt = 99 := rfl
    omega
  · have a : (lstOf (nI 3)).toInt = 0 := rfl
    have b : (mstOf (nI 3)).toInt = 15 := rfl
    omega
set_option maxHeartbeats 400000 in
set_option maxRecDepth 100000 in
theorem C_far {l : Launch} {G : Wd} {q d x : Int32} {n : Nat} {σ μ : Mem} (hZ : okZ G) (hR : Rc σ n μ) (hn : n + 1 ≤ 600) : Mt l G KC yX11_far cX11_far 4 (some .int) 9 [.ref (gA G 0), .int q, .int d, .int x] μ (Qi (fun v μ' => v = (sp_far σ q d x).1 ∧ Rc (sp_far σ q d x).2 (n + 1) μ')) := by
  refine Mt.of (own := RX11) (n := 0) (by decide) rfl [some (.ref (gA G 0)), some (.int q), some (.int d), some (.int x)] rfl (Nat.le_of_ble_eq_true rfl) ?_
  have hnf := hR.nf
  refine A_iload1 dX11_far_0 ?_
  refine A_si1 lk_X11_167 ys_X11_isQuantity dX11_far_1 (T_X11_isQuantity) (by decide) (Nat.le_of_ble_eq_true rfl) (fun r_1 μ_1 h_1 => ?_)
  obtain ⟨v_1, e_1⟩ := h_1
  replace v_1 := Eq.symm v_1
  subst v_1
  replace e_1 := e_1.symm
  subst e_1
  refine A_if_eq (tgt := 14) dX11_far_4 (by decide) (fun c_4 => ?_) (fun c_4 => ?_)
  · refine A_iconst (v := -1) dX11_far_14 (by decide) ?_
    refine A_iret dX11_far_15 ?_
    have e : sp_far σ q d x = (-1, σ) := if_neg (fun z => bz_0.mp c_4 ⟨z.1.1, q_lt.mpr z.1.2⟩)
    exact ⟨_, rfl, by rw [e], by rw [e]; exact hR.up hn⟩
  · refine A_iload2 dX11_far_7 ?_
    refine A_si1 lk_X11_159 ys_X11_isDay dX11_far_8 (T_X11_isDay) (by decide) (Nat.le_of_ble_eq_true rfl) (fun r_8 μ_8 h_8 => ?_)
    obtain ⟨v_8, e_8⟩ := h_8
    replace v_8 := Eq.symm v_8
    subst v_8
    replace e_8 := e_8.symm
    subst e_8
    refine A_if_ne (tgt := 16) dX11_far_11 (by decide) (fun c_11 => ?_) (fun c_11 => ?_)
    · obtain ⟨y, hy, rfl⟩ := nI_rng (n := 4) (bz_y c_4).1 (bz_y c_4).2 (by decide)
      refine A_iload3 dX11_far_16 ?_
      refine A_gets (fun s H h => (hZ s H h).1.1) sl_X11_170 dX11_far_17 ?_
      refine A_iload1 dX11_far_20 ?_
      refine A_tld (fun s H h => (hZ s H h).1.2) (vp_in_nI (by omega) (by omega)) dX11_far_21 ?_
      rw [nI_c (by omega), lst_e hy]
      refine A_icmp_lt (tgt := 34) dX11_far_22 (by decide) (fun c_22 => ?_) (fun c_22 => ?_)
      · refine A_iconst (v := -1) dX11_far_34 (by decide) ?_
        refine A_iret dX11_far_35 ?_
        have e : sp_far σ (nI y) d x = (-1, σ) := if_neg (fun z => absurd z.2.2.1 (Int32.not_le.mpr c_22))
        exact ⟨_, rfl, by rw [e], by rw [e]; exact hR.up hn⟩
      · refine A_iload3 dX11_far_25 ?_
        refine A_gets (fun s H h => (hZ s H h).2.1.1) sl_X11_174 dX11_far_26 ?_
        refine A_iload1 dX11_far_29 ?_
        refine A_tld (fun s H h => (hZ s H h).2.1.2) (vp_in_nI (by omega) (by omega)) dX11_far_30 ?_
        rw [nI_c (by omega), mst_e hy]
        refine A_icmp_le (tgt := 36) dX11_far_31 (by decide) (fun c_31 => ?_) (fun c_31 => ?_)
        · refine A_aload0 dX11_far_36 ?_
          refine A_getR gf_X11_67 rfl dX11_far_37 ?_
          refine A_iload1 dX11_far_40 ?_
          refine A_iload2 dX11_far_41 ?_
          refine A_iconst (v := -1) dX11_far_42 (by decide) ?_
          refine A_iload3 dX11_far_43 ?_
          refine A_vi4 lk_X11_177 yv_X1_tell dX11_far_44 (rfl) (rfl) (T_X1_tell hnf.2.1 hnf.1) (by decide) (Nat.le_of_ble_eq_true rfl) (fun r_44 μ_44 h_44 => ?_)
          refine A_iret dX11_far_47 ?_
          rcases h_44 with ⟨a1, a2, a3⟩ | ⟨a1, a2, a3⟩
          · have e : sp_far σ (nI y) d x = (-1, σ) := if_neg (fun z => z.2.2.2.2 (by rw [hnf.2.2, a2]; rfl))
            exact ⟨_, rfl, by rw [e]; exact a1, by rw [e, a3]; exact hR.up hn⟩
          · have hx1 : lstOf (nI y) ≤ x := Int32.not_lt.mp c_22
            have hx2 : x ≤ mstOf (nI y) := c_31
            have e : sp_far σ (nI y) d x = (nI (nfc σ), add1 σ 1 (nI y) d 0 x) := if_pos ⟨⟨(bz_y c_4).1, q_lt.mp (bz_y c_4).2⟩, bz_y c_11, hx1, hx2, fun z => by rw [hnf.2.2] at z; have := (nI_eq (b := 300) (by omega) (by decide)).mp z; omega⟩
            obtain ⟨w, hw, ew⟩ := nI_rng (n := 60) (bz_y c_11).1 (bz_y c_11).2 (by decide)
            refine ⟨_, rfl, by rw [e]; exact a1, ?_⟩
            rw [e, a3]
            refine hR.tell hn a2 rfl ⟨Or.inr rfl, ⟨y, w, 0, rfl, ew, rfl, by omega, fun _ => hy, fun z => absurd z (by decide), hw, by omega⟩, lm_b hy hx1 hx2⟩
        · refine A_iconst (v := -1) dX11_far_34 (by decide) ?_
          refine A_iret dX11_far_35 ?_
          have e : sp_far σ (nI y) d x = (-1, σ) := if_neg (fun z => absurd z.2.2.2.1 c_31)
          exact ⟨_, rfl, by rw [e], by rw [e]; exact hR.up hn⟩
    · refine A_iconst (v := -1) dX11_far_14 (by decide) ?_
      refine A_iret dX11_far_15 ?_
      have e : sp_far σ q d x = (-1, σ) := if_neg (fun z => bz_0.mp c_11 z.2.1)
      exact ⟨_, rfl, by rw [e], by rw [e]; exact hR.up hn⟩

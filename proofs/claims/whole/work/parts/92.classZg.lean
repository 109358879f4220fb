/-! a box's line on both sides -/
def BxR (k : Nat) (m μ : Mem) : Prop := NmR (μ.2.1 15 k) (m.2.1 2 k) ∧ μ.1 16 k = m.1 4 k ∧ μ.1 17 k = m.1 6 k ∧ ∀ p, p < 4 → μ.1 18 (4 * k + p) = m.1 5 (8 * k + 2 * p) ∧ μ.1 19 (4 * k + p) = m.1 5 (8 * k + 2 * p + 1)
def BD (nb p : Nat) (N : Nat → Int64) (q : Int32) (m μ : Mem) : Prop := (∀ k, k < nb → BxR k m μ) ∧ NmR (μ.2.1 15 nb) (m.2.1 2 nb) ∧ μ.1 16 nb = m.1 4 nb ∧ (∀ j, m.2.1 2 j = N j) ∧ m.1 4 nb = q ∧ ∀ x, x < p → μ.1 18 (4 * nb + x) = m.1 5 (8 * nb + 2 * x) ∧ μ.1 19 (4 * nb + x) = m.1 5 (8 * nb + 2 * x + 1)
def Dm (m m' : Mem) : Prop := (∀ i j, 4 ≤ i ∧ i ≤ 6 → m'.1 i j = m.1 i j) ∧ ∀ j, m'.2.1 2 j = m.2.1 2 j
def Dc (μ μ' : Mem) : Prop := (∀ i j, 16 ≤ i ∧ i ≤ 19 → μ'.1 i j = μ.1 i j) ∧ ∀ j, μ'.2.1 15 j = μ.2.1 15 j
theorem Rd.dm {m m' : Mem} (h : Rd m m') : Dm m m' := ⟨fun i j q => h.1 i j (by unfold rdK; omega), fun j => h.2.1 2 j (by omega)⟩
theorem F4.dc {m m' : Mem} (h : F4 m m') : Dc m m' := ⟨fun i j q => h.1 i j (by omega), fun j => h.2.1 15 j (by omega)⟩
theorem BxR.mv {k : Nat} {m m' μ μ' : Mem} (h : BxR k m μ) (a : Dm m m') (c : Dc μ μ') : BxR k m' μ' := by
  obtain ⟨h1, h2, h3, h4⟩ := h
  refine ⟨by rw [c.2, a.2]; exact h1, by rw [c.1 16 k (by omega), a.1 4 k (by omega)]; exact h2, by rw [c.1 17 k (by omega), a.1 6 k (by omega)]; exact h3, fun p hp => ?_⟩
  rw [c.1 18 _ (by omega), c.1 19 _ (by omega), a.1 5 _ (by omega), a.1 5 _ (by omega)]
  exact h4 p hp
theorem BD.mv {nb p : Nat} {N : Nat → Int64} {q : Int32} {m m' μ μ' : Mem} (h : BD nb p N q m μ) (a : Dm m m') (c : Dc μ μ') : BD nb p N q m' μ' := by
  obtain ⟨h1, h2, h3, h4, h5, h6⟩ := h
  refine ⟨fun k hk => (h1 k hk).mv a c, by rw [c.2, a.2]; exact h2, by rw [c.1 16 nb (by omega), a.1 4 nb (by omega)]; exact h3, fun j => (a.2 j).trans (h4 j), (a.1 4 nb (by omega)).trans h5, fun x hx => ?_⟩
  rw [c.1 18 _ (by omega), c.1 19 _ (by omega), a.1 5 _ (by omega), a.1 5 _ (by omega)]
  exact h6 x hx
theorem BD.w18 {nb p : Nat} {N : Nat → Int64} {q v : Int32} {m μ : Mem} (h : BD nb p N q m μ) (hp : p < 4) : BD nb p N q m (wI μ 18 (4 * nb + p) v) := by
  obtain ⟨h1, h2, h3, h4, h5, h6⟩ := h
  refine ⟨fun k hk => ?_, h2, (wI_ne (by omega)).trans h3, h4, h5, fun x hx => ?_⟩
  · obtain ⟨a1, a2, a3, a4⟩ := h1 k hk
    refine ⟨a1, (wI_ne (by omega)).trans a2, (wI_ne (by omega)).trans a3, fun y hy => ?_⟩
    rw [wI_ne (by omega), wI_ne (by omega)]
    exact a4 y hy
  · rw [wI_ne (by omega), wI_ne (by omega)]
    exact h6 x hx
theorem BD.nx {nb p : Nat} {N : Nat → Int64} {q r1 r2 : Int32} {m μ : Mem} (hp : p < 4) (h : BD nb p N q m μ) (he : μ.1 18 (4 * nb + p) = r1) : BD nb (p + 1) N q (wI (wI m 5 (8 * nb + 2 * p) r1) 5 (8 * nb + 2 * p + 1) r2) (wI μ 19 (4 * nb + p) r2) := by
  obtain ⟨h1, h2, h3, h4, h5, h6⟩ := h
  refine ⟨fun k hk => ?_, h2, ?_, h4, ?_, fun x hx => ?_⟩
  · obtain ⟨a1, a2, a3, a4⟩ := h1 k hk
    refine ⟨a1, ?_, ?_, fun y hy => ?_⟩
    · rw [wI_ne (by omega), wI_ne (by omega), wI_ne (by omega)]; exact a2
    · rw [wI_ne (by omega), wI_ne (by omega), wI_ne (by omega)]; exact a3
    · rw [wI_ne (by omega), wI_ne (by omega), wI_ne (by omega), wI_ne (by omega), wI_ne (by omega), wI_ne (by omega)]; exact a4 y hy
  · rw [wI_ne (by omega), wI_ne (by omega), wI_ne (by omega)]; exact h3
  · rw [wI_ne (by omega), wI_ne (by omega)]; exact h5
  · rcases Nat.lt_or_ge x p with g | g
    · rw [wI_ne (by omega), wI_ne (by omega), wI_ne (by omega), wI_ne (by omega), wI_ne (by omega), wI_ne (by omega)]; exact h6 x g
    · have ex : x = p := by omega
      rw [ex]
      refine ⟨?_, ?_⟩
      · rw [wI_ne (by omega), wI_ne (by omega), wI_same]; exact he
      · rw [wI_same, wI_same]
def Fb (μ μ' : Mem) : Prop := (∀ i j, ¬ (i = 2 ∧ 4 ≤ j ∧ j ≤ 10) → ¬ (16 ≤ i ∧ i ≤ 19) → μ'.1 i j = μ.1 i j) ∧ (∀ i j, ¬ (i = 2 ∧ j = 8) → i ≠ 15 → μ'.2.1 i j = μ.2.1 i j) ∧ μ'.2.2 = μ.2.2
theorem Fb.rf {μ : Mem} : Fb μ μ := ⟨fun _ _ _ _ => rfl, fun _ _ _ _ => rfl, rfl⟩
theorem Fb.f4 {a b c : Mem} (h : Fb a b) (g : F4 b c) : Fb a c := ⟨fun i j q q1 => (g.1 i j q).trans (h.1 i j q q1), fun i j q q1 => (g.2.1 i j q).trans (h.2.1 i j q q1), g.2.2.trans h.2.2⟩
theorem Fb.fn {nb : Nat} {a b c : Mem} (h : Fb a b) (g : Fn nb b c) : Fb a c := ⟨fun i j q q1 => (g.1 i j q).trans (h.1 i j q q1), fun i j q q1 => (g.2.1 i j q (by omega)).trans (h.2.1 i j q q1), g.2.2.trans h.2.2⟩
theorem Fb.w {a b : Mem} {i k : Nat} {v : Int32} (h : Fb a b) (hi : 16 ≤ i ∧ i ≤ 19) : Fb a (wI b i k v) := ⟨fun x j q q1 => (wI_ne (by omega)).trans (h.1 x j q q1), h.2.1, h.2.2⟩
theorem rng_F0 {z a b : Int32} {m : Mem} (h : (rng z m a b).2.1 0 2 = 0) : m.1 0 2 = 0 := by
  by_cases hz : z = 0
  · rw [rng_0 hz] at h; exact (told_F0 h).1
  · rw [rng_1 hz] at h; exact (signed_F0 h).1
theorem rng_f {z a b : Int32} {m : Mem} (h : 0 < m.1 0 2) : rng z m a b = (0, m) := by
  by_cases hz : z = 0
  · rw [rng_0 hz]; exact if_pos h
  · rw [rng_1 hz]; exact if_pos h
theorem TS.mw {G : Wd} {m μ : Mem} {i k : Nat} {v : Int32} (h : TS G m μ) (hi : 2 ≤ i ∨ (i = 0 ∧ 10 < k)) : TS G (wI m i k v) μ := h.mv (Mk.rf.w hi) Ck.rf
theorem TS.cw {G : Wd} {m μ : Mem} {i k : Nat} {v : Int32} (h : TS G m μ) (hi : 3 ≤ i) : TS G m (wI μ i k v) := h.mv Mk.rf (Ck.rf.w hi)
set_option maxHeartbeats 400000 in
set_option maxRecDepth 100000 in
theorem L_X3_box_213 {m3 μ3 : Mem} {r1 v : Int32} {x4 x5 : Option Value} {l : Launch} {G : Wd} {PQ : Mem → Prop} {nb p : Nat} {N : Nat → Int64} {kd q hi z : Int32} {M m : Mem} (hS : okS G) (h5 : nb < 5) (hp : p < 4) (t3 : TS G m3 μ3) (f3 : Fb M μ3) (g0 : m3.1 0 2 = 0 → m.1 0 2 = 0) (d3 : m3.1 0 2 = 0 → BD nb p N q m3 μ3 ∧ μ3.1 18 (4 * nb + p) = r1 ∧ v = r1) (hk : ∀ (x4 x5 x6 x7 : Option Value) (μ' : Mem), TS G ((wI (wI (rng z m3 r1 hi).2 5 (8 * nb + 2 * p) r1) 5 (8 * nb + 2 * p + 1) (rng z m3 r1 hi).1)) μ' → Fb M μ' → (((wI (wI (rng z m3 r1 hi).2 5 (8 * nb + 2 * p) r1) 5 (8 * nb + 2 * p + 1) (rng z m3 r1 hi).1)).1 0 2 = 0 → m.1 0 2 = 0 ∧ BD nb (p + 1) N q ((wI (wI (rng z m3 r1 hi).2 5 (8 * nb + 2 * p) r1) 5 (8 * nb + 2 * p + 1) (rng z m3 r1 hi).1)) μ') → AW l G KC RX3 cX3_boxLine 8 8 none (Qv PQ) 73 [some (.ref (gA G 24)), some (.int (nI nb)), some (.int kd), some (.int (nI (p + 1))), x4, x5, x6, x7] [] μ') : AW l G KC RX3 cX3_boxLine 8 8 none (Qv PQ) 213 [some (.ref (gA G 24)), some (.int (nI nb)), some (.int kd), some (.int (nI p)), x4, x5, some (.int hi), some (.int v)] [.int z, .int hi, .int v, .ref (gA G 24), .int (nI (4 * nb + p)), .ref (gA G 19)] μ3 := by
  have er : (rng z m3 v hi).2 = (rng z m3 r1 hi).2 ∧ (m3.1 0 2 = 0 → (rng z m3 v hi).1 = (rng z m3 r1 hi).1) := by
    by_cases h0 : m3.1 0 2 = 0
    · rw [(d3 h0).2.2]; exact ⟨rfl, fun _ => rfl⟩
    · rw [rng_f (t3.en h0).2, rng_f (t3.en h0).2]; exact ⟨rfl, fun _ => rfl⟩
  refine A_vi3 lk_X3_69 yv_X3_takeNumber dX3_boxLine_213 (rfl) (rfl) (T_X3_takeNumber hS t3) (by decide) (Nat.le_of_ble_eq_true rfl) (fun r_213 μ_213 h_213 => ?_)
  obtain ⟨k1, k2, k3⟩ := h_213
  rw [er.1] at k2 k3
  refine A_iast (rfl) (vp_in_nI (by omega) (by omega)) dX3_boxLine_216 ?_
  rw [nI_c (by omega)]
  refine A_iinc3 dX3_boxLine_217 rfl rfl (by decide) ?_
  rw [show nI p + Int32.ofInt 1 = nI (p + 1) from nI_1 p]
  refine A_goto (tgt := 73) dX3_boxLine_220 (by decide) ?_
  refine hk _ _ _ _ _ (((k2.mw (by omega)).mw (by omega)).cw (by omega)) ((f3.f4 k1).w (by omega)) (fun y => ?_)
  have y2 : (rng z m3 r1 hi).2.1 0 2 = 0 := by
    rw [wI_ne (by omega), wI_ne (by omega)] at y
    exact y
  have y0 := rng_F0 y2
  have ev : r_213 = (rng z m3 r1 hi).1 := (k3 y2).trans (er.2 y0)
  rw [ev]
  exact ⟨g0 y0, ((d3 y0).1.mv Rd.rf.rg.dm k1.dc).nx hp ((k1.dc.1 18 _ (by omega)).trans (d3 y0).2.1)⟩
theorem wd_9 : e256 (wdK.getD 9 []) = 29807 := by decide +kernel
theorem ix_4 (b q : Nat) : nI b * 4 + nI q = nI (4 * b + q) := by
  rw [show (4 : Int32) = nI 4 from rfl, pk_mul, nI_add, Nat.mul_comm]
set_option maxHeartbeats 400000 in
set_option maxRecDepth 100000 in
theorem L_X3_box_157 {m1 μ1 : Mem} {x4 x5 x7 : Option Value} {l : Launch} {G : Wd} {PQ : Mem → Prop} {nb p : Nat} {N : Nat → Int64} {kd q lo hi z : Int32} {M m : Mem} (hS : okS G) (h5 : nb < 5) (hp : p < 4) (hz : (p = 0 ∧ z = 1) ∨ (¬ p = 0 ∧ z = 0)) (t1 : TS G m1 μ1) (f1 : Fb M μ1) (g0 : m1.1 0 2 = 0 → m.1 0 2 = 0) (d1 : m1.1 0 2 = 0 → BD nb p N q m1 μ1) (hk : ∀ (x4 x5 x6 x7 : Option Value) (μ' : Mem), TS G (wI (wI (rng z (sp_want (rng z m1 lo hi).2 29807) (rng z m1 lo hi).1 hi).2 5 (8 * nb + 2 * p) (rng z m1 lo hi).1) 5 (8 * nb + 2 * p + 1) (rng z (sp_want (rng z m1 lo hi).2 29807) (rng z m1 lo hi).1 hi).1) μ' → Fb M μ' → ((wI (wI (rng z (sp_want (rng z m1 lo hi).2 29807) (rng z m1 lo hi).1 hi).2 5 (8 * nb + 2 * p) (rng z m1 lo hi).1) 5 (8 * nb + 2 * p + 1) (rng z (sp_want (rng z m1 lo hi).2 29807) (rng z m1 lo hi).1 hi).1).1 0 2 = 0 → m.1 0 2 = 0 ∧ BD nb (p + 1) N q (wI (wI (rng z (sp_want (rng z m1 lo hi).2 29807) (rng z m1 lo hi).1 hi).2 5 (8 * nb + 2 * p) (rng z m1 lo hi).1) 5 (8 * nb + 2 * p + 1) (rng z (sp_want (rng z m1 lo hi).2 29807) (rng z m1 lo hi).1 hi).1) μ') → AW l G KC RX3 cX3_boxLine 8 8 none (Qv PQ) 73 [some (.ref (gA G 24)), some (.int (nI nb)), some (.int kd), some (.int (nI (p + 1))), x4, x5, x6, x7] [] μ') : AW l G KC RX3 cX3_boxLine 8 8 none (Qv PQ) 157 [some (.ref (gA G 24)), some (.int (nI nb)), some (.int kd), some (.int (nI p)), x4, x5, some (.int hi), x7] [.int z, .int hi, .int lo, .ref (gA G 24)] μ1 := by
  have hz0 : nI p = 0 ↔ p = 0 := by rw [show (0 : Int32) = nI 0 from rfl]; exact nI_eq (by omega) (by decide)
  refine A_vi3 lk_X3_69 yv_X3_takeNumber dX3_boxLine_157 (rfl) (rfl) (T_X3_takeNumber hS t1) (by decide) (Nat.le_of_ble_eq_true rfl) (fun r_157 μ_157 h_157 => ?_)
  obtain ⟨k1, k2, k3⟩ := h_157
  refine A_istore7 dX3_boxLine_160 rfl (by decide) ?_
  refine A_aload0 dX3_boxLine_162 ?_
  refine A_getR gf_X3_9 rfl dX3_boxLine_163 ?_
  refine A_sipush (v := 137) dX3_boxLine_166 (by decide) ?_
  refine A_val (y := nI (128 + 9)) (by decide) ?_
  refine A_vv1 lk_X3_66 yv_X9_take dX3_boxLine_169 (rfl) (rfl) (T_take_w (i := 9) hS k2 (by decide)) (by decide) (Nat.le_of_ble_eq_true rfl) (fun μ_169 h_169 => ?_)
  have k4 := h_169
  rw [wd_9] at k4
  refine A_aload0 dX3_boxLine_172 ?_
  refine A_getR gf_X3_15 rfl dX3_boxLine_173 ?_
  refine A_getR gf_X3_73 rfl dX3_boxLine_176 ?_
  refine A_iload1 dX3_boxLine_179 ?_
  refine A_iconst (v := 4) dX3_boxLine_180 (by decide) ?_
  refine A_imul dX3_boxLine_181 ?_
  refine A_iload3 dX3_boxLine_182 ?_
  refine A_iadd dX3_boxLine_183 ?_
  rw [ix_4]
  refine A_iload7 dX3_boxLine_184 ?_
  refine A_iast (rfl) (vp_in_nI (by omega) (by omega)) dX3_boxLine_186 ?_
  rw [nI_c (by omega)]
  refine A_aload0 dX3_boxLine_187 ?_
  refine A_getR gf_X3_15 rfl dX3_boxLine_188 ?_
  refine A_getR gf_X3_76 rfl dX3_boxLine_191 ?_
  refine A_iload1 dX3_boxLine_194 ?_
  refine A_iconst (v := 4) dX3_boxLine_195 (by decide) ?_
  refine A_imul dX3_boxLine_196 ?_
  refine A_iload3 dX3_boxLine_197 ?_
  refine A_iadd dX3_boxLine_198 ?_
  rw [ix_4]
  refine A_aload0 dX3_boxLine_199 ?_
  refine A_iload7 dX3_boxLine_200 ?_
  refine A_iload6 dX3_boxLine_202 ?_
  refine A_iload3 dX3_boxLine_204 ?_
  refine A_if_ne (tgt := 212) dX3_boxLine_205 (by decide) (fun c_205 => ?_) (fun c_205 => ?_)
  · refine A_iconst (v := 0) dX3_boxLine_212 (by decide) ?_
    have ez : z = 0 := hz.elim (fun y => absurd (hz0.mpr y.1) c_205) (fun y => y.2)
    refine A_sets (st' := [.int z, .int hi, .int r_157, .ref (gA G 24), .int (nI (4 * nb + p)), .ref (gA G 19)]) (by rw [ez]) ?_
    refine L_X3_box_213 hS h5 hp (k4.1.cw (by omega)) (((f1.f4 k1).f4 k4.2).w (by omega)) (fun y => g0 (rng_F0 (want_F0 y).1)) (fun y => ?_) hk
    obtain ⟨y2, -⟩ := want_F0 y
    have y1 := rng_F0 y2
    exact ⟨(((d1 y1).mv Rd.rf.rg.dm k1.dc).mv Rd.rf.wa.dm k4.2.dc).w18 hp, wI_same.trans (k3 y2), k3 y2⟩
  · refine A_iconst (v := 1) dX3_boxLine_208 (by decide) ?_
    refine A_goto (tgt := 213) dX3_boxLine_209 (by decide) ?_
    have ez : z = 1 := hz.elim (fun y => y.2) (fun y => absurd (hz0.mp c_205) y.1)
    refine A_sets (st' := [.int z, .int hi, .int r_157, .ref (gA G 24), .int (nI (4 * nb + p)), .ref (gA G 19)]) (by rw [ez]) ?_
    refine L_X3_box_213 hS h5 hp (k4.1.cw (by omega)) (((f1.f4 k1).f4 k4.2).w (by omega)) (fun y => g0 (rng_F0 (want_F0 y).1)) (fun y => ?_) hk
    obtain ⟨y2, -⟩ := want_F0 y
    have y1 := rng_F0 y2
    exact ⟨(((d1 y1).mv Rd.rf.rg.dm k1.dc).mv Rd.rf.wa.dm k4.2.dc).w18 hp, wI_same.trans (k3 y2), k3 y2⟩
set_option maxHeartbeats 400000 in
set_option maxRecDepth 100000 in
theorem L_X3_box_131 {x4 x7 : Option Value} {l : Launch} {G : Wd} {PQ : Mem → Prop} {nb p : Nat} {N : Nat → Int64} {kd q lo hi z : Int32} {M m μ : Mem} {w : Int64} (hS : okS G) (h5 : nb < 5) (hp : p < 4) (hw : e256 (wdK.getD (5 + p) []) = w) (hz : (p = 0 ∧ z = 1) ∨ (¬ p = 0 ∧ z = 0)) (t : TS G m μ) (f : Fb M μ) (d : m.1 0 2 = 0 → BD nb p N q m μ) (hk : ∀ (x4 x5 x6 x7 : Option Value) (μ' : Mem), TS G (sp_readRange m nb p w lo hi z) μ' → Fb M μ' → ((sp_readRange m nb p w lo hi z).1 0 2 = 0 → m.1 0 2 = 0 ∧ BD nb (p + 1) N q (sp_readRange m nb p w lo hi z) μ') → AW l G KC RX3 cX3_boxLine 8 8 none (Qv PQ) 73 [some (.ref (gA G 24)), some (.int (nI nb)), some (.int kd), some (.int (nI (p + 1))), x4, x5, x6, x7] [] μ') : AW l G KC RX3 cX3_boxLine 8 8 none (Qv PQ) 131 [some (.ref (gA G 24)), some (.int (nI nb)), some (.int kd), some (.int (nI p)), x4, some (.int lo), some (.int hi), x7] [] μ := by
  have hz0 : nI p = 0 ↔ p = 0 := by rw [show (0 : Int32) = nI 0 from rfl]; exact nI_eq (by omega) (by decide)
  refine A_aload0 dX3_boxLine_131 ?_
  refine A_getR gf_X3_9 rfl dX3_boxLine_132 ?_
  refine A_sipush (v := 133) dX3_boxLine_135 (by decide) ?_
  refine A_iload3 dX3_boxLine_138 ?_
  refine A_iadd dX3_boxLine_139 ?_
  refine A_val (y := nI (128 + (5 + p))) (by rw [show (133 : Int32) = nI 133 from rfl, nI_add]; exact congrArg nI (by omega)) ?_
  refine A_vv1 lk_X3_66 yv_X9_take dX3_boxLine_140 (rfl) (rfl) (T_take_w (i := 5 + p) hS t (by omega)) (by decide) (Nat.le_of_ble_eq_true rfl) (fun μ_140 h_140 => ?_)
  have k4 := h_140
  rw [hw] at k4
  refine A_aload0 dX3_boxLine_143 ?_
  refine A_iload5 dX3_boxLine_144 ?_
  refine A_iload6 dX3_boxLine_146 ?_
  refine A_iload3 dX3_boxLine_148 ?_
  refine A_if_ne (tgt := 156) dX3_boxLine_149 (by decide) (fun c_149 => ?_) (fun c_149 => ?_)
  · refine A_iconst (v := 0) dX3_boxLine_156 (by decide) ?_
    have ez : z = 0 := hz.elim (fun y => absurd (hz0.mpr y.1) c_149) (fun y => y.2)
    refine A_sets (st' := [.int z, .int hi, .int lo, .ref (gA G 24)]) (by rw [ez]) ?_
    exact L_X3_box_157 hS h5 hp hz k4.1 (f.f4 k4.2) (fun y => (want_F0 y).1) (fun y => (d (want_F0 y).1).mv Rd.rf.wa.dm k4.2.dc) hk
  · refine A_iconst (v := 1) dX3_boxLine_152 (by decide) ?_
    refine A_goto (tgt := 157) dX3_boxLine_153 (by decide) ?_
    have ez : z = 1 := hz.elim (fun y => y.2) (fun y => absurd (hz0.mp c_149) y.1)
    refine A_sets (st' := [.int z, .int hi, .int lo, .ref (gA G 24)]) (by rw [ez]) ?_
    exact L_X3_box_157 hS h5 hp hz k4.1 (f.f4 k4.2) (fun y => (want_F0 y).1) (fun y => (d (want_F0 y).1).mv Rd.rf.wa.dm k4.2.dc) hk
set_option maxHeartbeats 400000 in
set_option maxRecDepth 100000 in
theorem L_X3_box_95 {x4 x5 x6 x7 : Option Value} {g : Int32} {l : Launch} {G : Wd} {PQ : Mem → Prop} {nb p : Nat} {N : Nat → Int64} {kd q lo hi z : Int32} {M m μ : Mem} {w : Int64} (hS : okS G) (hZ : okZ G) (h5 : nb < 5) (hp : p < 4) (hw : e256 (wdK.getD (5 + p) []) = w) (hz : (p = 0 ∧ z = 1) ∨ (¬ p = 0 ∧ z = 0)) (hg : (¬ g = 0 ∧ lo = 10 ∧ hi = 10) ∨ (g = 0 ∧ lo = stV (-5) 8 0 0 p ∧ hi = stV 5 12 2 3 p)) (t : TS G m μ) (f : Fb M μ) (d : m.1 0 2 = 0 → BD nb p N q m μ) (hk : ∀ (x4 x5 x6 x7 : Option Value) (μ' : Mem), TS G (sp_readRange m nb p w lo hi z) μ' → Fb M μ' → ((sp_readRange m nb p w lo hi z).1 0 2 = 0 → m.1 0 2 = 0 ∧ BD nb (p + 1) N q (sp_readRange m nb p w lo hi z) μ') → AW l G KC RX3 cX3_boxLine 8 8 none (Qv PQ) 73 [some (.ref (gA G 24)), some (.int (nI nb)), some (.int kd), some (.int (nI (p + 1))), x4, x5, x6, x7] [] μ') : AW l G KC RX3 cX3_boxLine 8 8 none (Qv PQ) 95 [some (.ref (gA G 24)), some (.int (nI nb)), some (.int kd), some (.int (nI p)), x4, x5, x6, x7] [.int g] μ := by
  refine A_istore4 dX3_boxLine_95 rfl (by decide) ?_
  refine A_iload4 dX3_boxLine_97 ?_
  refine A_if_eq (tgt := 107) dX3_boxLine_99 (by decide) (fun c_99 => ?_) (fun c_99 => ?_)
  · refine A_gets (fun s1 H1 g1 => (hZ s1 H1 g1).2.2.1.1) sl_X3_60 dX3_boxLine_107 ?_
    refine A_iload3 dX3_boxLine_110 ?_
    refine A_tld (f := stV (-5) 8 0 0) (fun s1 H1 g1 => (hZ s1 H1 g1).2.2.1.2) (vp_in_nI (by omega) (by omega)) dX3_boxLine_111 ?_
    rw [nI_c (by omega)]
    refine A_istore5 dX3_boxLine_112 rfl (by decide) ?_
    refine A_iload4 dX3_boxLine_114 ?_
    refine A_if_eq (tgt := 124) dX3_boxLine_116 (by decide) (fun c_116 => ?_) (fun c_116 => ?_)
    · refine A_gets (fun s1 H1 g1 => (hZ s1 H1 g1).2.2.2.1.1) sl_X3_63 dX3_boxLine_124 ?_
      refine A_iload3 dX3_boxLine_127 ?_
      refine A_tld (f := stV 5 12 2 3) (fun s1 H1 g1 => (hZ s1 H1 g1).2.2.2.1.2) (vp_in_nI (by omega) (by omega)) dX3_boxLine_128 ?_
      rw [nI_c (by omega)]
      refine A_istore6 dX3_boxLine_129 rfl (by decide) ?_
      have el := hg.elim (fun y => absurd c_99 y.1) (fun y => y.2)
      rw [← el.1, ← el.2]
      exact L_X3_box_131 hS h5 hp hw hz t f d hk
    · refine A_bipush (v := 10) dX3_boxLine_119 (by decide) ?_
      refine A_goto (tgt := 129) dX3_boxLine_121 (by decide) ?_
      refine A_istore6 dX3_boxLine_129 rfl (by decide) ?_
      exact absurd c_99 c_116
  · refine A_bipush (v := 10) dX3_boxLine_102 (by decide) ?_
    refine A_goto (tgt := 112) dX3_boxLine_104 (by decide) ?_
    refine A_istore5 dX3_boxLine_112 rfl (by decide) ?_
    refine A_iload4 dX3_boxLine_114 ?_
    refine A_if_eq (tgt := 124) dX3_boxLine_116 (by decide) (fun c_116 => ?_) (fun c_116 => ?_)
    · refine A_gets (fun s1 H1 g1 => (hZ s1 H1 g1).2.2.2.1.1) sl_X3_63 dX3_boxLine_124 ?_
      refine A_iload3 dX3_boxLine_127 ?_
      refine A_tld (f := stV 5 12 2 3) (fun s1 H1 g1 => (hZ s1 H1 g1).2.2.2.1.2) (vp_in_nI (by omega) (by omega)) dX3_boxLine_128 ?_
      rw [nI_c (by omega)]
      refine A_istore6 dX3_boxLine_129 rfl (by decide) ?_
      exact absurd c_116 c_99
    · refine A_bipush (v := 10) dX3_boxLine_119 (by decide) ?_
      refine A_goto (tgt := 129) dX3_boxLine_121 (by decide) ?_
      refine A_istore6 dX3_boxLine_129 rfl (by decide) ?_
      have el := hg.elim (fun y => y.2) (fun y => absurd y.1 c_99)
      have e1 := el.1
      have e2 := el.2
      subst e1
      subst e2
      exact L_X3_box_131 hS h5 hp hw hz t f d hk
set_option maxHeartbeats 400000 in
set_option maxRecDepth 100000 in
theorem L_X3_box_73 {x4 x5 x6 x7 : Option Value} {l : Launch} {G : Wd} {PQ : Mem → Prop} {nb p : Nat} {N : Nat → Int64} {kd q lo hi z : Int32} {M m μ : Mem} {w : Int64} (hS : okS G) (hZ : okZ G) (h5 : nb < 5) (hp : p < 4) (hw : e256 (wdK.getD (5 + p) []) = w) (hz : (p = 0 ∧ z = 1) ∨ (¬ p = 0 ∧ z = 0)) (hg : ((p = 1 ∧ kd = 132) ∧ lo = 10 ∧ hi = 10) ∨ (¬ (p = 1 ∧ kd = 132) ∧ lo = stV (-5) 8 0 0 p ∧ hi = stV 5 12 2 3 p)) (t : TS G m μ) (f : Fb M μ) (d : m.1 0 2 = 0 → BD nb p N q m μ) (hk : ∀ (x4 x5 x6 x7 : Option Value) (μ' : Mem), TS G (sp_readRange m nb p w lo hi z) μ' → Fb M μ' → ((sp_readRange m nb p w lo hi z).1 0 2 = 0 → m.1 0 2 = 0 ∧ BD nb (p + 1) N q (sp_readRange m nb p w lo hi z) μ') → AW l G KC RX3 cX3_boxLine 8 8 none (Qv PQ) 73 [some (.ref (gA G 24)), some (.int (nI nb)), some (.int kd), some (.int (nI (p + 1))), x4, x5, x6, x7] [] μ') : AW l G KC RX3 cX3_boxLine 8 8 none (Qv PQ) 73 [some (.ref (gA G 24)), some (.int (nI nb)), some (.int kd), some (.int (nI p)), x4, x5, x6, x7] [] μ := by
  have hz1 : nI p = 1 ↔ p = 1 := by rw [show (1 : Int32) = nI 1 from rfl]; exact nI_eq (by omega) (by decide)
  refine A_iload3 dX3_boxLine_73 ?_
  refine A_iconst (v := 4) dX3_boxLine_74 (by decide) ?_
  refine A_icmp_ge (tgt := 223) dX3_boxLine_75 (by decide) (fun c_75 => absurd c_75 (nI_ge (a := p) (b := 4) (by omega) (by decide))) (fun c_75 => ?_)
  refine A_iload3 dX3_boxLine_78 ?_
  refine A_iconst (v := 1) dX3_boxLine_79 (by decide) ?_
  refine A_icmp_ne (tgt := 94) dX3_boxLine_80 (by decide) (fun c_80 => ?_) (fun c_80 => ?_)
  · refine A_iconst (v := 0) dX3_boxLine_94 (by decide) ?_
    refine L_X3_box_95 hS hZ h5 hp hw hz (Or.inr ⟨rfl, hg.elim (fun y => absurd (hz1.mpr y.1.1) c_80) (fun y => y.2)⟩) t f d hk
  · refine A_iload2 dX3_boxLine_83 ?_
    refine A_sipush (v := 132) dX3_boxLine_84 (by decide) ?_
    refine A_icmp_ne (tgt := 94) dX3_boxLine_87 (by decide) (fun c_87 => ?_) (fun c_87 => ?_)
    · refine A_iconst (v := 0) dX3_boxLine_94 (by decide) ?_
      refine L_X3_box_95 hS hZ h5 hp hw hz (Or.inr ⟨rfl, hg.elim (fun y => absurd y.1.2 c_87) (fun y => y.2)⟩) t f d hk
    · refine A_iconst (v := 1) dX3_boxLine_90 (by decide) ?_
      refine A_goto (tgt := 95) dX3_boxLine_91 (by decide) ?_
      refine L_X3_box_95 hS hZ h5 hp hw hz (Or.inl ⟨by decide, hg.elim (fun y => y.2) (fun y => absurd ⟨hz1.mp c_80, c_87⟩ y.1)⟩) t f d hk

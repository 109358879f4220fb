/-! both readers side by side -/
theorem Mt.mono {l : Launch} {G : Wd} {K : List Kd} {y : MethodName} {cy : ByteArray} {nL : Nat} {rt : Option FieldType} {d : Nat} {av : List Value} {μ : Mem} {Q Q' : Option Value → Mem → Prop} (h : Mt l G K y cy nL rt d av μ Q) (k : ∀ (r : Option Value) (m : Mem), Q r m → Q' r m) : Mt l G K y cy nL rt d av μ Q' := by
  intro p e ha hc hk s m args below h1 h2 h3 h4
  obtain ⟨n, o, a1, a2, a3, ⟨⟨⟨r, m1, b1, b2, b3⟩, b4⟩, b5⟩⟩ := h p e ha hc hk s m args below h1 h2 h3 h4
  exact ⟨n, o, a1, a2, a3, ⟨⟨⟨r, m1, b1, k r m1 b2, b3⟩, b4⟩, b5⟩⟩
theorem Mt.monoV {l : Launch} {G : Wd} {K : List Kd} {y : MethodName} {cy : ByteArray} {nL : Nat} {rt : Option FieldType} {d : Nat} {av : List Value} {μ : Mem} {P P' : Mem → Prop} (h : Mt l G K y cy nL rt d av μ (Qv P)) (k : ∀ m : Mem, P m → P' m) : Mt l G K y cy nL rt d av μ (Qv P') := h.mono (fun _ m q => ⟨q.1, k m q.2⟩)
theorem AW.mono {l : Launch} {G : Wd} {K : List Kd} {own : String} {cc : ByteArray} {nL d : Nat} {rt : Option FieldType} {Q Q' : Option Value → Mem → Prop} {pc : Nat} {ls : List (Option Value)} {st : List Value} {μ : Mem} (h : AW l G K own cc nL d rt Q pc ls st μ) (k : ∀ (r : Option Value) (m : Mem), Q r m → Q' r m) : AW l G K own cc nL d rt Q' pc ls st μ := by
  intro p e s m args below meth c H locs la F hP hD hE hS hl T hT X
  obtain ⟨t, a1, o, b1, b2, b3, b4⟩ := h p e s m args below meth c H locs la F hP hD hE hS hl T hT X
  obtain ⟨⟨r, m1, c1, c2, c3⟩, c4⟩ := b3
  exact ⟨t, a1, o, b1, b2, ⟨⟨r, m1, c1, k r m1 c2, c3⟩, c4⟩, b4⟩
/-- only the class's reader has changed -/
def F4 (μ μ' : Mem) : Prop := (∀ i j, ¬ (i = 2 ∧ 4 ≤ j ∧ j ≤ 10) → μ'.1 i j = μ.1 i j) ∧ (∀ i j, ¬ (i = 2 ∧ j = 8) → μ'.2.1 i j = μ.2.1 i j) ∧ μ'.2.2 = μ.2.2
theorem F4.rf {μ : Mem} : F4 μ μ := ⟨fun _ _ _ => rfl, fun _ _ _ => rfl, rfl⟩
theorem F4.tr {a b c : Mem} (h : F4 a b) (g : F4 b c) : F4 a c := ⟨fun i j q => (g.1 i j q).trans (h.1 i j q), fun i j q => (g.2.1 i j q).trans (h.2.1 i j q), g.2.2.trans h.2.2⟩
theorem F4.w {a b : Mem} {k : Nat} {v : Int32} (h : F4 a b) (hk : 4 ≤ k ∧ k ≤ 10) : F4 a (wI b 2 k v) := ⟨fun i j q => (wI_ne (by omega)).trans (h.1 i j q), h.2.1, h.2.2⟩
theorem F2.f4 {a b : Mem} (h : F2 a b) : F4 a b := ⟨fun i j q => h.1 i j (by omega), h.2.1, h.2.2⟩
theorem F4.fl {a b : Mem} {k w : Int32} (h : F4 a b) : F4 a (flM b k w) := by
  unfold flM
  split
  · exact ((h.w (by omega)).w (by omega)).w (by omega)
  · exact h.w (by omega)
def TB (G : Wd) (m μ : Mem) : Prop := WFx m ∧ (∃ z : Fin 2, m.1 0 10 = nI z.val ∧ μ.2.2 = gA G (104 + z.val)) ∧ (∀ j, j < 800 → μ.1 1 j = vp_nar .byte (m.1 1 j) ∧ 0 ≤ (m.1 1 j).toInt ∧ (m.1 1 j).toInt ≤ 255) ∧ μ.1 2 2 = m.1 0 5 ∧ ∀ w, w < 26 → μ.2.1 3 w = e27 (wdK.getD w [])
def TD (m μ : Mem) : Prop := μ.1 2 9 = m.1 0 2 ∧ μ.1 2 10 = m.1 0 3 ∧ ((m.1 0 2 = 0 ∧ μ.1 2 6 = m.1 0 7 ∧ (¬ m.1 0 6 = 3 → μ.1 2 4 = m.1 0 4) ∧ KR (m.1 0 10) (m.1 0 6) (m.1 0 8) (m.2.1 0 9) (μ.1 2 5) (μ.1 2 7) (μ.2.1 2 8)) ∨ (0 < m.1 0 2 ∧ μ.1 2 5 = 0))
/-- the class's reader stands where the reference's does -/
def TS (G : Wd) (m μ : Mem) : Prop := TB G m μ ∧ TD m μ
theorem TB.go {G : Wd} {m m' μ μ' : Mem} (h : TB G m μ) (hw : WFx m') (r : Rd m m') (f : F4 μ μ') : TB G m' μ' := by
  obtain ⟨-, ⟨z, h1, h2⟩, h3, h4, h5⟩ := h
  refine ⟨hw, ⟨z, (r.1 0 10 (by unfold rdK; omega)).trans h1, f.2.2.trans h2⟩, fun j hj => ?_, ?_, fun w hw2 => (f.2.1 3 w (by omega)).trans (h5 w hw2)⟩
  · rw [f.1 1 j (by omega), r.1 1 j (by unfold rdK; omega)]
    exact h3 j hj
  · rw [f.1 2 2 (by omega), r.1 0 5 (by unfold rdK; omega)]
    exact h4
def Mk (m m' : Mem) : Prop := (∀ j, j ≤ 10 → m'.1 0 j = m.1 0 j) ∧ (∀ j, m'.1 1 j = m.1 1 j) ∧ m'.2.1 0 9 = m.2.1 0 9
def Ck (μ μ' : Mem) : Prop := (∀ i j, (i = 1 ∨ i = 2) → μ'.1 i j = μ.1 i j) ∧ (∀ i j, (i = 2 ∨ i = 3) → μ'.2.1 i j = μ.2.1 i j) ∧ μ'.2.2 = μ.2.2
theorem Mk.rf {m : Mem} : Mk m m := ⟨fun _ _ => rfl, fun _ => rfl, rfl⟩
theorem Ck.rf {m : Mem} : Ck m m := ⟨fun _ _ _ => rfl, fun _ _ _ => rfl, rfl⟩
theorem Mk.w {a b : Mem} {i k : Nat} {v : Int32} (h : Mk a b) (hi : 2 ≤ i ∨ (i = 0 ∧ 10 < k)) : Mk a (wI b i k v) := ⟨fun j hj => (wI_ne (by omega)).trans (h.1 j hj), fun j => (wI_ne (by omega)).trans (h.2.1 j), h.2.2⟩
theorem Mk.l {a b : Mem} {i k : Nat} {v : Int64} (h : Mk a b) (hi : 1 ≤ i) : Mk a (wL b i k v) := ⟨h.1, h.2.1, (w2_ne (by omega)).trans h.2.2⟩
theorem Ck.w {a b : Mem} {i k : Nat} {v : Int32} (h : Ck a b) (hi : 3 ≤ i) : Ck a (wI b i k v) := ⟨fun x j q => (wI_ne (by omega)).trans (h.1 x j q), h.2.1, h.2.2⟩
theorem Ck.l {a b : Mem} {i k : Nat} {v : Int64} (h : Ck a b) (hi : 4 ≤ i) : Ck a (wL b i k v) := ⟨h.1, fun x j q => (w2_ne (by omega)).trans (h.2.1 x j q), h.2.2⟩
theorem Mk.x {m m' : Mem} (a : Mk m m') (h : WFx m) : WFx m' := by
  obtain ⟨n, b, h⟩ := h
  exact ⟨n, b, rfl, h.n8, h.a8, (a.1 5 (by omega)).trans h.n, (a.1 4 (by omega)).trans h.a⟩
theorem TS.mv {G : Wd} {m m' μ μ' : Mem} (h : TS G m μ) (a : Mk m m') (c : Ck μ μ') : TS G m' μ' := by
  obtain ⟨⟨h0, ⟨z, h1, h2⟩, h3, h4, h5⟩, h6, h7, h8⟩ := h
  refine ⟨⟨a.x h0, ⟨z, (a.1 10 (by omega)).trans h1, c.2.2.trans h2⟩, fun j hj => ?_, ?_, fun w hw => (c.2.1 3 w (by omega)).trans (h5 w hw)⟩, ?_, ?_, ?_⟩
  · rw [c.1 1 j (by omega), a.2.1 j]; exact h3 j hj
  · rw [c.1 2 2 (by omega), a.1 5 (by omega)]; exact h4
  · rw [c.1 2 9 (by omega), a.1 2 (by omega)]; exact h6
  · rw [c.1 2 10 (by omega), a.1 3 (by omega)]; exact h7
  · rw [a.1 2 (by omega), a.1 7 (by omega), a.1 6 (by omega), a.1 4 (by omega), a.1 10 (by omega), a.1 8 (by omega), a.2.2, c.1 2 6 (by omega), c.1 2 4 (by omega), c.1 2 5 (by omega), c.1 2 7 (by omega), c.2.1 2 8 (by omega)]
    exact h8
theorem TS.f0 {G : Wd} {m μ : Mem} (h : TS G m μ) : 0 ≤ m.1 0 2 := by
  rcases h.2.2.2 with h | h
  · rw [h.1]; decide
  · exact Int32.le_of_lt h.1
theorem TS.kr {G : Wd} {m μ : Mem} (h : TS G m μ) (h0 : m.1 0 2 = 0) : KR (m.1 0 10) (m.1 0 6) (m.1 0 8) (m.2.1 0 9) (μ.1 2 5) (μ.1 2 7) (μ.2.1 2 8) := by
  rcases h.2.2.2 with h | h
  · exact h.2.2.2
  · exact absurd h0 (ps_0 h.1)
theorem TS.pl {G : Wd} {m μ : Mem} (h : TS G m μ) (h0 : m.1 0 2 = 0) : μ.1 2 6 = m.1 0 7 := by
  rcases h.2.2.2 with h | h
  · exact h.2.1
  · exact absurd h0 (ps_0 h.1)
theorem TS.en {G : Wd} {m μ : Mem} (h : TS G m μ) (h0 : ¬ m.1 0 2 = 0) : μ.1 2 5 = 0 ∧ 0 < m.1 0 2 := by
  rcases h.2.2.2 with h | h
  · exact absurd h.1 h0
  · exact ⟨h.2, h.1⟩
theorem TS.no {G : Wd} {m μ : Mem} (h : TS G m μ) (h5 : ¬ μ.1 2 5 = 0) : m.1 0 2 = 0 := Decidable.not_not.mp (fun y => h5 (h.en y).1)
theorem TS.stp {G : Wd} {m μ : Mem} (h : TS G m μ) (h0 : m.1 0 2 = 0) (h3 : ¬ m.1 0 6 = 3) : ∃ z : Fin 2, CX G (m.1 1) (szN m) (atN m) z μ ∧ ∀ μ', StQ (m.1 1) (szN m) z (spN (m.1 1) (szN m) (atN m)) μ μ' → TS G (tkn m) μ' ∧ F4 μ μ' := by
  obtain ⟨hB, h6, h7, h8⟩ := h
  have hB0 := hB
  obtain ⟨hw, ⟨z, hz, hs⟩, ht, hn, hk⟩ := hB
  have hx := hw.x
  have hr : (tkn m) = tkM m (spN (m.1 1) (szN m) (atN m)) (tk (m.1 1) (szN m) (nI z.val) (spN (m.1 1) (szN m) (atN m))) := by
    show tkM m _ (tk _ _ (m.1 0 10) _) = _
    rw [hz]
  rcases h8 with ⟨g0, g1, g2, g3⟩ | ⟨g0, -⟩
  · refine ⟨z, ⟨ht, hx.n8, hx.a8, hn.trans hx.n, (g2 h3).trans hx.a, hs, hk⟩, fun μ' hq => ?_⟩
    obtain ⟨q1, q2, q3, q4⟩ := hq
    refine ⟨⟨hB0.go hw.tn Rd.rf.tk q1.f4, ?_, ?_, Or.inl ⟨(tkn_2 m).trans h0, ?_, ?_, ?_⟩⟩, q1.f4⟩
    · rw [q1.1 2 9 (by omega), tkn_2]; exact h6
    · rw [q1.1 2 10 (by omega), tkn_3]; exact h7
    · rw [q2, hr, tkM_7]
    · intro y
      rw [hr, tkM_6] at y
      rw [q3, hr, tkM_4, if_neg y]
    · rw [(Rd.rf.tk (b := m)).1 0 10 (by unfold rdK; omega), hz, hr, tkM_6, tkM_8, tkM_9]
      exact q4
  · exact absurd h0 (ps_0 g0)
theorem T_step {l : Launch} {G : Wd} {m μ : Mem} (hS : okS G) (h : TS G m μ) (h0 : m.1 0 2 = 0) (h3 : ¬ m.1 0 6 = 3) : Mt l G KC yX9_step cX9_step 2 none 5 [.ref (gA G 2)] μ (Qv (fun μ' => TS G (tkn m) μ' ∧ F4 μ μ')) := by
  obtain ⟨z, hx, hq⟩ := h.stp h0 h3
  exact (T_X9_step hS hx).monoV hq
theorem TS.fl {G : Wd} {m μ : Mem} {k w : Int32} (h : TS G m μ) (h0 : m.1 0 2 = 0) (hk : 0 < k) : TS G (wI (wI m 0 2 k) 0 3 w) (flM μ k w) := by
  obtain ⟨hB, h6, h7, h8⟩ := h
  have e : flM μ k w = wI (wI (wI μ 2 9 k) 2 10 w) 2 5 0 := by
    unfold flM
    rw [if_pos (by rw [h6]; exact h0)]
  refine ⟨hB.go ((hB.1.w (by decide)).w (by decide)) ((Rd.rf.wI (by decide)).wI (by decide)) F4.rf.fl, ?_, ?_, Or.inr ⟨?_, ?_⟩⟩
  · rw [e, wI_ne (by omega), wI_ne (by omega), wI_same, wI_ne (by omega), wI_same]
  · rw [e, wI_ne (by omega), wI_same, wI_same]
  · rw [wI_ne (by omega), wI_same]; exact hk
  · rw [e, wI_same]
theorem TS.flk {G : Wd} {m μ : Mem} {k w : Int32} (h : TS G m μ) (h0 : ¬ m.1 0 2 = 0) : TS G m (flM μ k w) := by
  have hen := (h.en h0).2
  obtain ⟨hB, h6, h7, h8⟩ := h
  have e : flM μ k w = wI μ 2 5 0 := by
    unfold flM
    rw [if_neg (by rw [h6]; exact h0)]
  refine ⟨hB.go hB.1 Rd.rf F4.rf.fl, ?_, ?_, Or.inr ⟨hen, ?_⟩⟩
  · rw [e, wI_ne (by omega)]; exact h6
  · rw [e, wI_ne (by omega)]; exact h7
  · rw [e, wI_same]
theorem spoil_1 {m : Mem} {w : Int32} (h : ¬ m.1 0 2 = 0) (h2 : 0 ≤ m.1 0 2) : sp_spoil m w = m := if_pos (by
  have a1 := i_le.mp h2
  have a2 := i_0
  refine i_lt.mpr ?_
  have a3 : ¬ (m.1 0 2).toInt = 0 := fun y => h (i_eq.mpr (by rw [y, a2]))
  omega)
theorem spoil_0 {m : Mem} {w : Int32} (h : m.1 0 2 = 0) : sp_spoil m w = wI (wI m 0 2 (if m.1 0 6 = 3 then 1 else w)) 0 3 (m.1 0 7) := if_neg (by rw [h]; decide)
theorem spoil_3 {m : Mem} {w : Int32} (h : m.1 0 2 = 0) (h3 : ¬ m.1 0 6 = 3) : sp_spoil m w = wI (wI m 0 2 w) 0 3 (m.1 0 7) := by rw [spoil_0 h, if_neg h3]
theorem TS.ref {G : Wd} {m μ : Mem} (h : TS G m μ) : TS G (sp_spoil m 2) (flM μ (if μ.1 2 5 = 1 then 1 else 2) (μ.1 2 6)) := by
  by_cases h0 : m.1 0 2 = 0
  · rw [spoil_0 h0, h.pl h0]
    have e : (if m.1 0 6 = 3 then (1 : Int32) else 2) = if μ.1 2 5 = 1 then 1 else 2 := by
      by_cases y : m.1 0 6 = 3
      · rw [if_pos y, if_pos ((h.kr h0).k1.mp y)]
      · rw [if_neg y, if_neg (fun w => y ((h.kr h0).k1.mpr w))]
    rw [e]
    exact h.fl h0 (by split <;> decide)
  · rw [spoil_1 h0 h.f0]
    exact h.flk h0
theorem T_refuse {l : Launch} {G : Wd} {m μ : Mem} (h : TS G m μ) : Mt l G KC yX9_refuse cX9_refuse 1 none 2 [.ref (gA G 2)] μ (Qv (fun μ' => TS G (sp_spoil m 2) μ' ∧ F4 μ μ')) := T_X9_refuse.monoV (fun m1 e => by rw [e]; exact ⟨h.ref, F4.rf.fl⟩)
set_option maxHeartbeats 400000 in
set_option maxRecDepth 100000 in
theorem T_X9_take {l : Launch} {G : Wd} {m μ : Mem} {x : Int32} (hS : okS G) (h : TS G m μ) (hx : ¬ x = 0) (hy : m.1 0 2 = 0 → μ.1 2 5 = x → ¬ m.1 0 6 = 3) : Mt l G KC yX9_take cX9_take 2 none 6 [.ref (gA G 2), .int x] μ (Qv (fun μ' => F4 μ μ' ∧ ((m.1 0 2 = 0 ∧ μ.1 2 5 = x ∧ TS G (tkn m) μ') ∨ (¬ (m.1 0 2 = 0 ∧ μ.1 2 5 = x) ∧ TS G (sp_spoil m 2) μ')))) := by
  refine Mt.of (own := RX9) (n := 0) (by decide) rfl [some (.ref (gA G 2)), some (.int x)] rfl (Nat.le_of_ble_eq_true rfl) ?_
  refine A_aload0 dX9_take_0 ?_
  refine A_getI gf_X9_67 rfl dX9_take_1 ?_
  refine A_iload1 dX9_take_4 ?_
  refine A_icmp_ne (tgt := 15) dX9_take_5 (by decide) (fun c_5 => ?_) (fun c_5 => ?_)
  · refine A_aload0 dX9_take_15 ?_
    refine A_vv0 lk_X9_90 yv_X9_refuse dX9_take_16 (rfl) (rfl) (T_refuse h) (by decide) (Nat.le_of_ble_eq_true rfl) (fun μ_16 h_16 => ?_)
    refine A_vret dX9_take_19 ?_
    exact ⟨rfl, h_16.2, Or.inr ⟨fun y => c_5 y.2, h_16.1⟩⟩
  · refine A_aload0 dX9_take_8 ?_
    refine A_vv0 lk_X9_61 yv_X9_step dX9_take_9 (rfl) (rfl) (T_step hS h (h.no (fun y => hx (c_5.symm.trans y))) (hy (h.no (fun y => hx (c_5.symm.trans y))) c_5)) (by decide) (Nat.le_of_ble_eq_true rfl) (fun μ_9 h_9 => ?_)
    refine A_goto (tgt := 19) dX9_take_12 (by decide) ?_
    refine A_vret dX9_take_19 ?_
    exact ⟨rfl, h_9.2, Or.inl ⟨h.no (fun y => hx (c_5.symm.trans y)), c_5, h_9.1⟩⟩
theorem n128_0 {i : Nat} (hi : i < 26) : ¬ nI (128 + i) = 0 := fun y => by
  have h := n128 hi
  rw [y, i_0] at h
  omega
theorem T_take_w {l : Launch} {G : Wd} {m μ : Mem} {i : Nat} (hS : okS G) (h : TS G m μ) (hi : i < 26) : Mt l G KC yX9_take cX9_take 2 none 6 [.ref (gA G 2), .int (nI (128 + i))] μ (Qv (fun μ' => TS G (sp_want m (e256 (wdK.getD i []))) μ' ∧ F4 μ μ')) := by
  refine (T_X9_take hS h (n128_0 hi) (fun h0 h5 y => ?_)).monoV (fun m1 q => ⟨?_, q.1⟩)
  · have h1 := ((h.kr h0).wd hi).mpr h5
    rw [h1.1] at y
    exact absurd y (by decide)
  · by_cases h0 : m.1 0 2 = 0
    · have e : sp_want m (e256 (wdK.getD i [])) = if isWd m (e256 (wdK.getD i [])) then tkn m else sp_spoil m 2 := if_neg (by rw [h0]; decide)
      rw [e]
      rcases q.2 with ⟨-, q2, q3⟩ | ⟨q2, q3⟩
      · rw [if_pos (((h.kr h0).wd hi).mpr q2)]; exact q3
      · rw [if_neg (fun y => q2 ⟨h0, ((h.kr h0).wd hi).mp y⟩)]; exact q3
    · have e : sp_want m (e256 (wdK.getD i [])) = m := if_pos (h.en h0).2
      rw [e]
      rcases q.2 with ⟨q1, -⟩ | ⟨-, q3⟩
      · exact absurd q1 h0
      · rw [spoil_1 h0 h.f0] at q3; exact q3
theorem hlTS_0 {m : Mem} (h0 : m.1 0 2 = 0) : hlT (hlS m) = if m.1 0 6 = 59 then tkn m else sp_spoil m 2 := by
  by_cases y : m.1 0 6 = 59
  · have e : hlS m = m := if_neg (fun w => w.2 y)
    rw [if_pos y, e]
    exact if_pos h0
  · have e : hlS m = sp_spoil m 2 := if_pos ⟨h0, y⟩
    rw [if_neg y, e]
    exact if_neg (ps_0 (sp_spoil_2 (by decide)))
theorem hlTS_1 {m : Mem} (h0 : ¬ m.1 0 2 = 0) : hlT (hlS m) = m := by
  have e : hlS m = m := if_neg (fun w => h0 w.1)
  rw [e]
  exact if_neg h0
theorem T_take_s {l : Launch} {G : Wd} {m μ : Mem} (hS : okS G) (h : TS G m μ) : Mt l G KC yX9_take cX9_take 2 none 6 [.ref (gA G 2), .int 59] μ (Qv (fun μ' => TS G (hlT (hlS m)) μ' ∧ F4 μ μ')) := by
  refine (T_X9_take hS h (by decide) (fun h0 h5 y => ?_)).monoV (fun m1 q => ⟨?_, q.1⟩)
  · have h1 := ((h.kr h0).sg (c := 59) (by decide)).mpr h5
    rw [h1] at y
    exact absurd y (by decide)
  · by_cases h0 : m.1 0 2 = 0
    · rw [hlTS_0 h0]
      rcases q.2 with ⟨-, q2, q3⟩ | ⟨q2, q3⟩
      · rw [if_pos (((h.kr h0).sg (by decide)).mpr q2)]; exact q3
      · rw [if_neg (fun y => q2 ⟨h0, ((h.kr h0).sg (by decide)).mp y⟩)]; exact q3
    · rw [hlTS_1 h0]
      rcases q.2 with ⟨q1, -⟩ | ⟨-, q3⟩
      · exact absurd q1 h0
      · rw [spoil_1 h0 h.f0] at q3; exact q3
/-- a number within bounds, read off m1; w: where a fault is told -/
def tnR (m1 : Mem) (g w a b : Int32) : Int32 × Mem :=
  if 0 < m1.1 0 2 then (0, m1)
  else if m1.1 0 6 = 2 then ((if g = 0 then m1.1 0 8 else -(m1.1 0 8)), if (if g = 0 then m1.1 0 8 else -(m1.1 0 8)) < a ∨ b < (if g = 0 then m1.1 0 8 else -(m1.1 0 8)) then wI (wI m1 0 2 4) 0 3 w else tkn m1)
  else (0, sp_spoil m1 2)
theorem told_e (m : Mem) (a b : Int32) (hf : 0 ≤ m.1 0 2) : (sp_told m a b).2 = (tnR m 0 (m.1 0 7) a b).2 ∧ ((sp_told m a b).2.1 0 2 = 0 → (sp_told m a b).1 = (tnR m 0 (m.1 0 7) a b).1) := by
  unfold sp_told tnR
  by_cases h : 0 < m.1 0 2
  · rw [if_pos h, if_pos h]; exact ⟨rfl, fun _ => rfl⟩
  · rw [if_neg h, if_neg h]
    have h0 : m.1 0 2 = 0 := Fg.z hf (Int32.not_lt.mp h)
    rw [if_pos (show (0 : Int32) = 0 from rfl)]
    unfold tdA
    by_cases h2 : m.1 0 6 = 2
    · rw [if_pos h2, if_pos h2]
      by_cases h3 : m.1 0 8 < a ∨ b < m.1 0 8
      · rw [if_pos h3, if_pos h3]
        have e : sp_spoil m 4 = wI (wI m 0 2 4) 0 3 (m.1 0 7) := spoil_3 h0 (by rw [h2]; decide)
        rw [if_neg (ps_0 (sp_spoil_2 (by decide))), e]
        exact ⟨rfl, fun _ => rfl⟩
      · rw [if_neg h3, if_neg h3, if_pos h0]
        exact ⟨rfl, fun _ => rfl⟩
    · rw [if_neg h2, if_neg h2, if_neg (ps_0 (sp_spoil_2 (by decide)))]
      exact ⟨rfl, fun y => absurd y (ps_0 (sp_spoil_2 (by decide)))⟩
theorem signed_e (m : Mem) (a b : Int32) (h0 : m.1 0 2 = 0) : sp_signed m a b = tnR (sgM m) (if m.1 0 6 = 45 then 1 else 0) (m.1 0 7) a b := by
  have hs : (sgM m).1 0 2 = 0 := by
    unfold sgM
    split
    · rw [tkn_2]; exact h0
    · exact h0
  have ev : sgV m = if (if m.1 0 6 = 45 then (1 : Int32) else 0) = 0 then (sgM m).1 0 8 else -((sgM m).1 0 8) := by
    unfold sgV
    by_cases y : m.1 0 6 = 45
    · rw [if_pos y, if_pos y, if_neg (by decide)]
    · rw [if_neg y, if_neg y, if_pos rfl]
  have eL : sp_signed m a b = _ := if_neg (by rw [h0]; decide)
  have eR : tnR (sgM m) (if m.1 0 6 = 45 then 1 else 0) (m.1 0 7) a b = _ := if_neg (by rw [hs]; decide)
  rw [eL, eR, ev]
theorem signed_1 (m : Mem) (a b : Int32) (h0 : 0 < m.1 0 2) : sp_signed m a b = (0, m) := if_pos h0
set_option maxHeartbeats 400000 in
set_option maxRecDepth 100000 in
theorem L_X3_tn_89 {l : Launch} {G : Wd} {m1 μ M : Mem} {a b zz w g v : Int32} (hS : okS G) (h : TS G m1 μ) (hf : F4 M μ) (h0 : m1.1 0 2 = 0) (h2 : m1.1 0 6 = 2) (hv : v = if g = 0 then m1.1 0 8 else -(m1.1 0 8)) : AW l G KC RX3 cX3_takeNumber 7 7 (some .int) (Qi (fun v μ' => F4 M μ' ∧ TS G (tnR m1 g w a b).2 μ' ∧ ((tnR m1 g w a b).2.1 0 2 = 0 → v = (tnR m1 g w a b).1))) 89 [some (.ref (gA G 24)), some (.int a), some (.int b), some (.int zz), some (.int w), some (.int g), some (.int v)] [] μ := by
  have e1 : ∀ y : v < a ∨ b < v, tnR m1 g w a b = (v, wI (wI m1 0 2 4) 0 3 w) := fun y => by
    unfold tnR
    rw [if_neg (by rw [h0]; decide), if_pos h2, ← hv, if_pos y]
  have e2 : ∀ y : ¬ (v < a ∨ b < v), tnR m1 g w a b = (v, tkn m1) := fun y => by
    unfold tnR
    rw [if_neg (by rw [h0]; decide), if_pos h2, ← hv, if_neg y]
  refine A_iload6 dX3_takeNumber_89 ?_
  refine A_iload1 dX3_takeNumber_91 ?_
  refine A_icmp_lt (tgt := 101) dX3_takeNumber_92 (by decide) (fun c_92 => ?_) (fun c_92 => ?_)
  · refine A_aload0 dX3_takeNumber_101 ?_
    refine A_getR gf_X3_9 rfl dX3_takeNumber_102 ?_
    refine A_iconst (v := 4) dX3_takeNumber_105 (by decide) ?_
    refine A_iload4 dX3_takeNumber_106 ?_
    refine A_vv2 lk_X3_88 yv_X9_fail dX3_takeNumber_108 (rfl) (rfl) (T_X9_fail) (by decide) (Nat.le_of_ble_eq_true rfl) (fun μ_108 h_108 => ?_)
    refine A_goto (tgt := 121) dX3_takeNumber_111 (by decide) ?_
    refine A_iload6 dX3_takeNumber_121 ?_
    refine A_iret dX3_takeNumber_123 ?_
    have e3 := e1 (Or.inl c_92)
    rw [e3]
    refine ⟨_, rfl, ?_, ?_, fun _ => rfl⟩
    · rw [h_108]; exact hf.fl
    · rw [h_108]; exact h.fl h0 (by decide)
  · refine A_iload6 dX3_takeNumber_95 ?_
    refine A_iload2 dX3_takeNumber_97 ?_
    refine A_icmp_le (tgt := 114) dX3_takeNumber_98 (by decide) (fun c_98 => ?_) (fun c_98 => ?_)
    · refine A_aload0 dX3_takeNumber_114 ?_
      refine A_getR gf_X3_9 rfl dX3_takeNumber_115 ?_
      refine A_vv0 lk_X3_50 yv_X9_step dX3_takeNumber_118 (rfl) (rfl) (T_step hS h h0 (by rw [h2]; decide)) (by decide) (Nat.le_of_ble_eq_true rfl) (fun μ_118 h_118 => ?_)
      refine A_iload6 dX3_takeNumber_121 ?_
      refine A_iret dX3_takeNumber_123 ?_
      have e3 := e2 (fun y => y.elim c_92 (fun y => absurd c_98 (Int32.not_le.mpr y)))
      rw [e3]
      exact ⟨_, rfl, hf.tr h_118.2, h_118.1, fun _ => rfl⟩
    · refine A_aload0 dX3_takeNumber_101 ?_
      refine A_getR gf_X3_9 rfl dX3_takeNumber_102 ?_
      refine A_iconst (v := 4) dX3_takeNumber_105 (by decide) ?_
      refine A_iload4 dX3_takeNumber_106 ?_
      refine A_vv2 lk_X3_88 yv_X9_fail dX3_takeNumber_108 (rfl) (rfl) (T_X9_fail) (by decide) (Nat.le_of_ble_eq_true rfl) (fun μ_108 h_108 => ?_)
      refine A_goto (tgt := 121) dX3_takeNumber_111 (by decide) ?_
      refine A_iload6 dX3_takeNumber_121 ?_
      refine A_iret dX3_takeNumber_123 ?_
      have e3 := e1 (Or.inr (Int32.not_le.mp c_98))
      rw [e3]
      refine ⟨_, rfl, ?_, ?_, fun _ => rfl⟩
      · rw [h_108]; exact hf.fl
      · rw [h_108]; exact h.fl h0 (by decide)
set_option maxHeartbeats 400000 in
set_option maxRecDepth 100000 in
theorem L_X3_tn_44 {l : Launch} {G : Wd} {m1 μ M : Mem} {a b zz w g : Int32} (hS : okS G) (h : TS G m1 μ) (hf : F4 M μ) : AW l G KC RX3 cX3_takeNumber 7 7 (some .int) (Qi (fun v μ' => F4 M μ' ∧ TS G (tnR m1 g w a b).2 μ' ∧ ((tnR m1 g w a b).2.1 0 2 = 0 → v = (tnR m1 g w a b).1))) 44 [some (.ref (gA G 24)), some (.int a), some (.int b), some (.int zz), some (.int w), some (.int g), none] [] μ := by
  refine A_aload0 dX3_takeNumber_44 ?_
  refine A_getR gf_X3_9 rfl dX3_takeNumber_45 ?_
  refine A_getI gf_X3_24 rfl dX3_takeNumber_48 ?_
  refine A_iconst (v := 2) dX3_takeNumber_51 (by decide) ?_
  refine A_icmp_eq (tgt := 64) dX3_takeNumber_52 (by decide) (fun c_52 => ?_) (fun c_52 => ?_)
  · have h0 : m1.1 0 2 = 0 := h.no (by rw [c_52]; decide)
    have h2 : m1.1 0 6 = 2 := (h.kr h0).k2.mpr c_52
    have hvv := (h.kr h0).v c_52
    refine A_iload5 dX3_takeNumber_64 ?_
    refine A_if_eq (tgt := 80) dX3_takeNumber_66 (by decide) (fun c_66 => ?_) (fun c_66 => ?_)
    · refine A_aload0 dX3_takeNumber_80 ?_
      refine A_getR gf_X3_9 rfl dX3_takeNumber_81 ?_
      refine A_getI gf_X3_85 rfl dX3_takeNumber_84 ?_
      refine A_istore6 dX3_takeNumber_87 rfl (by decide) ?_
      exact L_X3_tn_89 hS h hf h0 h2 ((hvv).trans (if_pos c_66).symm)
    · refine A_aload0 dX3_takeNumber_69 ?_
      refine A_getR gf_X3_9 rfl dX3_takeNumber_70 ?_
      refine A_getI gf_X3_85 rfl dX3_takeNumber_73 ?_
      refine A_ineg dX3_takeNumber_76 ?_
      refine A_goto (tgt := 87) dX3_takeNumber_77 (by decide) ?_
      refine A_istore6 dX3_takeNumber_87 rfl (by decide) ?_
      exact L_X3_tn_89 hS h hf h0 h2 ((congrArg (fun y => -y) hvv).trans (if_neg c_66).symm)
  · refine A_aload0 dX3_takeNumber_55 ?_
    refine A_getR gf_X3_9 rfl dX3_takeNumber_56 ?_
    refine A_vv0 lk_X3_47 yv_X9_refuse dX3_takeNumber_59 (rfl) (rfl) (T_refuse h) (by decide) (Nat.le_of_ble_eq_true rfl) (fun μ_59 h_59 => ?_)
    refine A_iload1 dX3_takeNumber_62 ?_
    refine A_iret dX3_takeNumber_63 ?_
    have hR : (tnR m1 g w a b).2 = sp_spoil m1 2 ∧ ¬ (tnR m1 g w a b).2.1 0 2 = 0 := by
      unfold tnR
      by_cases h0 : 0 < m1.1 0 2
      · rw [if_pos h0]; exact ⟨(if_pos h0).symm, ps_0 h0⟩
      · have h00 : m1.1 0 2 = 0 := Fg.z h.f0 (Int32.not_lt.mp h0)
        rw [if_neg h0, if_neg (fun y => c_52 ((h.kr h00).k2.mp y))]
        exact ⟨rfl, ps_0 (sp_spoil_2 (by decide))⟩
    refine ⟨_, rfl, hf.tr h_59.2, ?_, fun y => absurd y hR.2⟩
    rw [hR.1]
    exact h_59.1
theorem rng_0 {m : Mem} {z a b : Int32} (h : z = 0) : rng z m a b = sp_told m a b := if_pos h
theorem rng_1 {m : Mem} {z a b : Int32} (h : ¬ z = 0) : rng z m a b = sp_signed m a b := if_neg h
theorem sgM_1 {m : Mem} (h : m.1 0 6 = 45) : sgM m = tkn m := if_pos h
theorem sgM_0 {m : Mem} (h : ¬ m.1 0 6 = 45) : sgM m = m := if_neg h
set_option maxHeartbeats 400000 in
set_option maxRecDepth 100000 in
theorem L_X3_tn_30 {l : Launch} {G : Wd} {m μ : Mem} {a b z g : Int32} (hS : okS G) (h : TS G m μ) (hg : (g = 1 ∧ ¬ z = 0 ∧ μ.1 2 5 = 45) ∨ (g = 0 ∧ (z = 0 ∨ ¬ μ.1 2 5 = 45))) : AW l G KC RX3 cX3_takeNumber 7 7 (some .int) (Qi (fun v μ' => F4 μ μ' ∧ TS G (rng z m a b).2 μ' ∧ ((rng z m a b).2.1 0 2 = 0 → v = (rng z m a b).1))) 30 [some (.ref (gA G 24)), some (.int a), some (.int b), some (.int z), some (.int (μ.1 2 6)), none, none] [.int g] μ := by
  have hgo : ∀ (m1 μ1 : Mem), TS G m1 μ1 → F4 μ μ1 → (rng z m a b).2 = (tnR m1 g (μ.1 2 6) a b).2 → ((rng z m a b).2.1 0 2 = 0 → (rng z m a b).1 = (tnR m1 g (μ.1 2 6) a b).1) → AW l G KC RX3 cX3_takeNumber 7 7 (some .int) (Qi (fun v μ' => F4 μ μ' ∧ TS G (rng z m a b).2 μ' ∧ ((rng z m a b).2.1 0 2 = 0 → v = (rng z m a b).1))) 44 [some (.ref (gA G 24)), some (.int a), some (.int b), some (.int z), some (.int (μ.1 2 6)), some (.int g), none] [] μ1 := by
    intro m1 μ1 t1 f1 e1 e2
    have hb := L_X3_tn_44 (l := l) (a := a) (b := b) (zz := z) (w := μ.1 2 6) (g := g) hS t1 f1
    refine hb.mono (fun r mm q => ?_)
    obtain ⟨v, q1, q2, q3, q4⟩ := q
    exact ⟨v, q1, q2, by rw [e1]; exact q3, fun y => (q4 (by rw [← e1]; exact y)).trans (e2 y).symm⟩
  refine A_istore5 dX3_takeNumber_30 rfl (by decide) ?_
  refine A_iload5 dX3_takeNumber_32 ?_
  refine A_if_eq (tgt := 44) dX3_takeNumber_34 (by decide) (fun c_34 => ?_) (fun c_34 => ?_)
  · have hg0 : z = 0 ∨ ¬ μ.1 2 5 = 45 := hg.elim (fun y => absurd (y.1.symm.trans c_34) (by decide)) (fun y => y.2)
    refine hgo m μ h F4.rf ?_ ?_
    · by_cases hz : z = 0
      · rw [rng_0 hz, c_34]
        by_cases h0 : m.1 0 2 = 0
        · rw [h.pl h0]; exact (told_e m a b h.f0).1
        · rw [show sp_told m a b = _ from if_pos (h.en h0).2, show tnR m 0 (μ.1 2 6) a b = _ from if_pos (h.en h0).2]
      · rw [rng_1 hz, c_34]
        by_cases h0 : m.1 0 2 = 0
        · have h45 : ¬ m.1 0 6 = 45 := fun y => hg0.elim hz (fun w => w (((h.kr h0).sg (by decide)).mp y))
          rw [signed_e m a b h0, if_neg h45, sgM_0 h45, h.pl h0]
        · rw [signed_1 m a b (h.en h0).2]
          rw [show tnR m 0 (μ.1 2 6) a b = _ from if_pos (h.en h0).2]
    · intro y
      by_cases hz : z = 0
      · rw [rng_0 hz] at y ⊢
        have h0 : m.1 0 2 = 0 := (told_F0 y).1
        rw [c_34, h.pl h0]
        exact (told_e m a b h.f0).2 y
      · rw [rng_1 hz] at y ⊢
        have h0 : m.1 0 2 = 0 := (signed_F0 y).1
        have h45 : ¬ m.1 0 6 = 45 := fun y => hg0.elim hz (fun w => w (((h.kr h0).sg (by decide)).mp y))
        rw [signed_e m a b h0, if_neg h45, sgM_0 h45, h.pl h0, c_34]
  · have hg1 : ¬ z = 0 ∧ μ.1 2 5 = 45 := hg.elim (fun y => y.2) (fun y => absurd y.1 c_34)
    have h0 : m.1 0 2 = 0 := h.no (by rw [hg1.2]; decide)
    have h45 : m.1 0 6 = 45 := ((h.kr h0).sg (by decide)).mpr hg1.2
    refine A_aload0 dX3_takeNumber_37 ?_
    refine A_getR gf_X3_9 rfl dX3_takeNumber_38 ?_
    refine A_vv0 lk_X3_50 yv_X9_step dX3_takeNumber_41 (rfl) (rfl) (T_step hS h h0 (by rw [h45]; decide)) (by decide) (Nat.le_of_ble_eq_true rfl) (fun μ_41 h_41 => ?_)
    have eg : g = 1 := hg.elim (fun y => y.1) (fun y => absurd y.1 c_34)
    have e5 : rng z m a b = tnR (tkn m) g (μ.1 2 6) a b := by
      rw [rng_1 hg1.1, signed_e m a b h0, if_pos h45, sgM_1 h45, h.pl h0, eg]
    exact hgo (tkn m) μ_41 h_41.1 h_41.2 (by rw [e5]) (fun _ => by rw [e5])
set_option maxHeartbeats 100000 in
set_option maxRecDepth 100000 in
theorem T_X3_takeNumber {l : Launch} {G : Wd} {m μ : Mem} {a b z : Int32} (hS : okS G) (h : TS G m μ) : Mt l G KC yX3_takeNumber cX3_takeNumber 7 (some .int) 7 [.ref (gA G 24), .int a, .int b, .int z] μ (Qi (fun v μ' => F4 μ μ' ∧ TS G (rng z m a b).2 μ' ∧ ((rng z m a b).2.1 0 2 = 0 → v = (rng z m a b).1))) := by
  refine Mt.of (own := RX3) (n := 3) (by decide) rfl [some (.ref (gA G 24)), some (.int a), some (.int b), some (.int z), none, none, none] rfl (Nat.le_of_ble_eq_true rfl) ?_
  refine A_aload0 dX3_takeNumber_0 ?_
  refine A_getR gf_X3_9 rfl dX3_takeNumber_1 ?_
  refine A_getI gf_X3_82 rfl dX3_takeNumber_4 ?_
  refine A_istore4 dX3_takeNumber_7 rfl (by decide) ?_
  refine A_iload3 dX3_takeNumber_9 ?_
  refine A_if_eq (tgt := 29) dX3_takeNumber_10 (by decide) (fun c_10 => ?_) (fun c_10 => ?_)
  · refine A_iconst (v := 0) dX3_takeNumber_29 (by decide) ?_
    exact L_X3_tn_30 hS h (Or.inr ⟨rfl, Or.inl c_10⟩)
  · refine A_aload0 dX3_takeNumber_13 ?_
    refine A_getR gf_X3_9 rfl dX3_takeNumber_14 ?_
    refine A_getI gf_X3_24 rfl dX3_takeNumber_17 ?_
    refine A_bipush (v := 45) dX3_takeNumber_20 (by decide) ?_
    refine A_icmp_ne (tgt := 29) dX3_takeNumber_22 (by decide) (fun c_22 => ?_) (fun c_22 => ?_)
    · refine A_iconst (v := 0) dX3_takeNumber_29 (by decide) ?_
      exact L_X3_tn_30 hS h (Or.inr ⟨rfl, Or.inr c_22⟩)
    · refine A_iconst (v := 1) dX3_takeNumber_25 (by decide) ?_
      refine A_goto (tgt := 30) dX3_takeNumber_26 (by decide) ?_
      exact L_X3_tn_30 hS h (Or.inl ⟨rfl, c_10, c_22⟩)

/-! a step of a rule -/
theorem hold_r {m : Mem} {a : Int32} {w : Nat} (h : m.1 0 74 = nI w) (h6 : w < 600) : (sp_hold m a).1 0 74 = nI (w + 1) ∧ (sp_hold m a).1 46 w = a ∧ (∀ i j, ¬ (i = 0 ∧ (j = 74 ∨ j = 75)) → ¬ (i = 46 ∧ j = w) → (sp_hold m a).1 i j = m.1 i j) ∧ (sp_hold m a).2 = m.2 := by
  have e := wtN_e h (by omega)
  unfold sp_hold hdA
  rw [e]
  split
  · refine ⟨?_, ?_, fun i j h1 h2 => ?_, rfl⟩
    · rw [wI_ne (by omega), wI_same]
    · rw [wI_ne (by omega), wI_ne (by omega), wI_same]
    · rw [wI_ne (by omega), wI_ne (by omega), wI_ne (by omega)]
  · refine ⟨?_, ?_, fun i j h1 h2 => ?_, rfl⟩
    · rw [wI_same]
    · rw [wI_ne (by omega), wI_same]
    · rw [wI_ne (by omega), wI_ne (by omega)]
theorem note_r {m : Mem} {a b : Int32} {n : Nat} (h : m.1 0 70 = nI n) (h6 : n < 600) : (sp_note m a b).1 0 70 = nI (n + 1) ∧ (sp_note m a b).1 40 n = a ∧ (sp_note m a b).1 41 n = b ∧ (∀ i j, ¬ (i = 0 ∧ j = 70) → ¬ (i = 40 ∧ j = n) → ¬ (i = 41 ∧ j = n) → (sp_note m a b).1 i j = m.1 i j) ∧ (sp_note m a b).2 = m.2 := by
  have e := ntN_e h (by omega)
  unfold sp_note
  rw [e]
  refine ⟨wI_same, ?_, ?_, fun i j h1 h2 h3 => ?_, rfl⟩
  · rw [wI_ne (by omega), wI_ne (by omega), wI_same]
  · rw [wI_ne (by omega), wI_same]
  · rw [wI_ne (by omega), wI_ne (by omega), wI_ne (by omega)]
def Rq (β : Nat) (m m' : Mem) : Prop := (∀ i j, ¬ rdK i j → i ≠ 46 → ¬ (i = 0 ∧ (j = 70 ∨ j = 73 ∨ j = 74 ∨ j = 75)) → ((i = 40 ∨ i = 41) → j < β) → m'.1 i j = m.1 i j) ∧ (∀ i j, ¬ (i = 0 ∧ j = 9) → m'.2.1 i j = m.2.1 i j) ∧ m'.2.2 = m.2.2
theorem Rq.rf {β : Nat} {m : Mem} : Rq β m m := ⟨fun _ _ _ _ _ _ => rfl, fun _ _ _ => rfl, rfl⟩
theorem Rq.tr {β : Nat} {a b c : Mem} (h : Rq β a b) (g : Rq β b c) : Rq β a c := ⟨fun i j q q1 q2 q3 => (g.1 i j q q1 q2 q3).trans (h.1 i j q q1 q2 q3), fun i j q => (g.2.1 i j q).trans (h.2.1 i j q), g.2.2.trans h.2.2⟩
theorem Rq.r {β : Nat} {a b c : Mem} (h : Rq β a b) (g : Rd b c) : Rq β a c := h.tr ⟨fun i j q _ _ _ => g.1 i j q, g.2.1, g.2.2⟩
theorem Rq.hold {β w : Nat} {a m : Mem} {v : Int32} (g : Rq β a m) (h : m.1 0 74 = nI w) (h6 : w < 600) : Rq β a (sp_hold m v) := by
  obtain ⟨-, -, h3, h4⟩ := hold_r (a := v) h h6
  exact g.tr ⟨fun i j q q1 q2 q3 => h3 i j (by omega) (by omega), fun i j _ => by rw [h4], by rw [h4]⟩
theorem Rq.note {β n : Nat} {a m : Mem} {v z : Int32} (g : Rq β a m) (h : m.1 0 70 = nI n) (h6 : n < 600) (hb : β ≤ n) : Rq β a (sp_note m v z) := by
  obtain ⟨-, -, -, h3, h4⟩ := note_r (a := v) (b := z) h h6
  exact g.tr ⟨fun i j q q1 q2 q3 => h3 i j (by omega) (by omega) (by omega), fun i j _ => by rw [h4], by rw [h4]⟩
theorem Rq.stl {β w n w' : Nat} {a m R : Mem} {v : Int32} (g : Rq β a m) (h : Stl v w n m R w') (hb : β ≤ n) : Rq β a R := by
  obtain ⟨-, -, -, h4, h5, h6, -⟩ := h
  refine g.tr ⟨fun i j q q1 q2 q3 => ?_, fun i j _ => by rw [h4], by rw [h4]⟩
  by_cases e : i = 40 ∨ i = 41
  · have := q3 e
    obtain ⟨z1, z2⟩ := h6 j (by omega)
    rcases e with rfl | rfl
    · exact z1
    · exact z2
  · exact h5 i j (by omega) (by omega) (by omega)
theorem Rq.B {β : Nat} {a m : Mem} (g : Rq β a m) : Rq β a (opB m) := g.tr ⟨fun i j q q1 q2 q3 => wI_ne (by omega), fun _ _ _ => rfl, rfl⟩
def RuI (β : Nat) (x : Int32) (m : Mem) : Prop := TkI m ∧ szN m ≤ 500 ∧ WFb m ∧ m.1 0 2 = 0 ∧ (x = 0 ∨ x = 1 ∨ x = 2) ∧ ∃ n w u : Nat, m.1 0 70 = nI n ∧ m.1 0 74 = nI w ∧ m.1 0 73 = nI u ∧ n + w ≤ plN m ∧ SI β n w u (if x = 2 then 1 else 0) m
theorem named_5 {m : Mem} (hb : WFb m) (h : ¬ sp_named m < 0) : ∃ j : Nat, j < 5 ∧ sp_named m = nI j := by
  unfold sp_named at h ⊢
  rcases bxO_c (m.2.1 3) (m.2.1 0 9) (nbx m) with e | ⟨j, j1, j2, -⟩
  · rw [e] at h; exact absurd (by decide) h
  · exact ⟨j, by have := hb.t.1; omega, j2⟩
theorem isWd_v {m : Mem} {w : Int64} (h : isWd m w) : ¬ m.1 0 6 = 0 ∧ ¬ m.1 0 6 = 3 := by rw [h.1]; decide
theorem WFb.of {m m' : Mem} (h : WFb m) (e : m'.1 0 31 = m.1 0 31) : WFb m' := by
  obtain ⟨t, h1, h2⟩ := h
  exact ⟨t, h1, e.trans h2⟩
/-- the next token behind a state that has only gone on in its notes -/
theorem RuI.next {β : Nat} {x : Int32} {m : Mem} {n w u : Nat} (h : TkI m) (hs : szN m ≤ 500) (hb : WFb m) (h0 : m.1 0 2 = 0) (hx : x = 0 ∨ x = 1 ∨ x = 2) (h1 : m.1 0 70 = nI n) (h2 : m.1 0 74 = nI w) (h3 : m.1 0 73 = nI u) (hp : n + w ≤ plN m + 1) (hv : plN m < atN m) (hS : SI β n w u (if x = 2 then 1 else 0) m) : RuI β x (tkn m) ∧ plN m < plN (tkn m) := by
  obtain ⟨t1, t2, t3⟩ := h.n
  have r := (Rd.rf (μ := m)).tk
  refine ⟨⟨t1, by omega, r.b hb, (tkn_2 m).trans h0, hx, n, w, u, (r.1 0 70 (by decide)).trans h1, (r.1 0 74 (by decide)).trans h2, (r.1 0 73 (by decide)).trans h3, by omega, ?_⟩, by omega⟩
  exact hS.of (fun j _ => r.1 40 j (by unfold rdK; omega)) (fun j _ => r.1 41 j (by unfold rdK; omega)) (fun j _ => r.1 46 j (by unfold rdK; omega))
theorem TkI.hold {m : Mem} {a : Int32} {w : Nat} (h : TkI m) (h1 : m.1 0 74 = nI w) (h6 : w < 600) : TkI (sp_hold m a) ∧ plN (sp_hold m a) = plN m ∧ atN (sp_hold m a) = atN m ∧ szN (sp_hold m a) = szN m := by
  obtain ⟨-, -, q, -⟩ := hold_r (a := a) h1 h6
  exact h.of (funext fun j => q 1 j (by omega) (by omega)) (q 0 4 (by omega) (by omega)) (q 0 5 (by omega) (by omega)) (q 0 6 (by omega) (by omega)) (q 0 7 (by omega) (by omega))
theorem TkI.note {m : Mem} {a b : Int32} {n : Nat} (h : TkI m) (h1 : m.1 0 70 = nI n) (h6 : n < 600) : TkI (sp_note m a b) ∧ plN (sp_note m a b) = plN m ∧ atN (sp_note m a b) = atN m ∧ szN (sp_note m a b) = szN m := by
  obtain ⟨-, -, -, q, -⟩ := note_r (a := a) (b := b) h1 h6
  exact h.of (funext fun j => q 1 j (by omega) (by omega) (by omega)) (q 0 4 (by omega) (by omega) (by omega)) (q 0 5 (by omega) (by omega) (by omega)) (q 0 6 (by omega) (by omega) (by omega)) (q 0 7 (by omega) (by omega) (by omega))
theorem TkI.B {m : Mem} (h : TkI m) : TkI (opB m) ∧ plN (opB m) = plN m ∧ atN (opB m) = atN m ∧ szN (opB m) = szN m := h.of (wI_row (by decide)) (opB_o (by decide)) (opB_o (by decide)) (opB_o (by decide)) (opB_o (by decide))
theorem TkI.stl {v : Int32} {w n w' : Nat} {m R : Mem} (t : TkI m) (h : Stl v w n m R w') : TkI R ∧ plN R = plN m ∧ atN R = atN m ∧ szN R = szN m := by
  obtain ⟨-, -, -, -, q, -⟩ := h
  exact t.of (funext fun j => q 1 j (by omega) (by omega) (by omega)) (q 0 4 (by omega) (by omega) (by omega)) (q 0 5 (by omega) (by omega) (by omega)) (q 0 6 (by omega) (by omega) (by omega)) (q 0 7 (by omega) (by omega) (by omega))
def RuS (β : Nat) (m : Mem) (r : Int32 × Mem) : Prop := 0 ≤ r.2.1 0 2 ∧ Rq β m r.2 ∧ (r.2.1 0 2 = 0 → RuI β r.1 r.2 ∧ plN m < plN r.2)
theorem RuS.mk {β : Nat} {m M : Mem} {x : Int32} (h1 : 0 ≤ M.1 0 2) (h2 : Rq β m M) (h3 : M.1 0 2 = 0 → RuI β x M ∧ plN m < plN M) : RuS β m (x, M) := ⟨h1, h2, h3⟩
theorem hlT_0 {m : Mem} (h : m.1 0 2 = 0) : hlT m = tkn m := if_pos h
theorem hlT_1 {m : Mem} (h : ¬ m.1 0 2 = 0) : hlT m = m := if_neg h
theorem Rd.hT {m : Mem} : Rd m (hlT m) := by
  unfold hlT
  split
  · exact Rd.rf.tk
  · exact Rd.rf
theorem Fg.hT {m : Mem} (h : 0 ≤ m.1 0 2) : 0 ≤ (hlT m).1 0 2 := by
  unfold hlT
  split
  · exact Fg.tk h
  · exact h
theorem hlT_2 {m : Mem} : (hlT m).1 0 2 = m.1 0 2 := by
  unfold hlT
  split
  · exact tkn_2 m
  · rfl
theorem Rd.oA {x : Int32} {m : Mem} : Rd m (opA x m) := by
  unfold opA
  split
  · exact Rd.rf.sp
  · split
    · exact Rd.rf.sp
    · exact Rd.rf
set_option maxHeartbeats 400000 in
theorem operand_s {β : Nat} {x : Int32} {m : Mem} (h : RuI β x m) (hx : ¬ x = 2) : RuS β m (sp_operand x m) := by
  obtain ⟨t, hs, hb, h0, hx3, n, w, u, h1, h2, h3, hp, hS⟩ := h
  have hp5 : plN m ≤ 500 := by have := t.2.2.2.2.1; omega
  rw [if_neg hx] at hS
  have hu6 := hS.2.2.2.2.2
  have hbn := hS.1
  unfold sp_operand
  split
  · rename_i q
    exact ⟨Int32.le_of_lt q, Rq.rf.r Rd.oA, fun z => absurd z (ps_0 q)⟩
  · rename_i q
    obtain ⟨-, qE, qn⟩ := opA_0 (Int32.not_lt.mp q)
    split
    · rename_i qN
      have hv := t.2.2.2.2.2 (isWd_v qN.2).1 (isWd_v qN.2).2
      obtain ⟨k1, k2, k3, k4⟩ := hold_r (a := 22) h2 (by omega)
      obtain ⟨t1, t2, t3, t4⟩ := t.hold (a := 22) h2 (by omega)
      have hf : (sp_hold m 22).1 0 2 = 0 := (k3 0 2 (by omega) (by omega)).trans h0
      have hn := RuI.next (β := β) (x := 0) (n := n) (w := w + 1) (u := u) t1 (by omega) (hb.of (k3 0 31 (by omega) (by omega))) hf (Or.inl rfl) ((k3 0 70 (by omega) (by omega)).trans h1) k1 ((k3 0 73 (by omega) (by omega)).trans h3) (by omega) (by omega) (hS.hold (a := 22) (fun j _ => k3 40 j (by omega) (by omega)) (fun j _ => k3 41 j (by omega) (by omega)) (fun j _ => k3 46 j (by omega) (by omega)) k2 (by decide) u 0 (by omega) (by decide))
      have hR : Rq β m (sp_hold m 22) := Rq.rf.hold h2 (by omega)
      have hT : Rd (sp_hold m 22) (tkn (sp_hold m 22)) := Rd.rf.tk
      refine RuS.mk ?_ (hR.r hT) (fun _ => ⟨hn.1, ?_⟩)
      · rw [tkn_2, hf]; decide
      · have := hn.2; omega
    · rename_i qN
      have hU : opU m := Decidable.not_not.mp (fun z => qE (Or.inl ⟨qN, z⟩))
      have hu : u < 60 := by
        rcases Nat.lt_or_ge u 60 with z | z
        · exact z
        · have : u = 60 := by omega
          exact absurd (Or.inr (Or.inl ⟨hU, by rw [h3, this]; rfl⟩)) qE
      have hv : plN m < atN m := by
        rcases hU with z | z | z | z | z
        · exact t.2.2.2.2.2 (by rw [z]; decide) (by rw [z]; decide)
        · exact t.2.2.2.2.2 (by rw [z]; decide) (by rw [z]; decide)
        · exact t.2.2.2.2.2 (by rw [z.1]; decide) (by rw [z.1]; decide)
        · exact t.2.2.2.2.2 (isWd_v z).1 (isWd_v z).2
        · exact t.2.2.2.2.2 (isWd_v z).1 (isWd_v z).2
      obtain ⟨b1, b2, b3, b4⟩ := t.B
      have B0 : ∀ j, ¬ j = 73 → (opB m).1 0 j = m.1 0 j := fun j hj => opB_o hj
      have Bi : ∀ i j, i ≠ 0 → (opB m).1 i j = m.1 i j := fun i j hi => wI_ne (Or.inl hi)
      have Bu : (opB m).1 0 73 = nI (u + 1) := by show (wI m 0 73 (m.1 0 73 + 1)).1 0 73 = _; rw [wI_same, h3, nI_1]
      have SB : ∀ j, SI β n w u j m → SI β n w u j (opB m) := fun j hj => hj.of (fun j _ => Bi 40 j (by decide)) (fun j _ => Bi 41 j (by decide)) (fun j _ => Bi 46 j (by decide))
      have hB0 : (opB m).1 0 2 = 0 := (B0 2 (by decide)).trans h0
      have hbB : WFb (opB m) := hb.of (B0 31 (by decide))
      have nB := (B0 70 (by decide)).trans h1
      have wB := (B0 74 (by decide)).trans h2
      have sB := SB 0 hS
      unfold opR
      split
      · obtain ⟨k1, k2, k3, k4⟩ := hold_r (a := 30) wB (by omega)
        obtain ⟨t1, t2, t3, t4⟩ := b1.hold (a := 30) wB (by omega)
        have hf : (sp_hold (opB m) 30).1 0 2 = 0 := (k3 0 2 (by omega) (by omega)).trans hB0
        have hn := RuI.next (β := β) (x := 0) (n := n) (w := w + 1) (u := u + 1) t1 (by omega) (hbB.of (k3 0 31 (by omega) (by omega))) hf (Or.inl rfl) ((k3 0 70 (by omega) (by omega)).trans nB) k1 ((k3 0 73 (by omega) (by omega)).trans Bu) (by omega) (by omega) (sB.hold (a := 30) (fun j _ => k3 40 j (by omega) (by omega)) (fun j _ => k3 41 j (by omega) (by omega)) (fun j _ => k3 46 j (by omega) (by omega)) k2 (by decide) (u + 1) 0 (by omega) (by decide))
        have hR : Rq β m (sp_hold (opB m) 30) := Rq.rf.B.hold wB (by omega)
        have hT : Rd (sp_hold (opB m) 30) (tkn (sp_hold (opB m) 30)) := Rd.rf.tk
        refine RuS.mk ?_ (hR.r hT) (fun _ => ⟨hn.1, ?_⟩)
        · rw [tkn_2, hf]; decide
        · have := hn.2; omega
      · -- a note: from a state M with the same notes
        have key : ∀ (M : Mem) (a b : Int32), TkI M → szN M = szN m → plN m ≤ plN M → plN M < atN M → WFb M → M.1 0 2 = 0 → M.1 0 70 = nI n → M.1 0 74 = nI w → M.1 0 73 = nI (u + 1) → SI β n w u 0 M → (a = 0 ∨ a = 1 ∨ a = 2 ∨ a = 3) → ((a = 1 ∨ a = 2) → ∃ x : Nat, x < 5 ∧ b = nI x) → RuI β 2 (tkn (sp_note M a b)) ∧ plN m < plN (tkn (sp_note M a b)) := by
          intro M a b c1 c2 c3 c4 c5 c6 c7 c8 c9 c10 c11 c12
          obtain ⟨k1, k2, k3, k4, k5⟩ := note_r (a := a) (b := b) c7 (by omega)
          obtain ⟨t1, t2, t3, t4⟩ := c1.note (a := a) (b := b) c7 (by omega)
          have hd := c10.2.2.2.1
          have hd2 := c10.2.2.2.2.1
          rw [hd] at hd2
          have hn := RuI.next (β := β) (x := 2) (n := n + 1) (w := w) (u := u + 1) t1 (by omega) (c5.of (k4 0 31 (by omega) (by omega) (by omega))) ((k4 0 2 (by omega) (by omega) (by omega)).trans c6) (Or.inr (Or.inr rfl)) k1 ((k4 0 74 (by omega) (by omega) (by omega)).trans c8) ((k4 0 73 (by omega) (by omega) (by omega)).trans c9) (by omega) (by omega)
            (c10.note (a := a) (b := b) (fun j hj => k4 40 j (by omega) (by omega) (by omega)) (fun j hj => k4 41 j (by omega) (by omega) (by omega)) k2 k3 (u + 1) w 1 (fun j _ => k4 46 j (by omega) (by omega) (by omega)) (Nat.le_refl _) (by omega) (Or.inl ⟨by rcases c11 with z | z | z | z <;> (rw [z]; decide), c11, c12, by omega, by omega⟩))
          exact ⟨hn.1, by have := hn.2; omega⟩
        have fin : ∀ (M : Mem) (a b : Int32), Rq β m M → M.1 0 70 = nI n → 0 ≤ M.1 0 2 → (M.1 0 2 = 0 → RuI β 2 (tkn (sp_note M a b)) ∧ plN m < plN (tkn (sp_note M a b))) → RuS β m (2, hlT (sp_note M a b)) := by
          intro M a b c1 c2 c3 c4
          obtain ⟨k1, k2, k3, k4, k5⟩ := note_r (a := a) (b := b) c2 (by omega)
          have ef : (sp_note M a b).1 0 2 = M.1 0 2 := k4 0 2 (by omega) (by omega) (by omega)
          have hR : Rq β m (sp_note M a b) := c1.note c2 (by omega) hbn
          have hT : Rd (sp_note M a b) (hlT (sp_note M a b)) := Rd.hT
          refine RuS.mk (Fg.hT (by rw [ef]; exact c3)) (hR.r hT) (fun z1 => ?_)
          rw [hlT_2] at z1
          have e := hlT_0 z1
          rw [e]
          exact c4 (ef.symm.trans z1)
        unfold opC
        split
        · rename_i qL
          have hvB : plN (opB m) < atN (opB m) := by omega
          obtain ⟨t1, t2, t3⟩ := b1.n
          have r := (Rd.rf (μ := opB m)).tk
          unfold opL
          have Kn : (opK (tkn (opB m))).1 0 70 = nI n := (Rd.oK.1 0 70 (by decide)).trans ((r.1 0 70 (by decide)).trans nB)
          have Kf : 0 ≤ (opK (tkn (opB m))).1 0 2 := by
            unfold opK
            split
            · split
              · exact Fg.sp (by decide)
              · rw [tkn_2, hB0]; decide
            · exact Fg.sp (by decide)
          have hR0 : Rq β m (opB m) := Rq.rf.B
          have hR1 : Rd (tkn (opB m)) (opK (tkn (opB m))) := Rd.oK
          refine fin _ _ _ ((hR0.r r).r hR1) Kn Kf (fun z => ?_)
          have e : opK (tkn (opB m)) = tkn (opB m) ∧ isNm (tkn (opB m)) ∧ ¬ sp_named (tkn (opB m)) < 0 := by
            unfold opK at z ⊢
            split at z
            · rename_i y1
              split at z
              · exact absurd z (ps_0 (sp_spoil_2 (by decide)))
              · rename_i y2
                rw [if_pos y1, if_neg y2]
                exact ⟨rfl, y1, y2⟩
            · exact absurd z (ps_0 (sp_spoil_2 (by decide)))
          obtain ⟨e1, e2, e3⟩ := e
          rw [e1]
          have hbT := r.b hbB
          exact key _ 2 _ t1 (by omega) (by omega) (t1.2.2.2.2.2 (by rw [e2.1]; decide) (by rw [e2.1]; decide)) hbT ((tkn_2 _).trans hB0) ((r.1 0 70 (by decide)).trans nB) ((r.1 0 74 (by decide)).trans wB) ((r.1 0 73 (by decide)).trans Bu) (sB.of (fun j _ => r.1 40 j (by unfold rdK; omega)) (fun j _ => r.1 41 j (by unfold rdK; omega)) (fun j _ => r.1 46 j (by unfold rdK; omega))) (by decide) (fun _ => named_5 hbT e3)
        · refine fin _ _ _ Rq.rf.B nB (by rw [hB0]; decide) (fun _ => key _ _ _ b1 (by omega) (by omega) (by omega) hbB hB0 nB wB Bu sB ?_ ?_)
          · split
            · decide
            · split <;> decide
          · intro z
            split
            · rename_i y
              refine named_5 hbB (fun y2 => qn ⟨y, ?_⟩)
              have e5 : sp_named (opB m) = sp_named m := by
                unfold sp_named nbx
                rw [B0 31 (by decide)]
                rfl
              rw [← e5]
              exact y2
            · rename_i y
              rw [if_neg y] at z
              split at z
              · exact absurd z (by decide)
              · exact absurd z (by decide)
theorem opQ_no {U : Nat → Int32} : ∀ w, (∀ j, j < w → ¬ U j = 30) → opQ U w = 0 := by
  intro w
  induction w with
  | zero => intro _; rfl
  | succ w ih =>
    intro h
    unfold opQ
    rw [if_neg (fun z => by rcases z with z | z; exact z (ih (fun j hj => h j (by omega))); exact h w (by omega) z)]
theorem Fg.sF {m : Mem} (h : 0 ≤ m.1 0 2) : 0 ≤ (sgF m).1 0 2 := by
  unfold sgF
  split
  · exact Fg.sp (by decide)
  · exact h
theorem sgF_0 {m : Mem} (h : (sgF m).1 0 2 = 0) : sgF m = m ∧ ¬ rkO (sp_upper m) = 23 := by
  unfold sgF at h ⊢
  split at h
  · exact absurd h (ps_0 (sp_spoil_2 (by decide)))
  · rename_i q; rw [if_neg q]; exact ⟨rfl, q⟩
set_option maxHeartbeats 400000 in
theorem sgW_v {m : Mem} (h : ¬ sgW m < 0) : (okW (sgW m) ∧ ¬ sgW m = 22 ∧ ¬ sgW m = 30) ∧ ¬ m.1 0 6 = 0 ∧ ¬ m.1 0 6 = 3 := by
  unfold sgW at h ⊢
  split
  · rename_i q; exact ⟨by decide, by rw [q]; decide, by rw [q]; decide⟩
  · split
    · rename_i q; exact ⟨by decide, by rw [q]; decide, by rw [q]; decide⟩
    · split
      · rename_i q; exact ⟨by decide, by rw [q]; decide, by rw [q]; decide⟩
      · split
        · rename_i q; exact ⟨by decide, by rw [q]; decide, by rw [q]; decide⟩
        · split
          · rename_i q; exact ⟨by decide, by rw [q]; decide, by rw [q]; decide⟩
          · split
            · rename_i q; exact ⟨by decide, by rw [q]; decide, by rw [q]; decide⟩
            · split
              · rename_i q; exact ⟨by decide, (isWd_v q).1, (isWd_v q).2⟩
              · split
                · rename_i q; exact ⟨by decide, (isWd_v q).1, (isWd_v q).2⟩
                · rename_i q1 q2 q3 q4 q5 q6 q7 q8
                  rw [if_neg q1, if_neg q2, if_neg q3, if_neg q4, if_neg q5, if_neg q6, if_neg q7, if_neg q8] at h
                  exact absurd (by decide) h
set_option maxHeartbeats 400000 in
theorem sign_s {β : Nat} {m : Mem} (h : RuI β 2 m) : RuS β m (sp_sign m) := by
  obtain ⟨t, hs, hb, h0, hx3, n, w, u, h1, h2, h3, hp, hS⟩ := h
  have hp5 : plN m ≤ 500 := by have := t.2.2.2.2.1; omega
  rw [if_pos rfl] at hS
  have hu6 := hS.2.2.2.2.2
  have hbn := hS.1
  have hset : ∀ a : Int32, ∃ w', Stl a w n m (sp_settle m a) w' ∧ SI β (n + (w - w')) w' u 1 (sp_settle m a) := by
    intro a
    unfold sp_settle
    rw [wtN_e h2 (by omega)]
    exact SI.settle a w n m h2 h1 (by omega) hS
  unfold sp_sign
  split
  · rename_i q
    obtain ⟨w', s1, s2⟩ := hset 0
    obtain ⟨t1, t2, t3, t4⟩ := t.stl s1
    have hv := t.2.2.2.2.2 (by rw [q.1]; decide) (by rw [q.1]; decide)
    have hop : 1 ≤ w' ∧ m.1 46 (w' - 1) = 30 := by
      have hno : ¬ w' = 0 := by
        intro e
        apply q.2
        rw [wtN_e h2 (by omega)]
        exact opQ_no w (fun j hj z => s1.2.2.2.2.2.2.2.2 j (by omega) hj (Or.inl z))
      rcases s1.2.2.2.2.2.2.2.1 with z | z | z
      · exact absurd z hno
      · exact ⟨by omega, z⟩
      · exfalso
        have h20 := okW_20 (hS.2.1 (w' - 1) (by have := s1.1; omega))
        have g1 := i_lt.mp z
        exact h20 (i_lt.mpr (by have : (20 : Int32).toInt = 20 := rfl; have : (0 : Int32).toInt = 0 := rfl; omega))
    obtain ⟨v, rfl⟩ : ∃ v, w' = v + 1 := ⟨w' - 1, by omega⟩
    have hq := s1.2.2.2.2.1
    have e46 : (sp_settle m 0).1 46 v = 30 := (hq 46 v (by omega) (by omega) (by omega)).trans hop.2
    have s3 := s2.drop e46
    -- the memory behind it
    have D : ∀ i j, ¬ (i = 0 ∧ (j = 74 ∨ j = 75)) → (sgD (sp_settle m 0)).1 i j = (sp_settle m 0).1 i j := fun i j hj => by unfold sgD; rw [wI_ne (by omega), wI_ne (by omega)]
    have D74 : (sgD (sp_settle m 0)).1 0 74 = nI v := by unfold sgD; rw [wI_ne (by omega), wI_same, s1.2.1, nI_pred]
    obtain ⟨d1, d2, d3, d4⟩ := t1.of (m' := sgD (sp_settle m 0)) (funext fun j => D 1 j (by omega)) (D 0 4 (by omega)) (D 0 5 (by omega)) (D 0 6 (by omega)) (D 0 7 (by omega))
    have hle := s1.1
    have hn := RuI.next (β := β) (x := 2) (n := n + (w - (v + 1))) (w := v) (u := u) d1 (by omega) (hb.of ((D 0 31 (by omega)).trans (hq 0 31 (by omega) (by omega) (by omega)))) ((D 0 2 (by omega)).trans ((hq 0 2 (by omega) (by omega) (by omega)).trans h0)) (Or.inr (Or.inr rfl)) ((D 0 70 (by omega)).trans s1.2.2.1) D74 ((D 0 73 (by omega)).trans ((hq 0 73 (by omega) (by omega) (by omega)).trans h3)) (by omega) (by omega)
      (s3.of (fun j _ => D 40 j (by omega)) (fun j _ => D 41 j (by omega)) (fun j _ => D 46 j (by omega)))
    have hR0 : Rq β m (sp_settle m 0) := Rq.rf.stl s1 hbn
    have hR1 : Rq β (sp_settle m 0) (sgD (sp_settle m 0)) := ⟨fun i j _ _ q2 _ => D i j (by omega), fun _ _ _ => rfl, rfl⟩
    have hT : Rd (sgD (sp_settle m 0)) (tkn (sgD (sp_settle m 0))) := Rd.rf.tk
    refine RuS.mk ?_ ((hR0.tr hR1).r hT) (fun _ => ⟨hn.1, ?_⟩)
    · rw [tkn_2, D 0 2 (by omega), hq 0 2 (by omega) (by omega) (by omega), h0]; decide
    · have := hn.2; omega
  · split
    · exact ⟨Fg.sp (by decide), Rq.rf.r Rd.rf.sp, fun z => absurd z (ps_0 (sp_spoil_2 (by decide)))⟩
    · rename_i q1 q2
      obtain ⟨⟨ow, o22, o30⟩, v0, v3⟩ := sgW_v q2
      have hv := t.2.2.2.2.2 v0 v3
      generalize sgW m = v at ow o22 o30
      have hE : ∃ (a : Int32) (w' : Nat), Stl a w n m (sp_settle m a) w' ∧ SI β (n + (w - w')) w' u 1 (sp_settle m a) ∧ Rd (sp_settle m a) (sgE m v) ∧ 0 ≤ (sgE m v).1 0 2 ∧ ((sgE m v).1 0 2 = 0 → sgE m v = sp_settle m a) := by
        unfold sgE
        split
        · obtain ⟨w', s1, s2⟩ := hset 26
          refine ⟨26, w', s1, s2, Rd.sF, Fg.sF ?_, fun z => (sgF_0 z).1⟩
          rw [s1.2.2.2.2.1 0 2 (by omega) (by omega) (by omega), h0]; decide
        · obtain ⟨w', s1, s2⟩ := hset (rkO v)
          refine ⟨rkO v, w', s1, s2, Rd.rf, ?_, fun _ => rfl⟩
          rw [s1.2.2.2.2.1 0 2 (by omega) (by omega) (by omega), h0]; decide
      obtain ⟨a, w', s1, s2, s3, s4, s5⟩ := hE
      unfold sgG
      split
      · rename_i q3
        have hR0 : Rq β m (sp_settle m a) := Rq.rf.stl s1 hbn
        exact RuS.mk s4 (hR0.r s3) (fun z => absurd z (ps_0 q3))
      · rename_i q3
        have f0 := Fg.z s4 (Int32.not_lt.mp q3)
        have e5 := s5 f0
        rw [e5] at f0 ⊢
        obtain ⟨t1, t2, t3, t4⟩ := t.stl s1
        have hq := s1.2.2.2.2.1
        have hle := s1.1
        obtain ⟨k1, k2, k3, k4⟩ := hold_r (a := v) s1.2.1 (by omega)
        obtain ⟨t5, t6, t7, t8⟩ := t1.hold (a := v) s1.2.1 (by omega)
        have hN : sgN v = 0 ∨ sgN v = 1 := by unfold sgN; split; exact Or.inl rfl; exact Or.inr rfl
        have hN2 : ¬ sgN v = 2 := by rcases hN with z | z <;> (rw [z]; decide)
        have hn := RuI.next (β := β) (x := sgN v) (n := n + (w - w')) (w := w' + 1) (u := u) t5 (by omega) (hb.of ((k3 0 31 (by omega) (by omega)).trans (hq 0 31 (by omega) (by omega) (by omega)))) ((k3 0 2 (by omega) (by omega)).trans f0) (by rcases hN with z | z; exact Or.inl z; exact Or.inr (Or.inl z)) ((k3 0 70 (by omega) (by omega)).trans s1.2.2.1) k1 ((k3 0 73 (by omega) (by omega)).trans ((hq 0 73 (by omega) (by omega) (by omega)).trans h3)) (by omega) (by omega)
          (by rw [if_neg hN2]; exact s2.hold (a := v) (fun j _ => k3 40 j (by omega) (by omega)) (fun j _ => k3 41 j (by omega) (by omega)) (fun j _ => k3 46 j (by omega) (by omega)) k2 ow u 0 (by omega) (by rw [if_neg (fun z => by rcases z with z | z; exact o30 z; exact o22 z)]))
        have hR0 : Rq β m (sp_settle m a) := Rq.rf.stl s1 hbn
        have hR : Rq β m (sp_hold (sp_settle m a) v) := hR0.hold s1.2.1 (by omega)
        have hT : Rd (sp_hold (sp_settle m a) v) (tkn (sp_hold (sp_settle m a) v)) := Rd.rf.tk
        refine RuS.mk ?_ (hR.r hT) (fun _ => ⟨hn.1, ?_⟩)
        · rw [tkn_2, k3 0 2 (by omega) (by omega), f0]; decide
        · have := hn.2; omega

/-! the hill's text -/
def itN (f : Nat → Mem → Mem) : Nat → Nat → Mem → Mem
  | 0, _, m => m
  | q + 1, k, m => itN f q (k + 1) (f k m)
theorem itN_inv {f : Nat → Mem → Mem} (R : Nat → Mem → Prop) (N : Nat) (h : ∀ k m, k < N → R k m → R (k + 1) (f k m)) : ∀ (q k : Nat) (m : Mem), q + k = N → R k m → R N (itN f q k m) := by
  intro q
  induction q with
  | zero => intro k m e hr; obtain rfl : k = N := (by omega); exact hr
  | succ q ih => intro k m e hr; exact ih (k + 1) _ (by omega) (h k m (by omega) hr)
def hcA (k : Nat) (m : Mem) : Mem := wI (wI (wI m 10 k 0) 11 k 0) 12 k 0
def hcB (k : Nat) (m : Mem) : Mem := wI (wI m 13 k 0) 14 k 0
def hl0 (μ : Mem) : Mem := itN hcB 60 0 (itN hcA 300 0 (wI (wI μ 0 29 0) 0 30 0))
def hlA (m : Mem) : Mem := if isWd m 6451064 ∧ m.1 0 29 < 5 then sp_readBox m else if isOt m ∧ m.1 0 30 < 16 then sp_readOther m else sp_spoil m 2
def hlS (m : Mem) : Mem := if m.1 0 2 = 0 ∧ ¬ m.1 0 6 = 59 then sp_spoil m 2 else m
def hlT (m : Mem) : Mem := if m.1 0 2 = 0 then tkn m else m
def hlB (m : Mem) : Mem := hlT (hlS (hlA m))
def hlL : Nat → Mem → Mem
  | 0, m => m
  | q + 1, m => if m.1 0 2 = 0 ∧ ¬ m.1 0 6 = 0 then hlL q (hlB m) else m
def hl2 (μ : Mem) : Mem := hlL 22 (sp_start (hl0 μ) 0)
def hkA (k : Nat) (m : Mem) : Mem := wI (wI (wL m 3 k (m.2.1 2 k)) 7 k (m.1 4 k)) 9 k (m.1 6 k)
def hkB (k : Nat) (m : Mem) : Mem := wI m 8 k (m.1 5 k)
def hkC (k : Nat) (m : Mem) : Mem := wI (wI (wI m 15 k (vp_nar .boolean (m.1 10 k))) 16 k (vp_nar .boolean (m.1 11 k))) 17 k (vp_nar .boolean (m.1 12 k))
def hkD (k : Nat) (m : Mem) : Mem := wI (wI (wI m 18 k (vp_nar .boolean (m.1 13 k))) 19 k (vp_nar .boolean (m.1 14 k))) 27 k 0
def hkE (m : Mem) : Mem := wI (wI (wI (wI m 0 31 (m.1 0 29)) 0 32 (m.1 0 30)) 0 42 0) 0 72 0
def hkF (k : Nat) (m : Mem) : Mem := wI m 28 k 0
def hk3 (m : Mem) : Mem := itN hkF 10 0 (hkE (itN hkD 60 0 (itN hkC 300 0 (itN hkB 40 0 (itN hkA 5 0 m)))))
def sp_hill (μ : Mem) : Int32 × Mem := if 0 < (hl2 μ).1 0 2 then (-1, hl2 μ) else ((hk3 (hl2 μ)).1 0 31 + (hk3 (hl2 μ)).1 0 32, hk3 (hl2 μ))
/-- what the loop of lines keeps: counts, reading's place, the fault's sign -/
def WFo (m : Mem) : Prop := ∃ t : Nat, t ≤ 16 ∧ m.1 0 30 = nI t
def noN (m : Mem) : Nat := (m.1 0 30).toNatClampNeg
theorem WFo.t {m : Mem} (h : WFo m) : noN m ≤ 16 ∧ m.1 0 30 = nI (noN m) := by
  obtain ⟨t, h1, h2⟩ := h
  have e : noN m = t := by unfold noN; rw [h2]; exact nI_c (by omega)
  rw [e]
  exact ⟨h1, h2⟩
theorem Rd.o {a b : Mem} (h : Rd a b) (hw : WFo a) : WFo b := by
  obtain ⟨t, h1, h2⟩ := hw
  exact ⟨t, h1, (h.1 0 30 (by unfold rdK; omega)).trans h2⟩
def WFl (m : Mem) : Prop := WFx m ∧ WFn m ∧ WFo m ∧ 0 ≤ m.1 0 2
/-- a box's line read without a fault makes one box more and nothing else of the counts -/
theorem readBox_c {μ : Mem} (hn : WFn μ) (h5 : nbN μ < 5) (ho : WFo μ) (h0 : 0 ≤ μ.1 0 2) : WFn (sp_readBox μ) ∧ WFo (sp_readBox μ) ∧ 0 ≤ (sp_readBox μ).1 0 2 ∧ ((sp_readBox μ).1 0 2 = 0 → nbN (sp_readBox μ) = nbN μ + 1 ∧ noN (sp_readBox μ) = noN μ) := by
  have f1 : 0 ≤ (rbB μ).1 0 2 := by
    show 0 ≤ (rbA μ).1 0 2
    unfold rbA
    split
    · split
      · exact Fg.tk h0
      · exact Fg.sp (by decide)
    · exact Fg.sp (by decide)
  have f2 : 0 ≤ (rbD μ).1 0 2 := by
    unfold rbD
    split
    · exact Fg.sp (by decide)
    · show 0 ≤ (rbC μ).1 0 2
      unfold rbC
      rw [wI_ne (Or.inl (by decide))]
      exact Fg.tk f1
  have f3 : 0 ≤ (rbJ μ).1 0 2 := by
    unfold rbJ
    rw [wI_ne (Or.inl (by decide))]
    have gE : 0 ≤ (rbE μ).1 0 2 := by unfold rbE; exact Fg.rr (Fg.tk f2)
    have gF : 0 ≤ (rbF μ).1 0 2 := by unfold rbF; exact Fg.rr gE
    have gH : 0 ≤ (rbH μ).1 0 2 := by unfold rbH; exact Fg.wa (Fg.rr (Fg.rr gF))
    exact Fg.td gH
  have e29 : ∀ m, Rh μ m → m.1 0 29 = nI (nbN μ) := fun m h => (h.1 0 29 (by decide) (by decide) (by decide) (by decide)).trans hn.t.2
  have e30 : ∀ m, Rh μ m → m.1 0 30 = nI (noN μ) := fun m h => (h.1 0 30 (by decide) (by decide) (by decide) (by decide)).trans ho.t.2
  have hn5 := hn.t.1
  have ho5 := ho.t.1
  unfold sp_readBox
  split
  · rename_i q
    exact ⟨⟨_, hn5, e29 _ Rh.bB⟩, ⟨_, ho5, e30 _ Rh.bB⟩, f1, fun z => absurd z (ps_0 q)⟩
  · split
    · rename_i q
      exact ⟨⟨_, hn5, e29 _ Rh.bD⟩, ⟨_, ho5, e30 _ Rh.bD⟩, f2, fun z => absurd z (ps_0 q)⟩
    · split
      · have e1 : (wI (rbJ μ) 0 29 ((rbJ μ).1 0 29 + 1)).1 0 29 = nI (nbN μ + 1) := by rw [wI_same, e29 _ Rh.bJ, nI_1]
        have e2 : (wI (rbJ μ) 0 29 ((rbJ μ).1 0 29 + 1)).1 0 30 = nI (noN μ) := by rw [wI_ne (Or.inr (by decide)), e30 _ Rh.bJ]
        refine ⟨⟨_, by omega, e1⟩, ⟨_, ho5, e2⟩, ?_, fun _ => ⟨?_, ?_⟩⟩
        · rw [wI_ne (Or.inr (by decide))]; exact f3
        · show (_ : Int32).toNatClampNeg = _
          rw [e1, nI_c (by omega)]
        · show (_ : Int32).toNatClampNeg = _
          rw [e2, nI_c (by omega)]
      · rename_i q
        exact ⟨⟨_, hn5, e29 _ Rh.bJ⟩, ⟨_, ho5, e30 _ Rh.bJ⟩, f3, fun z => absurd z q⟩
/-- what reading another line leaves: all but the reader's, cells 10 to 14, the count of lines -/
def Ro (μ μ' : Mem) : Prop := (∀ i j, ¬ rdK i j → (i < 10 ∨ 14 < i) → ¬ (i = 0 ∧ j = 30) → μ'.1 i j = μ.1 i j) ∧ (∀ i j, ¬ (i = 0 ∧ j = 9) → μ'.2.1 i j = μ.2.1 i j) ∧ μ'.2.2 = μ.2.2
theorem Ro.rf {μ : Mem} : Ro μ μ := ⟨fun _ _ _ _ _ => rfl, fun _ _ _ => rfl, rfl⟩
theorem Ro.r {a b c : Mem} (h : Ro a b) (g : Rd b c) : Ro a c := ⟨fun i j q q1 q2 => (g.1 i j q).trans (h.1 i j q q1 q2), fun i j q => (g.2.1 i j q).trans (h.2.1 i j q), g.2.2.trans h.2.2⟩
theorem Ro.w {a b : Mem} {i k : Nat} {v : Int32} (h : Ro a b) (hi : 10 ≤ i ∧ i ≤ 14) : Ro a (wI b i k v) := ⟨fun x j q q1 q2 => (wI_ne (by omega)).trans (h.1 x j q q1 q2), h.2.1, h.2.2⟩
theorem Ro.c {a b : Mem} {v : Int32} (h : Ro a b) : Ro a (wI b 0 30 v) := ⟨fun x j q q1 q2 => (wI_ne (by omega)).trans (h.1 x j q q1 q2), h.2.1, h.2.2⟩
theorem Ro.fl {a : Mem} {i : Nat} (hi : 10 ≤ i ∧ i ≤ 14) : ∀ (n k : Nat) (b : Mem), Ro a b → Ro a (flN b i k n) := by
  intro n
  induction n with
  | zero => intro k b h; exact h
  | succ n ih => intro k b h; exact ih _ _ (h.w hi)
theorem Rd.zA {μ : Mem} : Rd μ (roA μ).2 := by
  unfold roA
  split
  · exact Rd.rf.oB
  · exact Rd.rf.tk
theorem Rd.zB {μ : Mem} : Rd μ (roB μ) := by
  unfold roB
  split
  · exact Rd.zA.wa
  · exact Rd.zA
theorem Rd.zC {μ : Mem} : Rd μ (roC μ).2 := Rd.zB.td
theorem Ro.zN {μ : Mem} : Ro μ (roN μ) := by
  have h1 : Ro μ (roM μ) := by
    unfold roM
    split
    · exact (Ro.rf.r Rd.zC).w (by decide)
    · exact Ro.rf.r Rd.zC
  unfold roN
  split
  · exact h1.w (by decide)
  · exact h1
theorem roN_0 {μ : Mem} (k : Nat) : (roN μ).1 0 k = (roC μ).2.1 0 k := by
  unfold roN roM
  split
  · rw [wI_ne (Or.inl (by decide))]
    split
    · rw [wI_ne (Or.inl (by decide))]
    · rfl
  · split
    · rw [wI_ne (Or.inl (by decide))]
    · rfl
theorem Ro.zD {μ : Mem} : Ro μ (roD μ) := Ro.zN.c
theorem Ro.zE {μ : Mem} : Ro μ (roE μ).2 := Ro.zD.r Rd.rf.wa.td
theorem Ro.rO {μ : Mem} : Ro μ (sp_readOther μ) := by
  unfold sp_readOther
  split
  · exact Ro.rf.r Rd.zC
  · split
    · exact Ro.zD
    · unfold roF
      split
      · exact Ro.fl (by have := roI_b μ; omega) _ _ _ Ro.zE
      · exact Ro.zE
theorem readOther_c {μ : Mem} (hn : WFn μ) (ho : WFo μ) (h6 : noN μ < 16) (h0 : 0 ≤ μ.1 0 2) : WFn (sp_readOther μ) ∧ WFo (sp_readOther μ) ∧ 0 ≤ (sp_readOther μ).1 0 2 ∧ ((sp_readOther μ).1 0 2 = 0 → nbN (sp_readOther μ) = nbN μ ∧ noN (sp_readOther μ) = noN μ + 1) := by
  have e29 : (sp_readOther μ).1 0 29 = nI (nbN μ) := (Ro.rO.1 0 29 (by decide) (by decide) (by decide)).trans hn.t.2
  have hn5 := hn.t.1
  have ho5 := ho.t.1
  have eb : nbN (sp_readOther μ) = nbN μ := by show (_ : Int32).toNatClampNeg = _; rw [e29, nI_c (by omega)]
  refine ⟨⟨_, hn5, e29⟩, ?_⟩
  have c30 : (roC μ).2.1 0 30 = nI (noN μ) := (Rd.zC.1 0 30 (by decide)).trans ho.t.2
  have d30 : (roD μ).1 0 30 = nI (noN μ + 1) := by unfold roD; rw [wI_same, roN_0, c30, nI_1]
  have fC := Fg.zC h0
  have fD : 0 ≤ (roD μ).1 0 2 := by unfold roD; rw [wI_ne (Or.inr (by decide)), roN_0]; exact fC
  have E30 : (roE μ).2.1 0 30 = nI (noN μ + 1) := ((Rd.rf (μ := roD μ)).wa.td.1 0 30 (by decide)).trans d30
  have fE : 0 ≤ (roE μ).2.1 0 2 := Fg.td (Fg.wa fD)
  have F30 : (roF μ).1 0 30 = nI (noN μ + 1) := by
    unfold roF
    split
    · rw [flN_n _ (by have := roI_b μ; omega)]; exact E30
    · exact E30
  have fF : 0 ≤ (roF μ).1 0 2 := by
    unfold roF
    split
    · rw [flN_n _ (by have := roI_b μ; omega)]; exact fE
    · exact fE
  have key : ∀ m : Mem, m.1 0 30 = nI (noN μ + 1) → noN m = noN μ + 1 := fun m h => by show (_ : Int32).toNatClampNeg = _; rw [h, nI_c (by omega)]
  refine ⟨?_, ?_, fun z => ⟨eb, ?_⟩⟩
  · unfold sp_readOther
    split
    · exact ⟨_, ho5, c30⟩
    · split
      · exact ⟨_, by omega, d30⟩
      · exact ⟨_, by omega, F30⟩
  · unfold sp_readOther
    split
    · exact fC
    · split
      · exact fD
      · exact fF
  · unfold sp_readOther at z ⊢
    split
    · rename_i q; rw [if_pos q] at z; exact absurd z (ps_0 q)
    · split
      · exact key _ d30
      · exact key _ F30
theorem hlA_c {m : Mem} (h : WFl m) (h0 : m.1 0 2 = 0) : WFl (hlA m) ∧ ((hlA m).1 0 2 = 0 → nbN (hlA m) + noN (hlA m) = nbN m + noN m + 1) := by
  obtain ⟨h1, h2, h3, h4⟩ := h
  unfold hlA
  split
  · rename_i q
    have h5 : nbN m < 5 := by have := (nI_ltI (a := nbN m) (b := 5) (by have := h2.t.1; omega) (by decide)).mp (by rw [← h2.t.2]; exact q.2); exact this
    obtain ⟨a1, a2, a3, a4⟩ := readBox_c h2 h5 h3 h4
    exact ⟨⟨h1.readBox, a1, a2, a3⟩, fun z => by have := a4 z; omega⟩
  · split
    · rename_i q
      have h5 : noN m < 16 := by have := (nI_ltI (a := noN m) (b := 16) (by have := h3.t.1; omega) (by decide)).mp (by rw [← h3.t.2]; exact q.2); exact this
      obtain ⟨a1, a2, a3, a4⟩ := readOther_c h2 h3 h5 h4
      exact ⟨⟨h1.readOther, a1, a2, a3⟩, fun z => by have := a4 z; omega⟩
    · exact ⟨⟨h1.spoil, Rd.rf.sp.n h2, Rd.rf.sp.o h3, Fg.sp (by decide)⟩, fun z => absurd z (ps_0 (sp_spoil_2 (by decide)))⟩
theorem hlS_c {m : Mem} (h : WFl m) : WFl (hlS m) ∧ ((hlS m).1 0 2 = 0 → hlS m = m) := by
  obtain ⟨h1, h2, h3, h4⟩ := h
  unfold hlS
  split
  · exact ⟨⟨h1.spoil, Rd.rf.sp.n h2, Rd.rf.sp.o h3, Fg.sp (by decide)⟩, fun z => absurd z (ps_0 (sp_spoil_2 (by decide)))⟩
  · exact ⟨⟨h1, h2, h3, h4⟩, fun _ => rfl⟩
theorem hlT_c {m : Mem} (h : WFl m) : WFl (hlT m) ∧ nbN (hlT m) = nbN m ∧ noN (hlT m) = noN m ∧ (hlT m).1 0 2 = m.1 0 2 := by
  obtain ⟨h1, h2, h3, h4⟩ := h
  unfold hlT
  split
  · have hr := (Rd.rf (μ := m)).tk
    refine ⟨⟨h1.tn, hr.n h2, hr.o h3, Fg.tk h4⟩, ?_, ?_, tkn_2 _⟩
    · show (_ : Int32).toNatClampNeg = (_ : Int32).toNatClampNeg
      rw [hr.1 0 29 (by decide)]
    · show (_ : Int32).toNatClampNeg = (_ : Int32).toNatClampNeg
      rw [hr.1 0 30 (by decide)]
  · exact ⟨⟨h1, h2, h3, h4⟩, rfl, rfl, rfl⟩
theorem hlB_c {m : Mem} (h : WFl m) (h0 : m.1 0 2 = 0) : WFl (hlB m) ∧ ((hlB m).1 0 2 = 0 → nbN (hlB m) + noN (hlB m) = nbN m + noN m + 1) := by
  obtain ⟨a1, a2⟩ := hlA_c h h0
  obtain ⟨b1, b2⟩ := hlS_c a1
  obtain ⟨c1, c2, c3, c4⟩ := hlT_c b1
  refine ⟨c1, fun z => ?_⟩
  have z1 : (hlS (hlA m)).1 0 2 = 0 := c4.symm.trans z
  have e := b2 z1
  show nbN (hlT _) + noN (hlT _) = _
  rw [c2, c3, e]
  exact a2 (by rw [← e]; exact z1)
theorem hlL_c : ∀ (q : Nat) (m : Mem), WFl m → WFl (hlL q m) := by
  intro q
  induction q with
  | zero => intro m h; exact h
  | succ q ih =>
    intro m h
    unfold hlL
    split
    · rename_i z; exact ih _ (hlB_c h z.1).1
    · exact h
theorem hcA_k {i j : Nat} (hi : i < 10 ∨ 14 < i) (q k : Nat) (m : Mem) : (itN hcA q k m).1 i j = m.1 i j ∧ (itN hcA q k m).2 = m.2 := by
  induction q generalizing k m with
  | zero => exact ⟨rfl, rfl⟩
  | succ q ih =>
    obtain ⟨h1, h2⟩ := ih (k + 1) (hcA k m)
    refine ⟨h1.trans ?_, h2⟩
    unfold hcA
    rw [wI_ne (by omega), wI_ne (by omega), wI_ne (by omega)]
theorem hcB_k {i j : Nat} (hi : i < 13 ∨ 14 < i) (q k : Nat) (m : Mem) : (itN hcB q k m).1 i j = m.1 i j ∧ (itN hcB q k m).2 = m.2 := by
  induction q generalizing k m with
  | zero => exact ⟨rfl, rfl⟩
  | succ q ih =>
    obtain ⟨h1, h2⟩ := ih (k + 1) (hcB k m)
    refine ⟨h1.trans ?_, h2⟩
    unfold hcB
    rw [wI_ne (by omega), wI_ne (by omega)]
theorem hl0_k {μ : Mem} {i j : Nat} (hi : i < 10 ∨ 14 < i) (h : ¬ (i = 0 ∧ (j = 29 ∨ j = 30))) : (hl0 μ).1 i j = μ.1 i j := by
  unfold hl0
  rw [(hcB_k (by omega) _ _ _).1, (hcA_k hi _ _ _).1, wI_ne (by omega), wI_ne (by omega)]
theorem hl0_l {μ : Mem} : (hl0 μ).2 = μ.2 := by
  unfold hl0
  rw [(hcB_k (i := 0) (j := 0) (by omega) _ _ _).2, (hcA_k (i := 0) (j := 0) (by omega) _ _ _).2]
  rfl
theorem hl0_29 {μ : Mem} : (hl0 μ).1 0 29 = 0 := by
  unfold hl0
  rw [(hcB_k (by omega) _ _ _).1, (hcA_k (by omega) _ _ _).1, wI_ne (by omega), wI_same]
theorem hl0_30 {μ : Mem} : (hl0 μ).1 0 30 = 0 := by
  unfold hl0
  rw [(hcB_k (by omega) _ _ _).1, (hcA_k (by omega) _ _ _).1, wI_same]
theorem hl0_t {μ : Mem} (h : WFt μ) : WFt (hl0 μ) := by
  obtain ⟨t, h1, h2⟩ := h
  exact ⟨t, h1, (hl0_k (by omega) (by omega)).trans h2⟩
theorem start_l {m : Mem} {z : Int32} (ht : WFt m) (h1 : m.1 0 29 = 0) (h2 : m.1 0 30 = 0) : WFl (sp_start m z) ∧ nbN (sp_start m z) + noN (sp_start m z) = 0 ∧ (sp_start m z).1 0 2 = 0 := by
  have hx : WFx (sp_start m z) := (WFx.st ht).tn
  have hr : ∀ j, j = 29 ∨ j = 30 → (sp_start m z).1 0 j = m.1 0 j := by
    intro j hj
    unfold sp_start
    rw [Rd.rf.tk.1 0 j (by unfold rdK; omega)]
    simp only [wI_at]
    rcases hj with rfl | rfl <;> simp
  have e1 : (sp_start m z).1 0 29 = nI 0 := (hr 29 (Or.inl rfl)).trans h1
  have e2 : (sp_start m z).1 0 30 = nI 0 := (hr 30 (Or.inr rfl)).trans h2
  have e3 : (sp_start m z).1 0 2 = 0 := by
    unfold sp_start
    rw [tkn_2]
    simp [wI_at]
  refine ⟨⟨hx, ⟨0, by decide, e1⟩, ⟨0, by decide, e2⟩, by rw [e3]; decide⟩, ?_, e3⟩
  show (_ : Int32).toNatClampNeg + (_ : Int32).toNatClampNeg = 0
  rw [e1, e2]
  decide
set_option maxHeartbeats 100000 in
set_option maxRecDepth 100000 in
theorem L_X12_hill_389 {l : Launch} {G : Wd} {μ : Mem} {M : Mem}  (hk : AW l G KM RX12 cX12_hill 2 6 (some .int) (Qi (fun v μ' => sp_hill μ = (v, μ'))) 408 [some (.ref (gA G 0)), some (.int (nI 10))] [] (itN hkF 10 0 M)) : ∀ (q k : Nat) (m : Mem), q + k = 10 → itN hkF q k m = itN hkF 10 0 M → AW l G KM RX12 cX12_hill 2 6 (some .int) (Qi (fun v μ' => sp_hill μ = (v, μ'))) 389 [some (.ref (gA G 0)), some (.int (nI k))] [] m := by
  intro q
  induction q with
  | zero =>
    intro k m hq he
    obtain rfl : k = 10 := by omega
    have he2 : m = itN hkF 10 0 M := he
    subst he2
    refine A_iload1 dX12_hill_389 ?_
    refine A_bipush (v := 10) dX12_hill_390 (by decide) ?_
    refine A_icmp_ge (tgt := 408) dX12_hill_392 (by decide) (fun c_392 => ?_) (fun c_392 => absurd c_392 (fun z => z (Int32.le_refl _)))
    exact hk
  | succ q ih =>
    intro k m hq he
    refine A_iload1 dX12_hill_389 ?_
    refine A_bipush (v := 10) dX12_hill_390 (by decide) ?_
    refine A_icmp_ge (tgt := 408) dX12_hill_392 (by decide) (fun c_392 => absurd c_392 (fun z => nI_ge (a := k) (b := 10) (by omega) (by decide) z)) (fun c_392 => ?_)
    refine A_aload0 dX12_hill_395 ?_
    refine A_getR gf_X12_97 rfl dX12_hill_396 ?_
    refine A_iload1 dX12_hill_399 ?_
    refine A_iconst (v := 0) dX12_hill_400 (by decide) ?_
    refine A_zast (rfl) (vp_in_nI (by omega) (by omega)) dX12_hill_401 ?_
    rw [nI_c (by omega), vz_0]
    refine A_iinc1 dX12_hill_402 rfl rfl (by decide) ?_
    rw [show nI k + Int32.ofInt 1 = nI (k + 1) from nI_1 k]
    refine A_goto (tgt := 389) dX12_hill_405 (by decide) ?_
    exact ih (k + 1) _ (by omega) (by rw [itN] at he; exact he)

set_option maxHeartbeats 100000 in
set_option maxRecDepth 100000 in
theorem L_X12_hill_318 {l : Launch} {G : Wd} {μ : Mem} {M : Mem}  (hk : AW l G KM RX12 cX12_hill 2 6 (some .int) (Qi (fun v μ' => sp_hill μ = (v, μ'))) 361 [some (.ref (gA G 0)), some (.int (nI 60))] [] (itN hkD 60 0 M)) : ∀ (q k : Nat) (m : Mem), q + k = 60 → itN hkD q k m = itN hkD 60 0 M → AW l G KM RX12 cX12_hill 2 6 (some .int) (Qi (fun v μ' => sp_hill μ = (v, μ'))) 318 [some (.ref (gA G 0)), some (.int (nI k))] [] m := by
  intro q
  induction q with
  | zero =>
    intro k m hq he
    obtain rfl : k = 60 := by omega
    have he2 : m = itN hkD 60 0 M := he
    subst he2
    refine A_iload1 dX12_hill_318 ?_
    refine A_bipush (v := 60) dX12_hill_319 (by decide) ?_
    refine A_icmp_ge (tgt := 361) dX12_hill_321 (by decide) (fun c_321 => ?_) (fun c_321 => absurd c_321 (fun z => z (Int32.le_refl _)))
    exact hk
  | succ q ih =>
    intro k m hq he
    refine A_iload1 dX12_hill_318 ?_
    refine A_bipush (v := 60) dX12_hill_319 (by decide) ?_
    refine A_icmp_ge (tgt := 361) dX12_hill_321 (by decide) (fun c_321 => absurd c_321 (fun z => nI_ge (a := k) (b := 60) (by omega) (by decide) z)) (fun c_321 => ?_)
    refine A_aload0 dX12_hill_324 ?_
    refine A_getR gf_X12_67 rfl dX12_hill_325 ?_
    refine A_iload1 dX12_hill_328 ?_
    refine A_aload0 dX12_hill_329 ?_
    refine A_getR gf_X12_52 rfl dX12_hill_330 ?_
    refine A_iload1 dX12_hill_333 ?_
    refine A_zald (rfl) (vp_in_nI (by omega) (by omega)) dX12_hill_334 ?_
    rw [nI_c (by omega)]
    refine A_zast (rfl) (vp_in_nI (by omega) (by omega)) dX12_hill_335 ?_
    rw [nI_c (by omega)]
    refine A_aload0 dX12_hill_336 ?_
    refine A_getR gf_X12_70 rfl dX12_hill_337 ?_
    refine A_iload1 dX12_hill_340 ?_
    refine A_aload0 dX12_hill_341 ?_
    refine A_getR gf_X12_55 rfl dX12_hill_342 ?_
    refine A_iload1 dX12_hill_345 ?_
    refine A_zald (rfl) (vp_in_nI (by omega) (by omega)) dX12_hill_346 ?_
    rw [nI_c (by omega)]
    refine A_zast (rfl) (vp_in_nI (by omega) (by omega)) dX12_hill_347 ?_
    rw [nI_c (by omega)]
    refine A_aload0 dX12_hill_348 ?_
    refine A_getR gf_X12_94 rfl dX12_hill_349 ?_
    refine A_iload1 dX12_hill_352 ?_
    refine A_iconst (v := 0) dX12_hill_353 (by decide) ?_
    refine A_zast (rfl) (vp_in_nI (by omega) (by omega)) dX12_hill_354 ?_
    rw [nI_c (by omega), vz_0]
    refine A_iinc1 dX12_hill_355 rfl rfl (by decide) ?_
    rw [show nI k + Int32.ofInt 1 = nI (k + 1) from nI_1 k]
    refine A_goto (tgt := 318) dX12_hill_358 (by decide) ?_
    exact ih (k + 1) _ (by omega) (by rw [itN] at he; exact he)

set_option maxHeartbeats 100000 in
set_option maxRecDepth 100000 in
theorem L_X12_hill_267 {l : Launch} {G : Wd} {μ : Mem} {M : Mem}  (hk : AW l G KM RX12 cX12_hill 2 6 (some .int) (Qi (fun v μ' => sp_hill μ = (v, μ'))) 316 [some (.ref (gA G 0)), some (.int (nI 300))] [] (itN hkC 300 0 M)) : ∀ (q k : Nat) (m : Mem), q + k = 300 → itN hkC q k m = itN hkC 300 0 M → AW l G KM RX12 cX12_hill 2 6 (some .int) (Qi (fun v μ' => sp_hill μ = (v, μ'))) 267 [some (.ref (gA G 0)), some (.int (nI k))] [] m := by
  intro q
  induction q with
  | zero =>
    intro k m hq he
    obtain rfl : k = 300 := by omega
    have he2 : m = itN hkC 300 0 M := he
    subst he2
    refine A_iload1 dX12_hill_267 ?_
    refine A_sipush (v := 300) dX12_hill_268 (by decide) ?_
    refine A_icmp_ge (tgt := 316) dX12_hill_271 (by decide) (fun c_271 => ?_) (fun c_271 => absurd c_271 (fun z => z (Int32.le_refl _)))
    exact hk
  | succ q ih =>
    intro k m hq he
    refine A_iload1 dX12_hill_267 ?_
    refine A_sipush (v := 300) dX12_hill_268 (by decide) ?_
    refine A_icmp_ge (tgt := 316) dX12_hill_271 (by decide) (fun c_271 => absurd c_271 (fun z => nI_ge (a := k) (b := 300) (by omega) (by decide) z)) (fun c_271 => ?_)
    refine A_aload0 dX12_hill_274 ?_
    refine A_getR gf_X12_58 rfl dX12_hill_275 ?_
    refine A_iload1 dX12_hill_278 ?_
    refine A_aload0 dX12_hill_279 ?_
    refine A_getR gf_X12_42 rfl dX12_hill_280 ?_
    refine A_iload1 dX12_hill_283 ?_
    refine A_zald (rfl) (vp_in_nI (by omega) (by omega)) dX12_hill_284 ?_
    rw [nI_c (by omega)]
    refine A_zast (rfl) (vp_in_nI (by omega) (by omega)) dX12_hill_285 ?_
    rw [nI_c (by omega)]
    refine A_aload0 dX12_hill_286 ?_
    refine A_getR gf_X12_61 rfl dX12_hill_287 ?_
    refine A_iload1 dX12_hill_290 ?_
    refine A_aload0 dX12_hill_291 ?_
    refine A_getR gf_X12_46 rfl dX12_hill_292 ?_
    refine A_iload1 dX12_hill_295 ?_
    refine A_zald (rfl) (vp_in_nI (by omega) (by omega)) dX12_hill_296 ?_
    rw [nI_c (by omega)]
    refine A_zast (rfl) (vp_in_nI (by omega) (by omega)) dX12_hill_297 ?_
    rw [nI_c (by omega)]
    refine A_aload0 dX12_hill_298 ?_
    refine A_getR gf_X12_64 rfl dX12_hill_299 ?_
    refine A_iload1 dX12_hill_302 ?_
    refine A_aload0 dX12_hill_303 ?_
    refine A_getR gf_X12_49 rfl dX12_hill_304 ?_
    refine A_iload1 dX12_hill_307 ?_
    refine A_zald (rfl) (vp_in_nI (by omega) (by omega)) dX12_hill_308 ?_
    rw [nI_c (by omega)]
    refine A_zast (rfl) (vp_in_nI (by omega) (by omega)) dX12_hill_309 ?_
    rw [nI_c (by omega)]
    refine A_iinc1 dX12_hill_310 rfl rfl (by decide) ?_
    rw [show nI k + Int32.ofInt 1 = nI (k + 1) from nI_1 k]
    refine A_goto (tgt := 267) dX12_hill_313 (by decide) ?_
    exact ih (k + 1) _ (by omega) (by rw [itN] at he; exact he)

set_option maxHeartbeats 100000 in
set_option maxRecDepth 100000 in
theorem L_X12_hill_241 {l : Launch} {G : Wd} {μ : Mem} {M : Mem}  (hk : AW l G KM RX12 cX12_hill 2 6 (some .int) (Qi (fun v μ' => sp_hill μ = (v, μ'))) 265 [some (.ref (gA G 0)), some (.int (nI 40))] [] (itN hkB 40 0 M)) : ∀ (q k : Nat) (m : Mem), q + k = 40 → itN hkB q k m = itN hkB 40 0 M → AW l G KM RX12 cX12_hill 2 6 (some .int) (Qi (fun v μ' => sp_hill μ = (v, μ'))) 241 [some (.ref (gA G 0)), some (.int (nI k))] [] m := by
  intro q
  induction q with
  | zero =>
    intro k m hq he
    obtain rfl : k = 40 := by omega
    have he2 : m = itN hkB 40 0 M := he
    subst he2
    refine A_iload1 dX12_hill_241 ?_
    refine A_bipush (v := 40) dX12_hill_242 (by decide) ?_
    refine A_icmp_ge (tgt := 265) dX12_hill_244 (by decide) (fun c_244 => ?_) (fun c_244 => absurd c_244 (fun z => z (Int32.le_refl _)))
    exact hk
  | succ q ih =>
    intro k m hq he
    refine A_iload1 dX12_hill_241 ?_
    refine A_bipush (v := 40) dX12_hill_242 (by decide) ?_
    refine A_icmp_ge (tgt := 265) dX12_hill_244 (by decide) (fun c_244 => absurd c_244 (fun z => nI_ge (a := k) (b := 40) (by omega) (by decide) z)) (fun c_244 => ?_)
    refine A_aload0 dX12_hill_247 ?_
    refine A_getR gf_X12_36 rfl dX12_hill_248 ?_
    refine A_iload1 dX12_hill_251 ?_
    refine A_aload0 dX12_hill_252 ?_
    refine A_getR gf_X12_27 rfl dX12_hill_253 ?_
    refine A_iload1 dX12_hill_256 ?_
    refine A_iald (rfl) (vp_in_nI (by omega) (by omega)) dX12_hill_257 ?_
    rw [nI_c (by omega)]
    refine A_iast (rfl) (vp_in_nI (by omega) (by omega)) dX12_hill_258 ?_
    rw [nI_c (by omega)]
    refine A_iinc1 dX12_hill_259 rfl rfl (by decide) ?_
    rw [show nI k + Int32.ofInt 1 = nI (k + 1) from nI_1 k]
    refine A_goto (tgt := 241) dX12_hill_262 (by decide) ?_
    exact ih (k + 1) _ (by omega) (by rw [itN] at he; exact he)

set_option maxHeartbeats 100000 in
set_option maxRecDepth 100000 in
theorem L_X12_hill_192 {l : Launch} {G : Wd} {μ : Mem} {M : Mem}  (hk : AW l G KM RX12 cX12_hill 2 6 (some .int) (Qi (fun v μ' => sp_hill μ = (v, μ'))) 239 [some (.ref (gA G 0)), some (.int (nI 5))] [] (itN hkA 5 0 M)) : ∀ (q k : Nat) (m : Mem), q + k = 5 → itN hkA q k m = itN hkA 5 0 M → AW l G KM RX12 cX12_hill 2 6 (some .int) (Qi (fun v μ' => sp_hill μ = (v, μ'))) 192 [some (.ref (gA G 0)), some (.int (nI k))] [] m := by
  intro q
  induction q with
  | zero =>
    intro k m hq he
    obtain rfl : k = 5 := by omega
    have he2 : m = itN hkA 5 0 M := he
    subst he2
    refine A_iload1 dX12_hill_192 ?_
    refine A_iconst (v := 5) dX12_hill_193 (by decide) ?_
    refine A_icmp_ge (tgt := 239) dX12_hill_194 (by decide) (fun c_194 => ?_) (fun c_194 => absurd c_194 (fun z => z (Int32.le_refl _)))
    exact hk
  | succ q ih =>
    intro k m hq he
    refine A_iload1 dX12_hill_192 ?_
    refine A_iconst (v := 5) dX12_hill_193 (by decide) ?_
    refine A_icmp_ge (tgt := 239) dX12_hill_194 (by decide) (fun c_194 => absurd c_194 (fun z => nI_ge (a := k) (b := 5) (by omega) (by decide) z)) (fun c_194 => ?_)
    refine A_aload0 dX12_hill_197 ?_
    refine A_getR gf_X12_21 rfl dX12_hill_198 ?_
    refine A_iload1 dX12_hill_201 ?_
    refine A_aload0 dX12_hill_202 ?_
    refine A_getR gf_X12_17 rfl dX12_hill_203 ?_
    refine A_iload1 dX12_hill_206 ?_
    refine A_lald (rfl) (vp_in_nI (by omega) (by omega)) dX12_hill_207 ?_
    rw [nI_c (by omega)]
    refine A_last (rfl) (vp_in_nI (by omega) (by omega)) dX12_hill_208 ?_
    rw [nI_c (by omega)]
    refine A_aload0 dX12_hill_209 ?_
    refine A_getR gf_X12_33 rfl dX12_hill_210 ?_
    refine A_iload1 dX12_hill_213 ?_
    refine A_aload0 dX12_hill_214 ?_
    refine A_getR gf_X12_24 rfl dX12_hill_215 ?_
    refine A_iload1 dX12_hill_218 ?_
    refine A_iald (rfl) (vp_in_nI (by omega) (by omega)) dX12_hill_219 ?_
    rw [nI_c (by omega)]
    refine A_iast (rfl) (vp_in_nI (by omega) (by omega)) dX12_hill_220 ?_
    rw [nI_c (by omega)]
    refine A_aload0 dX12_hill_221 ?_
    refine A_getR gf_X12_39 rfl dX12_hill_222 ?_
    refine A_iload1 dX12_hill_225 ?_
    refine A_aload0 dX12_hill_226 ?_
    refine A_getR gf_X12_30 rfl dX12_hill_227 ?_
    refine A_iload1 dX12_hill_230 ?_
    refine A_iald (rfl) (vp_in_nI (by omega) (by omega)) dX12_hill_231 ?_
    rw [nI_c (by omega)]
    refine A_iast (rfl) (vp_in_nI (by omega) (by omega)) dX12_hill_232 ?_
    rw [nI_c (by omega)]
    refine A_iinc1 dX12_hill_233 rfl rfl (by decide) ?_
    rw [show nI k + Int32.ofInt 1 = nI (k + 1) from nI_1 k]
    refine A_goto (tgt := 192) dX12_hill_236 (by decide) ?_
    exact ih (k + 1) _ (by omega) (by rw [itN] at he; exact he)

set_option maxHeartbeats 100000 in
set_option maxRecDepth 100000 in
theorem L_X12_hill_48 {l : Launch} {G : Wd} {μ : Mem} {M : Mem}  (hk : AW l G KM RX12 cX12_hill 2 6 (some .int) (Qi (fun v μ' => sp_hill μ = (v, μ'))) 74 [some (.ref (gA G 0)), some (.int (nI 60))] [] (itN hcB 60 0 M)) : ∀ (q k : Nat) (m : Mem), q + k = 60 → itN hcB q k m = itN hcB 60 0 M → AW l G KM RX12 cX12_hill 2 6 (some .int) (Qi (fun v μ' => sp_hill μ = (v, μ'))) 48 [some (.ref (gA G 0)), some (.int (nI k))] [] m := by
  intro q
  induction q with
  | zero =>
    intro k m hq he
    obtain rfl : k = 60 := by omega
    have he2 : m = itN hcB 60 0 M := he
    subst he2
    refine A_iload1 dX12_hill_48 ?_
    refine A_bipush (v := 60) dX12_hill_49 (by decide) ?_
    refine A_icmp_ge (tgt := 74) dX12_hill_51 (by decide) (fun c_51 => ?_) (fun c_51 => absurd c_51 (fun z => z (Int32.le_refl _)))
    exact hk
  | succ q ih =>
    intro k m hq he
    refine A_iload1 dX12_hill_48 ?_
    refine A_bipush (v := 60) dX12_hill_49 (by decide) ?_
    refine A_icmp_ge (tgt := 74) dX12_hill_51 (by decide) (fun c_51 => absurd c_51 (fun z => nI_ge (a := k) (b := 60) (by omega) (by decide) z)) (fun c_51 => ?_)
    refine A_aload0 dX12_hill_54 ?_
    refine A_getR gf_X12_52 rfl dX12_hill_55 ?_
    refine A_iload1 dX12_hill_58 ?_
    refine A_iconst (v := 0) dX12_hill_59 (by decide) ?_
    refine A_zast (rfl) (vp_in_nI (by omega) (by omega)) dX12_hill_60 ?_
    rw [nI_c (by omega), vz_0]
    refine A_aload0 dX12_hill_61 ?_
    refine A_getR gf_X12_55 rfl dX12_hill_62 ?_
    refine A_iload1 dX12_hill_65 ?_
    refine A_iconst (v := 0) dX12_hill_66 (by decide) ?_
    refine A_zast (rfl) (vp_in_nI (by omega) (by omega)) dX12_hill_67 ?_
    rw [nI_c (by omega), vz_0]
    refine A_iinc1 dX12_hill_68 rfl rfl (by decide) ?_
    rw [show nI k + Int32.ofInt 1 = nI (k + 1) from nI_1 k]
    refine A_goto (tgt := 48) dX12_hill_71 (by decide) ?_
    exact ih (k + 1) _ (by omega) (by rw [itN] at he; exact he)

set_option maxHeartbeats 100000 in
set_option maxRecDepth 100000 in
theorem L_X12_hill_12 {l : Launch} {G : Wd} {μ : Mem} {M : Mem}  (hk : AW l G KM RX12 cX12_hill 2 6 (some .int) (Qi (fun v μ' => sp_hill μ = (v, μ'))) 46 [some (.ref (gA G 0)), some (.int (nI 300))] [] (itN hcA 300 0 M)) : ∀ (q k : Nat) (m : Mem), q + k = 300 → itN hcA q k m = itN hcA 300 0 M → AW l G KM RX12 cX12_hill 2 6 (some .int) (Qi (fun v μ' => sp_hill μ = (v, μ'))) 12 [some (.ref (gA G 0)), some (.int (nI k))] [] m := by
  intro q
  induction q with
  | zero =>
    intro k m hq he
    obtain rfl : k = 300 := by omega
    have he2 : m = itN hcA 300 0 M := he
    subst he2
    refine A_iload1 dX12_hill_12 ?_
    refine A_sipush (v := 300) dX12_hill_13 (by decide) ?_
    refine A_icmp_ge (tgt := 46) dX12_hill_16 (by decide) (fun c_16 => ?_) (fun c_16 => absurd c_16 (fun z => z (Int32.le_refl _)))
    exact hk
  | succ q ih =>
    intro k m hq he
    refine A_iload1 dX12_hill_12 ?_
    refine A_sipush (v := 300) dX12_hill_13 (by decide) ?_
    refine A_icmp_ge (tgt := 46) dX12_hill_16 (by decide) (fun c_16 => absurd c_16 (fun z => nI_ge (a := k) (b := 300) (by omega) (by decide) z)) (fun c_16 => ?_)
    refine A_aload0 dX12_hill_19 ?_
    refine A_getR gf_X12_42 rfl dX12_hill_20 ?_
    refine A_iload1 dX12_hill_23 ?_
    refine A_iconst (v := 0) dX12_hill_24 (by decide) ?_
    refine A_zast (rfl) (vp_in_nI (by omega) (by omega)) dX12_hill_25 ?_
    rw [nI_c (by omega), vz_0]
    refine A_aload0 dX12_hill_26 ?_
    refine A_getR gf_X12_46 rfl dX12_hill_27 ?_
    refine A_iload1 dX12_hill_30 ?_
    refine A_iconst (v := 0) dX12_hill_31 (by decide) ?_
    refine A_zast (rfl) (vp_in_nI (by omega) (by omega)) dX12_hill_32 ?_
    rw [nI_c (by omega), vz_0]
    refine A_aload0 dX12_hill_33 ?_
    refine A_getR gf_X12_49 rfl dX12_hill_34 ?_
    refine A_iload1 dX12_hill_37 ?_
    refine A_iconst (v := 0) dX12_hill_38 (by decide) ?_
    refine A_zast (rfl) (vp_in_nI (by omega) (by omega)) dX12_hill_39 ?_
    rw [nI_c (by omega), vz_0]
    refine A_iinc1 dX12_hill_40 rfl rfl (by decide) ?_
    rw [show nI k + Int32.ofInt 1 = nI (k + 1) from nI_1 k]
    refine A_goto (tgt := 12) dX12_hill_43 (by decide) ?_
    exact ih (k + 1) _ (by omega) (by rw [itN] at he; exact he)

set_option maxHeartbeats 100000 in
set_option maxRecDepth 100000 in
theorem L_X12_hill_408 {l : Launch} {G : Wd} {μ : Mem} {x : Value} (hn : ¬ 0 < (hl2 μ).1 0 2) : AW l G KM RX12 cX12_hill 2 6 (some .int) (Qi (fun v μ' => sp_hill μ = (v, μ'))) 408 [some (.ref (gA G 0)), some (x)] [] (hk3 (hl2 μ)) := by
  refine A_aload0 dX12_hill_408 ?_
  refine A_getI gf_X12_321 rfl dX12_hill_409 ?_
  refine A_aload0 dX12_hill_412 ?_
  refine A_getI gf_X12_324 rfl dX12_hill_413 ?_
  refine A_iadd dX12_hill_416 ?_
  refine A_iret dX12_hill_417 ?_
  exact ⟨_, rfl, if_neg hn⟩
set_option maxHeartbeats 100000 in
set_option maxRecDepth 100000 in
theorem L_X12_hill_361 {l : Launch} {G : Wd} {μ : Mem} {x : Value} (hn : ¬ 0 < (hl2 μ).1 0 2) : AW l G KM RX12 cX12_hill 2 6 (some .int) (Qi (fun v μ' => sp_hill μ = (v, μ'))) 361 [some (.ref (gA G 0)), some (x)] [] (itN hkD 60 0 (itN hkC 300 0 (itN hkB 40 0 (itN hkA 5 0 (hl2 μ))))) := by
  refine A_aload0 dX12_hill_361 ?_
  refine A_aload0 dX12_hill_362 ?_
  refine A_getI gf_X12_275 rfl dX12_hill_363 ?_
  refine A_putI gf_X12_321 rfl dX12_hill_366 ?_
  refine A_aload0 dX12_hill_369 ?_
  refine A_aload0 dX12_hill_370 ?_
  refine A_getI gf_X12_305 rfl dX12_hill_371 ?_
  refine A_putI gf_X12_324 rfl dX12_hill_374 ?_
  refine A_aload0 dX12_hill_377 ?_
  refine A_iconst (v := 0) dX12_hill_378 (by decide) ?_
  refine A_putI gf_X12_327 rfl dX12_hill_379 ?_
  refine A_aload0 dX12_hill_382 ?_
  refine A_iconst (v := 0) dX12_hill_383 (by decide) ?_
  refine A_putI gf_X12_330 rfl dX12_hill_384 ?_
  refine A_iconst (v := 0) dX12_hill_387 (by decide) ?_
  refine A_istore1 dX12_hill_388 rfl (by decide) ?_
  refine A_setm (μ' := hkE (itN hkD 60 0 (itN hkC 300 0 (itN hkB 40 0 (itN hkA 5 0 (hl2 μ)))))) ?_ ?_
  · unfold hkE
    rw [wI_ne (μ := itN hkD 60 0 _) (i := 0) (k := 31) (a := 0) (b := 30) (Or.inr (by decide))]
  exact L_X12_hill_389 (L_X12_hill_408 hn) 10 0 _ (by omega) rfl
set_option maxHeartbeats 100000 in
set_option maxRecDepth 100000 in
theorem L_X12_hill_316 {l : Launch} {G : Wd} {μ : Mem} {x : Value} (hn : ¬ 0 < (hl2 μ).1 0 2) : AW l G KM RX12 cX12_hill 2 6 (some .int) (Qi (fun v μ' => sp_hill μ = (v, μ'))) 316 [some (.ref (gA G 0)), some (x)] [] (itN hkC 300 0 (itN hkB 40 0 (itN hkA 5 0 (hl2 μ)))) := by
  refine A_iconst (v := 0) dX12_hill_316 (by decide) ?_
  refine A_istore1 dX12_hill_317 rfl (by decide) ?_
  exact L_X12_hill_318 (L_X12_hill_361 hn) 60 0 _ (by omega) rfl
set_option maxHeartbeats 100000 in
set_option maxRecDepth 100000 in
theorem L_X12_hill_265 {l : Launch} {G : Wd} {μ : Mem} {x : Value} (hn : ¬ 0 < (hl2 μ).1 0 2) : AW l G KM RX12 cX12_hill 2 6 (some .int) (Qi (fun v μ' => sp_hill μ = (v, μ'))) 265 [some (.ref (gA G 0)), some (x)] [] (itN hkB 40 0 (itN hkA 5 0 (hl2 μ))) := by
  refine A_iconst (v := 0) dX12_hill_265 (by decide) ?_
  refine A_istore1 dX12_hill_266 rfl (by decide) ?_
  exact L_X12_hill_267 (L_X12_hill_316 hn) 300 0 _ (by omega) rfl
set_option maxHeartbeats 100000 in
set_option maxRecDepth 100000 in
theorem L_X12_hill_239 {l : Launch} {G : Wd} {μ : Mem} {x : Value} (hn : ¬ 0 < (hl2 μ).1 0 2) : AW l G KM RX12 cX12_hill 2 6 (some .int) (Qi (fun v μ' => sp_hill μ = (v, μ'))) 239 [some (.ref (gA G 0)), some (x)] [] (itN hkA 5 0 (hl2 μ)) := by
  refine A_iconst (v := 0) dX12_hill_239 (by decide) ?_
  refine A_istore1 dX12_hill_240 rfl (by decide) ?_
  exact L_X12_hill_241 (L_X12_hill_265 hn) 40 0 _ (by omega) rfl
set_option maxHeartbeats 100000 in
set_option maxRecDepth 100000 in
theorem L_X12_hill_181 {l : Launch} {G : Wd} {μ : Mem} {x : Value} : AW l G KM RX12 cX12_hill 2 6 (some .int) (Qi (fun v μ' => sp_hill μ = (v, μ'))) 181 [some (.ref (gA G 0)), some (x)] [] (hl2 μ) := by
  refine A_aload0 dX12_hill_181 ?_
  refine A_getI gf_X12_210 rfl dX12_hill_182 ?_
  refine A_if_le (tgt := 190) dX12_hill_185 (by decide) (fun c_185 => ?_) (fun c_185 => ?_)
  · have hn : ¬ 0 < (hl2 μ).1 0 2 := Int32.not_lt.mpr c_185
    refine A_iconst (v := 0) dX12_hill_190 (by decide) ?_
    refine A_istore1 dX12_hill_191 rfl (by decide) ?_
    exact L_X12_hill_192 (L_X12_hill_239 hn) 5 0 _ (by omega) rfl
  · refine A_iconst (v := -1) dX12_hill_188 (by decide) ?_
    refine A_iret dX12_hill_189 ?_
    exact ⟨_, rfl, if_pos (Int32.not_le.mp c_185)⟩
set_option maxHeartbeats 100000 in
set_option maxRecDepth 100000 in
theorem L_X12_hill_167 {l : Launch} {G : Wd} {μ m : Mem} {q : Nat} {x : Value} (hB : WFl (hlB m) ∧ ((hlB m).1 0 2 = 0 → nbN (hlB m) + noN (hlB m) = nbN m + noN m + 1)) (hA : WFl (hlA m)) (ih : ∀ (m : Mem), WFl m → (m.1 0 2 = 0 → nbN m + noN m + q = 22) → hl2 μ = hlL q m → AW l G KM RX12 cX12_hill 2 6 (some .int) (Qi (fun v μ' => sp_hill μ = (v, μ'))) 79 [some (.ref (gA G 0)), some (x)] [] m) (hc : m.1 0 2 = 0 → nbN m + noN m + (q + 1) = 22) (h0 : m.1 0 2 = 0) (he2 : ∀ {m2 : Mem}, hlB m = m2 → hl2 μ = hlL q m2) : AW l G KM RX12 cX12_hill 2 6 (some .int) (Qi (fun v μ' => sp_hill μ = (v, μ'))) 167 [some (.ref (gA G 0)), some (x)] [] (hlS (hlA m)) := by
  refine A_aload0 dX12_hill_167 ?_
  refine A_getI gf_X12_210 rfl dX12_hill_168 ?_
  refine A_if_ne (tgt := 79) dX12_hill_171 (by decide) (fun c_171 => ?_) (fun c_171 => ?_)
  · have e3 : hlB m = hlS (hlA m) := if_neg c_171
    exact ih (hlS (hlA m)) (e3 ▸ hB.1) (fun z => absurd z c_171) (he2 e3)
  · refine A_aload0 dX12_hill_174 ?_
    refine A_vv0 lk_X12_213 yv_X12_token dX12_hill_175 (rfl) (rfl) (T_X12_tkn (hlS_c hA).1.1) (by decide) (Nat.le_of_ble_eq_true rfl) (fun μ_175 h_175 => ?_)
    refine A_goto (tgt := 79) dX12_hill_178 (by decide) ?_
    have e3 : hlB m = tkn (hlS (hlA m)) := if_pos c_171
    rw [h_175]
    exact ih (tkn (hlS (hlA m))) (e3 ▸ hB.1) (fun z => by have := hB.2 (e3 ▸ z); rw [e3] at this; have := hc h0; omega) (he2 e3)
set_option maxHeartbeats 100000 in
set_option maxRecDepth 100000 in
theorem L_X12_hill_146 {l : Launch} {G : Wd} {μ m : Mem} {q : Nat} {x : Value} (hB : WFl (hlB m) ∧ ((hlB m).1 0 2 = 0 → nbN (hlB m) + noN (hlB m) = nbN m + noN m + 1)) (hA : WFl (hlA m)) (ih : ∀ (m : Mem), WFl m → (m.1 0 2 = 0 → nbN m + noN m + q = 22) → hl2 μ = hlL q m → AW l G KM RX12 cX12_hill 2 6 (some .int) (Qi (fun v μ' => sp_hill μ = (v, μ'))) 79 [some (.ref (gA G 0)), some (x)] [] m) (hc : m.1 0 2 = 0 → nbN m + noN m + (q + 1) = 22) (h0 : m.1 0 2 = 0) (he2 : ∀ {m2 : Mem}, hlB m = m2 → hl2 μ = hlL q m2) : AW l G KM RX12 cX12_hill 2 6 (some .int) (Qi (fun v μ' => sp_hill μ = (v, μ'))) 146 [some (.ref (gA G 0)), some (x)] [] (hlA m) := by
  refine A_aload0 dX12_hill_146 ?_
  refine A_getI gf_X12_210 rfl dX12_hill_147 ?_
  refine A_if_ne (tgt := 167) dX12_hill_150 (by decide) (fun c_150 => ?_) (fun c_150 => ?_)
  · have e1 : hlS (hlA m) = hlA m := if_neg (fun z => c_150 z.1)
    rw [← e1]
    exact L_X12_hill_167 hB hA ih hc h0 he2
  · refine A_aload0 dX12_hill_153 ?_
    refine A_getI gf_X12_197 rfl dX12_hill_154 ?_
    refine A_bipush (v := 59) dX12_hill_157 (by decide) ?_
    refine A_icmp_eq (tgt := 167) dX12_hill_159 (by decide) (fun c_159 => ?_) (fun c_159 => ?_)
    · have e1 : hlS (hlA m) = hlA m := if_neg (fun z => z.2 c_159)
      rw [← e1]
      exact L_X12_hill_167 hB hA ih hc h0 he2
    · refine A_aload0 dX12_hill_162 ?_
      refine A_iconst (v := 2) dX12_hill_163 (by decide) ?_
      refine A_vv1 lk_X12_272 yv_X12_spoil dX12_hill_164 (rfl) (rfl) (T_X12_spoil) (by decide) (Nat.le_of_ble_eq_true rfl) (fun μ_164 h_164 => ?_)
      have e1 : hlS (hlA m) = sp_spoil (hlA m) 2 := if_pos ⟨c_150, c_159⟩
      rw [h_164, ← e1]
      exact L_X12_hill_167 hB hA ih hc h0 he2
set_option maxHeartbeats 100000 in
set_option maxRecDepth 100000 in
theorem L_X12_hill_79 {l : Launch} {G : Wd} {μ : Mem} {x : Value} : ∀ (q : Nat) (m : Mem), WFl m → (m.1 0 2 = 0 → nbN m + noN m + q = 22) → hl2 μ = hlL q m → AW l G KM RX12 cX12_hill 2 6 (some .int) (Qi (fun v μ' => sp_hill μ = (v, μ'))) 79 [some (.ref (gA G 0)), some (x)] [] m := by
  intro q
  induction q with
  | zero =>
    intro m hw hc he
    have he2 : m = hl2 μ := he.symm
    have hn : ¬ m.1 0 2 = 0 := fun z => by have := hc z; have := hw.2.1.t.1; have := hw.2.2.1.t.1; omega
    refine A_aload0 dX12_hill_79 ?_
    refine A_getI gf_X12_210 rfl dX12_hill_80 ?_
    refine A_if_ne (tgt := 181) dX12_hill_83 (by decide) (fun c_83 => ?_) (fun c_83 => absurd c_83 (fun z => hn z))
    rw [he2]
    exact L_X12_hill_181
  | succ q ih =>
    intro m hw hc he
    refine A_aload0 dX12_hill_79 ?_
    refine A_getI gf_X12_210 rfl dX12_hill_80 ?_
    refine A_if_ne (tgt := 181) dX12_hill_83 (by decide) (fun c_83 => ?_) (fun c_83 => ?_)
    · have e9 : hl2 μ = m := by rw [he, hlL, if_neg (fun z => c_83 z.1)]
      rw [← e9]
      exact L_X12_hill_181
    · have h0 : m.1 0 2 = 0 := c_83
      refine A_aload0 dX12_hill_86 ?_
      refine A_getI gf_X12_197 rfl dX12_hill_87 ?_
      refine A_if_eq (tgt := 181) dX12_hill_90 (by decide) (fun c_90 => ?_) (fun c_90 => ?_)
      · have e9 : hl2 μ = m := by rw [he, hlL, if_neg (fun z => z.2 c_90)]
        rw [← e9]
        exact L_X12_hill_181
      · have hB := hlB_c hw h0
        have hA := (hlA_c hw h0).1
        have he2 : ∀ {m2 : Mem}, hlB m = m2 → hl2 μ = hlL q m2 := fun {m2} e => by rw [← e, he, hlL, if_pos ⟨h0, c_90⟩]
        refine A_aload0 dX12_hill_93 ?_
        refine A_ldc2 dX12_hill_94 kc_X12_216 ?_
        refine A_vi1 lk_X12_268 yv_X12_isWord dX12_hill_97 (rfl) (rfl) (T_X12_isWord) (by decide) (Nat.le_of_ble_eq_true rfl) (fun r_97 μ_97 h_97 => ?_)
        obtain ⟨v_97, e_97⟩ := h_97
        replace v_97 := Eq.symm v_97
        subst v_97
        replace e_97 := e_97.symm
        subst e_97
        refine A_if_eq (tgt := 118) dX12_hill_100 (by decide) (fun c_100 => ?_) (fun c_100 => ?_)
        · refine A_aload0 dX12_hill_118 ?_
          refine A_vi0 lk_X12_315 yv_X12_isOther dX12_hill_119 (rfl) (rfl) (T_X12_isOther) (by decide) (Nat.le_of_ble_eq_true rfl) (fun r_119 μ_119 h_119 => ?_)
          obtain ⟨v_119, e_119⟩ := h_119
          replace v_119 := Eq.symm v_119
          subst v_119
          replace e_119 := e_119.symm
          subst e_119
          refine A_if_eq (tgt := 141) dX12_hill_122 (by decide) (fun c_122 => ?_) (fun c_122 => ?_)
          · refine A_aload0 dX12_hill_141 ?_
            refine A_iconst (v := 2) dX12_hill_142 (by decide) ?_
            refine A_vv1 lk_X12_272 yv_X12_spoil dX12_hill_143 (rfl) (rfl) (T_X12_spoil) (by decide) (Nat.le_of_ble_eq_true rfl) (fun μ_143 h_143 => ?_)
            have e1 : hlA m = sp_spoil m 2 := (if_neg (fun z => bz_0.mp c_100 z.1)).trans (if_neg (fun z => bz_0.mp c_122 z.1))
            rw [h_143, ← e1]
            exact L_X12_hill_146 hB hA ih hc h0 he2
          · refine A_aload0 dX12_hill_125 ?_
            refine A_getI gf_X12_305 rfl dX12_hill_126 ?_
            refine A_bipush (v := 16) dX12_hill_129 (by decide) ?_
            refine A_icmp_ge (tgt := 141) dX12_hill_131 (by decide) (fun c_131 => ?_) (fun c_131 => ?_)
            · refine A_aload0 dX12_hill_141 ?_
              refine A_iconst (v := 2) dX12_hill_142 (by decide) ?_
              refine A_vv1 lk_X12_272 yv_X12_spoil dX12_hill_143 (rfl) (rfl) (T_X12_spoil) (by decide) (Nat.le_of_ble_eq_true rfl) (fun μ_143 h_143 => ?_)
              have e1 : hlA m = sp_spoil m 2 := (if_neg (fun z => bz_0.mp c_100 z.1)).trans (if_neg (fun z => absurd z.2 (Int32.not_lt.mpr c_131)))
              rw [h_143, ← e1]
              exact L_X12_hill_146 hB hA ih hc h0 he2
            · refine A_aload0 dX12_hill_134 ?_
              refine A_vv0 lk_X12_318 yv_X12_readOther dX12_hill_135 (rfl) (rfl) (T_X12_readOther hw.1 hw.2.1 h0) (by decide) (Nat.le_of_ble_eq_true rfl) (fun μ_135 h_135 => ?_)
              refine A_goto (tgt := 146) dX12_hill_138 (by decide) ?_
              have e1 : hlA m = sp_readOther m := (if_neg (fun z => bz_0.mp c_100 z.1)).trans (if_pos ⟨bz_y c_122, Int32.not_le.mp c_131⟩)
              rw [h_135, ← e1]
              exact L_X12_hill_146 hB hA ih hc h0 he2
        · refine A_aload0 dX12_hill_103 ?_
          refine A_getI gf_X12_275 rfl dX12_hill_104 ?_
          refine A_iconst (v := 5) dX12_hill_107 (by decide) ?_
          refine A_icmp_ge (tgt := 118) dX12_hill_108 (by decide) (fun c_108 => ?_) (fun c_108 => ?_)
          · refine A_aload0 dX12_hill_118 ?_
            refine A_vi0 lk_X12_315 yv_X12_isOther dX12_hill_119 (rfl) (rfl) (T_X12_isOther) (by decide) (Nat.le_of_ble_eq_true rfl) (fun r_119 μ_119 h_119 => ?_)
            obtain ⟨v_119, e_119⟩ := h_119
            replace v_119 := Eq.symm v_119
            subst v_119
            replace e_119 := e_119.symm
            subst e_119
            refine A_if_eq (tgt := 141) dX12_hill_122 (by decide) (fun c_122 => ?_) (fun c_122 => ?_)
            · refine A_aload0 dX12_hill_141 ?_
              refine A_iconst (v := 2) dX12_hill_142 (by decide) ?_
              refine A_vv1 lk_X12_272 yv_X12_spoil dX12_hill_143 (rfl) (rfl) (T_X12_spoil) (by decide) (Nat.le_of_ble_eq_true rfl) (fun μ_143 h_143 => ?_)
              have e1 : hlA m = sp_spoil m 2 := (if_neg (fun z => absurd z.2 (Int32.not_lt.mpr c_108))).trans (if_neg (fun z => bz_0.mp c_122 z.1))
              rw [h_143, ← e1]
              exact L_X12_hill_146 hB hA ih hc h0 he2
            · refine A_aload0 dX12_hill_125 ?_
              refine A_getI gf_X12_305 rfl dX12_hill_126 ?_
              refine A_bipush (v := 16) dX12_hill_129 (by decide) ?_
              refine A_icmp_ge (tgt := 141) dX12_hill_131 (by decide) (fun c_131 => ?_) (fun c_131 => ?_)
              · refine A_aload0 dX12_hill_141 ?_
                refine A_iconst (v := 2) dX12_hill_142 (by decide) ?_
                refine A_vv1 lk_X12_272 yv_X12_spoil dX12_hill_143 (rfl) (rfl) (T_X12_spoil) (by decide) (Nat.le_of_ble_eq_true rfl) (fun μ_143 h_143 => ?_)
                have e1 : hlA m = sp_spoil m 2 := (if_neg (fun z => absurd z.2 (Int32.not_lt.mpr c_108))).trans (if_neg (fun z => absurd z.2 (Int32.not_lt.mpr c_131)))
                rw [h_143, ← e1]
                exact L_X12_hill_146 hB hA ih hc h0 he2
              · refine A_aload0 dX12_hill_134 ?_
                refine A_vv0 lk_X12_318 yv_X12_readOther dX12_hill_135 (rfl) (rfl) (T_X12_readOther hw.1 hw.2.1 h0) (by decide) (Nat.le_of_ble_eq_true rfl) (fun μ_135 h_135 => ?_)
                refine A_goto (tgt := 146) dX12_hill_138 (by decide) ?_
                have e1 : hlA m = sp_readOther m := (if_neg (fun z => absurd z.2 (Int32.not_lt.mpr c_108))).trans (if_pos ⟨bz_y c_122, Int32.not_le.mp c_131⟩)
                rw [h_135, ← e1]
                exact L_X12_hill_146 hB hA ih hc h0 he2
          · have hq : isWd m 6451064 ∧ m.1 0 29 < 5 := ⟨bz_y c_100, Int32.not_le.mp c_108⟩
            have hb5 : nbN m < 5 := (nI_ltI (a := nbN m) (b := 5) (by have := hw.2.1.t.1; omega) (by decide)).mp (by rw [← hw.2.1.t.2]; exact hq.2)
            refine A_aload0 dX12_hill_111 ?_
            refine A_vv0 lk_X12_312 yv_X12_readBox dX12_hill_112 (rfl) (rfl) (T_X12_readBox hw.1 hw.2.1 hb5) (by decide) (Nat.le_of_ble_eq_true rfl) (fun μ_112 h_112 => ?_)
            refine A_goto (tgt := 146) dX12_hill_115 (by decide) ?_
            have e1 : hlA m = sp_readBox m := if_pos hq
            rw [h_112, ← e1]
            exact L_X12_hill_146 hB hA ih hc h0 he2
set_option maxHeartbeats 100000 in
set_option maxRecDepth 100000 in
theorem L_X12_hill_74 {l : Launch} {G : Wd} {μ : Mem} {x : Value} (hw : WFt μ) : AW l G KM RX12 cX12_hill 2 6 (some .int) (Qi (fun v μ' => sp_hill μ = (v, μ'))) 74 [some (.ref (gA G 0)), some (x)] [] (hl0 μ) := by
  refine A_aload0 dX12_hill_74 ?_
  refine A_iconst (v := 0) dX12_hill_75 (by decide) ?_
  refine A_vv1 lk_X12_308 yv_X12_start dX12_hill_76 (rfl) (rfl) (T_X12_start (by decide) (hl0_t hw)) (by decide) (Nat.le_of_ble_eq_true rfl) (fun μ_76 h_76 => ?_)
  replace h_76 := Eq.symm h_76
  subst h_76
  obtain ⟨s1, s2, s3⟩ := start_l (z := 0) (hl0_t hw) hl0_29 hl0_30
  exact L_X12_hill_79 22 _ s1 (fun _ => by omega) rfl
set_option maxHeartbeats 100000 in
set_option maxRecDepth 100000 in
theorem L_X12_hill_46 {l : Launch} {G : Wd} {μ : Mem} {x : Value} (hw : WFt μ) : AW l G KM RX12 cX12_hill 2 6 (some .int) (Qi (fun v μ' => sp_hill μ = (v, μ'))) 46 [some (.ref (gA G 0)), some (x)] [] (itN hcA 300 0 (wI (wI μ 0 29 0) 0 30 0)) := by
  refine A_iconst (v := 0) dX12_hill_46 (by decide) ?_
  refine A_istore1 dX12_hill_47 rfl (by decide) ?_
  exact L_X12_hill_48 (L_X12_hill_74 hw) 60 0 _ (by omega) rfl
set_option maxHeartbeats 100000 in
set_option maxRecDepth 100000 in
theorem T_X12_hill {l : Launch} {G : Wd} {μ : Mem} (hw : WFt μ) : Mt l G KM yX12_hill cX12_hill 2 (some .int) 6 [.ref (gA G 0)] μ (Qi (fun v μ' => sp_hill μ = (v, μ'))) := by
  refine Mt.of (own := RX12) (n := 1) (by decide) rfl [some (.ref (gA G 0)), none] rfl (Nat.le_of_ble_eq_true rfl) ?_
  refine A_aload0 dX12_hill_0 ?_
  refine A_iconst (v := 0) dX12_hill_1 (by decide) ?_
  refine A_putI gf_X12_275 rfl dX12_hill_2 ?_
  refine A_aload0 dX12_hill_5 ?_
  refine A_iconst (v := 0) dX12_hill_6 (by decide) ?_
  refine A_putI gf_X12_305 rfl dX12_hill_7 ?_
  refine A_iconst (v := 0) dX12_hill_10 (by decide) ?_
  refine A_istore1 dX12_hill_11 rfl (by decide) ?_
  exact L_X12_hill_12 (L_X12_hill_46 hw) 300 0 _ (by omega) rfl

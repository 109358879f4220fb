/-! all rules -/
def Rz (m m' : Mem) : Prop := (∀ i j, ¬ rdK i j → ¬ (i = 0 ∧ 70 ≤ j ∧ j ≤ 75 ∧ j ≠ 72) → i ≠ 40 → i ≠ 41 → i ≠ 42 → i ≠ 46 → i ≠ 48 → m'.1 i j = m.1 i j) ∧ (∀ i j, ¬ (i = 0 ∧ j = 9) → m'.2.1 i j = m.2.1 i j) ∧ m'.2.2 = m.2.2
theorem Rz.rf {m : Mem} : Rz m m := ⟨fun _ _ _ _ _ _ _ _ _ => rfl, fun _ _ _ => rfl, rfl⟩
theorem Rz.tr {a b c : Mem} (h : Rz a b) (g : Rz b c) : Rz a c := ⟨fun i j q q1 q2 q3 q4 q5 q6 => (g.1 i j q q1 q2 q3 q4 q5 q6).trans (h.1 i j q q1 q2 q3 q4 q5 q6), fun i j q => (g.2.1 i j q).trans (h.2.1 i j q), g.2.2.trans h.2.2⟩
theorem Rz.r {a b c : Mem} (h : Rz a b) (g : Rd b c) : Rz a c := h.tr ⟨fun i j q _ _ _ _ _ _ => g.1 i j q, g.2.1, g.2.2⟩
theorem Rz.q {β : Nat} {a b c : Mem} (h : Rz a b) (g : Rq β b c) : Rz a c := h.tr ⟨fun i j q q1 q2 q3 q4 q5 q6 => g.1 i j q q5 (by omega) (by omega), g.2.1, g.2.2⟩
theorem Rd.rA {m : Mem} : Rd m (rrA m) := by
  unfold rrA
  split
  · exact Rd.rf.sp.wa
  · exact Rd.rf.wa
theorem tk_same {m : Mem} {i j : Nat} (h : ¬ rdK i j) : (tkn m).1 i j = m.1 i j := Rd.rf.tk.1 i j h
set_option maxHeartbeats 400000 in
theorem readRule_s {r : Nat} {m : Mem} (h : PrI r m) : 0 ≤ (sp_readRule m).1 0 2 ∧ Rz m (sp_readRule m) ∧ ((sp_readRule m).1 0 2 = 0 → PrI (r + 1) (sp_readRule m)) := by
  have hf0 : 0 ≤ m.1 0 2 := by rw [h.2.2.2.1]; decide
  have zA : Rz m (rrA m) := Rz.rf.r Rd.rA
  unfold sp_readRule
  split
  · rename_i q
    exact ⟨Int32.le_of_lt q, zA, fun z => absurd z (ps_0 q)⟩
  · rename_i qA
    have hA0 : (rrA m).1 0 2 = 0 := Fg.z (Fg.rA hf0) (Int32.not_lt.mp qA)
    obtain ⟨hr6, n, u0, b1, b2, b3, b4, b5, b6, b7, b8⟩ := rrB_s h hA0
    have zB : Rz m (rrB (rrA m)) := ⟨fun i j q q1 q2 q3 q4 q5 q6 => b6 i j q (by omega) (by omega), b7, b8⟩
    have hL : LpI n 502 0 (rrB (rrA m)) := ⟨by rw [b3.2.2.2.1]; decide, fun _ => ⟨b3, by omega⟩⟩
    obtain ⟨c1, c2, c3⟩ := rrL_s 502 0 (rrB (rrA m)) hL
    have eC : rrL 502 0 (rrB (rrA m)) = rrC m := rfl
    rw [eC] at c1 c2 c3
    have zC : Rz m (rrC m) := zB.q c2
    split
    · rename_i q
      exact ⟨c1, zC, fun z => absurd z (ps_0 q)⟩
    · rename_i qC
      have hC0 : (rrC m).1 0 2 = 0 := Fg.z c1 (Int32.not_lt.mp qC)
      obtain ⟨d1, d2, d3⟩ := c3 hC0
      obtain ⟨-, -, -, -, h71, -, hn0, u00, p1, p2, p3, p4, p5, p6⟩ := h
      have en : hn0 = n := by
        have e := p1.symm.trans b1
        have := b2
        have := b3.1.2.2.2.2.1
        have := b3.2.1
        have hpl : plN m ≤ 500 := by omega
        exact (nI_eq (by omega) (by omega)).mp e
      subst en
      obtain ⟨t, hs, hb, hf, -, n1, w1, u1, e1, e2, e3, e4, e5⟩ := d1
      rw [if_pos rfl] at e5
      have hp5 : plN (rrC m) ≤ 500 := by have := t.2.2.2.2.1; omega
      obtain ⟨w', s1, s2⟩ : ∃ w', Stl 0 w1 n1 (rrC m) (sp_settle (rrC m) 0) w' ∧ SI hn0 (n1 + (w1 - w')) w' u1 1 (sp_settle (rrC m) 0) := by
        unfold sp_settle
        rw [wtN_e e2 (by omega)]
        exact SI.settle 0 w1 n1 (rrC m) e2 e1 (by omega) e5
      have hw0 : w' = 0 := by
        rcases s1.2.2.2.2.2.2.2.1 with z | z | z
        · exact z
        · rcases Nat.eq_zero_or_pos w' with y | y
          · exact y
          · have hd := d2.2.2
            rw [wtN_e e2 (by omega)] at hd
            exact absurd z (opQ_0 w1 hd (w' - 1) (by have := s1.1; omega))
        · rcases Nat.eq_zero_or_pos w' with y | y
          · exact y
          · exfalso
            have h20 := okW_20 (e5.2.1 (w' - 1) (by have := s1.1; omega))
            have g1 := i_lt.mp z
            exact h20 (i_lt.mpr (by have : (20 : Int32).toInt = 20 := rfl; have : (0 : Int32).toInt = 0 := rfl; omega))
      subst hw0
      rw [Nat.sub_zero] at s2
      have hbn : hn0 ≤ n1 := e5.1
      have hq := s1.2.2.2.2.1
      obtain ⟨t1, t2, t3, t4⟩ := t.stl s1
      have zS : Rz m (sp_settle (rrC m) 0) := zC.q (Rq.rf.stl s1 hbn)
      have eG : rrG m = hlS (hlT (rrF (rrW (tkn (sp_settle (rrC m) 0))))) := rfl
      have qS : Rq hn0 (rrB (rrA m)) (sp_settle (rrC m) 0) := c2.stl s1 hbn
      have hvS : plN (rrC m) < atN (rrC m) := t.2.2.2.2.2 (isWd_v d2.2.1).1 (isWd_v d2.2.1).2
      have hbS : WFb (sp_settle (rrC m) 0) := hb.of (hq 0 31 (by omega) (by omega) (by omega))
      have S2 : (sp_settle (rrC m) 0).1 0 2 = 0 := (hq 0 2 (by omega) (by omega) (by omega)).trans hC0
      have S71 : (sp_settle (rrC m) 0).1 0 71 = nI r := (qS.1 0 71 (by decide) (by decide) (by decide) (by omega)).trans ((b6 0 71 (by decide) (by omega) (by decide)).trans h71)
      have S73 : (sp_settle (rrC m) 0).1 0 73 = nI u1 := (hq 0 73 (by omega) (by omega) (by omega)).trans e3
      have S70 : (sp_settle (rrC m) 0).1 0 70 = nI (n1 + w1) := s1.2.2.1
      have qm : ∀ j, ¬ j = r → (sp_settle (rrC m) 0).1 42 j = m.1 42 j := fun j hj => (qS.1 42 j (by unfold rdK; omega) (by decide) (by omega) (by omega)).trans (b6 42 j (by unfold rdK; omega) (by omega) (by omega))
      have q42 : (sp_settle (rrC m) 0).1 42 r = nI hn0 := (qS.1 42 r (by unfold rdK; omega) (by decide) (by omega) (by omega)).trans b5
      have q48 : ∀ j, (sp_settle (rrC m) 0).1 48 j = m.1 48 j := fun j => (qS.1 48 j (by unfold rdK; omega) (by decide) (by omega) (by omega)).trans (b6 48 j (by unfold rdK; omega) (by omega) (by omega))
      have q40 : ∀ i j, (i = 40 ∨ i = 41) → j < hn0 → (sp_settle (rrC m) 0).1 i j = m.1 i j := fun i j hi hj => (qS.1 i j (by unfold rdK; omega) (by omega) (by omega) (by omega)).trans (b6 i j (by unfold rdK; omega) (by omega) (by omega))
      have eG : rrG m = hlS (hlT (rrF (rrW (tkn (sp_settle (rrC m) 0))))) := rfl
      clear qS e5 s1 hq c1 c2 c3 d2 d3
      generalize sp_settle (rrC m) 0 = S at *
      have zT : Rz m (tkn S) := zS.r Rd.rf.tk
      have T71 : (tkn S).1 0 71 = nI r := (tk_same (by decide)).trans S71
      have eW : rrW (tkn S) = wI (tkn S) 48 r (bz (isWd (tkn S) 7824756)) := by unfold rrW; rw [T71, nI_c (by omega)]
      have zV : Rz m (rrW (tkn S)) := zT.tr ⟨fun i j q q1 q2 q3 q4 q5 q6 => by rw [eW, wI_ne (by omega)], fun _ _ _ => by rw [eW]; rfl, by rw [eW]; rfl⟩
      have zG : Rz m (rrG m) := by rw [eG]; exact ((zV.r Rd.rF).r Rd.hT).r Rd.hS
      have fV : (rrW (tkn S)).1 0 2 = 0 := by rw [eW, wI_ne (by omega), tkn_2]; exact S2
      have fG : 0 ≤ (rrG m).1 0 2 := by rw [eG]; exact Fg.hS (Fg.hT (Fg.rF (by rw [fV]; decide)))
      split
      · rename_i q
        exact ⟨fG, zG, fun z => absurd z (ps_0 q)⟩
      · rename_i qG
        have hG0 : (rrG m).1 0 2 = 0 := Fg.z fG (Int32.not_lt.mp qG)
        rw [eG] at hG0
        obtain ⟨g1, g2⟩ := hlS_0 hG0
        rw [g1] at hG0
        rw [hlT_2] at hG0
        obtain ⟨g3, g4⟩ := rrF_0 hG0
        rw [g3] at g1 g2
        rw [hlT_0 fV] at g1 g2
        have eX : rrG m = tkn (rrW (tkn S)) := by rw [eG, g3]; rw [hlT_0 fV]; exact g1
        obtain ⟨k1, k2, k3⟩ := t1.n
        have V0 : ∀ i j, ¬ (i = 48 ∧ j = r) → (rrW (tkn S)).1 i j = (tkn S).1 i j := fun i j hj => by rw [eW, wI_ne (by omega)]
        have V48 : (rrW (tkn S)).1 48 r = 0 ∨ (rrW (tkn S)).1 48 r = 1 := by rw [eW, wI_same]; exact bz_01 _
        clear eW eG
        generalize rrW (tkn S) = V at *
        obtain ⟨k4, k5, k6, k7⟩ := k1.of (m' := V) (funext fun j => V0 1 j (by omega)) (V0 0 4 (by omega)) (V0 0 5 (by omega)) (V0 0 6 (by omega)) (V0 0 7 (by omega))
        obtain ⟨k8, k9, k10⟩ := k4.n
        have hvV : plN V < atN V := by rcases g4 with z | z <;> exact k4.2.2.2.2.2 (isWd_v z).1 (isWd_v z).2
        have hvX : plN (tkn V) < atN (tkn V) := k8.2.2.2.2.2 (by rw [g2]; decide) (by rw [g2]; decide)
        rw [eX]
        obtain ⟨k11, k12, k13⟩ := k8.n
        have Y0 : ∀ i j, ¬ rdK i j → ¬ (i = 48 ∧ j = r) → (tkn (tkn V)).1 i j = S.1 i j := fun i j h1 h2 => (tk_same h1).trans ((tk_same h1).trans ((V0 i j h2).trans (tk_same h1)))
        have Y48 : (tkn (tkn V)).1 48 r = 0 ∨ (tkn (tkn V)).1 48 r = 1 := by rw [tk_same (by unfold rdK; omega), tk_same (by unfold rdK; omega)]; exact V48
        have zY : Rz m (tkn (tkn V)) := (zV.r Rd.rf.tk).r Rd.rf.tk
        have fY : (tkn (tkn V)).1 0 2 = 0 := by rw [tkn_2, tkn_2]; exact fV
        unfold rrZ
        generalize tkn (tkn V) = Y at *
        have Y71 : Y.1 0 71 = nI r := (Y0 0 71 (by decide) (by omega)).trans S71
        have Y70 : Y.1 0 70 = nI (n1 + w1) := (Y0 0 70 (by decide) (by omega)).trans S70
        rw [Y71, nI_1, nI_c (by omega), Y70]
        have Z0 : ∀ i j, ¬ (i = 0 ∧ j = 71) → ¬ (i = 42 ∧ j = r + 1) → (wI (wI Y 0 71 (nI (r + 1))) 42 (r + 1) (nI (n1 + w1))).1 i j = Y.1 i j := fun i j h1 h2 => by rw [wI_ne (by omega), wI_ne (by omega)]
        have Z71 : (wI (wI Y 0 71 (nI (r + 1))) 42 (r + 1) (nI (n1 + w1))).1 0 71 = nI (r + 1) := by rw [wI_ne (by omega), wI_same]
        have Z42 : (wI (wI Y 0 71 (nI (r + 1))) 42 (r + 1) (nI (n1 + w1))).1 42 (r + 1) = nI (n1 + w1) := wI_same
        have zZ : Rz m (wI (wI Y 0 71 (nI (r + 1))) 42 (r + 1) (nI (n1 + w1))) := zY.tr ⟨fun i j q q1 q2 q3 q4 q5 q6 => Z0 i j (by omega) (by omega), fun _ _ _ => rfl, rfl⟩
        generalize wI (wI Y 0 71 (nI (r + 1))) 42 (r + 1) (nI (n1 + w1)) = Z at *
        refine ⟨by rw [Z0 0 2 (by omega) (by omega), fY]; decide, zZ, fun _ => ?_⟩
        obtain ⟨k14, k15, k16, k17⟩ := k11.of (m' := Z) (funext fun j => Z0 1 j (by omega) (by omega)) (Z0 0 4 (by omega) (by omega)) (Z0 0 5 (by omega) (by omega)) (Z0 0 6 (by omega) (by omega)) (Z0 0 7 (by omega) (by omega))
        have ZS : ∀ i j, ¬ rdK i j → ¬ (i = 48 ∧ j = r) → ¬ (i = 0 ∧ j = 71) → ¬ (i = 42 ∧ j = r + 1) → Z.1 i j = S.1 i j := fun i j a1 a2 a3 a4 => (Z0 i j a3 a4).trans (Y0 i j a1 a2)
        refine ⟨k14, by omega, hbS.of (ZS 0 31 (by decide) (by omega) (by omega) (by omega)), (Z0 0 2 (by omega) (by omega)).trans fY, Z71, by omega, n1 + w1, u1, (ZS 0 70 (by decide) (by omega) (by omega) (by omega)).trans S70, (ZS 0 73 (by decide) (by omega) (by omega) (by omega)).trans S73, s2.2.2.2.2.2, by omega, fun i hi => ?_, fun _ => Z42⟩
        by_cases ei : i = r
        · subst ei
          refine ⟨hn0, n1 + w1, (ZS 42 i (by unfold rdK; omega) (by omega) (by omega) (by omega)).trans q42, Z42, by omega, Nat.le_refl _, fun j hj => ?_, ?_, ?_⟩
          · exact okF_c (fun k hk => (ZS 40 _ (by unfold rdK; omega) (by omega) (by omega) (by omega)).symm) ((ZS 41 _ (by unfold rdK; omega) (by omega) (by omega) (by omega)).symm) (s2.2.2.1 j hj)
          · rw [Z0 48 i (by omega) (by omega)]; exact Y48
          · rw [dpF_c (V := S.1 40) _ (fun j hj => ZS 40 _ (by unfold rdK; omega) (by omega) (by omega) (by omega)), s2.2.2.2.1]
            omega
        · refine (p5 i (by omega)).of (by omega) (fun j hj => ?_) (fun j hj => ?_) ?_ ?_ ?_
          · exact (ZS 40 j (by unfold rdK; omega) (by omega) (by omega) (by omega)).trans (q40 40 j (Or.inl rfl) (by omega))
          · exact (ZS 41 j (by unfold rdK; omega) (by omega) (by omega) (by omega)).trans (q40 41 j (Or.inr rfl) (by omega))
          · exact (ZS 42 i (by unfold rdK; omega) (by omega) (by omega) (by omega)).trans (qm i ei)
          · by_cases e9 : i + 1 = r
            · rw [e9, ZS 42 r (by unfold rdK; omega) (by omega) (by omega) (by omega), q42, p6 (by omega)]
            · exact (ZS 42 (i + 1) (by unfold rdK; omega) (by omega) (by omega) (by omega)).trans (qm (i + 1) e9)
          · exact (ZS 48 i (by unfold rdK; omega) (by omega) (by omega) (by omega)).trans (q48 i)

def rlA (μ : Mem) : Mem := sp_start (wI (wI (wI μ 0 70 0) 0 71 0) 0 73 0) 1
def rlL : Nat → Mem → Mem
  | 0, m => m
  | q + 1, m => if m.1 0 2 = 0 ∧ ¬ m.1 0 6 = 0 then rlL q (sp_readRule m) else m
def rl2 (μ : Mem) : Mem := rlL 7 (rlA μ)
def rcA (k : Nat) (m : Mem) : Mem := wI (wI m 43 k (m.1 40 k)) 44 k (m.1 41 k)
def rcB (k : Nat) (m : Mem) : Mem := wI (wI (wI m 45 k (m.1 42 k)) 45 (k + 1) (m.1 42 (k + 1))) 49 k (vp_nar .boolean (m.1 48 k))
def rlB (m : Mem) : Mem := itN rcA (ntN m) 0 m
def rlC (m : Mem) : Mem := itN rcB (m.1 0 71).toNatClampNeg 0 m
def rl3 (m : Mem) : Mem := wI (rlC (rlB m)) 0 72 ((rlC (rlB m)).1 0 71)
def sp_rules (μ : Mem) : Int32 × Mem := if 500 < μ.1 0 1 then (-2, μ) else if 0 < (rl2 μ).1 0 2 then (-1, rl2 μ) else ((rl3 (rl2 μ)).1 0 72, rl3 (rl2 μ))
def LrI (q : Nat) (m : Mem) : Prop := 0 ≤ m.1 0 2 ∧ (m.1 0 2 = 0 → ∃ r, PrI r m ∧ r + q = 7)
theorem LrI.s {q : Nat} {m : Mem} (h : LrI (q + 1) m) (h0 : m.1 0 2 = 0) : LrI q (sp_readRule m) ∧ Rz m (sp_readRule m) := by
  obtain ⟨r, h1, h2⟩ := h.2 h0
  obtain ⟨a1, a2, a3⟩ := readRule_s h1
  exact ⟨⟨a1, fun z => ⟨r + 1, a3 z, by omega⟩⟩, a2⟩
theorem rlL_s : ∀ (q : Nat) (m : Mem), LrI q m → 0 ≤ (rlL q m).1 0 2 ∧ Rz m (rlL q m) ∧ ((rlL q m).1 0 2 = 0 → ∃ r, PrI r (rlL q m)) := by
  intro q
  induction q with
  | zero => intro m h; exact ⟨h.1, Rz.rf, fun z => by obtain ⟨r, h1, h2⟩ := h.2 z; exact ⟨r, h1⟩⟩
  | succ q ih =>
    intro m h
    unfold rlL
    split
    · rename_i c
      obtain ⟨s1, s2⟩ := h.s c.1
      obtain ⟨i1, i2, i3⟩ := ih _ s1
      exact ⟨i1, s2.tr i2, i3⟩
    · exact ⟨h.1, Rz.rf, fun z => by obtain ⟨r, h1, h2⟩ := h.2 z; exact ⟨r, h1⟩⟩
theorem rlA_s {μ : Mem} (ht : WFt μ) (hb : WFb μ) (h5 : ¬ 500 < μ.1 0 1) : LrI 7 (rlA μ) := by
  have hW : WFt (wI (wI (wI μ 0 70 0) 0 71 0) 0 73 0) := by
    obtain ⟨t, h1, h2⟩ := ht
    exact ⟨t, h1, by rw [wI_ne (by omega), wI_ne (by omega), wI_ne (by omega)]; exact h2⟩
  have hbW : WFb (wI (wI (wI μ 0 70 0) 0 71 0) 0 73 0) := hb.of (by rw [wI_ne (by omega), wI_ne (by omega), wI_ne (by omega)])
  have e70 : (wI (wI (wI μ 0 70 0) 0 71 0) 0 73 0).1 0 70 = 0 := by rw [wI_ne (by omega), wI_ne (by omega), wI_same]
  have e71 : (wI (wI (wI μ 0 70 0) 0 71 0) 0 73 0).1 0 71 = 0 := by rw [wI_ne (by omega), wI_same]
  have e73 : (wI (wI (wI μ 0 70 0) 0 71 0) 0 73 0).1 0 73 = 0 := wI_same
  have e1 : (wI (wI (wI μ 0 70 0) 0 71 0) 0 73 0).1 0 1 = μ.1 0 1 := by rw [wI_ne (by omega), wI_ne (by omega), wI_ne (by omega)]
  unfold rlA sp_start
  generalize wI (wI (wI μ 0 70 0) 0 71 0) 0 73 0 = M at *
  have hx := WFx.st (z := 1) hW
  obtain ⟨t, t8, t1⟩ := ht
  have ht5 : t ≤ 500 := by
    rw [t1] at h5
    rcases Nat.lt_or_ge 500 t with z | z
    · exact absurd (nI_lt z (by omega)) h5
    · exact z
  have f5 : (wI (wI (wI (wI (wI (wI M 0 10 1) 0 5 (M.1 0 1)) 0 1 0) 0 4 0) 0 2 0) 0 3 (-1)).1 0 5 = nI t := by rw [wI_ne (by omega), wI_ne (by omega), wI_ne (by omega), wI_ne (by omega), wI_same, e1, t1]
  have f4 : (wI (wI (wI (wI (wI (wI M 0 10 1) 0 5 (M.1 0 1)) 0 1 0) 0 4 0) 0 2 0) 0 3 (-1)).1 0 4 = nI 0 := by rw [wI_ne (by omega), wI_ne (by omega), wI_same]; rfl
  have f2 : (wI (wI (wI (wI (wI (wI M 0 10 1) 0 5 (M.1 0 1)) 0 1 0) 0 4 0) 0 2 0) 0 3 (-1)).1 0 2 = 0 := by rw [wI_ne (by omega), wI_same]
  have fo : ∀ j, 11 ≤ j → (wI (wI (wI (wI (wI (wI M 0 10 1) 0 5 (M.1 0 1)) 0 1 0) 0 4 0) 0 2 0) 0 3 (-1)).1 0 j = M.1 0 j := fun j hj => by rw [wI_ne (by omega), wI_ne (by omega), wI_ne (by omega), wI_ne (by omega), wI_ne (by omega), wI_ne (by omega)]
  generalize wI (wI (wI (wI (wI (wI M 0 10 1) 0 5 (M.1 0 1)) 0 1 0) 0 4 0) 0 2 0) 0 3 (-1) = N at *
  have es : szN N = t := by unfold szN; rw [f5]; exact nI_c (by omega)
  have ea : atN N = 0 := by unfold atN; rw [f4]; rfl
  obtain ⟨a1, a2, a3⟩ := tkn_p hx (by omega)
  have R := (Rd.rf (μ := N)).tk
  refine ⟨by rw [tkn_2, f2]; decide, fun _ => ⟨0, ⟨a1, by omega, R.b (hbW.of (fo 31 (by omega))), (tkn_2 N).trans f2, (R.1 0 71 (by decide)).trans ((fo 71 (by omega)).trans e71), by omega, 0, 0, (R.1 0 70 (by decide)).trans ((fo 70 (by omega)).trans e70), (R.1 0 73 (by decide)).trans ((fo 73 (by omega)).trans e73), by omega, by omega, fun i hi => absurd hi (by omega), fun z => absurd z (by omega)⟩, rfl⟩⟩
theorem rcA_k : ∀ (q k : Nat) (m : Mem), (∀ j, (itN rcA q k m).1 43 j = if k ≤ j ∧ j < k + q then m.1 40 j else m.1 43 j) ∧ (∀ j, (itN rcA q k m).1 44 j = if k ≤ j ∧ j < k + q then m.1 41 j else m.1 44 j) ∧ (∀ i j, i ≠ 43 → i ≠ 44 → (itN rcA q k m).1 i j = m.1 i j) ∧ (itN rcA q k m).2 = m.2 := by
  intro q
  induction q with
  | zero => intro k m; exact ⟨fun j => (if_neg (by omega)).symm, fun j => (if_neg (by omega)).symm, fun _ _ _ _ => rfl, rfl⟩
  | succ q ih =>
    intro k m
    obtain ⟨h1, h2, h3, h4⟩ := ih (k + 1) (rcA k m)
    have a3 : ∀ j, (rcA k m).1 43 j = if j = k then m.1 40 k else m.1 43 j := fun j => by
      unfold rcA
      rw [wI_ne (by omega)]
      by_cases e : j = k
      · rw [if_pos e, e, wI_same]
      · rw [if_neg e, wI_ne (by omega)]
    have a4 : ∀ j, (rcA k m).1 44 j = if j = k then m.1 41 k else m.1 44 j := fun j => by
      unfold rcA
      by_cases e : j = k
      · rw [if_pos e, e, wI_same]
      · rw [if_neg e, wI_ne (by omega), wI_ne (by omega)]
    have a0 : ∀ i j, i ≠ 43 → i ≠ 44 → (rcA k m).1 i j = m.1 i j := fun i j c1 c2 => by unfold rcA; rw [wI_ne (by omega), wI_ne (by omega)]
    refine ⟨fun j => ?_, fun j => ?_, fun i j c1 c2 => (h3 i j c1 c2).trans (a0 i j c1 c2), h4⟩
    · show (itN rcA q (k + 1) (rcA k m)).1 43 j = _
      rw [h1, a0 40 j (by decide) (by decide), a3]
      by_cases e : j = k
      · subst e; rw [if_neg (by omega), if_pos rfl, if_pos (by omega)]
      · rw [if_neg e]
        by_cases e2 : k + 1 ≤ j ∧ j < k + 1 + q
        · rw [if_pos e2, if_pos (by omega)]
        · rw [if_neg e2, if_neg (by omega)]
    · show (itN rcA q (k + 1) (rcA k m)).1 44 j = _
      rw [h2, a0 41 j (by decide) (by decide), a4]
      by_cases e : j = k
      · subst e; rw [if_neg (by omega), if_pos rfl, if_pos (by omega)]
      · rw [if_neg e]
        by_cases e2 : k + 1 ≤ j ∧ j < k + 1 + q
        · rw [if_pos e2, if_pos (by omega)]
        · rw [if_neg e2, if_neg (by omega)]
theorem rcB_k : ∀ (q k : Nat) (m : Mem), (∀ j, k ≤ j → j < k + q → (itN rcB q k m).1 45 j = m.1 42 j ∧ (itN rcB q k m).1 45 (j + 1) = m.1 42 (j + 1) ∧ (itN rcB q k m).1 49 j = vp_nar .boolean (m.1 48 j)) ∧ (∀ j, j < k → (itN rcB q k m).1 45 j = m.1 45 j ∧ (itN rcB q k m).1 49 j = m.1 49 j) ∧ (0 = q ∨ (itN rcB q k m).1 45 k = m.1 42 k) ∧ (0 = q → (itN rcB q k m) = m) ∧ (∀ i j, i ≠ 45 → i ≠ 49 → (itN rcB q k m).1 i j = m.1 i j) ∧ (itN rcB q k m).2 = m.2 := by
  intro q
  induction q with
  | zero => intro k m; exact ⟨fun j j1 j2 => absurd j2 (by omega), fun _ _ => ⟨rfl, rfl⟩, Or.inl rfl, fun _ => rfl, fun _ _ _ _ => rfl, rfl⟩
  | succ q ih =>
    intro k m
    obtain ⟨h1, h2, h3, h3b, h4, h5⟩ := ih (k + 1) (rcB k m)
    have b45 : (rcB k m).1 45 k = m.1 42 k := by unfold rcB; rw [wI_ne (by omega), wI_ne (by omega), wI_same]
    have b46 : (rcB k m).1 45 (k + 1) = m.1 42 (k + 1) := by unfold rcB; rw [wI_ne (by omega), wI_same]
    have b49 : (rcB k m).1 49 k = vp_nar .boolean (m.1 48 k) := wI_same
    have b0 : ∀ i j, i ≠ 45 → i ≠ 49 → (rcB k m).1 i j = m.1 i j := fun i j c1 c2 => by unfold rcB; rw [wI_ne (by omega), wI_ne (by omega), wI_ne (by omega)]
    have bl : ∀ j, j < k → (rcB k m).1 45 j = m.1 45 j ∧ (rcB k m).1 49 j = m.1 49 j := fun j hj => by unfold rcB; exact ⟨by rw [wI_ne (by omega), wI_ne (by omega), wI_ne (by omega)], by rw [wI_ne (by omega), wI_ne (by omega), wI_ne (by omega)]⟩
    have k45 : (itN rcB q (k + 1) (rcB k m)).1 45 k = m.1 42 k := (h2 k (by omega)).1.trans b45
    have k46 : (itN rcB q (k + 1) (rcB k m)).1 45 (k + 1) = m.1 42 (k + 1) := by
      rcases h3 with e | e
      · rw [h3b e]; exact b46
      · exact e.trans (b0 42 (k + 1) (by decide) (by decide))
    refine ⟨fun j j1 j2 => ?_, fun j hj => ?_, Or.inr k45, fun z => absurd z (by omega), fun i j c1 c2 => (h4 i j c1 c2).trans (b0 i j c1 c2), h5⟩
    · by_cases e : j = k
      · subst e
        exact ⟨k45, k46, (h2 j (by omega)).2.trans b49⟩
      · obtain ⟨g1, g2, g3⟩ := h1 j (by omega) (by omega)
        exact ⟨g1.trans (b0 42 j (by decide) (by decide)), g2.trans (b0 42 _ (by decide) (by decide)), g3.trans (by rw [b0 48 j (by decide) (by decide)])⟩
    · exact ⟨(h2 j (by omega)).1.trans (bl j hj).1, (h2 j (by omega)).2.trans (bl j hj).2⟩
/-- the rules that stand behind a text without a fault -/
theorem rl3_s {r : Nat} {m : Mem} (h : PrI r m) : WFr (rl3 m) ∧ (rl3 m).1 0 72 = nI r ∧ (∀ i j, i ≠ 43 → i ≠ 44 → i ≠ 45 → i ≠ 49 → ¬ (i = 0 ∧ j = 72) → (rl3 m).1 i j = m.1 i j) ∧ (rl3 m).2 = m.2 ∧ (∀ j, j < ntN m → (rl3 m).1 43 j = m.1 40 j ∧ (rl3 m).1 44 j = m.1 41 j) ∧ (∀ j, j < r → (rl3 m).1 45 j = m.1 42 j ∧ (rl3 m).1 45 (j + 1) = m.1 42 (j + 1) ∧ (rl3 m).1 49 j = m.1 48 j) := by
  obtain ⟨t, hs, hb, hf, h71, hr6, n, u, p1, p2, p3, p4, p5, p6⟩ := h
  have hp5 : plN m ≤ 500 := by have := t.2.2.2.2.1; omega
  have en : ntN m = n := ntN_e p1 (by omega)
  obtain ⟨a1, a2, a3, a4⟩ := rcA_k n 0 m
  have eB : rlB m = itN rcA n 0 m := by unfold rlB; rw [en]
  rw [← eB] at a1 a2 a3 a4
  have B71 : (rlB m).1 0 71 = nI r := (a3 0 71 (by decide) (by decide)).trans h71
  obtain ⟨b1, b2, b3, -, b4, b5⟩ := rcB_k r 0 (rlB m)
  have eC : rlC (rlB m) = itN rcB r 0 (rlB m) := by unfold rlC; rw [B71, nI_c (by omega)]
  rw [← eC] at b1 b2 b3 b4 b5
  have Z : ∀ i j, ¬ (i = 0 ∧ j = 72) → (rl3 m).1 i j = (rlC (rlB m)).1 i j := fun i j hj => by unfold rl3; rw [wI_ne (by omega)]
  have Z72 : (rl3 m).1 0 72 = nI r := by unfold rl3; rw [wI_same, b4 0 71 (by decide) (by decide), B71]
  have Z2 : (rl3 m).2 = m.2 := by show (rlC (rlB m)).2 = m.2; rw [b5, a4]
  have key : ∀ j, j < r → (rl3 m).1 45 j = m.1 42 j ∧ (rl3 m).1 45 (j + 1) = m.1 42 (j + 1) ∧ (rl3 m).1 49 j = m.1 48 j := by
    intro j hj
    obtain ⟨g1, g2, g3⟩ := b1 j (by omega) (by omega)
    refine ⟨(Z 45 j (by omega)).trans (g1.trans (a3 42 j (by decide) (by decide))), (Z 45 _ (by omega)).trans (g2.trans (a3 42 _ (by decide) (by decide))), (Z 49 j (by omega)).trans (g3.trans ?_)⟩
    rw [a3 48 j (by decide) (by decide)]
    obtain ⟨b, e, -, -, -, -, -, q, -⟩ := p5 j hj
    exact vz_01 q
  have k40 : ∀ j, j < n → (rl3 m).1 43 j = m.1 40 j ∧ (rl3 m).1 44 j = m.1 41 j := by
    intro j hj
    refine ⟨(Z 43 j (by omega)).trans ((b4 43 j (by decide) (by decide)).trans ((a1 j).trans (if_pos (by omega)))), (Z 44 j (by omega)).trans ((b4 44 j (by decide) (by decide)).trans ((a2 j).trans (if_pos (by omega))))⟩
  refine ⟨?_, Z72, fun i j c1 c2 c3 c4 c5 => (Z i j c5).trans ((b4 i j c3 c4).trans (a3 i j c1 c2)), Z2, by rw [en]; exact k40, key⟩
  have er : rlN (rl3 m) = r := by unfold rlN; rw [Z72]; exact nI_c (by omega)
  refine ⟨by omega, by rw [er]; exact Z72, fun i hi => ?_⟩
  rw [er] at hi
  obtain ⟨g1, g2, g3⟩ := key i hi
  obtain ⟨b, e, q1, q2, q3, q4, q5, q6, q7⟩ := p5 i hi
  have ebn : bgN (rl3 m) i = b := by unfold bgN; rw [g1, q1]; exact nI_c (by omega)
  have een : bgN (rl3 m) (i + 1) = e := by unfold bgN; rw [g2, q2]; exact nI_c (by omega)
  unfold okRl
  rw [ebn, een]
  refine ⟨g1.trans q1, g2.trans q2, q3, by omega, fun j hj => okF_N (okF_c (fun k hk => ((k40 _ (by omega)).1).symm) ((k40 _ (by omega)).2).symm (q5 j hj)), by rw [g3]; exact q6, ?_⟩
  rw [dpS_F, dpF_c (V := m.1 40) _ (fun j hj => (k40 _ (by omega)).1)]
  exact q7
set_option maxHeartbeats 200000 in
set_option maxRecDepth 100000 in
theorem L_X12_rules_159 {l : Launch} {G : Wd} {μ m : Mem} {x : Value} (h5 : ¬ 500 < μ.1 0 1) (hn : ¬ 0 < (rl2 μ).1 0 2) (em : m = rlC (rlB (rl2 μ))) : AW l G KM RX12 cX12_rules 2 6 (some .int) (Qi (fun v μ' => sp_rules μ = (v, μ'))) 159 [some (.ref (gA G 0)), some x] [] m := by
  refine A_aload0 dX12_rules_159 ?_
  refine A_aload0 dX12_rules_160 ?_
  refine A_getI gf_X12_458 rfl dX12_rules_161 ?_
  refine A_putI gf_X12_330 rfl dX12_rules_164 ?_
  refine A_setm (μ' := rl3 (rl2 μ)) (by rw [em]; rfl) ?_
  refine A_aload0 dX12_rules_167 ?_
  refine A_getI gf_X12_330 rfl dX12_rules_168 ?_
  refine A_iret dX12_rules_171 ?_
  exact ⟨_, rfl, (if_neg h5).trans (if_neg hn)⟩
set_option maxHeartbeats 200000 in
set_option maxRecDepth 100000 in
theorem L_X12_rules_105 {l : Launch} {G : Wd} {μ Z : Mem} {n : Nat} (hn6 : n ≤ 6) (hk : ∀ x : Value, AW l G KM RX12 cX12_rules 2 6 (some .int) (Qi (fun v μ' => sp_rules μ = (v, μ'))) 159 [some (.ref (gA G 0)), some x] [] Z) : ∀ (q k : Nat) (m : Mem), q + k = n → m.1 0 71 = nI n → itN rcB q k m = Z → AW l G KM RX12 cX12_rules 2 6 (some .int) (Qi (fun v μ' => sp_rules μ = (v, μ'))) 105 [some (.ref (gA G 0)), some (.int (nI k))] [] m := by
  intro q
  induction q with
  | zero =>
    intro k m hq hf he
    obtain rfl : k = n := by omega
    have he2 : m = Z := he
    refine A_iload1 dX12_rules_105 ?_
    refine A_aload0 dX12_rules_106 ?_
    refine A_getI gf_X12_458 rfl dX12_rules_107 ?_
    rw [hf]
    refine A_icmp_ge (tgt := 159) dX12_rules_110 (by decide) (fun c_110 => ?_) (fun c_110 => absurd c_110 (fun z => z (Int32.le_refl _)))
    rw [he2]
    exact hk _
  | succ q ih =>
    intro k m hq hf he
    refine A_iload1 dX12_rules_105 ?_
    refine A_aload0 dX12_rules_106 ?_
    refine A_getI gf_X12_458 rfl dX12_rules_107 ?_
    rw [hf]
    refine A_icmp_ge (tgt := 159) dX12_rules_110 (by decide) (fun c_110 => absurd c_110 (fun z => nI_ge (a := k) (b := n) (by omega) (by omega) z)) (fun c_110 => ?_)
    refine A_aload0 dX12_rules_113 ?_
    refine A_getR gf_X12_148 rfl dX12_rules_114 ?_
    refine A_iload1 dX12_rules_117 ?_
    refine A_aload0 dX12_rules_118 ?_
    refine A_getR gf_X12_139 rfl dX12_rules_119 ?_
    refine A_iload1 dX12_rules_122 ?_
    refine A_iald (rfl) (vp_in_nI (by omega) (by omega)) dX12_rules_123 ?_
    rw [nI_c (by omega)]
    refine A_iast (rfl) (vp_in_nI (by omega) (by omega)) dX12_rules_124 ?_
    rw [nI_c (by omega)]
    refine A_aload0 dX12_rules_125 ?_
    refine A_getR gf_X12_148 rfl dX12_rules_126 ?_
    refine A_iload1 dX12_rules_129 ?_
    refine A_iconst (v := 1) dX12_rules_130 (by decide) ?_
    refine A_iadd dX12_rules_131 ?_
    rw [nI_1]
    refine A_aload0 dX12_rules_132 ?_
    refine A_getR gf_X12_139 rfl dX12_rules_133 ?_
    refine A_iload1 dX12_rules_136 ?_
    refine A_iconst (v := 1) dX12_rules_137 (by decide) ?_
    refine A_iadd dX12_rules_138 ?_
    rw [nI_1]
    refine A_iald (rfl) (vp_in_nI (by omega) (by omega)) dX12_rules_139 ?_
    rw [nI_c (by omega)]
    rw [wI_ne (Or.inl (by decide))]
    refine A_iast (rfl) (vp_in_nI (by omega) (by omega)) dX12_rules_140 ?_
    rw [nI_c (by omega)]
    refine A_aload0 dX12_rules_141 ?_
    refine A_getR gf_X12_160 rfl dX12_rules_142 ?_
    refine A_iload1 dX12_rules_145 ?_
    refine A_aload0 dX12_rules_146 ?_
    refine A_getR gf_X12_157 rfl dX12_rules_147 ?_
    refine A_iload1 dX12_rules_150 ?_
    refine A_zald (rfl) (vp_in_nI (by omega) (by omega)) dX12_rules_151 ?_
    rw [nI_c (by omega), wI_ne (Or.inl (by decide)), wI_ne (Or.inl (by decide))]
    refine A_zast (rfl) (vp_in_nI (by omega) (by omega)) dX12_rules_152 ?_
    rw [nI_c (by omega)]
    refine A_iinc1 dX12_rules_153 rfl rfl (by decide) ?_
    rw [show nI k + Int32.ofInt 1 = nI (k + 1) from nI_1 k]
    refine A_goto (tgt := 105) dX12_rules_156 (by decide) ?_
    refine ih (k + 1) (rcB k m) (by omega) ?_ he
    unfold rcB
    rw [wI_ne (by omega), wI_ne (by omega), wI_ne (by omega)]
    exact hf
set_option maxHeartbeats 200000 in
set_option maxRecDepth 100000 in
theorem L_X12_rules_65 {l : Launch} {G : Wd} {μ Z : Mem} {n : Nat} (hn6 : n ≤ 500) (hk : ∀ x : Value, AW l G KM RX12 cX12_rules 2 6 (some .int) (Qi (fun v μ' => sp_rules μ = (v, μ'))) 103 [some (.ref (gA G 0)), some x] [] Z) : ∀ (q k : Nat) (m : Mem), q + k = n → m.1 0 70 = nI n → itN rcA q k m = Z → AW l G KM RX12 cX12_rules 2 6 (some .int) (Qi (fun v μ' => sp_rules μ = (v, μ'))) 65 [some (.ref (gA G 0)), some (.int (nI k))] [] m := by
  intro q
  induction q with
  | zero =>
    intro k m hq hf he
    obtain rfl : k = n := by omega
    have he2 : m = Z := he
    refine A_iload1 dX12_rules_65 ?_
    refine A_aload0 dX12_rules_66 ?_
    refine A_getI gf_X12_422 rfl dX12_rules_67 ?_
    rw [hf]
    refine A_icmp_ge (tgt := 103) dX12_rules_70 (by decide) (fun c_70 => ?_) (fun c_70 => absurd c_70 (fun z => z (Int32.le_refl _)))
    rw [he2]
    exact hk _
  | succ q ih =>
    intro k m hq hf he
    refine A_iload1 dX12_rules_65 ?_
    refine A_aload0 dX12_rules_66 ?_
    refine A_getI gf_X12_422 rfl dX12_rules_67 ?_
    rw [hf]
    refine A_icmp_ge (tgt := 103) dX12_rules_70 (by decide) (fun c_70 => absurd c_70 (fun z => nI_ge (a := k) (b := n) (by omega) (by omega) z)) (fun c_70 => ?_)
    refine A_aload0 dX12_rules_73 ?_
    refine A_getR gf_X12_142 rfl dX12_rules_74 ?_
    refine A_iload1 dX12_rules_77 ?_
    refine A_aload0 dX12_rules_78 ?_
    refine A_getR gf_X12_133 rfl dX12_rules_79 ?_
    refine A_iload1 dX12_rules_82 ?_
    refine A_iald (rfl) (vp_in_nI (by omega) (by omega)) dX12_rules_83 ?_
    rw [nI_c (by omega)]
    refine A_iast (rfl) (vp_in_nI (by omega) (by omega)) dX12_rules_84 ?_
    rw [nI_c (by omega)]
    refine A_aload0 dX12_rules_85 ?_
    refine A_getR gf_X12_145 rfl dX12_rules_86 ?_
    refine A_iload1 dX12_rules_89 ?_
    refine A_aload0 dX12_rules_90 ?_
    refine A_getR gf_X12_136 rfl dX12_rules_91 ?_
    refine A_iload1 dX12_rules_94 ?_
    refine A_iald (rfl) (vp_in_nI (by omega) (by omega)) dX12_rules_95 ?_
    rw [nI_c (by omega), wI_ne (Or.inl (by decide))]
    refine A_iast (rfl) (vp_in_nI (by omega) (by omega)) dX12_rules_96 ?_
    rw [nI_c (by omega)]
    refine A_iinc1 dX12_rules_97 rfl rfl (by decide) ?_
    rw [show nI k + Int32.ofInt 1 = nI (k + 1) from nI_1 k]
    refine A_goto (tgt := 65) dX12_rules_100 (by decide) ?_
    refine ih (k + 1) (rcA k m) (by omega) ?_ he
    unfold rcA
    rw [wI_ne (by omega), wI_ne (by omega)]
    exact hf
set_option maxHeartbeats 200000 in
set_option maxRecDepth 100000 in
theorem L_X12_rules_103 {l : Launch} {G : Wd} {μ m : Mem} {x : Value} {r : Nat} (h5 : ¬ 500 < μ.1 0 1) (hn : ¬ 0 < (rl2 μ).1 0 2) (em : m = rlB (rl2 μ)) (h71 : m.1 0 71 = nI r) (hr6 : r ≤ 6) : AW l G KM RX12 cX12_rules 2 6 (some .int) (Qi (fun v μ' => sp_rules μ = (v, μ'))) 103 [some (.ref (gA G 0)), some x] [] m := by
  refine A_iconst (v := 0) dX12_rules_103 (by decide) ?_
  refine A_istore1 dX12_rules_104 rfl (by decide) ?_
  have eC : rlC m = itN rcB r 0 m := by unfold rlC; rw [h71, nI_c (by omega)]
  exact L_X12_rules_105 (n := r) (by omega) (fun x => L_X12_rules_159 h5 hn (by rw [em])) r 0 m (by omega) h71 eC.symm
set_option maxHeartbeats 200000 in
set_option maxRecDepth 100000 in
theorem L_X12_rules_54 {l : Launch} {G : Wd} {μ m : Mem} {x1 : Option Value} (h5 : ¬ 500 < μ.1 0 1) (em : m = rl2 μ) (h0 : 0 ≤ m.1 0 2) (hI : m.1 0 2 = 0 → ∃ r, PrI r m) : AW l G KM RX12 cX12_rules 2 6 (some .int) (Qi (fun v μ' => sp_rules μ = (v, μ'))) 54 [some (.ref (gA G 0)), x1] [] m := by
  refine A_aload0 dX12_rules_54 ?_
  refine A_getI gf_X12_210 rfl dX12_rules_55 ?_
  refine A_if_le (tgt := 63) dX12_rules_58 (by decide) (fun c_58 => ?_) (fun c_58 => ?_)
  · have hn : ¬ 0 < (rl2 μ).1 0 2 := em ▸ (Int32.not_lt.mpr c_58)
    obtain ⟨r, hP⟩ := hI (Fg.z h0 c_58)
    obtain ⟨t, hs, hb, hf, h71, hr6, n, u, p1, p2, p3, p4, p5⟩ := hP
    have hp5 : plN m ≤ 500 := by have := t.2.2.2.2.1; omega
    have en : ntN m = n := ntN_e p1 (by omega)
    have eB : rlB m = itN rcA n 0 m := by unfold rlB; rw [en]
    have B71 : (rlB m).1 0 71 = nI r := by rw [eB, (rcA_k n 0 m).2.2.1 0 71 (by decide) (by decide)]; exact h71
    refine A_iconst (v := 0) dX12_rules_63 (by decide) ?_
    refine A_istore1 dX12_rules_64 rfl (by decide) ?_
    exact L_X12_rules_65 (n := n) (by omega) (fun x => L_X12_rules_103 h5 hn (by rw [em]) B71 hr6) n 0 m (by omega) p1 eB.symm
  · refine A_iconst (v := -1) dX12_rules_61 (by decide) ?_
    refine A_iret dX12_rules_62 ?_
    rw [em]
    exact ⟨_, rfl, (if_neg h5).trans (if_pos (em ▸ Int32.not_le.mp c_58))⟩
set_option maxHeartbeats 200000 in
set_option maxRecDepth 100000 in
theorem L_X12_rules_33 {l : Launch} {G : Wd} {μ : Mem} {x1 : Option Value} (h5 : ¬ 500 < μ.1 0 1) : ∀ (q : Nat) (m : Mem), LrI q m → rlL q m = rl2 μ → AW l G KM RX12 cX12_rules 2 6 (some .int) (Qi (fun v μ' => sp_rules μ = (v, μ'))) 33 [some (.ref (gA G 0)), x1] [] m := by
  intro q
  induction q with
  | zero =>
    intro m h he
    have hn : ¬ m.1 0 2 = 0 := fun z => by obtain ⟨r, h1, h2⟩ := h.2 z; have := h1.2.2.2.2.2.1; omega
    have he2 : m = rl2 μ := he
    refine A_aload0 dX12_rules_33 ?_
    refine A_getI gf_X12_210 rfl dX12_rules_34 ?_
    refine A_if_ne (tgt := 54) dX12_rules_37 (by decide) (fun c_37 => ?_) (fun c_37 => absurd c_37 (fun z => hn z))
    exact L_X12_rules_54 h5 he2 h.1 (fun z => absurd z hn)
  | succ q ih =>
    intro m h he
    refine A_aload0 dX12_rules_33 ?_
    refine A_getI gf_X12_210 rfl dX12_rules_34 ?_
    refine A_if_ne (tgt := 54) dX12_rules_37 (by decide) (fun c_37 => ?_) (fun c_37 => ?_)
    · have he2 : m = rl2 μ := by rw [← he]; exact (if_neg (fun z => c_37 z.1)).symm
      exact L_X12_rules_54 h5 he2 h.1 (fun z => by obtain ⟨r, h1, -⟩ := h.2 z; exact ⟨r, h1⟩)
    · obtain ⟨r, hP, hrq⟩ := h.2 c_37
      refine A_aload0 dX12_rules_40 ?_
      refine A_getI gf_X12_197 rfl dX12_rules_41 ?_
      refine A_if_eq (tgt := 54) dX12_rules_44 (by decide) (fun c_44 => ?_) (fun c_44 => ?_)
      · have he2 : m = rl2 μ := by rw [← he]; exact (if_neg (fun z => z.2 c_44)).symm
        exact L_X12_rules_54 h5 he2 h.1 (fun z => by obtain ⟨r, h1, -⟩ := h.2 z; exact ⟨r, h1⟩)
      · refine A_aload0 dX12_rules_47 ?_
        refine A_vv0 lk_X12_467 yv_X12_readRule dX12_rules_48 (rfl) (rfl) (T_X12_readRule hP) (by decide) (Nat.le_of_ble_eq_true rfl) (fun μ_48 h_48 => ?_)
        replace h_48 := Eq.symm h_48
        subst h_48
        refine A_goto (tgt := 33) dX12_rules_51 (by decide) ?_
        refine ih _ (h.s c_37).1 ?_
        rw [← he, rlL, if_pos ⟨c_37, c_44⟩]
set_option maxHeartbeats 100000 in
set_option maxRecDepth 100000 in
theorem T_X12_rules {l : Launch} {G : Wd} {μ : Mem} (ht : WFt μ) (hb : WFb μ) : Mt l G KM yX12_rules cX12_rules 2 (some .int) 6 [.ref (gA G 0)] μ (Qi (fun v μ' => sp_rules μ = (v, μ'))) := by
  refine Mt.of (own := RX12) (n := 1) (by decide) rfl [some (.ref (gA G 0)), none] rfl (Nat.le_of_ble_eq_true rfl) ?_
  refine A_aload0 dX12_rules_0 ?_
  refine A_getI gf_X12_166 rfl dX12_rules_1 ?_
  refine A_sipush (v := 500) dX12_rules_4 (by decide) ?_
  refine A_icmp_le (tgt := 13) dX12_rules_7 (by decide) (fun c_7 => ?_) (fun c_7 => ?_)
  · have h5 : ¬ 500 < μ.1 0 1 := Int32.not_lt.mpr c_7
    refine A_aload0 dX12_rules_13 ?_
    refine A_iconst (v := 0) dX12_rules_14 (by decide) ?_
    refine A_putI gf_X12_422 rfl dX12_rules_15 ?_
    refine A_aload0 dX12_rules_18 ?_
    refine A_iconst (v := 0) dX12_rules_19 (by decide) ?_
    refine A_putI gf_X12_458 rfl dX12_rules_20 ?_
    refine A_aload0 dX12_rules_23 ?_
    refine A_iconst (v := 0) dX12_rules_24 (by decide) ?_
    refine A_putI gf_X12_440 rfl dX12_rules_25 ?_
    have hW : WFt (wI (wI (wI μ 0 70 0) 0 71 0) 0 73 0) := by obtain ⟨t, h1, h2⟩ := ht; exact ⟨t, h1, by rw [wI_ne (by omega), wI_ne (by omega), wI_ne (by omega)]; exact h2⟩
    refine A_aload0 dX12_rules_28 ?_
    refine A_iconst (v := 1) dX12_rules_29 (by decide) ?_
    refine A_vv1 lk_X12_308 yv_X12_start dX12_rules_30 (rfl) (rfl) (T_X12_start (by decide) hW) (by decide) (Nat.le_of_ble_eq_true rfl) (fun μ_30 h_30 => ?_)
    replace h_30 := Eq.symm h_30
    subst h_30
    exact L_X12_rules_33 h5 7 _ (rlA_s ht hb h5) rfl
  · refine A_bipush (v := -2) dX12_rules_10 (by decide) ?_
    refine A_iret dX12_rules_12 ?_
    exact ⟨_, rfl, if_pos (Int32.not_le.mp c_7)⟩

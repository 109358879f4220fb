/-! the reference's loop over a rule, without fuel -/
set_option maxHeartbeats 200000 in
theorem rrL_fu {β : Nat} : ∀ (q : Nat) (x : Int32) (m : Mem), LpI β q x m → ∀ e, rrL (q + e) x m = rrL q x m := by
  intro q
  induction q with
  | zero =>
    intro x m h e
    have hf : ¬ m.1 0 2 = 0 := by
      intro y
      obtain ⟨hr, hp⟩ := h.2 y
      have h1 := hr.1.2.2.2.2.1
      have h2 := hr.2.1
      omega
    rw [Nat.zero_add]
    cases e with
    | zero => rfl
    | succ e => exact if_neg (fun y => hf y.1)
  | succ q ih =>
    intro x m h e
    by_cases c : m.1 0 2 = 0 ∧ ¬ rrE x m
    · rw [show rrL (q + 1) x m = rrL q (rrS x m).1 (rrS x m).2 from if_pos c, show q + 1 + e = (q + e) + 1 by omega, show rrL ((q + e) + 1) x m = rrL (q + e) (rrS x m).1 (rrS x m).2 from if_pos c]
      exact ih _ _ (h.s c.1) e
    · rw [show rrL (q + 1) x m = m from if_neg c, show q + 1 + e = (q + e) + 1 by omega, show rrL ((q + e) + 1) x m = m from if_neg c]
def RF (x : Int32) (m : Mem) : Mem := rrL 1002 x m
set_option maxHeartbeats 200000 in
theorem RF_f {x : Int32} {m : Mem} (h : ¬ m.1 0 2 = 0) : RF x m = m := by
  unfold RF
  exact if_neg (fun y => h y.1)
set_option maxHeartbeats 200000 in
theorem RF_e {x : Int32} {m : Mem} (h : rrE x m) : RF x m = m := by
  unfold RF
  exact if_neg (fun y => y.2 h)
set_option maxHeartbeats 200000 in
theorem RuI.lp {β q : Nat} {x : Int32} {m : Mem} (h : RuI β x m) (hq : 502 ≤ q) : LpI β q x m := ⟨by rw [h.2.2.2.1]; decide, fun _ => ⟨h, by omega⟩⟩
set_option maxHeartbeats 200000 in
theorem RF_s {β : Nat} {x : Int32} {m : Mem} (h : RuI β x m) (hn : ¬ rrE x m) : RF x m = RF (rrS x m).1 (rrS x m).2 := by
  have h0 : m.1 0 2 = 0 := h.2.2.2.1
  have l1 : LpI β 1001 (rrS x m).1 (rrS x m).2 := LpI.s (q := 1001) (h.lp (by omega)) h0
  unfold RF
  rw [show rrL 1002 x m = rrL 1001 (rrS x m).1 (rrS x m).2 from if_pos ⟨h0, hn⟩]
  exact (rrL_fu 1001 _ _ l1 1).symm
set_option maxHeartbeats 200000 in
theorem RF_C {β : Nat} {m : Mem} (h : LpI β 502 0 (rrB (rrA m))) : rrC m = RF 0 (rrB (rrA m)) := by
  unfold rrC RF
  exact (rrL_fu 502 _ _ h 500).symm
/-! how deep the reference is -/
def cnW (U : Nat → Int32) : Nat → Nat
  | 0 => 0
  | w + 1 => cnW U w + (if U w = 22 ∨ U w = 30 then 1 else 0)
set_option maxHeartbeats 200000 in
theorem cnW_c {U V : Nat → Int32} : ∀ w, (∀ j, j < w → U j = V j) → cnW U w = cnW V w := by
  intro w
  induction w with
  | zero => intro _; rfl
  | succ w ih =>
    intro h
    show cnW U w + _ = cnW V w + _
    rw [ih (fun j hj => h j (by omega)), h w (by omega)]
set_option maxHeartbeats 200000 in
theorem cnW_b (U : Nat → Int32) : ∀ w, cnW U w ≤ w := by
  intro w
  induction w with
  | zero => exact Nat.le_refl _
  | succ w ih =>
    show cnW U w + _ ≤ w + 1
    split <;> omega
set_option maxHeartbeats 200000 in
theorem cnW_s (U : Nat → Int32) (w : Nat) : cnW U (w + 1) = cnW U w + (if U w = 22 ∨ U w = 30 then 1 else 0) := rfl
def DI (m : Mem) : Prop := m.1 0 75 = nI (cnW (m.1 46) (wtN m))
set_option maxHeartbeats 200000 in
theorem DI.of {m m' : Mem} (h : DI m) (h6 : ∀ j, m'.1 46 j = m.1 46 j) (h4 : m'.1 0 74 = m.1 0 74) (h5 : m'.1 0 75 = m.1 0 75) : DI m' := by
  unfold DI at h ⊢
  have e : wtN m' = wtN m := by unfold wtN; rw [h4]
  rw [h5, h, e]
  exact congrArg nI (cnW_c _ (fun j _ => (h6 j).symm))
set_option maxHeartbeats 200000 in
theorem DI.rd {m m' : Mem} (h : DI m) (r : Rd m m') : DI m' := h.of (fun j => r.1 46 j (by unfold rdK; omega)) (r.1 0 74 (by unfold rdK; omega)) (r.1 0 75 (by unfold rdK; omega))
set_option maxHeartbeats 200000 in
theorem hold_75 {m : Mem} {a : Int32} : (sp_hold m a).1 0 75 = if a = 30 ∨ a = 22 then m.1 0 75 + 1 else m.1 0 75 := by
  unfold sp_hold
  by_cases h : a = 30 ∨ a = 22
  · rw [if_pos h, if_pos h, wI_same]
    unfold hdA
    rw [wI_ne (by omega), wI_ne (by omega)]
  · rw [if_neg h, if_neg h]
    unfold hdA
    rw [wI_ne (by omega), wI_ne (by omega)]
set_option maxHeartbeats 200000 in
theorem DI.hold {m : Mem} {a : Int32} {w : Nat} (h : DI m) (h1 : m.1 0 74 = nI w) (h6 : w < 600) : DI (sp_hold m a) := by
  obtain ⟨r1, r2, r3, -⟩ := hold_r (a := a) h1 h6
  have e1 : wtN m = w := wtN_e h1 (by omega)
  have e2 : wtN (sp_hold m a) = w + 1 := wtN_e r1 (by omega)
  unfold DI at h ⊢
  rw [hold_75, e2, cnW_s, r2, h, e1]
  have e3 : cnW ((sp_hold m a).1 46) w = cnW (m.1 46) w := cnW_c _ (fun j hj => r3 46 j (by omega) (by omega))
  rw [e3]
  by_cases c : a = 30 ∨ a = 22
  · rw [if_pos c, if_pos c.symm, nI_1]
  · rw [if_neg c, if_neg (fun y => c y.symm)]; rfl
set_option maxHeartbeats 200000 in
theorem ppA_75 {w : Nat} {m : Mem} : (ppA w m).1 0 75 = if m.1 46 w = 22 then m.1 0 75 - 1 else m.1 0 75 := by
  unfold ppA
  by_cases h : m.1 46 w = 22
  · rw [if_pos h, if_pos h, wI_same, wI_ne (by omega)]
  · rw [if_neg h, if_neg h, wI_ne (by omega)]
set_option maxHeartbeats 200000 in
theorem DI.pop {m : Mem} {w n : Nat} (h : DI m) (h1 : m.1 0 74 = nI (w + 1)) (h6 : w < 600) (h2 : m.1 0 70 = nI n) (h5 : n < 600) (h3 : ¬ m.1 46 w = 30) : DI (popAt w m) := by
  obtain ⟨p1, -, -, p4, -, -, -⟩ := popAt_r (w := w) h2 h5
  have e1 : wtN m = w + 1 := wtN_e h1 (by omega)
  have e2 : wtN (popAt w m) = w := wtN_e p1 (by omega)
  have e75 : (popAt w m).1 0 75 = (ppA w m).1 0 75 := by
    unfold popAt sp_note
    rw [wI_ne (by omega), wI_ne (by omega), wI_ne (by omega)]
  unfold DI at h ⊢
  have e3 : cnW ((popAt w m).1 46) w = cnW (m.1 46) w := cnW_c _ (fun j hj => p4 j)
  rw [e75, ppA_75, e2, e3, h, e1, cnW_s]
  by_cases c : m.1 46 w = 22
  · rw [if_pos c, if_pos (Or.inl c)]
    exact nI_pred _
  · rw [if_neg c, if_neg (fun y => y.elim c h3)]; rfl
set_option maxHeartbeats 200000 in
theorem DI.stq2 (a : Int32) : ∀ (w n : Nat) (m : Mem), m.1 0 74 = nI w → m.1 0 70 = nI n → n + w ≤ 600 → DI m → DI (stQ a w m) := by
  intro w
  induction w with
  | zero => intro n m _ _ _ h; exact h
  | succ w ih =>
    intro n m h1 h2 h3 h
    unfold stQ
    split
    · exact h
    · rename_i q
      obtain ⟨p1, p2, -, -, -, -, -⟩ := popAt_r (w := w) h2 (by omega)
      exact ih (n + 1) (popAt w m) p1 p2 (by omega) (h.pop h1 (by omega) h2 (by omega) (fun y => q (Or.inl y)))
set_option maxHeartbeats 200000 in
theorem DI.settle {a : Int32} {w n : Nat} {m : Mem} (h1 : m.1 0 74 = nI w) (h2 : m.1 0 70 = nI n) (h3 : n + w ≤ 600) (h : DI m) : DI (sp_settle m a) := by
  have e : wtN m = w := wtN_e h1 (by omega)
  unfold sp_settle
  rw [e]
  exact DI.stq2 a w n m h1 h2 h3 h
/-! settling down to a base -/
set_option maxHeartbeats 200000 in
theorem Stl.eq {a : Int32} {w n w' b : Nat} {m R : Mem} (h : Stl a w n m R w') (hb : b ≤ w) (h1 : ∀ j, b ≤ j → j < w → ¬ (m.1 46 j = 30 ∨ m.1 46 j < a)) (h2 : b = 0 ∨ m.1 46 (b - 1) = 30 ∨ m.1 46 (b - 1) < a) : w' = b := by
  obtain ⟨q1, -, -, -, -, -, -, q8, q9⟩ := h
  rcases Nat.lt_or_ge w' b with c | c
  · rcases h2 with z | z | z
    · omega
    · exact absurd (Or.inl z) (q9 (b - 1) (by omega) (by omega))
    · exact absurd (Or.inr z) (q9 (b - 1) (by omega) (by omega))
  · rcases Nat.lt_or_ge b w' with c2 | c2
    · rcases q8 with z | z | z
      · omega
      · exact absurd (Or.inl z) (h1 (w' - 1) (by omega) (by omega))
      · exact absurd (Or.inr z) (h1 (w' - 1) (by omega) (by omega))
    · omega

/-! the two as they are made -/
/-- the reference's memory when it is made -/
def sg0 : Mem := wI (fun _ _ => 0, fun _ _ => 0, 0) 0 3 (-1)
set_option maxHeartbeats 200000 in
theorem sg0_o {i j : Nat} (h : ¬ (i = 0 ∧ j = 3)) : sg0.1 i j = 0 := by
  unfold sg0
  rw [wI_ne (by omega)]
set_option maxHeartbeats 200000 in
theorem sg0_3 : sg0.1 0 3 = -1 := wI_same
/-- the class's memory when it is made: g the text of signs -/
def mu0 (g : Nat) : Mem := (fun i j => if i = 0 ∧ j = 3 then -1 else if 48 ≤ i ∧ i < 73 ∧ (i - 48) % 5 = 0 ∧ j = 3 then nI ((i - 48) / 5) else 0, fun i j => if i = 3 then e27 (wdK.getD j []) else 0, g)
set_option maxHeartbeats 200000 in
theorem mu0_o {g i j : Nat} (h : j ≠ 3) : (mu0 g).1 i j = 0 := by
  show (if i = 0 ∧ j = 3 then (-1 : Int32) else if 48 ≤ i ∧ i < 73 ∧ (i - 48) % 5 = 0 ∧ j = 3 then nI ((i - 48) / 5) else 0) = 0
  rw [if_neg (by omega), if_neg (by omega)]
set_option maxHeartbeats 200000 in
theorem mu0_a {g i j : Nat} (h : 1 ≤ i ∧ i < 48) : (mu0 g).1 i j = 0 := by
  show (if i = 0 ∧ j = 3 then (-1 : Int32) else if 48 ≤ i ∧ i < 73 ∧ (i - 48) % 5 = 0 ∧ j = 3 then nI ((i - 48) / 5) else 0) = 0
  rw [if_neg (by omega), if_neg (by omega)]
set_option maxHeartbeats 200000 in
theorem mu0_3 {g : Nat} : (mu0 g).1 0 3 = -1 := by
  show (if (0 : Nat) = 0 ∧ (3 : Nat) = 3 then (-1 : Int32) else if 48 ≤ 0 ∧ 0 < 73 ∧ (0 - 48) % 5 = 0 ∧ 3 = 3 then nI ((0 - 48) / 5) else 0) = -1
  exact if_pos ⟨rfl, rfl⟩
set_option maxHeartbeats 200000 in
theorem mu0_b {g b : Nat} (h : b < 5) : (mu0 g).1 (48 + 5 * b) 3 = nI b := by
  show (if 48 + 5 * b = 0 ∧ 3 = 3 then (-1 : Int32) else if 48 ≤ 48 + 5 * b ∧ 48 + 5 * b < 73 ∧ (48 + 5 * b - 48) % 5 = 0 ∧ 3 = 3 then nI ((48 + 5 * b - 48) / 5) else 0) = nI b
  rw [if_neg (by omega), if_pos (by omega)]
  exact congrArg nI (by omega)
set_option maxHeartbeats 200000 in
theorem mu0_k {g w : Nat} : (mu0 g).2.1 3 w = e27 (wdK.getD w []) := by
  show (if (3 : Nat) = 3 then e27 (wdK.getD w []) else 0) = e27 (wdK.getD w [])
  exact if_pos rfl
set_option maxHeartbeats 200000 in
theorem mu0_l {g i j : Nat} (h : i ≠ 3) : (mu0 g).2.1 i j = 0 := by
  show (if i = 3 then e27 (wdK.getD j []) else 0) = 0
  exact if_neg h
set_option maxHeartbeats 200000 in
theorem sg0_n : nbx sg0 = 0 ∧ nfc sg0 = 0 ∧ rlN sg0 = 0 ∧ tpd sg0 = 0 := by
  refine ⟨?_, ?_, ?_, ?_⟩
  · unfold nbx; rw [sg0_o (by omega)]; rfl
  · unfold nfc; rw [sg0_o (by omega)]; rfl
  · unfold rlN; rw [sg0_o (by omega)]; rfl
  · unfold tpd; rw [sg0_o (by omega)]; rfl
set_option maxHeartbeats 200000 in
theorem WFa_new : WFa sg0 := by
  obtain ⟨n1, n2, n3, n4⟩ := sg0_n
  refine ⟨⟨⟨0, by omega, sg0_o (by omega)⟩, ⟨⟨0, by omega, sg0_o (by omega)⟩, fun f hf => absurd hf (by omega)⟩, ⟨⟨0, by omega, sg0_o (by omega)⟩, fun b hb => absurd hb (by omega)⟩⟩, by omega, ?_, fun r hr => absurd hr (by omega)⟩
  rw [n3]
  exact sg0_o (by omega)
set_option maxHeartbeats 200000 in
theorem WFk_new : WFk sg0 := by
  obtain ⟨n1, n2, n3, n4⟩ := sg0_n
  refine ⟨⟨fun b hb => absurd hb (by omega), fun d hd => Or.inl (sg0_o (by omega)), fun r hr => absurd hr (by omega), fun a b ha => absurd ha (by omega)⟩, ?_⟩
  rw [sg0_o (by omega)]
  decide
set_option maxHeartbeats 200000 in
theorem Rc_new {g : Nat} : Rc sg0 0 (mu0 g) := by
  obtain ⟨n1, n2, n3, n4⟩ := sg0_n
  have nw : wthN (mu0 g) = 0 := by unfold wthN; rw [mu0_o (by omega)]; rfl
  have no : ∀ (P : Nat → Prop), ¬ ∃ i, i < wthN (mu0 g) ∧ P i := by
    intro P
    rw [nw]
    rintro ⟨i, hi, -⟩
    exact absurd hi (Nat.not_lt_zero _)
  refine ⟨⟨⟨?_, ?_, ?_, fun j hj => ?_⟩, ⟨?_, ?_, ⟨0, by decide, ?_, fun d hd => ?_⟩, ⟨0, by decide, ?_, fun r hr => ?_⟩, fun f hf => absurd hf (by omega)⟩, ⟨?_, ?_, fun b hb => absurd hb (by omega), ⟨⟨by omega, ?_⟩, fun d hd => ?_, fun d hd => ?_, fun b d hb hd => ?_, fun b d hb hd => ?_, fun b d hb hd => ?_, fun i hi => absurd hi (by omega)⟩⟩, ⟨?_, fun q => absurd q (by omega), fun r hr => absurd hr (by omega), fun r hr => absurd hr (by omega)⟩, ⟨fun w hw => mu0_k, fun b hb => mu0_b hb⟩⟩, WFa_new, by omega, 0, 0, 0, ?_, ?_, ?_, by omega, by omega, by omega, fun q => absurd q (by omega), fun b hb => ⟨0, by omega, ?_⟩⟩
  · rw [mu0_o (by omega), sg0_o (by omega)]
  · rw [mu0_o (by omega), sg0_o (by omega)]
  · rw [mu0_3, sg0_3]
  · rw [mu0_a (by omega), sg0_o (by omega)]
    decide
  · rw [mu0_a (by omega), sg0_o (by omega)]
  · rw [mu0_a (by omega), sg0_o (by omega)]
  · rw [mu0_l (by omega)]; rfl
  · rw [sg0_o (by omega), Nat.zero_testBit]; rfl
  · rw [mu0_a (by omega)]; rfl
  · rw [sg0_o (by omega), Nat.zero_testBit]; rfl
  · rw [mu0_a (by omega), sg0_o (by omega)]
  · rw [mu0_a (by omega), sg0_o (by omega)]
  · rw [nw, mu0_a (by omega)]; rfl
  · rw [sg0_o (by omega)]; exact ⟨fun y => absurd rfl y, fun y => absurd y (no _)⟩
  · rw [sg0_o (by omega)]; exact ⟨fun y => absurd rfl y, fun y => absurd y (no _)⟩
  · rw [sg0_o (by omega)]; exact ⟨fun y => absurd rfl y, fun y => absurd y (no _)⟩
  · rw [sg0_o (by omega)]; exact ⟨fun y => absurd rfl y, fun y => absurd y (no _)⟩
  · rw [sg0_o (by omega)]; exact ⟨fun y => absurd rfl y, fun y => absurd y (no _)⟩
  · rw [mu0_a (by omega), sg0_o (by omega)]
  · rw [mu0_a (by omega)]; rfl
  · rw [mu0_a (by omega)]; rfl
  · rw [mu0_a (by omega)]; rfl
  · rw [mu0_o (by omega)]; rfl

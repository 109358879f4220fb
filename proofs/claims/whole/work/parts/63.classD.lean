/-! the Laws of a box: its cells -/
theorem b5 {b : Nat} (hb : b < 5) : b = 0 ∨ b = 1 ∨ b = 2 ∨ b = 3 ∨ b = 4 := by omega
theorem kL_0 {b : Nat} (hb : b < 5) : fk KC (48 + 5 * b) 5 0 = some (2, 36) := by rcases b5 hb with rfl | rfl | rfl | rfl | rfl <;> rfl
theorem kL_1 {b : Nat} (hb : b < 5) : fk KC (48 + 5 * b) 5 1 = some (2, 43) := by rcases b5 hb with rfl | rfl | rfl | rfl | rfl <;> rfl
theorem kL_2 {b : Nat} (hb : b < 5) : fk KC (48 + 5 * b) 5 2 = some (2, 4) := by rcases b5 hb with rfl | rfl | rfl | rfl | rfl <;> rfl
theorem kL_3 {b : Nat} (hb : b < 5) : fk KC (48 + 5 * b) 5 3 = some (0, 0) := by rcases b5 hb with rfl | rfl | rfl | rfl | rfl <;> rfl
theorem kL_4 {b : Nat} (hb : b < 5) : fk KC (48 + 5 * b) 5 4 = some (0, 0) := by rcases b5 hb with rfl | rfl | rfl | rfl | rfl <;> rfl
theorem kL_5 {b : Nat} (hb : b < 5) : fk KC (48 + 5 * b) 5 5 = some (0, 0) := by rcases b5 hb with rfl | rfl | rfl | rfl | rfl <;> rfl
theorem kL_6 {b : Nat} (hb : b < 5) : fk KC (48 + 5 * b) 5 6 = some (0, 0) := by rcases b5 hb with rfl | rfl | rfl | rfl | rfl <;> rfl
theorem kL_7 {b : Nat} (hb : b < 5) : fk KC (48 + 5 * b) 5 7 = some (2, 49 + 5 * b) := by rcases b5 hb with rfl | rfl | rfl | rfl | rfl <;> rfl
theorem kL_8 {b : Nat} (hb : b < 5) : fk KC (48 + 5 * b) 5 8 = some (2, 50 + 5 * b) := by rcases b5 hb with rfl | rfl | rfl | rfl | rfl <;> rfl
theorem kL_9 {b : Nat} (hb : b < 5) : fk KC (48 + 5 * b) 5 9 = some (0, 0) := by rcases b5 hb with rfl | rfl | rfl | rfl | rfl <;> rfl
theorem kL_10 {b : Nat} (hb : b < 5) : fk KC (48 + 5 * b) 5 10 = some (2, 51 + 5 * b) := by rcases b5 hb with rfl | rfl | rfl | rfl | rfl <;> rfl
theorem kL_11 {b : Nat} (hb : b < 5) : fk KC (48 + 5 * b) 5 11 = some (2, 52 + 5 * b) := by rcases b5 hb with rfl | rfl | rfl | rfl | rfl <;> rfl
theorem kL_12 {b : Nat} (hb : b < 5) : fk KC (48 + 5 * b) 5 12 = some (0, 0) := by rcases b5 hb with rfl | rfl | rfl | rfl | rfl <;> rfl
theorem kL_13 {b : Nat} (hb : b < 5) : fk KC (48 + 5 * b) 5 13 = some (0, 0) := by rcases b5 hb with rfl | rfl | rfl | rfl | rfl <;> rfl
theorem kL_14 {b : Nat} (hb : b < 5) : fk KC (48 + 5 * b) 5 14 = some (0, 0) := by rcases b5 hb with rfl | rfl | rfl | rfl | rfl <;> rfl
theorem oL {b : Nat} (hb : b < 5) : oc KC (48 + 5 * b) = some 5 := by rcases b5 hb with rfl | rfl | rfl | rfl | rfl <;> rfl
theorem kA_49 {b : Nat} (hb : b < 5) : KC[49 + 5 * b]? = some (1, 60, []) := by rcases b5 hb with rfl | rfl | rfl | rfl | rfl <;> rfl
theorem kA_50 {b : Nat} (hb : b < 5) : KC[50 + 5 * b]? = some (1, 60, []) := by rcases b5 hb with rfl | rfl | rfl | rfl | rfl <;> rfl
theorem kA_51 {b : Nat} (hb : b < 5) : KC[51 + 5 * b]? = some (1, 660, []) := by rcases b5 hb with rfl | rfl | rfl | rfl | rfl <;> rfl
theorem kA_52 {b : Nat} (hb : b < 5) : KC[52 + 5 * b]? = some (1, 660, []) := by rcases b5 hb with rfl | rfl | rfl | rfl | rfl <;> rfl
theorem aL {b : Nat} (hb : b < 5) : ([(2, 48), (2, 53), (2, 58), (2, 63), (2, 68)] : List (Nat × Nat))[(nI b).toNatClampNeg]? = some (2, 48 + 5 * b) := by rw [nI_c (by omega)]; rcases b5 hb with rfl | rfl | rfl | rfl | rfl <;> rfl
set_option maxHeartbeats 100000 in
set_option maxRecDepth 100000 in
theorem T_X5_zeroOf {l : Launch} {G : Wd} {x : Int32} {μ : Mem}  : Mt l G KC yX5_zeroOf cX5_zeroOf 1 (some .int) 1 [.int x] μ (Qi (fun v μ' => v = x / 60 - 5 ∧ μ' = μ)) := by
  refine Mt.of (own := RX5) (n := 0) (by decide) rfl [some (.int x)] rfl (Nat.le_of_ble_eq_true rfl) ?_
  refine A_iload0 dX5_zeroOf_0 ?_
  refine A_bipush (v := 60) dX5_zeroOf_1 (by decide) ?_
  refine A_idiv dX5_zeroOf_3 (by decide) ?_
  refine A_iconst (v := 5) dX5_zeroOf_4 (by decide) ?_
  refine A_isub dX5_zeroOf_5 ?_
  refine A_iret dX5_zeroOf_6 ?_
  exact ⟨_, rfl, rfl, rfl⟩
set_option maxHeartbeats 100000 in
set_option maxRecDepth 100000 in
theorem T_X5_slopeOf {l : Launch} {G : Wd} {x : Int32} {μ : Mem}  : Mt l G KC yX5_slopeOf cX5_slopeOf 1 (some .int) 1 [.int x] μ (Qi (fun v μ' => v = x / 12 - x / 12 / 5 * 5 + 8 ∧ μ' = μ)) := by
  refine Mt.of (own := RX5) (n := 0) (by decide) rfl [some (.int x)] rfl (Nat.le_of_ble_eq_true rfl) ?_
  refine A_iload0 dX5_slopeOf_0 ?_
  refine A_bipush (v := 12) dX5_slopeOf_1 (by decide) ?_
  refine A_idiv dX5_slopeOf_3 (by decide) ?_
  refine A_iconst (v := 5) dX5_slopeOf_4 (by decide) ?_
  refine A_irem dX5_slopeOf_5 (by decide) ?_
  refine A_bipush (v := 8) dX5_slopeOf_6 (by decide) ?_
  refine A_iadd dX5_slopeOf_8 ?_
  refine A_iret dX5_slopeOf_9 ?_
  exact ⟨_, rfl, rfl, rfl⟩
set_option maxHeartbeats 100000 in
set_option maxRecDepth 100000 in
theorem T_X5_lagOf {l : Launch} {G : Wd} {x : Int32} {μ : Mem}  : Mt l G KC yX5_lagOf cX5_lagOf 1 (some .int) 1 [.int x] μ (Qi (fun v μ' => v = x / 4 - x / 4 / 3 * 3 ∧ μ' = μ)) := by
  refine Mt.of (own := RX5) (n := 0) (by decide) rfl [some (.int x)] rfl (Nat.le_of_ble_eq_true rfl) ?_
  refine A_iload0 dX5_lagOf_0 ?_
  refine A_iconst (v := 4) dX5_lagOf_1 (by decide) ?_
  refine A_idiv dX5_lagOf_2 (by decide) ?_
  refine A_iconst (v := 3) dX5_lagOf_3 (by decide) ?_
  refine A_irem dX5_lagOf_4 (by decide) ?_
  refine A_iret dX5_lagOf_5 ?_
  exact ⟨_, rfl, rfl, rfl⟩
set_option maxHeartbeats 100000 in
set_option maxRecDepth 100000 in
theorem T_X5_tireOf {l : Launch} {G : Wd} {x : Int32} {μ : Mem}  : Mt l G KC yX5_tireOf cX5_tireOf 1 (some .int) 1 [.int x] μ (Qi (fun v μ' => v = x - x / 4 * 4 ∧ μ' = μ)) := by
  refine Mt.of (own := RX5) (n := 0) (by decide) rfl [some (.int x)] rfl (Nat.le_of_ble_eq_true rfl) ?_
  refine A_iload0 dX5_tireOf_0 ?_
  refine A_iconst (v := 4) dX5_tireOf_1 (by decide) ?_
  refine A_irem dX5_tireOf_2 (by decide) ?_
  refine A_iret dX5_tireOf_3 ?_
  exact ⟨_, rfl, rfl, rfl⟩
/-- a law's four parts as they can be; its number -/
abbrev Bd : Type := Int32 × Nat × Int32
def okBd (y : Bd) : Prop := 8 ≤ y.1.toInt ∧ y.1.toInt ≤ 12 ∧ y.2.1 ≤ 2 ∧ 0 ≤ y.2.2.toInt ∧ y.2.2.toInt ≤ 3
def bdN (y : Bd) : Nat := ((y.1.toInt - 8) * 12 + y.2.1 * 4 + y.2.2.toInt).toNat
def lwN (z : Int32) (y : Bd) : Nat := (z.toInt + 5).toNat * 60 + bdN y
theorem bdN_i {y : Bd} (h : okBd y) : (bdN y : Int) = (y.1.toInt - 8) * 12 + y.2.1 * 4 + y.2.2.toInt ∧ bdN y < 60 := by
  obtain ⟨h1, h2, h3, h4, h5⟩ := h
  unfold bdN
  omega
theorem lw_parts {z : Int32} {y : Bd} (hz : -5 ≤ z.toInt ∧ z.toInt ≤ 5) (h : okBd y) : lwN z y < 660 ∧ nI (lwN z y) / 60 - 5 = z ∧ nI (lwN z y) / 12 - nI (lwN z y) / 12 / 5 * 5 + 8 = y.1 ∧ nI (lwN z y) / 4 - nI (lwN z y) / 4 / 3 * 3 = nI y.2.1 ∧ nI (lwN z y) - nI (lwN z y) / 4 * 4 = y.2.2 := by
  obtain ⟨e, e6⟩ := bdN_i h
  obtain ⟨h1, h2, h3, h4, h5⟩ := h
  have hl : lwN z y < 660 := by unfold lwN; omega
  have hn : (lwN z y : Int) = (z.toInt + 5) * 60 + ((y.1.toInt - 8) * 12 + y.2.1 * 4 + y.2.2.toInt) := by unfold lwN; omega
  refine ⟨hl, ?_, ?_, ?_, ?_⟩
  · rw [show (60 : Int32) = nI 60 from rfl, pk_div (by omega) (by omega) (by omega), i_eq, i_sub (by rw [nI_i (by omega)]; show _ ∧ _ - (5 : Int) ≤ _; constructor <;> (try show _ ≤ _ - (5 : Int)) <;> omega), nI_i (by omega)]
    show ((lwN z y / 60 : Nat) : Int) - 5 = z.toInt
    omega
  · rw [show (12 : Int32) = nI 12 from rfl, show (5 : Int32) = nI 5 from rfl, pk_div (by omega) (by omega) (by omega), pk_rem (by omega) (by omega) (by omega), show (8 : Int32) = nI 8 from rfl, nI_add, i_eq, nI_i (by omega)]
    omega
  · rw [show (4 : Int32) = nI 4 from rfl, show (3 : Int32) = nI 3 from rfl, pk_div (by omega) (by omega) (by omega), pk_rem (by omega) (by omega) (by omega)]
    congr 1
    omega
  · rw [show (4 : Int32) = nI 4 from rfl, pk_rem (by omega) (by omega) (by omega), i_eq, nI_i (by omega)]
    omega
theorem layF_b {σ : Mem} {k : Int32} (n : Nat) (h : ∀ f, f < n → okFt σ f) (j : Nat) : layF σ k n j = -100000 ∨ (-999 ≤ (layF σ k n j).toInt ∧ (layF σ k n j).toInt ≤ 999) := by
  induction n with
  | zero => exact Or.inl rfl
  | succ n ih =>
    unfold layF
    split
    · have := (h n (by omega)).2.2.1
      right
      exact ⟨i_le.mp this.1, i_le.mp this.2⟩
    · exact ih (fun f hf => h f (by omega))
theorem layR_b {σ : Mem} {k : Int32} (n : Nat) (h : ∀ f, f < n → okFt σ f) (j : Nat) : layR σ k n j = -100000 ∨ (-999 ≤ (layR σ k n j).toInt ∧ (layR σ k n j).toInt ≤ 999) := by
  induction n with
  | zero => exact Or.inl rfl
  | succ n ih =>
    unfold layR
    split
    · have := (h n (by omega)).2.2.1
      right
      exact ⟨i_le.mp this.1, i_le.mp this.2⟩
    · exact ih (fun f hf => h f (by omega))
/-- what is left of a law's show without its zero -/
def bnt (σ : Mem) (k : Int32) (b d : Nat) (y : Bd) : Int32 := if d < y.2.1 then -100000 else if farN σ k (kdN σ b) (d - y.2.1) = -100000 then -100000 else dn (y.1 * farN σ k (kdN σ b) (d - y.2.1)) 10 + dn (y.2.2 * nI (agS σ b d)) 10
theorem bnt_s {σ : Mem} {k : Int32} {b d : Nat} {y : Bd} (hw : WFf σ) (hy : okBd y) (hd : d < 60) (q : ¬ d < y.2.1) (q2 : ¬ farN σ k (kdN σ b) (d - y.2.1) = -100000) : -2000 ≤ (bnt σ k b d y).toInt ∧ (bnt σ k b d y).toInt ≤ 2000 := by
  unfold bnt
  rw [if_neg q, if_neg q2]
  have hf := (layF_b (k := k) (nfc σ) hw.2 (60 * kdN σ b + (d - y.2.1))).resolve_left q2
  have hf2 : -999 ≤ (farN σ k (kdN σ b) (d - y.2.1)).toInt ∧ (farN σ k (kdN σ b) (d - y.2.1)).toInt ≤ 999 := hf
  generalize farN σ k (kdN σ b) (d - y.2.1) = F at hf2
  obtain ⟨h1, h2, h3, h4, h5⟩ := hy
  have ha : agS σ b d ≤ d := by unfold agS; omega
  have p1 : -12000 ≤ y.1.toInt * F.toInt ∧ y.1.toInt * F.toInt ≤ 12000 := by
    have : y.1.toInt = 8 ∨ y.1.toInt = 9 ∨ y.1.toInt = 10 ∨ y.1.toInt = 11 ∨ y.1.toInt = 12 := by omega
    rcases this with e | e | e | e | e <;> rw [e] <;> omega
  have p2 : 0 ≤ y.2.2.toInt * (agS σ b d : Int) ∧ y.2.2.toInt * (agS σ b d : Int) ≤ 180 := by
    have : y.2.2.toInt = 0 ∨ y.2.2.toInt = 1 ∨ y.2.2.toInt = 2 ∨ y.2.2.toInt = 3 := by omega
    rcases this with e | e | e | e <;> rw [e] <;> omega
  have m1 : (y.1 * F).toInt = y.1.toInt * F.toInt := i_mul (by omega)
  have m2 : (y.2.2 * nI (agS σ b d)).toInt = y.2.2.toInt * (agS σ b d : Int) := by rw [i_mul (by rw [nI_i (by omega)]; omega), nI_i (by omega)]
  have d1 := dn_10 (a := y.1 * F) (by omega)
  have d2 := dn_10 (a := y.2.2 * nI (agS σ b d)) (by omega)
  rw [i_add (by rw [d1, d2]; omega), d1, d2]
  constructor <;> omega
theorem bnt_b {σ : Mem} {k : Int32} {b d : Nat} {y : Bd} (hw : WFf σ) (hy : okBd y) (hd : d < 60) : bnt σ k b d y = -100000 ∨ (-2000 ≤ (bnt σ k b d y).toInt ∧ (bnt σ k b d y).toInt ≤ 2000 ∧ ¬ d < y.2.1 ∧ ¬ farN σ k (kdN σ b) (d - y.2.1) = -100000) := by
  by_cases q : d < y.2.1
  · exact Or.inl (if_pos q)
  · by_cases q2 : farN σ k (kdN σ b) (d - y.2.1) = -100000
    · exact Or.inl ((if_neg q).trans (if_pos q2))
    · have := bnt_s (k := k) (b := b) hw hy hd q q2
      exact Or.inr ⟨this.1, this.2, q, q2⟩
theorem shO_b {σ : Mem} {k : Int32} {b d : Nat} {z : Int32} {y : Bd} (hw : WFf σ) (hz : -5 ≤ z.toInt ∧ z.toInt ≤ 5) (hy : okBd y) (hd : d < 60) : (shO σ k b d z y.1 y.2.1 y.2.2 = -100000 ↔ bnt σ k b d y = -100000) ∧ (¬ bnt σ k b d y = -100000 → -3000 ≤ (shO σ k b d z y.1 y.2.1 y.2.2).toInt ∧ (shO σ k b d z y.1 y.2.1 y.2.2).toInt ≤ 3000 ∧ (z + bnt σ k b d y).toInt = z.toInt + (bnt σ k b d y).toInt ∧ (if σ.1 7 b = 3 then (shO σ k b d z y.1 y.2.1 y.2.2).toInt = (z.toInt + (bnt σ k b d y).toInt) % 16 else (shO σ k b d z y.1 y.2.1 y.2.2).toInt = z.toInt + (bnt σ k b d y).toInt)) := by
  have e1 : (-100000 : Int32).toInt = -100000 := rfl
  rcases bnt_b (k := k) (b := b) hw hy hd with h | ⟨h1, h2, h3, h4⟩
  · refine ⟨⟨fun _ => h, fun _ => ?_⟩, fun q => absurd h q⟩
    unfold shO
    by_cases q : d < y.2.1
    · rw [if_pos q]
    · rw [if_neg q]
      by_cases q2 : farN σ k (kdN σ b) (d - y.2.1) = -100000
      · rw [if_pos q2]
      · exfalso
        have := bnt_s (k := k) (b := b) hw hy hd q q2
        rw [h, e1] at this
        omega
  · have hn : ¬ bnt σ k b d y = -100000 := fun z => by rw [z, e1] at h1; omega
    have es : (z + bnt σ k b d y).toInt = z.toInt + (bnt σ k b d y).toInt := i_add (by omega)
    have eq : shO σ k b d z y.1 y.2.1 y.2.2 = if σ.1 7 b = 3 then rn (z + bnt σ k b d y) else z + bnt σ k b d y := by
      unfold shO bnt shB
      rw [if_neg h3, if_neg h4, if_neg h3, if_neg h4, Int32.add_assoc]
    have key : -3000 ≤ (shO σ k b d z y.1 y.2.1 y.2.2).toInt ∧ (shO σ k b d z y.1 y.2.1 y.2.2).toInt ≤ 3000 ∧ (if σ.1 7 b = 3 then (shO σ k b d z y.1 y.2.1 y.2.2).toInt = (z.toInt + (bnt σ k b d y).toInt) % 16 else (shO σ k b d z y.1 y.2.1 y.2.2).toInt = z.toInt + (bnt σ k b d y).toInt) := by
      rw [eq]
      by_cases w : σ.1 7 b = 3
      · rw [if_pos w, if_pos w, rn_mod (by omega), es]
        omega
      · rw [if_neg w, if_neg w, es]
        omega
    refine ⟨⟨fun z1 => ?_, fun z1 => absurd z1 hn⟩, fun _ => ⟨key.1, key.2.1, es, key.2.2⟩⟩
    exfalso
    have := key.1
    rw [z1, e1] at this
    omega

/-! ints without wrap -/
theorem i_add {a b : Int32} (h : -2147483648 ≤ a.toInt + b.toInt ∧ a.toInt + b.toInt ≤ 2147483647) : (a + b).toInt = a.toInt + b.toInt := by
  rw [Int32.toInt_add, Int.bmod_eq_of_le (by omega) (by omega)]
theorem i_sub {a b : Int32} (h : -2147483648 ≤ a.toInt - b.toInt ∧ a.toInt - b.toInt ≤ 2147483647) : (a - b).toInt = a.toInt - b.toInt := by
  rw [Int32.toInt_sub, Int.bmod_eq_of_le (by omega) (by omega)]
theorem i_neg {a : Int32} (h : -2147483648 < a.toInt) : (-a).toInt = -a.toInt := by
  have := i_rng a
  rw [Int32.toInt_neg, Int.bmod_eq_of_le (by omega) (by omega)]
theorem i_mul {a b : Int32} (h : -2147483648 ≤ a.toInt * b.toInt ∧ a.toInt * b.toInt ≤ 2147483647) : (a * b).toInt = a.toInt * b.toInt := by
  rw [Int32.toInt_mul, Int.bmod_eq_of_le (by omega) (by omega)]
theorem i_div10 {a : Int32} (h : -2147483648 < a.toInt) : (a / 10).toInt = a.toInt.tdiv 10 := by
  have := i_rng a
  have e : (10 : Int32).toInt = 10 := rfl
  have h1 : a.toInt.tdiv 10 = if 0 ≤ a.toInt then a.toInt / 10 else -((-a.toInt) / 10) := by
    split
    · exact Int.tdiv_eq_ediv_of_nonneg (by omega)
    · rw [show a.toInt = -(-a.toInt) by omega, Int.neg_tdiv, Int.tdiv_eq_ediv_of_nonneg (by omega), Int.neg_neg]
  rw [Int32.toInt_div, e, Int.bmod_eq_of_le]
  · rw [h1]; split <;> omega
  · rw [h1]; split <;> omega
theorem i_div16 {a : Int32} (h : -2147483648 < a.toInt) : (a / 16).toInt = a.toInt.tdiv 16 := by
  have := i_rng a
  have e : (16 : Int32).toInt = 16 := rfl
  have h1 : a.toInt.tdiv 16 = if 0 ≤ a.toInt then a.toInt / 16 else -((-a.toInt) / 16) := by
    split
    · exact Int.tdiv_eq_ediv_of_nonneg (by omega)
    · rw [show a.toInt = -(-a.toInt) by omega, Int.neg_tdiv, Int.tdiv_eq_ediv_of_nonneg (by omega), Int.neg_neg]
  rw [Int32.toInt_div, e, Int.bmod_eq_of_le]
  · rw [h1]; split <;> omega
  · rw [h1]; split <;> omega
theorem t_div (a : Int) (d : Int) (hd : 0 < d) : a.tdiv d = if 0 ≤ a then a / d else -((-a) / d) := by
  split
  · exact Int.tdiv_eq_ediv_of_nonneg (by omega)
  · rw [show a = -(-a) by omega, Int.neg_tdiv, Int.tdiv_eq_ediv_of_nonneg (by omega), Int.neg_neg]
theorem dn_10 {a : Int32} (h : -1000000 ≤ a.toInt ∧ a.toInt ≤ 1000000) : (dn a 10).toInt = a.toInt / 10 := by
  have e9 : (9 : Int32).toInt = 9 := rfl
  unfold dn
  split
  · rename_i q
    have q1 := i_lt.mp q
    have z0 : (0 : Int32).toInt = 0 := rfl
    have e1 : ((10 : Int32) - 1 - a).toInt = 9 - a.toInt := by
      rw [show (10 : Int32) - 1 = 9 from rfl, i_sub (by rw [e9]; omega), e9]
    have e2 : (((10 : Int32) - 1 - a) / 10).toInt = (9 - a.toInt) / 10 := by
      rw [i_div10 (by rw [e1]; omega), e1, Int.tdiv_eq_ediv_of_nonneg (by omega)]
    rw [i_neg (by rw [e2]; omega), e2]
    omega
  · rename_i q
    have q1 : 0 ≤ a.toInt := by have := mt i_lt.mpr q; have z0 : (0 : Int32).toInt = 0 := rfl; omega
    rw [i_div10 (by omega), Int.tdiv_eq_ediv_of_nonneg q1]
theorem dn_16 {a : Int32} (h : -1000000 ≤ a.toInt ∧ a.toInt ≤ 1000000) : (dn a 16).toInt = a.toInt / 16 := by
  have e9 : (15 : Int32).toInt = 15 := rfl
  unfold dn
  split
  · rename_i q
    have q1 := i_lt.mp q
    have z0 : (0 : Int32).toInt = 0 := rfl
    have e1 : ((16 : Int32) - 1 - a).toInt = 15 - a.toInt := by
      rw [show (16 : Int32) - 1 = 15 from rfl, i_sub (by rw [e9]; omega), e9]
    have e2 : (((16 : Int32) - 1 - a) / 16).toInt = (15 - a.toInt) / 16 := by
      rw [i_div16 (by rw [e1]; omega), e1, Int.tdiv_eq_ediv_of_nonneg (by omega)]
    rw [i_neg (by rw [e2]; omega), e2]
    omega
  · rename_i q
    have q1 : 0 ≤ a.toInt := by have := mt i_lt.mpr q; have z0 : (0 : Int32).toInt = 0 := rfl; omega
    rw [i_div16 (by omega), Int.tdiv_eq_ediv_of_nonneg q1]
theorem rn_mod {a : Int32} (h : -1000000 ≤ a.toInt ∧ a.toInt ≤ 1000000) : (rn a).toInt = a.toInt % 16 := by
  unfold rn
  have e := dn_16 h
  have e16 : (16 : Int32).toInt = 16 := rfl
  have e2 : ((16 : Int32) * dn a 16).toInt = 16 * (a.toInt / 16) := by
    rw [i_mul (by rw [e, e16]; omega), e, e16]
  rw [i_sub (by rw [e2]; omega), e2]
  omega
theorem x_neg {x y : Int32} (hy : 0 ≤ y.toInt) : x ^^^ y < 0 ↔ x < 0 := by
  have hs : ∀ z : Int32, z < 0 ↔ z.toBitVec.msb = true := by
    intro z
    rw [i_lt]
    show z.toBitVec.toInt < 0 ↔ _
    rw [BitVec.msb_eq_toInt]
    simp
  have hy2 : y.toBitVec.msb = false := by
    cases e : y.toBitVec.msb with
    | false => rfl
    | true => have := i_lt.mp ((hs y).mpr e); have z0 : (0 : Int32).toInt = 0 := rfl; omega
  rw [hs, hs, Int32.toBitVec_xor, BitVec.msb_xor, hy2, Bool.xor_false]
theorem fdiv_10 {a : Int32} (h : -1000000 ≤ a.toInt ∧ a.toInt ≤ 1000000) : (fdiv a 10).toInt = a.toInt / 10 := by
  unfold fdiv
  have e10 : (10 : Int32).toInt = 10 := rfl
  have e1 : (1 : Int32).toInt = 1 := rfl
  have z0 : (0 : Int32).toInt = 0 := rfl
  have ed := i_div10 (a := a) (by omega)
  rw [t_div _ _ (by omega)] at ed
  have em : (a / 10 * 10).toInt = (a / 10).toInt * 10 := by rw [i_mul (by rw [ed, e10]; split <;> omega), e10]
  have c1 : (a ^^^ 10 < 0) ↔ a.toInt < 0 := by rw [x_neg (by rw [e10]; omega), i_lt, z0]
  have c2 : (a / 10 * 10 ≠ a) ↔ (a / 10).toInt * 10 ≠ a.toInt := by rw [← em]; exact not_congr i_eq
  split
  · rename_i q
    have q1 := c1.mp q.1
    have q2 := c2.mp q.2
    rw [if_neg (by omega)] at ed
    rw [i_sub (by rw [ed, e1]; omega), ed, e1]
    rw [ed] at q2
    omega
  · rename_i q
    by_cases q1 : a.toInt < 0
    · have q2 : ¬ (a / 10).toInt * 10 ≠ a.toInt := fun z => q ⟨c1.mpr q1, c2.mpr z⟩
      rw [if_neg (by omega)] at ed
      rw [ed] at q2 ⊢
      omega
    · rw [if_pos (by omega)] at ed
      exact ed
theorem fmod_16 {a : Int32} (h : -1000000 ≤ a.toInt ∧ a.toInt ≤ 1000000) : (fmod a 16).toInt = a.toInt % 16 := by
  unfold fmod
  have e16 : (16 : Int32).toInt = 16 := rfl
  have z0 : (0 : Int32).toInt = 0 := rfl
  have ed := i_div16 (a := a) (by omega)
  rw [t_div _ _ (by omega)] at ed
  have em : (a / 16 * 16).toInt = (a / 16).toInt * 16 := by rw [i_mul (by rw [ed, e16]; split <;> omega), e16]
  have er : (a - a / 16 * 16).toInt = a.toInt - (a / 16).toInt * 16 := by rw [i_sub (by rw [em, ed]; split <;> omega), em]
  have c1 : (a ^^^ 16 < 0) ↔ a.toInt < 0 := by rw [x_neg (by rw [e16]; omega), i_lt, z0]
  have c2 : (a - a / 16 * 16 ≠ 0) ↔ a.toInt - (a / 16).toInt * 16 ≠ 0 := by rw [← er]; exact not_congr i_eq
  split
  · rename_i q
    have q1 := c1.mp q.1
    have q2 := c2.mp q.2
    rw [if_neg (by omega)] at ed
    rw [i_add (by rw [er, ed, e16]; omega), er, e16, ed]
    rw [ed] at q2
    omega
  · rename_i q
    rw [er]
    by_cases q1 : a.toInt < 0
    · have q2 : ¬ a.toInt - (a / 16).toInt * 16 ≠ 0 := fun z => q ⟨c1.mpr q1, c2.mpr z⟩
      rw [if_neg (by omega)] at ed
      rw [ed] at q2 ⊢
      omega
    · rw [if_pos (by omega)] at ed
      rw [ed]
      omega
theorem iabs_i {x : Int32} (h : -2147483648 < x.toInt) : (iabs x).toInt = if 0 ≤ x.toInt then x.toInt else -x.toInt := by
  have z0 : (0 : Int32).toInt = 0 := rfl
  unfold iabs
  by_cases q : 0 ≤ x
  · have := i_le.mp q; rw [if_pos q, if_pos (by omega)]
  · have := mt i_le.mpr q; rw [if_neg q, if_neg (by omega), i_neg h]
/-! stretches -/
theorem sFrom_c (f : Nat → Int32) (x : Nat) : ∀ d, x ≤ d → (x = 0 ∨ ¬ f x = 0) → (∀ y, x < y → y ≤ d → f y = 0) → sFrom f d = x := by
  intro d
  induction d with
  | zero => intro h _ _; unfold sFrom; omega
  | succ d ih =>
    intro h h1 h2
    unfold sFrom
    by_cases e : x = d + 1
    · subst e
      rcases h1 with h1 | h1
      · omega
      · rw [if_neg h1]
    · rw [if_pos (h2 (d + 1) (by omega) (by omega))]
      exact ih (by omega) h1 (fun y y1 y2 => h2 y y1 (by omega))
theorem sTo_c (f : Nat → Int32) (x : Nat) : ∀ n d, d ≤ x → x ≤ d + n → (x = d + n ∨ ¬ f (x + 1) = 0) → (∀ y, d < y → y ≤ x → f y = 0) → sTo f n d = x := by
  intro n
  induction n with
  | zero => intro d h1 h2 _ _; unfold sTo; omega
  | succ n ih =>
    intro d h1 h2 h3 h4
    unfold sTo
    by_cases e : x = d
    · subst e
      rcases h3 with h3 | h3
      · omega
      · rw [if_neg h3]
    · rw [if_pos (h4 (d + 1) (by omega) (by omega))]
      exact ih (d + 1) (by omega) (by omega) (by rcases h3 with h3 | h3; exact Or.inl (by omega); exact Or.inr h3) (fun y y1 y2 => h4 y (by omega) y2)
theorem ageD_c (f : Nat → Int32) (a x : Nat) : ∀ d, a ≤ x → x ≤ d → (x = a ∨ ¬ f x = 0) → (∀ y, x < y → y ≤ d → f y = 0) → ageD f a d = x := by
  intro d
  induction d with
  | zero => intro _ h _ _; unfold ageD; omega
  | succ d ih =>
    intro h0 h h1 h2
    unfold ageD
    by_cases e : x = d + 1
    · subst e
      rw [if_neg]
      rintro ⟨z1, z2⟩
      rcases h1 with h1 | h1
      · omega
      · exact h1 z2
    · rw [if_pos ⟨by omega, h2 (d + 1) (by omega) (by omega)⟩]
      exact ih h0 (by omega) h1 (fun y y1 y2 => h2 y y1 (by omega))
abbrev mvL (μ : Mem) (b i : Nat) : Prop := μ.1 10 i = 139 ∧ μ.1 11 i = nI b
abbrev yoL (μ : Mem) (b i : Nat) : Prop := (μ.1 10 i = 139 ∨ μ.1 10 i = 140) ∧ μ.1 11 i = nI b
/-- the latest day not behind d on which a line of a sort begins, of the first i lines -/
def accF (Q : Nat → Prop) (μ : Mem) (d i x : Nat) : Prop := x ≤ d ∧ (x = 0 ∨ ∃ j, j < i ∧ Q j ∧ μ.1 12 j = nI x) ∧ ∀ j f, j < i → Q j → μ.1 12 j = nI f → f ≤ d → f ≤ x
def accT (Q : Nat → Prop) (μ : Mem) (d i x : Nat) : Prop := d ≤ x ∧ x ≤ 59 ∧ (x = 59 ∨ ∃ j, j < i ∧ Q j ∧ μ.1 12 j = nI (x + 1)) ∧ ∀ j f, j < i → Q j → μ.1 12 j = nI f → d < f → f < 60 → x < f
theorem accF.no {Q : Nat → Prop} {μ : Mem} {d i x : Nat} (h : accF Q μ d i x) (hn : ¬ Q i ∨ ∃ f, μ.1 12 i = nI f ∧ f < 60 ∧ d < f) : accF Q μ d (i + 1) x := by
  refine ⟨h.1, ?_, fun j f h1 h2 h3 h4 => ?_⟩
  · rcases h.2.1 with z | ⟨j, j1, j2⟩
    · exact Or.inl z
    · exact Or.inr ⟨j, by omega, j2⟩
  · by_cases e : j = i
    · subst e
      rcases hn with hn | ⟨g, g1, g2, g3⟩
      · exact absurd h2 hn
      · have := (nI_eq (a := g) (b := f) (by omega) (by omega)).mp (g1.symm.trans h3)
        omega
    · exact h.2.2 j f (by omega) h2 h3 h4
theorem accF.yes {Q : Nat → Prop} {μ : Mem} {d i x f : Nat} (h : accF Q μ d i x) (hq : Q i) (hf : μ.1 12 i = nI f) (hf6 : f < 60) (hd6 : d < 60) (hd : f ≤ d) : accF Q μ d (i + 1) (max x f) := by
  refine ⟨by have := h.1; omega, ?_, fun j g h1 h2 h3 h4 => ?_⟩
  · by_cases e : x ≤ f
    · rw [Nat.max_eq_right e]; exact Or.inr ⟨i, by omega, hq, hf⟩
    · rw [Nat.max_eq_left (by omega)]
      rcases h.2.1 with z | ⟨j, j1, j2⟩
      · exact Or.inl z
      · exact Or.inr ⟨j, by omega, j2⟩
  · by_cases e : j = i
    · subst e
      have := (nI_eq (a := f) (b := g) (by omega) (by omega)).mp (hf.symm.trans h3)
      omega
    · have := h.2.2 j g (by omega) h2 h3 h4; omega
theorem accT.no {Q : Nat → Prop} {μ : Mem} {d i x : Nat} (h : accT Q μ d i x) (hn : ¬ Q i ∨ ∃ f, μ.1 12 i = nI f ∧ f < 60 ∧ f ≤ d) : accT Q μ d (i + 1) x := by
  refine ⟨h.1, h.2.1, ?_, fun j f h1 h2 h3 h4 h5 => ?_⟩
  · rcases h.2.2.1 with z | ⟨j, j1, j2⟩
    · exact Or.inl z
    · exact Or.inr ⟨j, by omega, j2⟩
  · by_cases e : j = i
    · subst e
      rcases hn with hn | ⟨g, g1, g2, g3⟩
      · exact absurd h2 hn
      · have := (nI_eq (a := g) (b := f) (by omega) (by omega)).mp (g1.symm.trans h3)
        omega
    · exact h.2.2.2 j f (by omega) h2 h3 h4 h5
theorem accT.yes {Q : Nat → Prop} {μ : Mem} {d i x f : Nat} (h : accT Q μ d i x) (hq : Q i) (hf : μ.1 12 i = nI f) (hf6 : f < 60) (hd : d < f) : accT Q μ d (i + 1) (min x (f - 1)) := by
  have h0 := h.1
  have h1' := h.2.1
  refine ⟨by omega, by omega, ?_, fun j g h1 h2 h3 h4 h5 => ?_⟩
  · by_cases e : x ≤ f - 1
    · rw [Nat.min_eq_left e]
      rcases h.2.2.1 with z | ⟨j, j1, j2⟩
      · exact Or.inl z
      · exact Or.inr ⟨j, by omega, j2⟩
    · rw [Nat.min_eq_right (by omega)]
      exact Or.inr ⟨i, by omega, hq, by rw [hf, show f - 1 + 1 = f by omega]⟩
  · by_cases e : j = i
    · subst e
      have := (nI_eq (a := f) (b := g) (by omega) (by omega)).mp (hf.symm.trans h3)
      omega
    · have := h.2.2.2 j g (by omega) h2 h3 h4 h5; omega
theorem accF.st {σ μ : Mem} {b d x : Nat} (hL : RcL σ μ) (hb : b < 5) (hd : d < 60) (h : accF (mvL μ b) μ d (wthN μ) x) : stF σ b d = x := by
  obtain ⟨-, -, -, -, h5, -, h7⟩ := hL
  have hx := h.1
  refine sFrom_c _ _ _ h.1 ?_ (fun y y1 y2 => Decidable.not_not.mp (fun z => ?_))
  · rcases h.2.1 with z | ⟨j, j1, j2, j3⟩
    · exact Or.inl z
    · exact Or.inr ((h5 b x hb (by omega)).mpr ⟨j, j1, j2.1, j2.2, j3⟩)
  · obtain ⟨i, i1, i2, i3, i4⟩ := (h5 b y hb (by omega)).mp z
    have := h.2.2 i y i1 ⟨i2, i3⟩ i4 y2
    omega
theorem accT.st {σ μ : Mem} {b d x : Nat} (hL : RcL σ μ) (hb : b < 5) (hd : d < 60) (h : accT (mvL μ b) μ d (wthN μ) x) : stT σ b d = x := by
  obtain ⟨-, -, -, -, h5, -, h7⟩ := hL
  have h0 := h.1
  have h1 := h.2.1
  refine sTo_c _ _ _ _ h0 (by omega) ?_ (fun y y1 y2 => Decidable.not_not.mp (fun z => ?_))
  · rcases h.2.2.1 with z | ⟨j, j1, j2, j3⟩
    · exact Or.inl (by omega)
    · by_cases e : x = 59
      · exact Or.inl (by omega)
      · exact Or.inr ((h5 b (x + 1) hb (by omega)).mpr ⟨j, j1, j2.1, j2.2, j3⟩)
  · obtain ⟨i, i1, i2, i3, i4⟩ := (h5 b y hb (by omega)).mp z
    have := h.2.2.2 i y i1 ⟨i2, i3⟩ i4 y1 (by omega)
    omega
theorem accF.ag {σ μ : Mem} {b d x : Nat} (hL : RcL σ μ) (hb : b < 5) (hd : d < 60) (h : accF (yoL μ b) μ d (wthN μ) x) : agS σ b d = d - x := by
  obtain ⟨-, -, -, -, h5, h6, h7⟩ := hL
  have hx := h.1
  unfold agS
  congr 1
  have hs := sFrom_le (mv σ b) d
  have hy : ∀ y, y ≤ d → (¬ mv σ b y = 0 ∨ ¬ fr σ b y = 0) → y ≤ x := by
    intro y y1 y2
    rcases y2 with z | z
    · obtain ⟨i, i1, i2, i3, i4⟩ := (h5 b y hb (by omega)).mp z
      exact h.2.2 i y i1 ⟨Or.inl i2, i3⟩ i4 y1
    · obtain ⟨i, i1, i2, i3, i4⟩ := (h6 b y hb (by omega)).mp z
      exact h.2.2 i y i1 ⟨Or.inr i2, i3⟩ i4 y1
  have hF : ∀ d, (sFrom (mv σ b) d = 0 ∨ ¬ mv σ b (sFrom (mv σ b) d) = 0) ∧ ∀ y, sFrom (mv σ b) d < y → y ≤ d → mv σ b y = 0 := by
    intro d
    induction d with
    | zero => exact ⟨Or.inl rfl, fun y y1 y2 => absurd y2 (by omega)⟩
    | succ d ih =>
      unfold sFrom
      split
      · rename_i q
        refine ⟨ih.1, fun y y1 y2 => ?_⟩
        by_cases e : y = d + 1
        · rw [e]; exact q
        · exact ih.2 y y1 (by omega)
      · rename_i q
        exact ⟨Or.inr q, fun y y1 y2 => absurd y2 (by omega)⟩
  have hst : stF σ b d ≤ x := by
    rcases (hF d).1 with z | z
    · show sFrom _ _ ≤ x; omega
    · exact hy _ hs (Or.inl z)
  refine ageD_c _ _ _ _ hst hx ?_ (fun y y1 y2 => Decidable.not_not.mp (fun z => by have := hy y y2 (Or.inr z); omega))
  by_cases e : x = stF σ b d
  · exact Or.inl e
  · right
    rcases h.2.1 with z | ⟨j, j1, j2, j3⟩
    · exact absurd (by omega) e
    · rcases j2.1 with w | w
      · exfalso
        have m1 : ¬ mv σ b x = 0 := (h5 b x hb (by omega)).mpr ⟨j, j1, w, j2.2, j3⟩
        exact m1 ((hF d).2 x (by show sFrom _ _ < x; unfold stF at hst e; omega) hx)
      · exact (h6 b x hb (by omega)).mpr ⟨j, j1, w, j2.2, j3⟩
set_option maxHeartbeats 200000 in
set_option maxRecDepth 100000 in
theorem L_X2_firstDay {l : Launch} {G : Wd} {σ μ : Mem} {b d : Nat} (hL : RcL σ μ) (hb : b < 5) (hd : d < 60) : ∀ (q i x : Nat), q + i = wthN μ → accF (mvL μ b) μ d i x → AW l G KC RX2 cX2_firstDay 5 2 (some .int) (Qi (fun v μ' => v = nI (stF σ b d) ∧ μ' = μ)) 5 [some (.ref (gA G 4)), some (.int (nI b)), some (.int (nI d)), some (.int (nI x)), some (.int (nI i))] [] μ := by
  have hn := hL.1.1
  have hl := hL.1.2
  intro q
  induction q with
  | zero =>
    intro i x hq hx
    obtain rfl : i = wthN μ := by omega
    refine A_iload4 dX2_firstDay_5 ?_
    refine A_aload0 dX2_firstDay_7 ?_
    refine A_getI gf_X2_44 rfl dX2_firstDay_8 ?_
    rw [hl]
    refine A_icmp_ge (tgt := 56) dX2_firstDay_11 (by decide) (fun c_11 => ?_) (fun c_11 => absurd c_11 (fun z => z (Int32.le_refl _)))
    refine A_iload3 dX2_firstDay_56 ?_
    refine A_iret dX2_firstDay_57 ?_
    exact ⟨_, rfl, by rw [hx.st hL hb hd], rfl⟩
  | succ q ih =>
    intro i x hq hx
    obtain ⟨f, t, f6, t6, ef, et⟩ := hL.2.2.2.2.2.2 i (by omega)
    have hx0 := hx.1
    refine A_iload4 dX2_firstDay_5 ?_
    refine A_aload0 dX2_firstDay_7 ?_
    refine A_getI gf_X2_44 rfl dX2_firstDay_8 ?_
    rw [hl]
    refine A_icmp_ge (tgt := 56) dX2_firstDay_11 (by decide) (fun c_11 => absurd c_11 (fun z => nI_ge (by omega) (by omega) z)) (fun c_11 => ?_)
    refine A_aload0 dX2_firstDay_14 ?_
    refine A_iload4 dX2_firstDay_15 ?_
    refine A_sipush (v := 139) dX2_firstDay_17 (by decide) ?_
    refine A_iload1 dX2_firstDay_20 ?_
    refine A_vi3 lk_X2_69 yv_X2_isOf dX2_firstDay_21 (rfl) (rfl) (T_X2_isOf (by omega)) (by decide) (Nat.le_of_ble_eq_true rfl) (fun r_21 μ_21 h_21 => ?_)
    obtain ⟨v_21, e_21⟩ := h_21
    replace v_21 := Eq.symm v_21
    subst v_21
    replace e_21 := e_21.symm
    subst e_21
    refine A_if_eq (tgt := 50) dX2_firstDay_24 (by decide) (fun c_24 => ?_) (fun c_24 => ?_)
    · refine A_iinc4 dX2_firstDay_50 rfl rfl (by decide) ?_
      refine A_goto (tgt := 5) dX2_firstDay_53 (by decide) ?_
      rw [show nI i + Int32.ofInt 1 = nI (i + 1) from nI_1 i]
      exact ih (i + 1) x (by omega) (hx.no (Or.inl (bz_0.mp c_24)))
    · refine A_aload0 dX2_firstDay_27 ?_
      refine A_getR gf_X2_34 rfl dX2_firstDay_28 ?_
      refine A_iload4 dX2_firstDay_31 ?_
      refine A_iald (rfl) (vp_in_nI (by omega) (by omega)) dX2_firstDay_33 ?_
      rw [nI_c (by omega), ef]
      refine A_iload2 dX2_firstDay_34 ?_
      refine A_icmp_gt (tgt := 50) dX2_firstDay_35 (by decide) (fun c_35 => ?_) (fun c_35 => ?_)
      · refine A_iinc4 dX2_firstDay_50 rfl rfl (by decide) ?_
        refine A_goto (tgt := 5) dX2_firstDay_53 (by decide) ?_
        rw [show nI i + Int32.ofInt 1 = nI (i + 1) from nI_1 i]
        exact ih (i + 1) x (by omega) (hx.no (Or.inr ⟨f, ef, f6, (nI_ltI (by omega) (by omega)).mp c_35⟩))
      · refine A_iload3 dX2_firstDay_38 ?_
        refine A_aload0 dX2_firstDay_39 ?_
        refine A_getR gf_X2_34 rfl dX2_firstDay_40 ?_
        refine A_iload4 dX2_firstDay_43 ?_
        refine A_iald (rfl) (vp_in_nI (by omega) (by omega)) dX2_firstDay_45 ?_
        rw [nI_c (by omega), ef]
        refine A_si2 lk_X2_73 ys_J9_max_7cf53 dX2_firstDay_46 (T_max) (by decide) (Nat.le_of_ble_eq_true rfl) (fun r_46 μ_46 h_46 => ?_)
        obtain ⟨v_46, e_46⟩ := h_46
        replace v_46 := Eq.symm v_46
        subst v_46
        replace e_46 := e_46.symm
        subst e_46
        refine A_istore3 dX2_firstDay_49 rfl (by decide) ?_
        refine A_iinc4 dX2_firstDay_50 rfl rfl (by decide) ?_
        refine A_goto (tgt := 5) dX2_firstDay_53 (by decide) ?_
        rw [show nI i + Int32.ofInt 1 = nI (i + 1) from nI_1 i]
        rw [imax_n (by omega) (by omega)]
        exact ih (i + 1) _ (by omega) (hx.yes (bz_y c_24) ef f6 hd (by rcases Nat.lt_or_ge d f with z | z; exact absurd (nI_lt z (by omega)) c_35; exact z))
set_option maxHeartbeats 100000 in
set_option maxRecDepth 100000 in
theorem T_X2_firstDay {l : Launch} {G : Wd} {b d : Nat} {σ μ : Mem} (hL : RcL σ μ) (hb : b < 5) (hd : d < 60) : Mt l G KC yX2_firstDay cX2_firstDay 5 (some .int) 2 [.ref (gA G 4), .int (nI b), .int (nI d)] μ (Qi (fun v μ' => v = nI (stF σ b d) ∧ μ' = μ)) := by
  refine Mt.of (own := RX2) (n := 2) (by decide) rfl [some (.ref (gA G 4)), some (.int (nI b)), some (.int (nI d)), none, none] rfl (Nat.le_of_ble_eq_true rfl) ?_
  refine A_iconst (v := 0) dX2_firstDay_0 (by decide) ?_
  refine A_istore3 dX2_firstDay_1 rfl (by decide) ?_
  refine A_iconst (v := 0) dX2_firstDay_2 (by decide) ?_
  refine A_istore4 dX2_firstDay_3 rfl (by decide) ?_
  exact L_X2_firstDay hL hb hd (wthN μ) 0 0 (by omega) ⟨by omega, Or.inl rfl, fun j f h => absurd h (by omega)⟩
set_option maxHeartbeats 200000 in
set_option maxRecDepth 100000 in
theorem L_X2_lastDay {l : Launch} {G : Wd} {σ μ : Mem} {b d : Nat} (hL : RcL σ μ) (hb : b < 5) (hd : d < 60) : ∀ (q i x : Nat), q + i = wthN μ → accT (mvL μ b) μ d i x → AW l G KC RX2 cX2_lastDay 5 2 (some .int) (Qi (fun v μ' => v = nI (stT σ b d) ∧ μ' = μ)) 6 [some (.ref (gA G 4)), some (.int (nI b)), some (.int (nI d)), some (.int (nI x)), some (.int (nI i))] [] μ := by
  have hn := hL.1.1
  have hl := hL.1.2
  intro q
  induction q with
  | zero =>
    intro i x hq hx
    obtain rfl : i = wthN μ := by omega
    refine A_iload4 dX2_lastDay_6 ?_
    refine A_aload0 dX2_lastDay_8 ?_
    refine A_getI gf_X2_44 rfl dX2_lastDay_9 ?_
    rw [hl]
    refine A_icmp_ge (tgt := 59) dX2_lastDay_12 (by decide) (fun c_12 => ?_) (fun c_12 => absurd c_12 (fun z => z (Int32.le_refl _)))
    refine A_iload3 dX2_lastDay_59 ?_
    refine A_iret dX2_lastDay_60 ?_
    exact ⟨_, rfl, by rw [hx.st hL hb hd], rfl⟩
  | succ q ih =>
    intro i x hq hx
    obtain ⟨f, t, f6, t6, ef, et⟩ := hL.2.2.2.2.2.2 i (by omega)
    have hx0 := hx.1
    refine A_iload4 dX2_lastDay_6 ?_
    refine A_aload0 dX2_lastDay_8 ?_
    refine A_getI gf_X2_44 rfl dX2_lastDay_9 ?_
    rw [hl]
    refine A_icmp_ge (tgt := 59) dX2_lastDay_12 (by decide) (fun c_12 => absurd c_12 (fun z => nI_ge (by omega) (by omega) z)) (fun c_12 => ?_)
    refine A_aload0 dX2_lastDay_15 ?_
    refine A_iload4 dX2_lastDay_16 ?_
    refine A_sipush (v := 139) dX2_lastDay_18 (by decide) ?_
    refine A_iload1 dX2_lastDay_21 ?_
    refine A_vi3 lk_X2_69 yv_X2_isOf dX2_lastDay_22 (rfl) (rfl) (T_X2_isOf (by omega)) (by decide) (Nat.le_of_ble_eq_true rfl) (fun r_22 μ_22 h_22 => ?_)
    obtain ⟨v_22, e_22⟩ := h_22
    replace v_22 := Eq.symm v_22
    subst v_22
    replace e_22 := e_22.symm
    subst e_22
    refine A_if_eq (tgt := 53) dX2_lastDay_25 (by decide) (fun c_25 => ?_) (fun c_25 => ?_)
    · refine A_iinc4 dX2_lastDay_53 rfl rfl (by decide) ?_
      refine A_goto (tgt := 6) dX2_lastDay_56 (by decide) ?_
      rw [show nI i + Int32.ofInt 1 = nI (i + 1) from nI_1 i]
      exact ih (i + 1) x (by omega) (hx.no (Or.inl (bz_0.mp c_25)))
    · refine A_aload0 dX2_lastDay_28 ?_
      refine A_getR gf_X2_34 rfl dX2_lastDay_29 ?_
      refine A_iload4 dX2_lastDay_32 ?_
      refine A_iald (rfl) (vp_in_nI (by omega) (by omega)) dX2_lastDay_34 ?_
      rw [nI_c (by omega), ef]
      refine A_iload2 dX2_lastDay_35 ?_
      refine A_icmp_le (tgt := 53) dX2_lastDay_36 (by decide) (fun c_36 => ?_) (fun c_36 => ?_)
      · refine A_iinc4 dX2_lastDay_53 rfl rfl (by decide) ?_
        refine A_goto (tgt := 6) dX2_lastDay_56 (by decide) ?_
        rw [show nI i + Int32.ofInt 1 = nI (i + 1) from nI_1 i]
        exact ih (i + 1) x (by omega) (hx.no (Or.inr ⟨f, ef, f6, (nI_leI (by omega) (by omega)).mp c_36⟩))
      · have hdf : d < f := by rcases Nat.lt_or_ge d f with z | z; exact z; exact absurd (nI_le z (by omega)) c_36
        have hx59 := hx.2.1
        refine A_iload3 dX2_lastDay_39 ?_
        refine A_aload0 dX2_lastDay_40 ?_
        refine A_getR gf_X2_34 rfl dX2_lastDay_41 ?_
        refine A_iload4 dX2_lastDay_44 ?_
        refine A_iald (rfl) (vp_in_nI (by omega) (by omega)) dX2_lastDay_46 ?_
        rw [nI_c (by omega), ef]
        refine A_iconst (v := 1) dX2_lastDay_47 (by decide) ?_
        refine A_isub dX2_lastDay_48 ?_
        rw [show nI f - 1 = nI (f - 1) by obtain ⟨g, rfl⟩ : ∃ g, f = g + 1 := ⟨f - 1, by omega⟩; exact nI_pred g]
        refine A_si2 lk_X2_63 ys_J9_min_7cf53 dX2_lastDay_49 (T_min) (by decide) (Nat.le_of_ble_eq_true rfl) (fun r_49 μ_49 h_49 => ?_)
        obtain ⟨v_49, e_49⟩ := h_49
        replace v_49 := Eq.symm v_49
        subst v_49
        replace e_49 := e_49.symm
        subst e_49
        refine A_istore3 dX2_lastDay_52 rfl (by decide) ?_
        refine A_iinc4 dX2_lastDay_53 rfl rfl (by decide) ?_
        refine A_goto (tgt := 6) dX2_lastDay_56 (by decide) ?_
        rw [show nI i + Int32.ofInt 1 = nI (i + 1) from nI_1 i]
        rw [imin_n (by omega) (by omega)]
        exact ih (i + 1) _ (by omega) (hx.yes (bz_y c_25) ef f6 hdf)
set_option maxHeartbeats 100000 in
set_option maxRecDepth 100000 in
theorem T_X2_lastDay {l : Launch} {G : Wd} {b d : Nat} {σ μ : Mem} (hL : RcL σ μ) (hb : b < 5) (hd : d < 60) : Mt l G KC yX2_lastDay cX2_lastDay 5 (some .int) 2 [.ref (gA G 4), .int (nI b), .int (nI d)] μ (Qi (fun v μ' => v = nI (stT σ b d) ∧ μ' = μ)) := by
  refine Mt.of (own := RX2) (n := 2) (by decide) rfl [some (.ref (gA G 4)), some (.int (nI b)), some (.int (nI d)), none, none] rfl (Nat.le_of_ble_eq_true rfl) ?_
  refine A_bipush (v := 59) dX2_lastDay_0 (by decide) ?_
  refine A_istore3 dX2_lastDay_2 rfl (by decide) ?_
  refine A_iconst (v := 0) dX2_lastDay_3 (by decide) ?_
  refine A_istore4 dX2_lastDay_4 rfl (by decide) ?_
  exact L_X2_lastDay hL hb hd (wthN μ) 0 59 (by omega) ⟨by omega, by omega, Or.inl rfl, fun j f h => absurd h (by omega)⟩
set_option maxHeartbeats 200000 in
set_option maxRecDepth 100000 in
theorem L_X2_age {l : Launch} {G : Wd} {σ μ : Mem} {b d : Nat} (hL : RcL σ μ) (hb : b < 5) (hd : d < 60) : ∀ (q i x : Nat), q + i = wthN μ → accF (yoL μ b) μ d i x → ∀ (x5 : Option Value), AW l G KC RX2 cX2_age 6 2 (some .int) (Qi (fun v μ' => v = nI (agS σ b d) ∧ μ' = μ)) 5 [some (.ref (gA G 4)), some (.int (nI b)), some (.int (nI d)), some (.int (nI x)), some (.int (nI i)), x5] [] μ := by
  have hn := hL.1.1
  have hl := hL.1.2
  intro q
  induction q with
  | zero =>
    intro i x hq hx x5
    obtain rfl : i = wthN μ := by omega
    refine A_iload4 dX2_age_5 ?_
    refine A_aload0 dX2_age_7 ?_
    refine A_getI gf_X2_44 rfl dX2_age_8 ?_
    rw [hl]
    refine A_icmp_ge (tgt := 92) dX2_age_11 (by decide) (fun c_11 => ?_) (fun c_11 => absurd c_11 (fun z => z (Int32.le_refl _)))
    refine A_iload2 dX2_age_92 ?_
    refine A_iload3 dX2_age_93 ?_
    refine A_isub dX2_age_94 ?_
    refine A_iret dX2_age_95 ?_
    refine ⟨_, rfl, ?_, rfl⟩
    rw [hx.ag hL hb hd, pk_sub hx.1]
  | succ q ih =>
    intro i x hq hx x5
    obtain ⟨f, t, f6, t6, ef, et⟩ := hL.2.2.2.2.2.2 i (by omega)
    have hx0 := hx.1
    refine A_iload4 dX2_age_5 ?_
    refine A_aload0 dX2_age_7 ?_
    refine A_getI gf_X2_44 rfl dX2_age_8 ?_
    rw [hl]
    refine A_icmp_ge (tgt := 92) dX2_age_11 (by decide) (fun c_11 => absurd c_11 (fun z => nI_ge (by omega) (by omega) z)) (fun c_11 => ?_)
    refine A_aload0 dX2_age_14 ?_
    refine A_getR gf_X2_28 rfl dX2_age_15 ?_
    refine A_iload4 dX2_age_18 ?_
    refine A_iald (rfl) (vp_in_nI (by omega) (by omega)) dX2_age_20 ?_
    rw [nI_c (by omega)]
    refine A_sipush (v := 139) dX2_age_21 (by decide) ?_
    refine A_icmp_eq (tgt := 40) dX2_age_24 (by decide) (fun c_24 => ?_) (fun c_24 => ?_)
    · refine A_iconst (v := 1) dX2_age_40 (by decide) ?_
      refine A_goto (tgt := 45) dX2_age_41 (by decide) ?_
      refine A_istore5 dX2_age_45 rfl (by decide) ?_
      refine A_iload5 dX2_age_47 ?_
      refine A_if_eq (tgt := 86) dX2_age_49 (by decide) (fun c_49 => absurd c_49 (fun z => absurd z (by decide))) (fun c_49 => ?_)
      refine A_aload0 dX2_age_52 ?_
      refine A_getR gf_X2_31 rfl dX2_age_53 ?_
      refine A_iload4 dX2_age_56 ?_
      refine A_iald (rfl) (vp_in_nI (by omega) (by omega)) dX2_age_58 ?_
      rw [nI_c (by omega)]
      refine A_iload1 dX2_age_59 ?_
      refine A_icmp_ne (tgt := 86) dX2_age_60 (by decide) (fun c_60 => ?_) (fun c_60 => ?_)
      · refine A_iinc4 dX2_age_86 rfl rfl (by decide) ?_
        refine A_goto (tgt := 5) dX2_age_89 (by decide) ?_
        rw [show nI i + Int32.ofInt 1 = nI (i + 1) from nI_1 i]
        exact ih (i + 1) x (by omega) (hx.no (Or.inl (fun z => c_60 z.2))) _
      · refine A_aload0 dX2_age_63 ?_
        refine A_getR gf_X2_34 rfl dX2_age_64 ?_
        refine A_iload4 dX2_age_67 ?_
        refine A_iald (rfl) (vp_in_nI (by omega) (by omega)) dX2_age_69 ?_
        rw [nI_c (by omega), ef]
        refine A_iload2 dX2_age_70 ?_
        refine A_icmp_gt (tgt := 86) dX2_age_71 (by decide) (fun c_71 => ?_) (fun c_71 => ?_)
        · refine A_iinc4 dX2_age_86 rfl rfl (by decide) ?_
          refine A_goto (tgt := 5) dX2_age_89 (by decide) ?_
          rw [show nI i + Int32.ofInt 1 = nI (i + 1) from nI_1 i]
          exact ih (i + 1) x (by omega) (hx.no (Or.inr ⟨f, ef, f6, (nI_ltI (by omega) (by omega)).mp c_71⟩)) _
        · refine A_iload3 dX2_age_74 ?_
          refine A_aload0 dX2_age_75 ?_
          refine A_getR gf_X2_34 rfl dX2_age_76 ?_
          refine A_iload4 dX2_age_79 ?_
          refine A_iald (rfl) (vp_in_nI (by omega) (by omega)) dX2_age_81 ?_
          rw [nI_c (by omega), ef]
          refine A_si2 lk_X2_73 ys_J9_max_7cf53 dX2_age_82 (T_max) (by decide) (Nat.le_of_ble_eq_true rfl) (fun r_82 μ_82 h_82 => ?_)
          obtain ⟨v_82, e_82⟩ := h_82
          replace v_82 := Eq.symm v_82
          subst v_82
          replace e_82 := e_82.symm
          subst e_82
          refine A_istore3 dX2_age_85 rfl (by decide) ?_
          refine A_iinc4 dX2_age_86 rfl rfl (by decide) ?_
          refine A_goto (tgt := 5) dX2_age_89 (by decide) ?_
          rw [show nI i + Int32.ofInt 1 = nI (i + 1) from nI_1 i]
          rw [imax_n (by omega) (by omega)]
          exact ih (i + 1) _ (by omega) (hx.yes ⟨Or.inl c_24, c_60⟩ ef f6 hd (by rcases Nat.lt_or_ge d f with z | z; exact absurd (nI_lt z (by omega)) c_71; exact z)) _
    · refine A_aload0 dX2_age_27 ?_
      refine A_getR gf_X2_28 rfl dX2_age_28 ?_
      refine A_iload4 dX2_age_31 ?_
      refine A_iald (rfl) (vp_in_nI (by omega) (by omega)) dX2_age_33 ?_
      rw [nI_c (by omega)]
      refine A_sipush (v := 140) dX2_age_34 (by decide) ?_
      refine A_icmp_ne (tgt := 44) dX2_age_37 (by decide) (fun c_37 => ?_) (fun c_37 => ?_)
      · refine A_iconst (v := 0) dX2_age_44 (by decide) ?_
        refine A_istore5 dX2_age_45 rfl (by decide) ?_
        refine A_iload5 dX2_age_47 ?_
        refine A_if_eq (tgt := 86) dX2_age_49 (by decide) (fun c_49 => ?_) (fun c_49 => absurd c_49 (fun z => z rfl))
        refine A_iinc4 dX2_age_86 rfl rfl (by decide) ?_
        refine A_goto (tgt := 5) dX2_age_89 (by decide) ?_
        rw [show nI i + Int32.ofInt 1 = nI (i + 1) from nI_1 i]
        exact ih (i + 1) x (by omega) (hx.no (Or.inl (fun z => by rcases z.1 with y | y; exact c_24 y; exact c_37 y))) _
      · refine A_iconst (v := 1) dX2_age_40 (by decide) ?_
        refine A_goto (tgt := 45) dX2_age_41 (by decide) ?_
        refine A_istore5 dX2_age_45 rfl (by decide) ?_
        refine A_iload5 dX2_age_47 ?_
        refine A_if_eq (tgt := 86) dX2_age_49 (by decide) (fun c_49 => absurd c_49 (fun z => absurd z (by decide))) (fun c_49 => ?_)
        refine A_aload0 dX2_age_52 ?_
        refine A_getR gf_X2_31 rfl dX2_age_53 ?_
        refine A_iload4 dX2_age_56 ?_
        refine A_iald (rfl) (vp_in_nI (by omega) (by omega)) dX2_age_58 ?_
        rw [nI_c (by omega)]
        refine A_iload1 dX2_age_59 ?_
        refine A_icmp_ne (tgt := 86) dX2_age_60 (by decide) (fun c_60 => ?_) (fun c_60 => ?_)
        · refine A_iinc4 dX2_age_86 rfl rfl (by decide) ?_
          refine A_goto (tgt := 5) dX2_age_89 (by decide) ?_
          rw [show nI i + Int32.ofInt 1 = nI (i + 1) from nI_1 i]
          exact ih (i + 1) x (by omega) (hx.no (Or.inl (fun z => c_60 z.2))) _
        · refine A_aload0 dX2_age_63 ?_
          refine A_getR gf_X2_34 rfl dX2_age_64 ?_
          refine A_iload4 dX2_age_67 ?_
          refine A_iald (rfl) (vp_in_nI (by omega) (by omega)) dX2_age_69 ?_
          rw [nI_c (by omega), ef]
          refine A_iload2 dX2_age_70 ?_
          refine A_icmp_gt (tgt := 86) dX2_age_71 (by decide) (fun c_71 => ?_) (fun c_71 => ?_)
          · refine A_iinc4 dX2_age_86 rfl rfl (by decide) ?_
            refine A_goto (tgt := 5) dX2_age_89 (by decide) ?_
            rw [show nI i + Int32.ofInt 1 = nI (i + 1) from nI_1 i]
            exact ih (i + 1) x (by omega) (hx.no (Or.inr ⟨f, ef, f6, (nI_ltI (by omega) (by omega)).mp c_71⟩)) _
          · refine A_iload3 dX2_age_74 ?_
            refine A_aload0 dX2_age_75 ?_
            refine A_getR gf_X2_34 rfl dX2_age_76 ?_
            refine A_iload4 dX2_age_79 ?_
            refine A_iald (rfl) (vp_in_nI (by omega) (by omega)) dX2_age_81 ?_
            rw [nI_c (by omega), ef]
            refine A_si2 lk_X2_73 ys_J9_max_7cf53 dX2_age_82 (T_max) (by decide) (Nat.le_of_ble_eq_true rfl) (fun r_82 μ_82 h_82 => ?_)
            obtain ⟨v_82, e_82⟩ := h_82
            replace v_82 := Eq.symm v_82
            subst v_82
            replace e_82 := e_82.symm
            subst e_82
            refine A_istore3 dX2_age_85 rfl (by decide) ?_
            refine A_iinc4 dX2_age_86 rfl rfl (by decide) ?_
            refine A_goto (tgt := 5) dX2_age_89 (by decide) ?_
            rw [show nI i + Int32.ofInt 1 = nI (i + 1) from nI_1 i]
            rw [imax_n (by omega) (by omega)]
            exact ih (i + 1) _ (by omega) (hx.yes ⟨Or.inr c_37, c_60⟩ ef f6 hd (by rcases Nat.lt_or_ge d f with z | z; exact absurd (nI_lt z (by omega)) c_71; exact z)) _
set_option maxHeartbeats 100000 in
set_option maxRecDepth 100000 in
theorem T_X2_age {l : Launch} {G : Wd} {b d : Nat} {σ μ : Mem} (hL : RcL σ μ) (hb : b < 5) (hd : d < 60) : Mt l G KC yX2_age cX2_age 6 (some .int) 2 [.ref (gA G 4), .int (nI b), .int (nI d)] μ (Qi (fun v μ' => v = nI (agS σ b d) ∧ μ' = μ)) := by
  refine Mt.of (own := RX2) (n := 3) (by decide) rfl [some (.ref (gA G 4)), some (.int (nI b)), some (.int (nI d)), none, none, none] rfl (Nat.le_of_ble_eq_true rfl) ?_
  refine A_iconst (v := 0) dX2_age_0 (by decide) ?_
  refine A_istore3 dX2_age_1 rfl (by decide) ?_
  refine A_iconst (v := 0) dX2_age_2 (by decide) ?_
  refine A_istore4 dX2_age_3 rfl (by decide) ?_
  exact L_X2_age hL hb hd (wthN μ) 0 0 (by omega) ⟨by omega, Or.inl rfl, fun j f h => absurd h (by omega)⟩ _
def apC (w : Prop) [Decidable w] (x : Int32) : Int32 := if w then imin (iabs x - iabs x / 16 * 16) (16 - (iabs x - iabs x / 16 * 16)) else iabs x
abbrev fitC (μ : Mem) (b : Nat) (sh rd : Int32) : Prop := apC (μ.1 6 b = 3) (rd - sh) ≤ μ.1 7 b
set_option maxHeartbeats 100000 in
set_option maxRecDepth 100000 in
theorem T_X2_fits {l : Launch} {G : Wd} {b : Nat} {sh rd : Int32} {μ : Mem} (hb : b < 5) : Mt l G KC yX2_fits cX2_fits 5 (some .boolean) 2 [.ref (gA G 4), .int (nI b), .int sh, .int rd] μ (Qi (fun v μ' => v = bz (fitC μ b sh rd) ∧ μ' = μ)) := by
  refine Mt.of (own := RX2) (n := 1) (by decide) rfl [some (.ref (gA G 4)), some (.int (nI b)), some (.int sh), some (.int rd), none] rfl (Nat.le_of_ble_eq_true rfl) ?_
  refine A_iload3 dX2_fits_0 ?_
  refine A_iload2 dX2_fits_1 ?_
  refine A_isub dX2_fits_2 ?_
  refine A_si1 lk_X2_53 ys_J9_abs_0f7a4 dX2_fits_3 (T_abs) (by decide) (Nat.le_of_ble_eq_true rfl) (fun r_3 μ_3 h_3 => ?_)
  obtain ⟨v_3, e_3⟩ := h_3
  replace v_3 := Eq.symm v_3
  subst v_3
  replace e_3 := e_3.symm
  subst e_3
  refine A_istore4 dX2_fits_6 rfl (by decide) ?_
  refine A_aload0 dX2_fits_8 ?_
  refine A_iload1 dX2_fits_9 ?_
  refine A_vi1 lk_X2_59 yv_X2_isWind dX2_fits_10 (rfl) (rfl) (T_X2_isWind hb) (by decide) (Nat.le_of_ble_eq_true rfl) (fun r_10 μ_10 h_10 => ?_)
  obtain ⟨v_10, e_10⟩ := h_10
  replace v_10 := Eq.symm v_10
  subst v_10
  replace e_10 := e_10.symm
  subst e_10
  refine A_if_eq (tgt := 35) dX2_fits_13 (by decide) (fun c_13 => ?_) (fun c_13 => ?_)
  · refine A_iload4 dX2_fits_35 ?_
    refine A_aload0 dX2_fits_37 ?_
    refine A_getR gf_X2_19 rfl dX2_fits_38 ?_
    refine A_iload1 dX2_fits_41 ?_
    refine A_iald (rfl) (vp_in_nI (by omega) (by omega)) dX2_fits_42 ?_
    rw [nI_c (by omega)]
    refine A_icmp_gt (tgt := 50) dX2_fits_43 (by decide) (fun c_43 => ?_) (fun c_43 => ?_)
    · refine A_iconst (v := 0) dX2_fits_50 (by decide) ?_
      refine A_zret dX2_fits_51 (by decide) ?_
      exact ⟨_, rfl, (bz_f (by unfold fitC apC; rw [if_neg (bz_0.mp c_13)]; exact Int32.not_le.mpr c_43)).symm, rfl⟩
    · refine A_iconst (v := 1) dX2_fits_46 (by decide) ?_
      refine A_goto (tgt := 51) dX2_fits_47 (by decide) ?_
      refine A_zret dX2_fits_51 (by decide) ?_
      exact ⟨_, rfl, (bz_t (by unfold fitC apC; rw [if_neg (bz_0.mp c_13)]; exact Int32.not_lt.mp c_43)).symm, rfl⟩
  · refine A_iload4 dX2_fits_16 ?_
    refine A_bipush (v := 16) dX2_fits_18 (by decide) ?_
    refine A_irem dX2_fits_20 (by decide) ?_
    refine A_istore4 dX2_fits_21 rfl (by decide) ?_
    refine A_iload4 dX2_fits_23 ?_
    refine A_bipush (v := 16) dX2_fits_25 (by decide) ?_
    refine A_iload4 dX2_fits_27 ?_
    refine A_isub dX2_fits_29 ?_
    refine A_si2 lk_X2_63 ys_J9_min_7cf53 dX2_fits_30 (T_min) (by decide) (Nat.le_of_ble_eq_true rfl) (fun r_30 μ_30 h_30 => ?_)
    obtain ⟨v_30, e_30⟩ := h_30
    replace v_30 := Eq.symm v_30
    subst v_30
    replace e_30 := e_30.symm
    subst e_30
    refine A_istore4 dX2_fits_33 rfl (by decide) ?_
    refine A_iload4 dX2_fits_35 ?_
    refine A_aload0 dX2_fits_37 ?_
    refine A_getR gf_X2_19 rfl dX2_fits_38 ?_
    refine A_iload1 dX2_fits_41 ?_
    refine A_iald (rfl) (vp_in_nI (by omega) (by omega)) dX2_fits_42 ?_
    rw [nI_c (by omega)]
    refine A_icmp_gt (tgt := 50) dX2_fits_43 (by decide) (fun c_43 => ?_) (fun c_43 => ?_)
    · refine A_iconst (v := 0) dX2_fits_50 (by decide) ?_
      refine A_zret dX2_fits_51 (by decide) ?_
      exact ⟨_, rfl, (bz_f (by unfold fitC apC; rw [if_pos (bz_y c_13)]; exact Int32.not_le.mpr c_43)).symm, rfl⟩
    · refine A_iconst (v := 1) dX2_fits_46 (by decide) ?_
      refine A_goto (tgt := 51) dX2_fits_47 (by decide) ?_
      refine A_zret dX2_fits_51 (by decide) ?_
      exact ⟨_, rfl, (bz_t (by unfold fitC apC; rw [if_pos (bz_y c_13)]; exact Int32.not_lt.mp c_43)).symm, rfl⟩
theorem apC_i {w : Prop} [Decidable w] {x : Int32} (h : -1000000 ≤ x.toInt ∧ x.toInt ≤ 1000000) : (apC w x).toInt = if w then min (x.toInt % 16) (16 - x.toInt % 16) else (if 0 ≤ x.toInt then x.toInt else -x.toInt) := by
  have ea := iabs_i (x := x) (by omega)
  unfold apC
  split
  · have e16 : (16 : Int32).toInt = 16 := rfl
    have hb : 0 ≤ (iabs x).toInt ∧ (iabs x).toInt ≤ 1000000 := by rw [ea]; split <;> omega
    have ed := i_div16 (a := iabs x) (by omega)
    rw [Int.tdiv_eq_ediv_of_nonneg hb.1] at ed
    have em : (iabs x / 16 * 16).toInt = (iabs x).toInt / 16 * 16 := by rw [i_mul (by rw [ed, e16]; omega), ed, e16]
    have er : (iabs x - iabs x / 16 * 16).toInt = (iabs x).toInt % 16 := by rw [i_sub (by rw [em]; omega), em]; omega
    have es : (16 - (iabs x - iabs x / 16 * 16)).toInt = 16 - (iabs x).toInt % 16 := by rw [i_sub (by rw [er, e16]; omega), er, e16]
    rw [imin_i, er, es, ea]
    split <;> omega
  · exact ea
theorem fit_i {σ : Mem} {b : Nat} {sh rd : Int32} (hx : -1000000 ≤ rd.toInt - sh.toInt ∧ rd.toInt - sh.toInt ≤ 1000000) : fitS σ b sh rd ↔ (if σ.1 7 b = 3 then min ((rd.toInt - sh.toInt) % 16) (16 - (rd.toInt - sh.toInt) % 16) else (if 0 ≤ rd.toInt - sh.toInt then rd.toInt - sh.toInt else -(rd.toInt - sh.toInt))) ≤ (σ.1 9 b).toInt := by
  have es := i_sub (a := rd) (b := sh) (by omega)
  have z0 : (0 : Int32).toInt = 0 := rfl
  have e16 : (16 : Int32).toInt = 16 := rfl
  have key : (if 0 ≤ apt σ b (rd - sh) then apt σ b (rd - sh) else -apt σ b (rd - sh)).toInt = (if σ.1 7 b = 3 then min ((rd.toInt - sh.toInt) % 16) (16 - (rd.toInt - sh.toInt) % 16) else (if 0 ≤ rd.toInt - sh.toInt then rd.toInt - sh.toInt else -(rd.toInt - sh.toInt))) := by
    unfold apt
    by_cases w : σ.1 7 b = 3
    · rw [if_pos w, if_pos w]
      have er := rn_mod (a := rd - sh) (by omega)
      rw [es] at er
      have e1 : (16 - rn (rd - sh)).toInt = 16 - (rd.toInt - sh.toInt) % 16 := by rw [i_sub (by rw [er, e16]; omega), er, e16]
      by_cases c : rn (rd - sh) ≤ 16 - rn (rd - sh)
      · rw [if_pos c, if_pos (i_le.mpr (by rw [er, z0]; omega)), er]
        have := i_le.mp c
        omega
      · rw [if_neg c, if_pos (i_le.mpr (by rw [e1, z0]; omega)), e1]
        have := mt i_le.mpr c
        omega
    · rw [if_neg w, if_neg w]
      by_cases c : 0 ≤ rd - sh
      · have := i_le.mp c
        rw [if_pos c, if_pos (by omega), es]
      · have := mt i_le.mpr c
        rw [if_neg c, if_neg (by omega), i_neg (by omega), es]
  unfold fitS
  rw [i_le, key]
theorem fitC_i {σ μ : Mem} {b : Nat} {s1 sh rd : Int32} (hq : μ.1 6 b = σ.1 7 b) (ho : μ.1 7 b = σ.1 9 b) (hx : -1000000 ≤ rd.toInt - sh.toInt ∧ rd.toInt - sh.toInt ≤ 1000000) (h1 : -1000000 ≤ rd.toInt - s1.toInt ∧ rd.toInt - s1.toInt ≤ 1000000) (he : if σ.1 7 b = 3 then sh.toInt % 16 = s1.toInt % 16 else sh.toInt = s1.toInt) : fitC μ b s1 rd ↔ fitS σ b sh rd := by
  rw [fit_i hx]
  unfold fitC
  have es := i_sub (a := rd) (b := s1) (by omega)
  rw [i_le, apC_i (by rw [es]; omega), es, hq, ho]
  by_cases w : σ.1 7 b = 3
  · rw [if_pos w] at he ⊢
    rw [if_pos w]
    have : (rd.toInt - s1.toInt) % 16 = (rd.toInt - sh.toInt) % 16 := by omega
    rw [this]
  · rw [if_neg w] at he ⊢
    rw [if_neg w, he]

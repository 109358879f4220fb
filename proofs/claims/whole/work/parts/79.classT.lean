/-! spans as numbers -/
def OkS (S : Sp) : Prop := (S.1.toInt = -100000 ∧ S.2.toInt = -100000) ∨ (-20 ≤ S.1.toInt ∧ S.1.toInt ≤ S.2.toInt ∧ S.2.toInt ≤ 100)
def SpI (S : Sp) (μ : Mem) : Prop := μ.1 73 5 = S.1 ∧ μ.1 73 6 = S.2 ∧ OkS S
def S3 (μ μ' : Mem) : Prop := μ'.2 = μ.2 ∧ ∀ i j, ¬ (i = 73 ∧ (j = 5 ∨ j = 6)) → μ'.1 i j = μ.1 i j
theorem S3.rf {μ : Mem} : S3 μ μ := ⟨rfl, fun _ _ _ => rfl⟩
theorem S3.tr {a b c : Mem} (h : S3 a b) (g : S3 b c) : S3 a c := ⟨g.1.trans h.1, fun i j q => (g.2 i j q).trans (h.2 i j q)⟩
theorem S3.sf {a b : Mem} (h : S3 a b) : Sf a b := ⟨h.1, fun i j q => h.2 i j (by omega)⟩
theorem incM_3 {μ : Mem} {x y : Int32} : S3 μ (incM μ x y) := ⟨rfl, fun i j q => by unfold incM; rw [wI_ne (by omega), wI_ne (by omega)]⟩
theorem g_i : (-100000 : Int32).toInt = -100000 := rfl
theorem g_e {v : Int32} : v = -100000 ↔ v.toInt = -100000 := i_eq.trans (by rw [g_i])
theorem lo1_i (v t : Int32) : (v.toInt = -100000 → (lo1 v t).toInt = t.toInt) ∧ (¬ v.toInt = -100000 → (lo1 v t).toInt = min v.toInt t.toInt) := by
  unfold lo1
  refine ⟨fun h => by rw [if_pos (Or.inl (g_e.mpr h))], fun h => ?_⟩
  by_cases q : t < v
  · rw [if_pos (Or.inr q)]; have := i_lt.mp q; omega
  · rw [if_neg (fun z => z.elim (fun z => h (g_e.mp z)) q)]; rw [i_lt] at q; omega
theorem hi1_i (v t : Int32) (ht : -100000 ≤ t.toInt) : (hi1 v t).toInt = max v.toInt t.toInt := by
  unfold hi1
  by_cases q : v < t
  · rw [if_pos (Or.inr q)]; have := i_lt.mp q; omega
  · by_cases h : v = -100000
    · rw [if_pos (Or.inl h)]; have := g_e.mp h; omega
    · rw [if_neg (fun z => z.elim h q)]; rw [i_lt] at q; omega
def incS (S : Sp) (x y : Int32) : Sp := (if S.1 = -100000 then x else imin S.1 x, imax S.2 y)
theorem incS_i (S : Sp) (x y : Int32) : (S.1.toInt = -100000 → (incS S x y).1.toInt = x.toInt) ∧ (¬ S.1.toInt = -100000 → (incS S x y).1.toInt = min S.1.toInt x.toInt) ∧ (incS S x y).2.toInt = max S.2.toInt y.toInt := by
  unfold incS
  refine ⟨fun h => ?_, fun h => ?_, imax_i _ _⟩
  · show (if S.1 = -100000 then x else imin S.1 x).toInt = x.toInt
    rw [if_pos (g_e.mpr h)]
  · show (if S.1 = -100000 then x else imin S.1 x).toInt = _
    rw [if_neg (fun z => h (g_e.mp z)), imin_i]
theorem OkS.inc {S : Sp} {x y : Int32} (h : OkS S) (h1 : -20 ≤ x.toInt) (h2 : x.toInt ≤ y.toInt) (h3 : y.toInt ≤ 100) : OkS (incS S x y) := by
  obtain ⟨a, b, c⟩ := incS_i S x y
  right
  by_cases e : S.1.toInt = -100000
  · have := a e; rcases h with h | h <;> omega
  · have := b e; rcases h with h | h <;> omega
theorem inc_tt {S : Sp} {t : Int32} (ht : -20 ≤ t.toInt) : incS S t t = inc1 S t := by
  obtain ⟨a, b, c⟩ := incS_i S t t
  obtain ⟨a2, b2⟩ := lo1_i S.1 t
  have c2 := hi1_i S.2 t (by omega)
  refine Prod.ext (i_eq.mpr ?_) (i_eq.mpr (c.trans c2.symm))
  by_cases e : S.1.toInt = -100000
  · exact (a e).trans (a2 e).symm
  · exact (b e).trans (b2 e).symm
theorem SpI.inc {S : Sp} {μ : Mem} {x y : Int32} (h : SpI S μ) (h1 : -20 ≤ x.toInt) (h2 : x.toInt ≤ y.toInt) (h3 : y.toInt ≤ 100) : SpI (incS S x y) (incM μ x y) := by
  refine ⟨?_, ?_, h.2.2.inc h1 h2 h3⟩
  · unfold incM incS; rw [wI_ne (by omega), wI_same, h.1]
  · unfold incM incS; rw [wI_same, h.2.1]
/-- R is S with all from u to v -/
def SpE (S : Sp) (u v : Int) (R : Sp) : Prop := (u ≤ v → (S.1.toInt = -100000 → R.1.toInt = u) ∧ (¬ S.1.toInt = -100000 → R.1.toInt = min S.1.toInt u) ∧ R.2.toInt = max S.2.toInt v) ∧ (v < u → R = S)
theorem SpE.inc {S R : Sp} {u v : Int} {x y : Int32} (h : SpE S u v R) (hx : x.toInt = u) (hy : y.toInt = v) (hl : u ≤ v) : R = incS S x y := by
  obtain ⟨a, b, c⟩ := incS_i S x y
  obtain ⟨a2, b2, c2⟩ := h.1 hl
  refine Prod.ext (i_eq.mpr ?_) (i_eq.mpr ?_)
  · by_cases e : S.1.toInt = -100000
    · rw [a e, a2 e, hx]
    · rw [b e, b2 e, hx]
  · rw [c, c2, hy]
theorem rT_fold {σ : Mem} {b e : Nat} {x : Lw} {own : Int32} {A B : Int} : ∀ (n : Nat) (a : Int32) (S : Sp), OkS S → -20 ≤ a.toInt → a.toInt + n ≤ 101 → (∀ t : Int32, a.toInt ≤ t.toInt → t.toInt < a.toInt + n → (fitS σ b (shB σ b e x.1 x.2.1 x.2.2.2 t) own ↔ A ≤ t.toInt ∧ t.toInt ≤ B)) → SpE S (max a.toInt A) (min (a.toInt + n - 1) B) ((iv a n).foldl (rT1 σ b e x own) S) := by
  have e1 : (1 : Int32).toInt = 1 := rfl
  intro n
  induction n with
  | zero =>
    intro a S hS ha hn hP
    refine ⟨fun z => ?_, fun _ => rfl⟩
    omega
  | succ n ih =>
    intro a S hS ha hn hP
    have ea : (a + 1).toInt = a.toInt + 1 := by rw [i_add (by rw [e1]; omega), e1]
    have hP2 : ∀ t : Int32, (a + 1).toInt ≤ t.toInt → t.toInt < (a + 1).toInt + n → (fitS σ b (shB σ b e x.1 x.2.1 x.2.2.2 t) own ↔ A ≤ t.toInt ∧ t.toInt ≤ B) := fun t h1 h2 => hP t (by omega) (by omega)
    have h0 := hP a (by omega) (by omega)
    rw [iv, List.foldl_cons]
    by_cases q : fitS σ b (shB σ b e x.1 x.2.1 x.2.2.2 a) own
    · have er : rT1 σ b e x own S a = incS S a a := (if_pos q).trans (inc_tt ha).symm
      rw [er]
      obtain ⟨q1, q2⟩ := h0.mp q
      have hok := hS.inc (x := a) (y := a) ha (by omega) (by omega)
      obtain ⟨i1, i2⟩ := ih (a + 1) (incS S a a) hok (by omega) (by omega) hP2
      rw [ea] at i1 i2
      obtain ⟨f1, f2, f3⟩ := incS_i S a a
      refine ⟨fun z => ?_, fun z => by omega⟩
      by_cases w : max (a.toInt + 1) A ≤ min (a.toInt + 1 + ↑n - 1) B
      · obtain ⟨j1, j2, j3⟩ := i1 w
        have hns : ¬ (incS S a a).1.toInt = -100000 := by rcases hok with hok | hok <;> rcases hS with hS | hS <;> by_cases y : S.1.toInt = -100000 <;> first | (have := f1 y; omega) | (have := f2 y; omega)
        have j4 := j2 hns
        refine ⟨fun y => ?_, fun y => ?_, ?_⟩
        · have := f1 y; omega
        · have := f2 y; omega
        · omega
      · rw [i2 (by omega)]
        refine ⟨fun y => ?_, fun y => ?_, ?_⟩
        · have := f1 y; omega
        · have := f2 y; omega
        · omega
    · have er : rT1 σ b e x own S a = S := if_neg q
      rw [er]
      have q1 : ¬ (A ≤ a.toInt ∧ a.toInt ≤ B) := fun z => q (h0.mpr z)
      obtain ⟨i1, i2⟩ := ih (a + 1) S hS (by omega) (by omega) hP2
      rw [ea] at i1 i2
      refine ⟨fun z => ?_, fun z => ?_⟩
      · obtain ⟨j1, j2, j3⟩ := i1 (by omega)
        refine ⟨fun y => ?_, fun y => ?_, ?_⟩
        · have := j1 y; omega
        · have := j2 y; omega
        · omega
      · exact i2 (by omega)
/-! division by a slope -/
theorem i_div8 {a : Int32} (h : -2147483648 < a.toInt) : (a / 8).toInt = a.toInt.tdiv 8 := by
  have := i_rng a
  have e : (8 : Int32).toInt = 8 := rfl
  have h1 := t_div a.toInt 8 (by decide)
  rw [Int32.toInt_div, e, Int.bmod_eq_of_le]
  · rw [h1]; split <;> omega
  · rw [h1]; split <;> omega
theorem fdiv_8 {a : Int32} (h : -1000000 ≤ a.toInt ∧ a.toInt ≤ 1000000) : (fdiv a 8).toInt = a.toInt / 8 := by
  unfold fdiv
  have e10 : (8 : Int32).toInt = 8 := rfl
  have e1 : (1 : Int32).toInt = 1 := rfl
  have z0 : (0 : Int32).toInt = 0 := rfl
  have ed := i_div8 (a := a) (by omega)
  rw [t_div _ _ (by omega)] at ed
  have em : (a / 8 * 8).toInt = (a / 8).toInt * 8 := by rw [i_mul (by rw [ed, e10]; split <;> omega), e10]
  have c1 : (a ^^^ 8 < 0) ↔ a.toInt < 0 := by rw [x_neg (by rw [e10]; omega), i_lt, z0]
  have c2 : (a / 8 * 8 ≠ a) ↔ (a / 8).toInt * 8 ≠ a.toInt := by rw [← em]; exact not_congr i_eq
  split
  · rename_i q
    have q1 := c1.mp q.1
    have q2 := c2.mp q.2
    rw [if_neg (by omega)] at ed
    rw [i_sub (by rw [ed, e1]; omega), ed, e1]
    rw [ed] at q2
    omega
  · rename_i q
    by_cases q1 : a.toInt < 0
    · have q2 : ¬ (a / 8).toInt * 8 ≠ a.toInt := fun z => q ⟨c1.mpr q1, c2.mpr z⟩
      rw [if_neg (by omega)] at ed
      rw [ed] at q2 ⊢
      omega
    · rw [if_pos (by omega)] at ed
      exact ed
theorem i_div9 {a : Int32} (h : -2147483648 < a.toInt) : (a / 9).toInt = a.toInt.tdiv 9 := by
  have := i_rng a
  have e : (9 : Int32).toInt = 9 := rfl
  have h1 := t_div a.toInt 9 (by decide)
  rw [Int32.toInt_div, e, Int.bmod_eq_of_le]
  · rw [h1]; split <;> omega
  · rw [h1]; split <;> omega
theorem fdiv_9 {a : Int32} (h : -1000000 ≤ a.toInt ∧ a.toInt ≤ 1000000) : (fdiv a 9).toInt = a.toInt / 9 := by
  unfold fdiv
  have e10 : (9 : Int32).toInt = 9 := rfl
  have e1 : (1 : Int32).toInt = 1 := rfl
  have z0 : (0 : Int32).toInt = 0 := rfl
  have ed := i_div9 (a := a) (by omega)
  rw [t_div _ _ (by omega)] at ed
  have em : (a / 9 * 9).toInt = (a / 9).toInt * 9 := by rw [i_mul (by rw [ed, e10]; split <;> omega), e10]
  have c1 : (a ^^^ 9 < 0) ↔ a.toInt < 0 := by rw [x_neg (by rw [e10]; omega), i_lt, z0]
  have c2 : (a / 9 * 9 ≠ a) ↔ (a / 9).toInt * 9 ≠ a.toInt := by rw [← em]; exact not_congr i_eq
  split
  · rename_i q
    have q1 := c1.mp q.1
    have q2 := c2.mp q.2
    rw [if_neg (by omega)] at ed
    rw [i_sub (by rw [ed, e1]; omega), ed, e1]
    rw [ed] at q2
    omega
  · rename_i q
    by_cases q1 : a.toInt < 0
    · have q2 : ¬ (a / 9).toInt * 9 ≠ a.toInt := fun z => q ⟨c1.mpr q1, c2.mpr z⟩
      rw [if_neg (by omega)] at ed
      rw [ed] at q2 ⊢
      omega
    · rw [if_pos (by omega)] at ed
      exact ed
theorem i_div11 {a : Int32} (h : -2147483648 < a.toInt) : (a / 11).toInt = a.toInt.tdiv 11 := by
  have := i_rng a
  have e : (11 : Int32).toInt = 11 := rfl
  have h1 := t_div a.toInt 11 (by decide)
  rw [Int32.toInt_div, e, Int.bmod_eq_of_le]
  · rw [h1]; split <;> omega
  · rw [h1]; split <;> omega
theorem fdiv_11 {a : Int32} (h : -1000000 ≤ a.toInt ∧ a.toInt ≤ 1000000) : (fdiv a 11).toInt = a.toInt / 11 := by
  unfold fdiv
  have e10 : (11 : Int32).toInt = 11 := rfl
  have e1 : (1 : Int32).toInt = 1 := rfl
  have z0 : (0 : Int32).toInt = 0 := rfl
  have ed := i_div11 (a := a) (by omega)
  rw [t_div _ _ (by omega)] at ed
  have em : (a / 11 * 11).toInt = (a / 11).toInt * 11 := by rw [i_mul (by rw [ed, e10]; split <;> omega), e10]
  have c1 : (a ^^^ 11 < 0) ↔ a.toInt < 0 := by rw [x_neg (by rw [e10]; omega), i_lt, z0]
  have c2 : (a / 11 * 11 ≠ a) ↔ (a / 11).toInt * 11 ≠ a.toInt := by rw [← em]; exact not_congr i_eq
  split
  · rename_i q
    have q1 := c1.mp q.1
    have q2 := c2.mp q.2
    rw [if_neg (by omega)] at ed
    rw [i_sub (by rw [ed, e1]; omega), ed, e1]
    rw [ed] at q2
    omega
  · rename_i q
    by_cases q1 : a.toInt < 0
    · have q2 : ¬ (a / 11).toInt * 11 ≠ a.toInt := fun z => q ⟨c1.mpr q1, c2.mpr z⟩
      rw [if_neg (by omega)] at ed
      rw [ed] at q2 ⊢
      omega
    · rw [if_pos (by omega)] at ed
      exact ed
theorem i_div12 {a : Int32} (h : -2147483648 < a.toInt) : (a / 12).toInt = a.toInt.tdiv 12 := by
  have := i_rng a
  have e : (12 : Int32).toInt = 12 := rfl
  have h1 := t_div a.toInt 12 (by decide)
  rw [Int32.toInt_div, e, Int.bmod_eq_of_le]
  · rw [h1]; split <;> omega
  · rw [h1]; split <;> omega
theorem fdiv_12 {a : Int32} (h : -1000000 ≤ a.toInt ∧ a.toInt ≤ 1000000) : (fdiv a 12).toInt = a.toInt / 12 := by
  unfold fdiv
  have e10 : (12 : Int32).toInt = 12 := rfl
  have e1 : (1 : Int32).toInt = 1 := rfl
  have z0 : (0 : Int32).toInt = 0 := rfl
  have ed := i_div12 (a := a) (by omega)
  rw [t_div _ _ (by omega)] at ed
  have em : (a / 12 * 12).toInt = (a / 12).toInt * 12 := by rw [i_mul (by rw [ed, e10]; split <;> omega), e10]
  have c1 : (a ^^^ 12 < 0) ↔ a.toInt < 0 := by rw [x_neg (by rw [e10]; omega), i_lt, z0]
  have c2 : (a / 12 * 12 ≠ a) ↔ (a / 12).toInt * 12 ≠ a.toInt := by rw [← em]; exact not_congr i_eq
  split
  · rename_i q
    have q1 := c1.mp q.1
    have q2 := c2.mp q.2
    rw [if_neg (by omega)] at ed
    rw [i_sub (by rw [ed, e1]; omega), ed, e1]
    rw [ed] at q2
    omega
  · rename_i q
    by_cases q1 : a.toInt < 0
    · have q2 : ¬ (a / 12).toInt * 12 ≠ a.toInt := fun z => q ⟨c1.mpr q1, c2.mpr z⟩
      rw [if_neg (by omega)] at ed
      rw [ed] at q2 ⊢
      omega
    · rw [if_pos (by omega)] at ed
      exact ed
theorem s_5 {s : Int32} (h : 8 ≤ s.toInt ∧ s.toInt ≤ 12) : s = 8 ∨ s = 9 ∨ s = 10 ∨ s = 11 ∨ s = 12 := by
  have e8 : (8 : Int32).toInt = 8 := rfl
  have e9 : (9 : Int32).toInt = 9 := rfl
  have e10 : (10 : Int32).toInt = 10 := rfl
  have e11 : (11 : Int32).toInt = 11 := rfl
  have e12 : (12 : Int32).toInt = 12 := rfl
  rw [i_eq, i_eq, i_eq, i_eq, i_eq, e8, e9, e10, e11, e12]
  omega
theorem fR_i {x s : Int32} (hs : 8 ≤ s.toInt ∧ s.toInt ≤ 12) (hx : -20000 ≤ x.toInt ∧ x.toInt ≤ 20000) : (if 0 < s then -(fdiv (-10 * x) s) else 0).toInt = -(-(10 * x.toInt) / s.toInt) ∧ -30000 ≤ -(-(10 * x.toInt) / s.toInt) ∧ -(-(10 * x.toInt) / s.toInt) ≤ 30000 := by
  have e0 : (0 : Int32).toInt = 0 := rfl
  have e10 : (-10 : Int32).toInt = -10 := rfl
  have em : (-10 * x).toInt = -(10 * x.toInt) := by rw [i_mul (by rw [e10]; omega), e10]; omega
  rw [if_pos (i_lt.mpr (by rw [e0]; omega))]
  rcases s_5 hs with rfl | rfl | rfl | rfl | rfl
  · have e := fdiv_8 (a := -10 * x) (by omega)
    have es : (8 : Int32).toInt = 8 := rfl
    rw [i_neg (by omega), e, em, es]; omega
  · have e := fdiv_9 (a := -10 * x) (by omega)
    have es : (9 : Int32).toInt = 9 := rfl
    rw [i_neg (by omega), e, em, es]; omega
  · have e := fdiv_10 (a := -10 * x) (by omega)
    have es : (10 : Int32).toInt = 10 := rfl
    rw [i_neg (by omega), e, em, es]; omega
  · have e := fdiv_11 (a := -10 * x) (by omega)
    have es : (11 : Int32).toInt = 11 := rfl
    rw [i_neg (by omega), e, em, es]; omega
  · have e := fdiv_12 (a := -10 * x) (by omega)
    have es : (12 : Int32).toInt = 12 := rfl
    rw [i_neg (by omega), e, em, es]; omega
theorem tire_i {tr : Int32} {n : Nat} (h : 0 ≤ tr.toInt ∧ tr.toInt ≤ 3) (hn : n < 60) : dn (tr * nI n) 10 = tr * nI n / 10 ∧ 0 ≤ (tr * nI n / 10).toInt ∧ (tr * nI n / 10).toInt ≤ 17 := by
  have en := nI_i (n := n) (by omega)
  have e0 : (0 : Int32).toInt = 0 := rfl
  have hb : 0 ≤ tr.toInt * (n : Int) ∧ tr.toInt * (n : Int) ≤ 177 := by
    have : tr.toInt = 0 ∨ tr.toInt = 1 ∨ tr.toInt = 2 ∨ tr.toInt = 3 := by omega
    rcases this with e | e | e | e <;> rw [e] <;> omega
  have em : (tr * nI n).toInt = tr.toInt * (n : Int) := by rw [i_mul (by rw [en]; omega), en]
  refine ⟨if_neg (fun z => ?_), ?_⟩
  · have := i_lt.mp z; rw [em, e0] at this; omega
  · rw [i_div10 (by omega), Int.tdiv_eq_ediv_of_nonneg (by omega), em]; omega
theorem sl_i {s t : Int32} (hs : 8 ≤ s.toInt ∧ s.toInt ≤ 12) (ht : -20 ≤ t.toInt ∧ t.toInt ≤ 100) : (dn (s * t) 10).toInt = s.toInt * t.toInt / 10 ∧ -240 ≤ s.toInt * t.toInt ∧ s.toInt * t.toInt ≤ 1200 := by
  have hb : -240 ≤ s.toInt * t.toInt ∧ s.toInt * t.toInt ≤ 1200 := by
    have : s.toInt = 8 ∨ s.toInt = 9 ∨ s.toInt = 10 ∨ s.toInt = 11 ∨ s.toInt = 12 := by omega
    rcases this with e | e | e | e | e <;> rw [e] <;> omega
  have em : (s * t).toInt = s.toInt * t.toInt := i_mul (by omega)
  exact ⟨by rw [dn_10 (by omega), em], hb⟩
theorem st_fit {σ : Mem} {b e : Nat} {x : Lw} {own t : Int32} {q : Nat} (h3 : ¬ σ.1 7 b = 3) (hz : -5 ≤ x.1.toInt ∧ x.1.toInt ≤ 5) (hy : okBd x.2) (hq : q ≤ 9) (ho : σ.1 9 b = nI q) (hown : -999 ≤ own.toInt ∧ own.toInt ≤ 999) (ht : -20 ≤ t.toInt ∧ t.toInt ≤ 100) (hag : agS σ b e < 60) : fitS σ b (shB σ b e x.1 x.2.1 x.2.2.2 t) own ↔ own.toInt - q - (x.1.toInt + (x.2.2.2 * nI (agS σ b e) / 10).toInt) ≤ x.2.1.toInt * t.toInt / 10 ∧ x.2.1.toInt * t.toInt / 10 ≤ own.toInt + q - (x.1.toInt + (x.2.2.2 * nI (agS σ b e) / 10).toInt) := by
  obtain ⟨t1, t2, t3⟩ := tire_i (tr := x.2.2.2) hy.2.2.2 hag
  obtain ⟨s1, s2, s3⟩ := sl_i (s := x.2.1) ⟨hy.1, hy.2.1⟩ ht
  have esh : (shB σ b e x.1 x.2.1 x.2.2.2 t).toInt = x.1.toInt + x.2.1.toInt * t.toInt / 10 + (x.2.2.2 * nI (agS σ b e) / 10).toInt := by
    unfold shB
    rw [if_neg h3, t1]
    have ea : (x.1 + dn (x.2.1 * t) 10).toInt = x.1.toInt + x.2.1.toInt * t.toInt / 10 := by rw [i_add (by rw [s1]; omega), s1]
    rw [i_add (by rw [ea]; omega), ea]
  rw [fit_i (by rw [esh]; omega), if_neg h3, esh, ho, nI_i (by omega)]
  split <;> omega
theorem wd_sh {σ : Mem} {b e t : Nat} {x : Lw} (h3 : σ.1 7 b = 3) (h10 : x.2.1 = 10) (hz : -5 ≤ x.1.toInt ∧ x.1.toInt ≤ 5) (hy : okBd x.2) (ht : t < 16) (hag : agS σ b e < 60) : fmod (x.1 + x.2.2.2 * nI (agS σ b e) / 10 + nI t) 16 = shB σ b e x.1 x.2.1 x.2.2.2 (nI t) ∧ 0 ≤ (shB σ b e x.1 x.2.1 x.2.2.2 (nI t)).toInt ∧ (shB σ b e x.1 x.2.1 x.2.2.2 (nI t)).toInt ≤ 15 := by
  obtain ⟨t1, t2, t3⟩ := tire_i (tr := x.2.2.2) hy.2.2.2 hag
  have en := nI_i (n := t) (by omega)
  obtain ⟨s1, s2, s3⟩ := sl_i (s := x.2.1) (t := nI t) ⟨hy.1, hy.2.1⟩ (by omega)
  have e10 : (10 : Int32).toInt = 10 := rfl
  have ed : dn (x.2.1 * nI t) 10 = nI t := by rw [i_eq, s1, h10, e10, en]; omega
  have e1 : (x.1 + x.2.2.2 * nI (agS σ b e) / 10).toInt = x.1.toInt + (x.2.2.2 * nI (agS σ b e) / 10).toInt := i_add (by omega)
  have e2 : (x.1 + x.2.2.2 * nI (agS σ b e) / 10 + nI t).toInt = x.1.toInt + (x.2.2.2 * nI (agS σ b e) / 10).toInt + t := by rw [i_add (by rw [e1, en]; omega), e1, en]
  have es : shB σ b e x.1 x.2.1 x.2.2.2 (nI t) = rn (x.1 + x.2.2.2 * nI (agS σ b e) / 10 + nI t) := by
    unfold shB
    rw [if_pos h3, t1, ed, Int32.add_assoc, Int32.add_comm (nI t), ← Int32.add_assoc]
  rw [es, fmod_rn (by omega), rn_mod (by omega)]
  refine ⟨rfl, ?_, ?_⟩ <;> omega
set_option maxHeartbeats 400000 in
set_option maxRecDepth 100000 in
theorem L_X8_round_3 {l : Launch} {G : Wd} {σ M : Mem} {k own : Int32} {b e : Nat} {x : Lw} {R : Sp} (hM : Wk σ k M) (hbn : b < nbx σ) (hb : b < 5) (hz : -5 ≤ x.1.toInt ∧ x.1.toInt ≤ 5) (hy : okBd x.2) (hown : -999 ≤ own.toInt ∧ own.toInt ≤ 999) (hag : agS σ b e < 60) (h3 : σ.1 7 b = 3) (h10 : x.2.1 = 10) : ∀ (q t : Nat) (S : Sp) (m : Mem), q + t = 16 → SpI S m → S3 M m → (iv (nI t) q).foldl (rT1 σ b e x own) S = R → AW l G KC RX8 cX8_widenRound 5 3 none (Qv (fun μ' => SpI R μ' ∧ S3 M μ')) 3 [some (.ref (gA G 73)), some (.int (nI b)), some (.int (x.1 + x.2.2.2 * nI (agS σ b e) / 10)), some (.int own), some (.int (nI t))] [] m := by
  intro q
  induction q with
  | zero =>
    intro t S m hq hS hF he
    obtain rfl : t = 16 := by omega
    have he2 : S = R := he
    refine A_iload4 dX8_widenRound_3 ?_
    refine A_bipush (v := 16) dX8_widenRound_5 (by decide) ?_
    refine A_icmp_ge (tgt := 45) dX8_widenRound_7 (by decide) (fun c_7 => ?_) (fun c_7 => absurd c_7 (fun z => z (Int32.le_refl _)))
    refine A_vret dX8_widenRound_45 ?_
    exact ⟨rfl, he2 ▸ hS, hF⟩
  | succ q ih =>
    intro t S m hq hS hF he
    have hW := Sf.wk hM hF.sf
    obtain ⟨w1, w2, w3⟩ := wd_sh (t := t) h3 h10 hz hy (by omega) hag
    have key := fit_same (s := shB σ b e x.1 x.2.1 x.2.2.2 (nI t)) (r := own) hW hbn (by omega) (by omega)
    have en := nI_i (n := t) (by omega)
    rw [iv, List.foldl_cons, show nI t + 1 = nI (t + 1) from nI_1 t] at he
    refine A_iload4 dX8_widenRound_3 ?_
    refine A_bipush (v := 16) dX8_widenRound_5 (by decide) ?_
    refine A_icmp_ge (tgt := 45) dX8_widenRound_7 (by decide) (fun c_7 => absurd c_7 (fun z => nI_ge (a := t) (b := 16) (by omega) (by decide) z)) (fun c_7 => ?_)
    refine A_aload0 dX8_widenRound_10 ?_
    refine A_getR gf_X8_19 rfl dX8_widenRound_11 ?_
    refine A_iload1 dX8_widenRound_14 ?_
    refine A_iload2 dX8_widenRound_15 ?_
    refine A_iload4 dX8_widenRound_16 ?_
    refine A_iadd dX8_widenRound_18 ?_
    refine A_bipush (v := 16) dX8_widenRound_19 (by decide) ?_
    refine A_si2 lk_X8_95 ys_J9_floorMod_7cf53 dX8_widenRound_21 (T_floorMod (by decide)) (by decide) (Nat.le_of_ble_eq_true rfl) (fun r_21 μ_21 h_21 => ?_)
    obtain ⟨v_21, e_21⟩ := h_21
    replace v_21 := Eq.symm v_21
    subst v_21
    replace e_21 := e_21.symm
    subst e_21
    refine A_val (y := shB σ b e x.1 x.2.1 x.2.2.2 (nI t)) w1 ?_
    refine A_iload3 dX8_widenRound_24 ?_
    refine A_vi3 lk_X8_100 yv_X2_fits dX8_widenRound_25 (rfl) (rfl) (T_X2_fits hb) (by decide) (Nat.le_of_ble_eq_true rfl) (fun r_25 μ_25 h_25 => ?_)
    obtain ⟨v_25, e_25⟩ := h_25
    replace v_25 := Eq.symm v_25
    subst v_25
    replace e_25 := e_25.symm
    subst e_25
    refine A_if_eq (tgt := 39) dX8_widenRound_28 (by decide) (fun c_28 => ?_) (fun c_28 => ?_)
    · refine A_iinc4 dX8_widenRound_39 rfl rfl (by decide) ?_
      refine A_goto (tgt := 3) dX8_widenRound_42 (by decide) ?_
      rw [show nI t + Int32.ofInt 1 = nI (t + 1) from nI_1 t]
      rw [show rT1 σ b e x own S (nI t) = S from if_neg (fun z => bz_0.mp c_28 (key.mpr z))] at he
      exact ih (t + 1) S _ (by omega) hS hF he
    · refine A_aload0 dX8_widenRound_31 ?_
      refine A_iload4 dX8_widenRound_32 ?_
      refine A_iload4 dX8_widenRound_34 ?_
      refine A_vv2 lk_X8_104 yv_X8_include dX8_widenRound_36 (rfl) (rfl) (T_X8_include) (by decide) (Nat.le_of_ble_eq_true rfl) (fun μ_36 h_36 => ?_)
      replace h_36 := Eq.symm h_36
      subst h_36
      refine A_iinc4 dX8_widenRound_39 rfl rfl (by decide) ?_
      refine A_goto (tgt := 3) dX8_widenRound_42 (by decide) ?_
      rw [show nI t + Int32.ofInt 1 = nI (t + 1) from nI_1 t]
      rw [show rT1 σ b e x own S (nI t) = incS S (nI t) (nI t) from (if_pos (key.mp (bz_y c_28))).trans (inc_tt (by omega)).symm] at he
      exact ih (t + 1) _ _ (by omega) (hS.inc (by omega) (by omega) (by omega)) (hF.tr incM_3) he
set_option maxHeartbeats 100000 in
set_option maxRecDepth 100000 in
theorem T_X8_widenRound {l : Launch} {G : Wd} {σ M : Mem} {k own : Int32} {b e : Nat} {x : Lw} {S : Sp} (hM : Wk σ k M) (hbn : b < nbx σ) (hb : b < 5) (hz : -5 ≤ x.1.toInt ∧ x.1.toInt ≤ 5) (hy : okBd x.2) (hown : -999 ≤ own.toInt ∧ own.toInt ≤ 999) (hag : agS σ b e < 60) (h3 : σ.1 7 b = 3) (h10 : x.2.1 = 10) (hS : SpI S M) : Mt l G KC yX8_widenRound cX8_widenRound 5 none 3 [.ref (gA G 73), .int (nI b), .int (x.1 + x.2.2.2 * nI (agS σ b e) / 10), .int own] M (Qv (fun μ' => SpI ((iv (lstOf (σ.1 7 b)) (nT (σ.1 7 b))).foldl (rT1 σ b e x own) S) μ' ∧ S3 M μ')) := by
  refine Mt.of (own := RX8) (n := 1) (by decide) rfl [some (.ref (gA G 73)), some (.int (nI b)), some (.int (x.1 + x.2.2.2 * nI (agS σ b e) / 10)), some (.int own), none] rfl (Nat.le_of_ble_eq_true rfl) ?_
  refine A_iconst (v := 0) dX8_widenRound_0 (by decide) ?_
  refine A_istore4 dX8_widenRound_1 rfl (by decide) ?_
  refine L_X8_round_3 hM hbn hb hz hy hown hag h3 h10 16 0 S M (by omega) hS S3.rf ?_
  rw [h3]
  rfl
set_option maxHeartbeats 400000 in
set_option maxRecDepth 100000 in
theorem T_X8_widenStraight {l : Launch} {G : Wd} {σ M : Mem} {k own : Int32} {b e : Nat} {x : Lw} {S : Sp} (hG : okZ G) (hM : Wk σ k M) (hbn : b < nbx σ) (hb : b < 5) (hz : -5 ≤ x.1.toInt ∧ x.1.toInt ≤ 5) (hy : okBd x.2) (hown : -999 ≤ own.toInt ∧ own.toInt ≤ 999) (hag : agS σ b e < 60) (h3 : ¬ σ.1 7 b = 3) (hS : SpI S M) : Mt l G KC yX8_widenStraight cX8_widenStraight 9 none 3 [.ref (gA G 73), .int (nI b), .int (x.1 + x.2.2.2 * nI (agS σ b e) / 10), .int x.2.1, .int own] M (Qv (fun μ' => SpI ((iv (lstOf (σ.1 7 b)) (nT (σ.1 7 b))).foldl (rT1 σ b e x own) S) μ' ∧ S3 M μ')) := by
  refine Mt.of (own := RX8) (n := 4) (by decide) rfl [some (.ref (gA G 73)), some (.int (nI b)), some (.int (x.1 + x.2.2.2 * nI (agS σ b e) / 10)), some (.int x.2.1), some (.int own), none, none, none, none] rfl (Nat.le_of_ble_eq_true rfl) ?_
  obtain ⟨⟨q, hq, eq⟩, ⟨f, hf, ef⟩, -⟩ := (hM.ok hbn).1
  obtain ⟨t1, t2, t3⟩ := tire_i (tr := x.2.2.2) hy.2.2.2 hag
  have esf : (x.1 + x.2.2.2 * nI (agS σ b e) / 10).toInt = x.1.toInt + (x.2.2.2 * nI (agS σ b e) / 10).toInt := i_add (by omega)
  have en := nI_i (n := f) (by omega)
  have e1 : (1 : Int32).toInt = 1 := rfl
  have es0 : 0 < x.2.1.toInt := by have := hy.1; omega
  have a1 : (own - nI f - (x.1 + x.2.2.2 * nI (agS σ b e) / 10)).toInt = own.toInt - f - (x.1 + x.2.2.2 * nI (agS σ b e) / 10).toInt := by rw [i_sub (by rw [i_sub (by omega)]; omega), i_sub (by omega), en]
  have a2 : (own + nI f - (x.1 + x.2.2.2 * nI (agS σ b e) / 10) + 1).toInt = own.toInt + f - (x.1 + x.2.2.2 * nI (agS σ b e) / 10).toInt + 1 := by
    have b1 : (own + nI f).toInt = own.toInt + f := by rw [i_add (by omega), en]
    have b2 : (own + nI f - (x.1 + x.2.2.2 * nI (agS σ b e) / 10)).toInt = own.toInt + f - (x.1 + x.2.2.2 * nI (agS σ b e) / 10).toInt := by rw [i_sub (by omega), b1]
    rw [i_add (by omega), b2, e1]
  obtain ⟨r1, r2, r3⟩ := fR_i (x := own - nI f - (x.1 + x.2.2.2 * nI (agS σ b e) / 10)) (s := x.2.1) ⟨hy.1, hy.2.1⟩ (by omega)
  obtain ⟨u1, u2, u3⟩ := fR_i (x := own + nI f - (x.1 + x.2.2.2 * nI (agS σ b e) / 10) + 1) (s := x.2.1) ⟨hy.1, hy.2.1⟩ (by omega)
  have hlm := lm_r (σ.1 7 b)
  have hE := rT_fold (σ := σ) (b := b) (e := e) (x := x) (own := own) (A := -(-(10 * (own - nI f - (x.1 + x.2.2.2 * nI (agS σ b e) / 10)).toInt) / x.2.1.toInt)) (B := -(-(10 * (own + nI f - (x.1 + x.2.2.2 * nI (agS σ b e) / 10) + 1).toInt) / x.2.1.toInt) - 1) (nT (σ.1 7 b)) (lstOf (σ.1 7 b)) S hS.2.2 (by omega) (by omega) (fun t h1 h2 => by
    rw [st_fit h3 hz hy hf ef hown (by omega) hag, ← esf, fr_i es0, fr_u es0, ← a1, ← a2])
  rw [show (lstOf (σ.1 7 b)).toInt + ↑(nT (σ.1 7 b)) - 1 = (mstOf (σ.1 7 b)).toInt by omega] at hE
  refine A_aload0 dX8_widenStraight_0 ?_
  refine A_getR gf_X8_19 rfl dX8_widenStraight_1 ?_
  refine A_getR gf_X8_108 rfl dX8_widenStraight_4 ?_
  refine A_iload1 dX8_widenStraight_7 ?_
  refine A_iald (rfl) (vp_in_nI (by omega) (by omega)) dX8_widenStraight_8 ?_
  refine A_val (y := nI q) (by rw [nI_c (by omega), (hM.bx hbn).2.1, eq]) ?_
  refine A_istore5 dX8_widenStraight_9 rfl (by decide) ?_
  refine A_aload0 dX8_widenStraight_11 ?_
  refine A_getR gf_X8_19 rfl dX8_widenStraight_12 ?_
  refine A_getR gf_X8_111 rfl dX8_widenStraight_15 ?_
  refine A_iload1 dX8_widenStraight_18 ?_
  refine A_iald (rfl) (vp_in_nI (by omega) (by omega)) dX8_widenStraight_19 ?_
  refine A_val (y := nI f) (by rw [nI_c (by omega), (hM.bx hbn).2.2.1, ef]) ?_
  refine A_istore6 dX8_widenStraight_20 rfl (by decide) ?_
  refine A_iload4 dX8_widenStraight_22 ?_
  refine A_iload6 dX8_widenStraight_24 ?_
  refine A_isub dX8_widenStraight_26 ?_
  refine A_iload2 dX8_widenStraight_27 ?_
  refine A_isub dX8_widenStraight_28 ?_
  refine A_iload3 dX8_widenStraight_29 ?_
  refine A_si2 lk_X8_114 ys_X8_firstReaching dX8_widenStraight_30 (T_X8_firstReaching) (by decide) (Nat.le_of_ble_eq_true rfl) (fun r_30 μ_30 h_30 => ?_)
  obtain ⟨v_30, e_30⟩ := h_30
  replace e_30 := e_30.symm
  subst e_30
  refine A_istore7 dX8_widenStraight_33 rfl (by decide) ?_
  refine A_iload4 dX8_widenStraight_35 ?_
  refine A_iload6 dX8_widenStraight_37 ?_
  refine A_iadd dX8_widenStraight_39 ?_
  refine A_iload2 dX8_widenStraight_40 ?_
  refine A_isub dX8_widenStraight_41 ?_
  refine A_iconst (v := 1) dX8_widenStraight_42 (by decide) ?_
  refine A_iadd dX8_widenStraight_43 ?_
  refine A_iload3 dX8_widenStraight_44 ?_
  refine A_si2 lk_X8_114 ys_X8_firstReaching dX8_widenStraight_45 (T_X8_firstReaching) (by decide) (Nat.le_of_ble_eq_true rfl) (fun r_45 μ_45 h_45 => ?_)
  obtain ⟨v_45, e_45⟩ := h_45
  replace e_45 := e_45.symm
  subst e_45
  refine A_iconst (v := 1) dX8_widenStraight_48 (by decide) ?_
  refine A_isub dX8_widenStraight_49 ?_
  refine A_istore8 dX8_widenStraight_50 rfl (by decide) ?_
  refine A_iload7 dX8_widenStraight_52 ?_
  refine A_getsN (fun s H g => (hG s H g).1.1) (fun s H g => (hG s H g).2.2.2.2.1) dX8_widenStraight_54 ?_
  refine A_iload5 dX8_widenStraight_57 ?_
  refine A_tld (f := stV (-20) 0 0 0) (fun s H g => (hG s H g).1.2) (vp_in_nI (by omega) (by omega)) dX8_widenStraight_59 ?_
  refine A_val (y := lstOf (σ.1 7 b)) (by rw [nI_c (by omega), eq]; exact lst_e hq) ?_
  refine A_si2 lk_X8_120 ys_J9_max_7cf53 dX8_widenStraight_60 (T_max) (by decide) (Nat.le_of_ble_eq_true rfl) (fun r_60 μ_60 h_60 => ?_)
  obtain ⟨v_60, e_60⟩ := h_60
  replace e_60 := e_60.symm
  subst e_60
  refine A_istore7 dX8_widenStraight_63 rfl (by decide) ?_
  refine A_iload8 dX8_widenStraight_65 ?_
  refine A_getsN (fun s H g => (hG s H g).2.1.1) (fun s H g => (hG s H g).2.2.2.2.2) dX8_widenStraight_67 ?_
  refine A_iload5 dX8_widenStraight_70 ?_
  refine A_tld (f := stV 40 100 99 15) (fun s H g => (hG s H g).2.1.2) (vp_in_nI (by omega) (by omega)) dX8_widenStraight_72 ?_
  refine A_val (y := mstOf (σ.1 7 b)) (by rw [nI_c (by omega), eq]; exact mst_e hq) ?_
  refine A_si2 lk_X8_126 ys_J9_min_7cf53 dX8_widenStraight_73 (T_min) (by decide) (Nat.le_of_ble_eq_true rfl) (fun r_73 μ_73 h_73 => ?_)
  obtain ⟨v_73, e_73⟩ := h_73
  replace e_73 := e_73.symm
  subst e_73
  refine A_istore8 dX8_widenStraight_76 rfl (by decide) ?_
  have g1 : r_60.toInt = max (lstOf (σ.1 7 b)).toInt (-(-(10 * (own - nI f - (x.1 + x.2.2.2 * nI (agS σ b e) / 10)).toInt) / x.2.1.toInt)) := by rw [v_60, imax_i, v_30, r1]; omega
  have e45 : (r_45 - 1).toInt = r_45.toInt - 1 := by rw [i_sub (by rw [v_45, u1, e1]; omega), e1]
  have g2 : r_73.toInt = min (mstOf (σ.1 7 b)).toInt (-(-(10 * (own + nI f - (x.1 + x.2.2.2 * nI (agS σ b e) / 10) + 1).toInt) / x.2.1.toInt) - 1) := by rw [v_73, imin_i, e45, v_45, u1]; omega
  refine A_iload7 dX8_widenStraight_78 ?_
  refine A_iload8 dX8_widenStraight_80 ?_
  refine A_icmp_gt (tgt := 93) dX8_widenStraight_82 (by decide) (fun c_82 => ?_) (fun c_82 => ?_)
  · refine A_vret dX8_widenStraight_93 ?_
    refine ⟨rfl, ?_, S3.rf⟩
    rw [hE.2 (by have := i_lt.mp c_82; omega)]
    exact hS
  · refine A_aload0 dX8_widenStraight_85 ?_
    refine A_iload7 dX8_widenStraight_86 ?_
    refine A_iload8 dX8_widenStraight_88 ?_
    refine A_vv2 lk_X8_104 yv_X8_include dX8_widenStraight_90 (rfl) (rfl) (T_X8_include) (by decide) (Nat.le_of_ble_eq_true rfl) (fun μ_90 h_90 => ?_)
    replace h_90 := Eq.symm h_90
    subst h_90
    refine A_vret dX8_widenStraight_93 ?_
    have c9 : ¬ r_73.toInt < r_60.toInt := fun z => c_82 (i_lt.mpr z)
    refine ⟨rfl, ?_, incM_3⟩
    rw [hE.inc g1 g2 (by omega)]
    exact hS.inc (by omega) (by omega) (by omega)

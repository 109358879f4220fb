/-! the fewest misses, the laws with them, frost: as the search finds them -/
def mnC (c : Lw → Nat) (a : Nat) (L : List Lw) : Nat := L.foldl (fun m x => min m (c x)) a
theorem mnC_le (c : Lw → Nat) : ∀ (L : List Lw) (a : Nat), mnC c a L ≤ a := by
  intro L
  induction L with
  | nil => intro a; exact Nat.le_refl _
  | cons x L ih => intro a; have := ih (min a (c x)); unfold mnC at this ⊢; rw [List.foldl_cons]; omega
theorem scan_g (c : Lw → Nat) (f : Lw → Int32) : ∀ (L : List Lw) (S : Sc), 0 < S.1.length → (L.foldl (stp c f) S).2.1 = mnC c S.2.1 L ∧ (L.foldl (stp c f) S).1 = (if S.2.1 = mnC c S.2.1 L then S.1 else []) ++ L.filter (fun x => decide (c x = mnC c S.2.1 L)) := by
  intro L
  induction L with
  | nil => intro S _; exact ⟨rfl, by simp [mnC]⟩
  | cons x L ih =>
    intro S hS
    have em : mnC c S.2.1 (x :: L) = mnC c (min S.2.1 (c x)) L := rfl
    rw [List.foldl_cons, em]
    have hle := mnC_le c L (min S.2.1 (c x))
    by_cases q1 : S.2.1 < c x
    · have e1 : (stp c f S x).1 = S.1 := if_pos ⟨hS, q1⟩
      have e2 : (stp c f S x).2.1 = S.2.1 := if_pos ⟨hS, q1⟩
      obtain ⟨i1, i2⟩ := ih (stp c f S x) (by rw [e1]; exact hS)
      rw [e2] at i1 i2
      rw [e1] at i2
      have em2 : min S.2.1 (c x) = S.2.1 := by omega
      rw [em2] at hle ⊢
      refine ⟨i1, i2.trans ?_⟩
      rw [List.filter_cons_of_neg (by simp; omega)]
    · by_cases q2 : c x < S.2.1
      · have e1 : (stp c f S x).1 = [x] := (if_neg (fun z => q1 z.2)).trans (if_pos q2)
        have e2 : (stp c f S x).2.1 = c x := if_neg (fun z => q1 z.2)
        obtain ⟨i1, i2⟩ := ih (stp c f S x) (by rw [e1]; exact Nat.one_pos)
        rw [e2] at i1 i2
        rw [e1] at i2
        have em2 : min S.2.1 (c x) = c x := by omega
        rw [em2] at hle ⊢
        refine ⟨i1, i2.trans ?_⟩
        rw [if_neg (show ¬ S.2.1 = mnC c (c x) L by omega), List.nil_append]
        by_cases q3 : c x = mnC c (c x) L
        · rw [if_pos q3, List.filter_cons_of_pos (by simp; exact q3)]; rfl
        · rw [if_neg q3, List.filter_cons_of_neg (by simp; exact q3)]; rfl
      · have e0 : c x = S.2.1 := by omega
        have e1 : (stp c f S x).1 = S.1 ++ [x] := (if_neg (fun z => q1 z.2)).trans (if_neg q2)
        have e2 : (stp c f S x).2.1 = S.2.1 := (if_neg (fun z => q1 z.2)).trans e0
        obtain ⟨i1, i2⟩ := ih (stp c f S x) (by rw [e1]; simp)
        rw [e2] at i1 i2
        rw [e1] at i2
        have em2 : min S.2.1 (c x) = S.2.1 := by omega
        rw [em2]
        refine ⟨i1, i2.trans ?_⟩
        by_cases q3 : S.2.1 = mnC c S.2.1 L
        · rw [if_pos q3, if_pos q3, List.filter_cons_of_pos (by simp; omega), List.append_assoc]; rfl
        · rw [if_neg q3, if_neg q3, List.filter_cons_of_neg (by simp; omega)]
theorem scan_c {c : Lw → Nat} {f : Lw → Int32} {L : List Lw} (hL : 0 < L.length) (hc : ∀ x, c x ≤ 60) : (scan c f L).2.1 = mnC c 60 L ∧ (scan c f L).1 = L.filter (fun x => decide (c x = mnC c 60 L)) := by
  cases L with
  | nil => exact absurd hL (by decide)
  | cons x L =>
    unfold scan
    rw [List.foldl_cons]
    have e1 : (stp c f ([], 0, -1, false) x).1 = [x] := by simp [stp]
    have e2 : (stp c f ([], 0, -1, false) x).2.1 = c x := by simp [stp]
    obtain ⟨i1, i2⟩ := scan_g c f L (stp c f ([], 0, -1, false) x) (by rw [e1]; exact Nat.one_pos)
    rw [e2] at i1 i2
    rw [e1] at i2
    have em : mnC c 60 (x :: L) = mnC c (c x) L := by
      show mnC c (min 60 (c x)) L = _
      rw [Nat.min_eq_right (hc x)]
    rw [em]
    refine ⟨i1, i2.trans ?_⟩
    by_cases q3 : c x = mnC c (c x) L
    · rw [if_pos q3, List.filter_cons_of_pos (by simp; exact q3)]; rfl
    · rw [if_neg q3, List.filter_cons_of_neg (by simp; exact q3)]; rfl
def mxF (f : Lw → Int32) (a : Int32) (L : List Lw) : Int32 := L.foldl (fun m x => if f x ≤ m then m else f x) a
theorem scan_f (c : Lw → Nat) (f : Lw → Int32) : ∀ (L : List Lw) (S : Sc), (L.foldl (stp c f) S).2.2.1 = mxF f S.2.2.1 L ∧ (L.foldl (stp c f) S).2.2.2 = (S.2.2.2 || L.any (fun x => !decide (0 ≤ f x))) := by
  intro L
  induction L with
  | nil => intro S; exact ⟨rfl, by simp⟩
  | cons x L ih =>
    intro S
    obtain ⟨i1, i2⟩ := ih (stp c f S x)
    rw [List.foldl_cons]
    refine ⟨i1, i2.trans ?_⟩
    rw [List.any_cons, ← Bool.or_assoc]
    rfl
theorem mxF_e (e : Int32) (f : Lw → Int32) : ∀ (L : List Lw) (a : Int32), (∀ x, x ∈ L → f x ≤ e) → a ≤ e → (a = e ∨ ∃ x, x ∈ L ∧ f x = e) → mxF f a L = e := by
  intro L
  induction L with
  | nil => intro a _ _ h; rcases h with h | ⟨x, h, -⟩; exact h; cases h
  | cons x L ih =>
    intro a h1 h2 h3
    show mxF f (if f x ≤ a then a else f x) L = e
    have hx := h1 x List.mem_cons_self
    refine ih _ (fun y hy => h1 y (List.mem_cons_of_mem _ hy)) (by split; exact h2; exact hx) ?_
    rcases h3 with h3 | ⟨y, y1, y2⟩
    · left; rw [if_pos (by rw [h3]; exact hx)]; exact h3
    · rcases List.mem_cons.mp y1 with y3 | y3
      · left
        subst y3
        by_cases q : f y ≤ a
        · rw [if_pos q]
          rw [y2] at q
          rw [i_eq]
          have := i_le.mp q
          have := i_le.mp h2
          omega
        · rw [if_neg q]; exact y2
      · exact Or.inr ⟨y, y3, y2⟩
def frC (f : Lw → Int32) (L : List Lw) : Int32 := if L.any (fun x => !decide (0 ≤ f x)) = true then -1 else mxF f (-1) L
theorem scan_fr {c : Lw → Nat} {f : Lw → Int32} {L : List Lw} : frS (scan c f L) = frC f L := by
  obtain ⟨h1, h2⟩ := scan_f c f L ([], 0, -1, false)
  unfold frS frC scan
  rw [h1, h2]
  rfl
theorem any_n {f : Lw → Int32} {L : List Lw} : L.any (fun x => !decide (0 ≤ f x)) = true ↔ ∃ x, x ∈ L ∧ ¬ 0 ≤ f x := by
  rw [List.any_eq_true]
  constructor
  · rintro ⟨x, h1, h2⟩; exact ⟨x, h1, by simpa using h2⟩
  · rintro ⟨x, h1, h2⟩; exact ⟨x, h1, by simpa using h2⟩
theorem fstM_c (σ : Mem) (k : Int32) (b : Nat) (x : Lw) (f : Nat) : ∀ m, f + m ≤ 60 → (0 ≤ fstM σ k b x f m ↔ 0 < cntM σ k b x f m) ∧ (fstM σ k b x f m = -1 ∨ ∃ j, j < f + m ∧ fstM σ k b x f m = nI j) := by
  intro m
  induction m with
  | zero => intro _; exact ⟨⟨fun h => absurd (show (0 : Int32) ≤ -1 from h) (by decide), fun h => absurd (show 0 < 0 from h) (by decide)⟩, Or.inl rfl⟩
  | succ m ih =>
    intro hm
    obtain ⟨i1, i2⟩ := ih (by omega)
    unfold fstM cntM
    by_cases q : mis σ k b x (f + m)
    · rw [if_pos q]
      by_cases q2 : 0 ≤ fstM σ k b x f m
      · rw [if_neg (fun z => z.2 q2)]
        refine ⟨⟨fun _ => by omega, fun _ => q2⟩, ?_⟩
        rcases i2 with e | ⟨j, j1, j2⟩
        · exact Or.inl e
        · exact Or.inr ⟨j, by omega, j2⟩
      · rw [if_pos ⟨q, q2⟩]
        exact ⟨⟨fun _ => by omega, fun _ => nI_pos' (by omega)⟩, Or.inr ⟨f + m, by omega, rfl⟩⟩
    · rw [if_neg (fun z => q z.1), if_neg q, Nat.add_zero]
      refine ⟨i1, ?_⟩
      rcases i2 with e | ⟨j, j1, j2⟩
      · exact Or.inl e
      · exact Or.inr ⟨j, by omega, j2⟩
def clN (c : Lw → Nat) (L : List Lw) : Nat := L.countP (fun x => decide (c x = 0))
theorem cl_fal (c : Lw → Nat) (M : Lw → Bool) : ∀ L : List Lw, clN (fun x => c x + (if M x = true then 1 else 0)) L + fal c M L = clN c L := by
  intro L
  induction L with
  | nil => rfl
  | cons x L ih =>
    unfold clN fal at ih ⊢
    rw [List.countP_cons, List.countP_cons, List.countP_cons]
    have e1 : (if decide (c x + (if M x = true then 1 else 0) = 0) = true then 1 else 0) + (if (decide (c x = 0) && M x) = true then 1 else 0) = (if decide (c x = 0) = true then (1 : Nat) else 0) := by
      cases M x <;> by_cases q : c x = 0 <;> simp [q]
    dsimp only at ih ⊢
    omega
theorem cl_pos {c : Lw → Nat} {L : List Lw} : clN c L = 0 ↔ ∀ x, x ∈ L → 0 < c x := by
  unfold clN
  rw [List.countP_eq_zero]
  constructor
  · intro h x hx; have := h x hx; simp at this; omega
  · intro h x hx; have := h x hx; simp; omega
theorem fst_mono {σ : Mem} {k : Int32} {b f m : Nat} {x : Lw} (hm : f + m ≤ 60) (hx : 0 < cntM σ k b x f m) : 0 < cntM σ k b x f (m + 1) ∧ fstM σ k b x f (m + 1) = fstM σ k b x f m := by
  have h1 := (fstM_c σ k b x f m hm).1.mpr hx
  refine ⟨?_, ?_⟩
  · rw [cntM]; omega
  · rw [fstM]; exact if_neg (fun z => z.2 h1)
theorem fst_new {σ : Mem} {k : Int32} {b f m : Nat} {x : Lw} (hm : f + m ≤ 60) (hx : 0 < cntM σ k b x f (m + 1)) (h0 : ¬ 0 ≤ fstM σ k b x f m) : fstM σ k b x f (m + 1) = nI (f + m) := by
  have h4 : ¬ 0 < cntM σ k b x f m := fun z => h0 ((fstM_c σ k b x f m hm).1.mpr z)
  have h5 : mis σ k b x (f + m) := by
    apply Decidable.not_not.mp
    intro z
    rw [cntM, if_neg z] at hx
    omega
  rw [fstM]
  exact if_pos ⟨h5, h0⟩
theorem m1_le {n : Nat} (h : n < 1000) : (-1 : Int32) ≤ nI n := i_le.mpr (by rw [nI_i (by omega)]; have e9 : (-1 : Int32).toInt = -1 := rfl; rw [e9]; omega)
theorem any_cl {σ : Mem} {k : Int32} {b f n : Nat} {L : List Lw} (hn : f + n ≤ 60) : L.any (fun x => !decide (0 ≤ fstM σ k b x f n)) = true ↔ ¬ clN (fun x => cntM σ k b x f n) L = 0 := by
  rw [any_n (f := fun x => fstM σ k b x f n), cl_pos]
  constructor
  · rintro ⟨x, x1, x2⟩ h
    exact x2 ((fstM_c σ k b x f n hn).1.mpr (h x x1))
  · intro h
    apply Classical.byContradiction
    intro h2
    exact h (fun x hx => (fstM_c σ k b x f n hn).1.mp (Decidable.not_not.mp (fun z => h2 ⟨x, hx, z⟩)))
theorem mxF_g (g : Lw → Int32) : ∀ (A : List Lw) (a : Int32), 0 ≤ a → 0 ≤ mxF g a A := by
  intro A
  induction A with
  | nil => intro a h; exact h
  | cons y A ih =>
    intro a h
    refine ih _ ?_
    show 0 ≤ (if g y ≤ a then a else g y)
    split
    · exact h
    · rename_i q
      have q1 := mt i_le.mpr q
      have h1 := i_le.mp h
      exact i_le.mpr (by omega)
theorem mxF_n {g : Lw → Int32} {L : List Lw} (hL : 0 < L.length) (h : ∀ x, x ∈ L → 0 ≤ g x) : ¬ mxF g (-1) L = -1 := by
  cases L with
  | nil => exact absurd hL (by decide)
  | cons x A =>
    have hx := h x List.mem_cons_self
    have e9 : (-1 : Int32).toInt = -1 := rfl
    have e0 : (0 : Int32).toInt = 0 := rfl
    have h2 := mxF_g g A (if g x ≤ -1 then -1 else g x) (by
      rw [if_neg (fun z => by have z1 := i_le.mp z; have h1 := i_le.mp hx; rw [e9] at z1; rw [e0] at h1; omega)]
      exact hx)
    intro z
    have z2 : mxF g (if g x ≤ -1 then -1 else g x) A = -1 := z
    rw [z2] at h2
    exact absurd h2 (by decide)
theorem mxF_nil {g : Lw → Int32} {a : Int32} : mxF g a [] = a := by unfold mxF; rw [List.foldl_nil]
theorem mxF_cons {g : Lw → Int32} {a : Int32} {x : Lw} {A : List Lw} : mxF g a (x :: A) = mxF g (if g x ≤ a then a else g x) A := by unfold mxF; rw [List.foldl_cons]
theorem mxF_cong {g h : Lw → Int32} (A : List Lw) : ∀ (a : Int32), (∀ x, x ∈ A → g x = h x) → mxF g a A = mxF h a A := by
  induction A with
  | nil => intro a _; rw [mxF_nil, mxF_nil]
  | cons x A ih =>
    intro a e
    have e1 := e x List.mem_cons_self
    rw [mxF_cons, mxF_cons, e1]
    exact ih _ (fun y hy => e y (List.mem_cons_of_mem _ hy))
theorem fr_step {σ : Mem} {k : Int32} {b f m : Nat} {L : List Lw} (hL : 0 < L.length) (hm : f + (m + 1) ≤ 60) : frC (fun x => fstM σ k b x f (m + 1)) L = if clN (fun x => cntM σ k b x f (m + 1)) L = 0 ∧ frC (fun x => fstM σ k b x f m) L = -1 then nI (f + m) else frC (fun x => fstM σ k b x f m) L := by
  by_cases c1 : clN (fun x => cntM σ k b x f (m + 1)) L = 0
  · have a1 := cl_pos.mp c1
    have e1 : frC (fun x => fstM σ k b x f (m + 1)) L = mxF (fun x => fstM σ k b x f (m + 1)) (-1) L := if_neg (fun z => (any_cl hm).mp z c1)
    by_cases c2 : clN (fun x => cntM σ k b x f m) L = 0
    · have a2 := cl_pos.mp c2
      have e2 : frC (fun x => fstM σ k b x f m) L = mxF (fun x => fstM σ k b x f m) (-1) L := if_neg (fun z => (any_cl (by omega)).mp z c2)
      have e4 : ¬ frC (fun x => fstM σ k b x f m) L = -1 := by
        rw [e2]
        exact mxF_n hL (fun x hx => (fstM_c σ k b x f m (by omega)).1.mpr (a2 x hx))
      rw [if_neg (fun z => e4 z.2), e1, e2]
      exact mxF_cong L (-1) (fun x hx => (fst_mono (by omega) (a2 x hx)).2)
    · have hany := (any_cl (σ := σ) (k := k) (b := b) (L := L) (f := f) (n := m) (by omega)).mpr c2
      have e2 : frC (fun x => fstM σ k b x f m) L = -1 := if_pos hany
      rw [if_pos ⟨c1, e2⟩, e1]
      obtain ⟨x, x1, x2⟩ := (any_n (f := fun x => fstM σ k b x f m)).mp hany
      refine mxF_e (nI (f + m)) _ _ _ (fun y hy => ?_) (m1_le (by omega)) (Or.inr ⟨x, x1, fst_new (by omega) (a1 x x1) x2⟩)
      rcases (fstM_c σ k b y f (m + 1) hm).2 with z | ⟨j, j1, j2⟩
      · show fstM σ k b y f (m + 1) ≤ _
        rw [z]
        exact m1_le (by omega)
      · show fstM σ k b y f (m + 1) ≤ _
        rw [j2]
        exact nI_le (by omega) (by omega)
  · have e1 : frC (fun x => fstM σ k b x f (m + 1)) L = -1 := if_pos ((any_cl hm).mpr c1)
    have c2 : ¬ clN (fun x => cntM σ k b x f m) L = 0 := fun z => c1 (cl_pos.mpr (fun x hx => (fst_mono (by omega) (cl_pos.mp z x hx)).1))
    have e2 : frC (fun x => fstM σ k b x f m) L = -1 := if_pos ((any_cl (by omega)).mpr c2)
    rw [if_neg (fun z => c1 z.1), e1, e2]

/-! words: as keys of the class, as bytes of the reference -/
def GL (l : List Nat) : Prop := 1 ≤ l.length ∧ l.length ≤ 8 ∧ ∀ c, c ∈ l → 1 ≤ c ∧ c ≤ 26
def n27 : List Nat → Nat
  | [] => 0
  | c :: l => n27 l * 27 + c
def n256 : List Nat → Nat
  | [] => 0
  | c :: l => n256 l * 256 + (96 + c)
theorem e27_n : ∀ l : List Nat, e27 l = lN (n27 l) := by
  intro l
  induction l with
  | nil => rfl
  | cons c l ih =>
    show e27 l * 27 + lN c = lN (n27 l * 27 + c)
    rw [ih, show (27 : Int64) = lN 27 from rfl, lN_mul, lN_add]
theorem n27_b : ∀ l : List Nat, (∀ c, c ∈ l → 1 ≤ c ∧ c ≤ 26) → n27 l < 27 ^ l.length := by
  intro l
  induction l with
  | nil => intro _; exact Nat.zero_lt_one
  | cons c l ih =>
    intro hg
    have h1 := ih (fun y hy => hg y (List.mem_cons_of_mem _ hy))
    have h2 := hg c List.mem_cons_self
    show n27 l * 27 + c < 27 ^ (l.length + 1)
    rw [Nat.pow_succ]
    omega
theorem n256_b : ∀ l : List Nat, (∀ c, c ∈ l → 1 ≤ c ∧ c ≤ 26) → n256 l < 256 ^ l.length := by
  intro l
  induction l with
  | nil => intro _; exact Nat.zero_lt_one
  | cons c l ih =>
    intro hg
    have h1 := ih (fun y hy => hg y (List.mem_cons_of_mem _ hy))
    have h2 := hg c List.mem_cons_self
    show n256 l * 256 + (96 + c) < 256 ^ (l.length + 1)
    rw [Nat.pow_succ]
    omega
theorem n27_i : ∀ l k : List Nat, (∀ c, c ∈ l → 1 ≤ c ∧ c ≤ 26) → (∀ c, c ∈ k → 1 ≤ c ∧ c ≤ 26) → n27 l = n27 k → l = k := by
  intro l
  induction l with
  | nil =>
    intro k _ hk he
    cases k with
    | nil => rfl
    | cons c k =>
      have h2 := hk c List.mem_cons_self
      have e2 : 0 = n27 k * 27 + c := he
      omega
  | cons c l ih =>
    intro k hl hk he
    cases k with
    | nil =>
      have h2 := hl c List.mem_cons_self
      have e2 : n27 l * 27 + c = 0 := he
      omega
    | cons x k =>
      have h1 := hl c List.mem_cons_self
      have h2 := hk x List.mem_cons_self
      have e2 : n27 l * 27 + c = n27 k * 27 + x := he
      have e3 : c = x := by omega
      have e4 : n27 l = n27 k := by omega
      rw [e3, ih k (fun y hy => hl y (List.mem_cons_of_mem _ hy)) (fun y hy => hk y (List.mem_cons_of_mem _ hy)) e4]
theorem n256_i : ∀ l k : List Nat, (∀ c, c ∈ l → 1 ≤ c ∧ c ≤ 26) → (∀ c, c ∈ k → 1 ≤ c ∧ c ≤ 26) → n256 l = n256 k → l = k := by
  intro l
  induction l with
  | nil =>
    intro k _ hk he
    cases k with
    | nil => rfl
    | cons c k =>
      have h2 := hk c List.mem_cons_self
      have e2 : 0 = n256 k * 256 + (96 + c) := he
      omega
  | cons c l ih =>
    intro k hl hk he
    cases k with
    | nil =>
      have h2 := hl c List.mem_cons_self
      have e2 : n256 l * 256 + (96 + c) = 0 := he
      omega
    | cons x k =>
      have h1 := hl c List.mem_cons_self
      have h2 := hk x List.mem_cons_self
      have e2 : n256 l * 256 + (96 + c) = n256 k * 256 + (96 + x) := he
      have e3 : c = x := by omega
      have e4 : n256 l = n256 k := by omega
      rw [e3, ih k (fun y hy => hl y (List.mem_cons_of_mem _ hy)) (fun y hy => hk y (List.mem_cons_of_mem _ hy)) e4]
theorem p256 : (256 : Nat) ^ 8 = 18446744073709551616 := rfl
theorem p27 : (27 : Nat) ^ 8 = 282429536481 := rfl
theorem e256_n : ∀ l : List Nat, l.length ≤ 8 → (∀ c, c ∈ l → 1 ≤ c ∧ c ≤ 26) → e256 l = lN (n256 l) := by
  intro l
  induction l with
  | nil => intro _ _; rfl
  | cons c l ih =>
    intro hlen hg
    have hl2 : l.length + 1 ≤ 8 := hlen
    have h2 := hg c List.mem_cons_self
    have hb1 := n256_b l (fun y hy => hg y (List.mem_cons_of_mem _ hy))
    have hb2 : 256 ^ (l.length + 1) ≤ 256 ^ 8 := Nat.pow_le_pow_right (by decide) hl2
    rw [p256, Nat.pow_succ] at hb2
    show e256 l <<< 8 ||| lN (96 + c) = lN (n256 l * 256 + (96 + c))
    rw [ih (by omega) (fun y hy => hg y (List.mem_cons_of_mem _ hy)), g_shl (k := 8) (p := 256) (by decide) (by decide) (by decide) (by omega), g_or (k := 8) (by decide) (by omega) (by omega)]
theorem GL.b27 {l : List Nat} (h : GL l) : n27 l < 2 ^ 63 := by
  have h1 := n27_b l h.2.2
  have h2 : 27 ^ l.length ≤ 27 ^ 8 := Nat.pow_le_pow_right (by decide) h.2.1
  rw [p27] at h2
  omega
theorem GL.b256 {l : List Nat} (h : GL l) : n256 l < 2 ^ 64 := by
  have h1 := n256_b l h.2.2
  have h2 : 256 ^ l.length ≤ 256 ^ 8 := Nat.pow_le_pow_right (by decide) h.2.1
  rw [p256] at h2
  omega
theorem e27_i {l k : List Nat} (hl : GL l) (hk : GL k) : e27 l = e27 k ↔ l = k := by
  constructor
  · intro h
    rw [e27_n, e27_n] at h
    exact n27_i l k hl.2.2 hk.2.2 ((pk_lEQ hl.b27 hk.b27).mp h)
  · intro h
    rw [h]
theorem e256_i {l k : List Nat} (hl : GL l) (hk : GL k) : e256 l = e256 k ↔ l = k := by
  constructor
  · intro h
    rw [e256_n l hl.2.1 hl.2.2, e256_n k hk.2.1 hk.2.2] at h
    have h2 : (lN (n256 l)).toBitVec.toNat = (lN (n256 k)).toBitVec.toNat := by rw [h]
    rw [wb_tn hl.b256, wb_tn hk.b256] at h2
    exact n256_i l k hl.2.2 hk.2.2 h2
  · intro h
    rw [h]
theorem wd_B : ∀ i : Fin 26, 1 ≤ (wdK.getD i.val []).length ∧ (wdK.getD i.val []).length ≤ 8 ∧ (wdK.getD i.val []).all (fun c => decide (1 ≤ c ∧ c ≤ 26)) = true := by decide +kernel
theorem wd_N : ∀ i j : Fin 26, wdK.getD i.val [] = wdK.getD j.val [] → i = j := by decide +kernel
theorem wd_G {i : Nat} (hi : i < 26) : GL (wdK.getD i []) := by
  obtain ⟨h1, h2, h3⟩ := wd_B ⟨i, hi⟩
  refine ⟨h1, h2, fun c hc => ?_⟩
  have h4 := List.all_eq_true.mp h3 c hc
  exact of_decide_eq_true h4
theorem wd_u {i j : Nat} (hi : i < 26) (hj : j < 26) (h : wdK.getD i [] = wdK.getD j []) : i = j := by
  have h1 := wd_N ⟨i, hi⟩ ⟨j, hj⟩ h
  exact congrArg Fin.val h1
/-- the kind that the class gives a word -/
def KW (l : List Nat) (k : Int32) : Prop := (∃ i : Nat, i < 26 ∧ wdK.getD i [] = l ∧ k = nI (128 + i)) ∨ ((∀ i : Nat, i < 26 → ¬ wdK.getD i [] = l) ∧ k = 3)
/-- a token of the reference (sort, number, word) and one of the class (kind, value, key) -/
def KR (r s u : Int32) (w : Int64) (k v : Int32) (y : Int64) : Prop := (s = 0 ∧ k = 0) ∨ (s = 3 ∧ k = 1) ∨ (s = 2 ∧ k = 2 ∧ v = u) ∨ (s = 1 ∧ ∃ l, GL l ∧ w = e256 l ∧ y = e27 l ∧ KW l k) ∨ (isSg r s ∧ k = s)
theorem sg_r {r s : Int32} (h : isSg r s) : 3 < s.toInt ∧ s.toInt < 128 := by
  rcases h with rfl | rfl | ⟨-, rfl | rfl | rfl | rfl | rfl | rfl | rfl⟩ <;> decide
theorem kw_r {l : List Nat} {k : Int32} (h : KW l k) : k = 3 ∨ 128 ≤ k.toInt := by
  rcases h with ⟨i, hi, -, e⟩ | ⟨-, e⟩
  · right
    rw [e, nI_i (by omega)]
    omega
  · exact Or.inl e
theorem n128 {i : Nat} (hi : i < 26) : (nI (128 + i)).toInt = ((128 + i : Nat) : Int) := nI_i (by omega)
theorem KR.wd {r s u k v : Int32} {w y : Int64} (h : KR r s u w k v y) {i : Nat} (hi : i < 26) : (s = 1 ∧ w = e256 (wdK.getD i [])) ↔ k = nI (128 + i) := by
  have hn := n128 hi
  rcases h with ⟨e1, e2⟩ | ⟨e1, e2⟩ | ⟨e1, e2, -⟩ | ⟨e1, l, hg, ew, -, hk⟩ | ⟨e1, e2⟩
  · subst e1; subst e2
    exact ⟨fun z => absurd z.1 (by decide), fun z => by rw [← z] at hn; have h9 : (0 : Int32).toInt = 0 := rfl; omega⟩
  · subst e1; subst e2
    exact ⟨fun z => absurd z.1 (by decide), fun z => by rw [← z] at hn; have h9 : (1 : Int32).toInt = 1 := rfl; omega⟩
  · subst e1; subst e2
    exact ⟨fun z => absurd z.1 (by decide), fun z => by rw [← z] at hn; have h9 : (2 : Int32).toInt = 2 := rfl; omega⟩
  · rw [ew, e256_i hg (wd_G hi)]
    constructor
    · rintro ⟨-, el⟩
      rcases hk with ⟨j, hj, ej, e3⟩ | ⟨hno, -⟩
      · rw [e3, wd_u hj hi (ej.trans el)]
      · exact absurd el.symm (hno i hi)
    · intro z
      refine ⟨e1, ?_⟩
      rcases hk with ⟨j, hj, ej, e3⟩ | ⟨-, e3⟩
      · have h3 : (nI (128 + j)).toInt = (nI (128 + i)).toInt := by rw [← e3, z]
        rw [n128 hi, n128 hj] at h3
        have h4 : j = i := by omega
        rw [← ej, h4]
      · rw [← z, e3] at hn
        have h9 : (3 : Int32).toInt = 3 := rfl
        omega
  · have h5 := sg_r e1
    subst e2
    constructor
    · rintro ⟨z, -⟩
      rw [z] at h5
      exact absurd h5.1 (by decide)
    · intro z
      rw [z] at h5
      omega
theorem ky_1 : ∀ i : Fin 26, e256 (wdK.getD i.val []) ∈ kyH ∨ e256 (wdK.getD i.val []) ∈ kyR := by decide +kernel
theorem ky_2 : kyH.all (fun w => (List.range 26).any (fun i => w == e256 (wdK.getD i []))) = true := by decide +kernel
theorem ky_3 : kyR.all (fun w => (List.range 26).any (fun i => w == e256 (wdK.getD i []))) = true := by decide +kernel
theorem ky_e {w : Int64} (h : w ∈ kyH ∨ w ∈ kyR) : ∃ i : Nat, i < 26 ∧ w = e256 (wdK.getD i []) := by
  have h1 : (List.range 26).any (fun i => w == e256 (wdK.getD i [])) = true := by
    rcases h with h | h
    · exact List.all_eq_true.mp ky_2 w h
    · exact List.all_eq_true.mp ky_3 w h
  obtain ⟨i, hi, he⟩ := List.any_eq_true.mp h1
  exact ⟨i, List.mem_range.mp hi, eq_of_beq he⟩
theorem KR.nm {r s u k v : Int32} {w y : Int64} (h : KR r s u w k v y) : (s = 1 ∧ ¬ w ∈ kyH ∧ ¬ w ∈ kyR) ↔ k = 3 := by
  rcases h with ⟨e1, e2⟩ | ⟨e1, e2⟩ | ⟨e1, e2, -⟩ | ⟨e1, l, hg, ew, -, hk⟩ | ⟨e1, e2⟩
  · subst e1; subst e2; exact ⟨fun z => absurd z.1 (by decide), fun z => absurd z (by decide)⟩
  · subst e1; subst e2; exact ⟨fun z => absurd z.1 (by decide), fun z => absurd z (by decide)⟩
  · subst e1; subst e2; exact ⟨fun z => absurd z.1 (by decide), fun z => absurd z (by decide)⟩
  · constructor
    · rintro ⟨-, z1, z2⟩
      rcases hk with ⟨j, hj, ej, -⟩ | ⟨-, e3⟩
      · rcases ky_1 ⟨j, hj⟩ with q1 | q1
        · exact absurd (by rw [ew, ← ej]; exact q1) z1
        · exact absurd (by rw [ew, ← ej]; exact q1) z2
      · exact e3
    · intro z
      have hno : ∀ i : Nat, i < 26 → ¬ wdK.getD i [] = l := by
        rcases hk with ⟨j, hj, -, e3⟩ | ⟨hno, -⟩
        · have hn := n128 hj
          rw [← e3, z] at hn
          have h9 : (3 : Int32).toInt = 3 := rfl
          omega
        · exact hno
      have hout : ¬ (w ∈ kyH ∨ w ∈ kyR) := by
        intro q1
        obtain ⟨i, hi, he⟩ := ky_e q1
        rw [ew] at he
        exact hno i hi ((e256_i hg (wd_G hi)).mp he).symm
      exact ⟨e1, fun q1 => hout (Or.inl q1), fun q1 => hout (Or.inr q1)⟩
  · have h5 := sg_r e1
    subst e2
    constructor
    · rintro ⟨z, -⟩
      rw [z] at h5
      exact absurd h5.1 (by decide)
    · intro z
      rw [z] at h5
      exact absurd h5.1 (by decide)
theorem KR.k {r s u k v : Int32} {w y : Int64} (h : KR r s u w k v y) : (s = 0 ∧ k = 0) ∨ (s = 3 ∧ k = 1) ∨ (s = 2 ∧ k = 2 ∧ v = u) ∨ (s = 1 ∧ (k = 3 ∨ 128 ≤ k.toInt)) ∨ (isSg r s ∧ k = s ∧ 3 < s.toInt ∧ s.toInt < 128) := by
  rcases h with h | h | h | ⟨e1, l, hg, ew, -, hk⟩ | ⟨e1, e2⟩
  · exact Or.inl h
  · exact Or.inr (Or.inl h)
  · exact Or.inr (Or.inr (Or.inl h))
  · exact Or.inr (Or.inr (Or.inr (Or.inl ⟨e1, kw_r hk⟩)))
  · exact Or.inr (Or.inr (Or.inr (Or.inr ⟨e1, e2, sg_r e1⟩)))
theorem i_0 : (0 : Int32).toInt = 0 := rfl
theorem i_n1 : (1 : Int32).toInt = 1 := rfl
theorem i_n2 : (2 : Int32).toInt = 2 := rfl
theorem i_n3 : (3 : Int32).toInt = 3 := rfl
theorem KR.sg {r s u k v : Int32} {w y : Int64} (h : KR r s u w k v y) {c : Int32} (hc : 3 < c.toInt ∧ c.toInt < 128) : s = c ↔ k = c := by
  have a0 := i_0
  have a1 := i_n1
  have a2 := i_n2
  have a3 := i_n3
  rcases h.k with ⟨e1, e2⟩ | ⟨e1, e2⟩ | ⟨e1, e2, -⟩ | ⟨e1, e2⟩ | ⟨-, e2, -⟩
  · rw [e1, e2]
  · rw [e1, e2]; constructor <;> intro z <;> rw [← z] at hc <;> omega
  · rw [e1, e2]
  · constructor
    · intro z; rw [← z, e1] at hc; omega
    · intro z
      rw [z] at e2
      rcases e2 with e2 | e2
      · rw [e2] at hc; omega
      · omega
  · rw [e2]
theorem KR.k0 {r s u k v : Int32} {w y : Int64} (h : KR r s u w k v y) : s = 0 ↔ k = 0 := by
  have a0 := i_0
  rcases h.k with ⟨e1, e2⟩ | ⟨e1, e2⟩ | ⟨e1, e2, -⟩ | ⟨e1, e2⟩ | ⟨-, e2, -⟩
  · rw [e1, e2]
  · rw [e1, e2]; constructor <;> intro z <;> exact absurd z (by decide)
  · rw [e1, e2]
  · constructor
    · intro z; rw [e1] at z; exact absurd z (by decide)
    · intro z
      rw [z] at e2
      rcases e2 with e2 | e2
      · exact absurd e2 (by decide)
      · omega
  · rw [e2]
theorem KR.k1 {r s u k v : Int32} {w y : Int64} (h : KR r s u w k v y) : s = 3 ↔ k = 1 := by
  have a1 := i_n1
  have a3 := i_n3
  rcases h.k with ⟨e1, e2⟩ | ⟨e1, e2⟩ | ⟨e1, e2, -⟩ | ⟨e1, e2⟩ | ⟨-, e2, e3, e4⟩
  · rw [e1, e2]; constructor <;> intro z <;> exact absurd z (by decide)
  · exact ⟨fun _ => e2, fun _ => e1⟩
  · rw [e1, e2]; constructor <;> intro z <;> exact absurd z (by decide)
  · constructor
    · intro z; rw [e1] at z; exact absurd z (by decide)
    · intro z
      rw [z] at e2
      rcases e2 with e2 | e2
      · exact absurd e2 (by decide)
      · omega
  · rw [e2]; constructor <;> intro z <;> rw [z] at e3 <;> omega
theorem KR.k2 {r s u k v : Int32} {w y : Int64} (h : KR r s u w k v y) : s = 2 ↔ k = 2 := by
  have a2 := i_n2
  rcases h.k with ⟨e1, e2⟩ | ⟨e1, e2⟩ | ⟨e1, e2, -⟩ | ⟨e1, e2⟩ | ⟨-, e2, -⟩
  · rw [e1, e2]
  · rw [e1, e2]; constructor <;> intro z <;> exact absurd z (by decide)
  · rw [e1, e2]
  · constructor
    · intro z; rw [e1] at z; exact absurd z (by decide)
    · intro z
      rw [z] at e2
      rcases e2 with e2 | e2
      · exact absurd e2 (by decide)
      · omega
  · rw [e2]
theorem KR.v {r s u k v : Int32} {w y : Int64} (h : KR r s u w k v y) (h2 : k = 2) : v = u := by
  have hs := h.k2.mpr h2
  rcases h.k with ⟨e1, e2⟩ | ⟨e1, e2⟩ | ⟨-, -, e2⟩ | ⟨e1, e2⟩ | ⟨-, e2, e3, -⟩
  · rw [h2] at e2; exact absurd e2 (by decide)
  · rw [h2] at e2; exact absurd e2 (by decide)
  · exact e2
  · rw [e1] at hs; exact absurd hs (by decide)
  · rw [hs] at e3; exact absurd e3 (by decide)
theorem KR.n {r s u k v : Int32} {w y : Int64} (h : KR r s u w k v y) (h3 : k = 3) : NmR y w := by
  have hs := (h.nm.mpr h3).1
  rcases h with ⟨e1, -⟩ | ⟨e1, -⟩ | ⟨e1, -⟩ | ⟨-, l, hg, ew, ey, -⟩ | ⟨e1, -⟩
  · rw [e1] at hs; exact absurd hs (by decide)
  · rw [e1] at hs; exact absurd hs (by decide)
  · rw [e1] at hs; exact absurd hs (by decide)
  · exact ⟨l, hg.1, hg.2.1, hg.2.2, ey, ew⟩
  · have h5 := sg_r e1
    rw [hs] at h5
    exact absurd h5.1 (by decide)
/-- names on both sides are equal together -/
theorem nmR_i {x y x' y' : Int64} (h : NmR x y) (g : NmR x' y') : x = x' ↔ y = y' := by
  obtain ⟨l, a1, a2, a3, rfl, rfl⟩ := h
  obtain ⟨k, b1, b2, b3, rfl, rfl⟩ := g
  rw [e27_i ⟨a1, a2, a3⟩ ⟨b1, b2, b3⟩, e256_i ⟨a1, a2, a3⟩ ⟨b1, b2, b3⟩]

/-! what the class's memory stands for -/
theorem and1_01 (x : Int32) : x &&& 1 = 0 ∨ x &&& 1 = 1 := by
  obtain ⟨n, -, rfl⟩ := wb_of32 x
  rw [show (1 : Int32) = nI 1 from rfl, nx_and, Nat.and_one_is_mod]
  rcases Nat.mod_two_eq_zero_or_one n with h | h <;> rw [h]
  · exact Or.inl rfl
  · exact Or.inr rfl
theorem bit_1 {D r : Nat} (hD : D < 65536) (hr : r < 16) : (((nI D).toUInt32 >>> ((nI r).toUInt32 &&& Int32.toUInt32 31)).toInt32 &&& 1) = 1 ↔ D.testBit r = true := by
  have h := nx_bit hD hr
  constructor
  · intro h1
    cases e : D.testBit r with
    | true => rfl
    | false => rw [h.mpr e] at h1; exact absurd h1 (by decide)
  · intro h1
    rcases and1_01 (((nI D).toUInt32 >>> ((nI r).toUInt32 &&& Int32.toUInt32 31)).toInt32) with e | e
    · rw [h.mp e] at h1; cases h1
    · exact e
theorem bit_L {N d : Nat} (hN : N < 2 ^ 60) (hd : d < 60) : (((lN N).toUInt64 >>> ((nI d).toInt64.toUInt64 &&& Int64.toUInt64 63)).toInt64 &&& 1) = 1 ↔ N.testBit d = true := by
  rw [wb_bit (Nat.lt_trans hN (by decide)) (by omega), Nat.testBit_eq_decide_div_mod_eq]
  rcases Nat.mod_two_eq_zero_or_one (N / 2 ^ d) with e | e <;> rw [e]
  · exact ⟨fun z => absurd z (by decide), fun z => absurd z (by decide)⟩
  · exact ⟨fun _ => rfl, fun _ => rfl⟩
/-- the class's lasting places -/
abbrev prC (i k : Nat) : Prop := (i = 0 ∧ 1 ≤ k ∧ k ≤ 3) ∨ i = 1 ∨ (i = 4 ∧ k ≤ 1) ∨ (6 ≤ i ∧ i ≤ 13) ∨ (i = 25 ∧ (k = 0 ∨ k = 3)) ∨ (26 ≤ i ∧ i ≤ 28) ∨ (i = 36 ∧ k ≤ 4) ∨ (37 ≤ i ∧ i ≤ 42) ∨ (k = 3 ∧ (i = 48 ∨ i = 53 ∨ i = 58 ∨ i = 63 ∨ i = 68))
def Kc (μ μ' : Mem) : Prop := (∀ i k, prC i k → μ'.1 i k = μ.1 i k) ∧ ∀ i k, (i = 3 ∨ i = 5 ∨ i = 36) → μ'.2.1 i k = μ.2.1 i k
theorem Kc.rf {μ : Mem} : Kc μ μ := ⟨fun _ _ _ => rfl, fun _ _ _ => rfl⟩
theorem Kc.tr {a b c : Mem} (h : Kc a b) (g : Kc b c) : Kc a c := ⟨fun i k q => (g.1 i k q).trans (h.1 i k q), fun i k q => (g.2 i k q).trans (h.2 i k q)⟩
theorem Kc.w {a b : Mem} {i k : Nat} {v : Int32} (h : Kc a b) (hn : ¬ prC i k) : Kc a (wI b i k v) := by
  refine ⟨fun x y q => ?_, h.2⟩
  rw [wI_ne]
  · exact h.1 x y q
  · by_cases e : x = i ∧ y = k
    · rw [e.1, e.2] at q; exact absurd q hn
    · omega
def RcT (σ μ : Mem) : Prop := μ.1 0 1 = σ.1 0 1 ∧ μ.1 0 2 = σ.1 0 2 ∧ μ.1 0 3 = σ.1 0 3 ∧ ∀ j, j < 800 → μ.1 1 j = vp_nar .byte (σ.1 1 j) ∧ 0 ≤ (σ.1 1 j).toInt ∧ (σ.1 1 j).toInt ≤ 255
def RcF (σ μ : Mem) : Prop := μ.1 36 0 = σ.1 0 42 ∧ μ.1 36 1 = σ.1 0 43 ∧ (∃ N : Nat, N < 2 ^ 60 ∧ μ.2.1 36 3 = lN N ∧ ∀ d, d < 60 → σ.1 27 d = if N.testBit d = true then 1 else 0) ∧ (∃ D : Nat, D < 1024 ∧ μ.1 36 4 = nI D ∧ ∀ r, r < 10 → σ.1 28 r = if D.testBit r = true then 1 else 0) ∧ ∀ f, f < nfc σ → μ.1 37 f = σ.1 20 f ∧ μ.1 38 f = σ.1 21 f ∧ μ.1 39 f = (if σ.1 26 f = 0 then σ.1 22 f else -1) ∧ μ.1 40 f = σ.1 23 f ∧ μ.1 41 f = σ.1 24 f ∧ μ.1 42 f = σ.1 25 f
/-- a name in the class's and in the reference's reckoning -/
def e27 : List Nat → Int64
  | [] => 0
  | c :: l => e27 l * 27 + lN c
def e256 : List Nat → Int64
  | [] => 0
  | c :: l => e256 l <<< 8 ||| lN (96 + c)
def NmR (x y : Int64) : Prop := ∃ l : List Nat, 1 ≤ l.length ∧ l.length ≤ 8 ∧ (∀ c, c ∈ l → 1 ≤ c ∧ c ≤ 26) ∧ x = e27 l ∧ y = e256 l
def RcL (σ μ : Mem) : Prop := WFln μ ∧ (∀ d, d < 60 → (¬ σ.1 18 d = 0 ↔ wth μ 143 (-1) (nI d))) ∧ (∀ d, d < 60 → (¬ σ.1 19 d = 0 ↔ wth μ 144 (-1) (nI d))) ∧ (∀ b d, b < 5 → d < 60 → (¬ σ.1 17 (60 * b + d) = 0 ↔ wth μ 142 (nI b) (nI d))) ∧ (∀ b d, b < 5 → d < 60 → (¬ σ.1 15 (60 * b + d) = 0 ↔ ∃ i, i < wthN μ ∧ μ.1 10 i = 139 ∧ μ.1 11 i = nI b ∧ μ.1 12 i = nI d)) ∧ (∀ b d, b < 5 → d < 60 → (¬ σ.1 16 (60 * b + d) = 0 ↔ ∃ i, i < wthN μ ∧ μ.1 10 i = 140 ∧ μ.1 11 i = nI b ∧ μ.1 12 i = nI d)) ∧ ∀ i, i < wthN μ → ∃ f t : Nat, f < 60 ∧ t < 60 ∧ μ.1 12 i = nI f ∧ μ.1 13 i = nI t
def RcH (σ μ : Mem) : Prop := μ.1 4 0 = σ.1 0 31 ∧ μ.1 4 1 = σ.1 0 32 ∧ (∀ b, b < nbx σ → NmR (μ.2.1 5 b) (σ.2.1 3 b) ∧ μ.1 6 b = σ.1 7 b ∧ μ.1 7 b = σ.1 9 b ∧ ∀ p, p < 4 → μ.1 8 (4 * b + p) = σ.1 8 (8 * b + 2 * p) ∧ μ.1 9 (4 * b + p) = σ.1 8 (8 * b + 2 * p + 1)) ∧ RcL σ μ
/-- a note as a step -/
def kdE (w : Int32) : Int32 := if w = 0 then 2 else if w = 1 then 3 else if w = 2 then 149 else if w = 3 then 150 else if w = 20 then 152 else if w = 21 then 151 else if w = 22 then 153 else if w = 23 then 61 else if w = 24 then 60 else if w = 25 then 62 else if w = 26 then 43 else if w = 27 then 45 else 42
def stE (w n : Int32) : Int32 := kdE w <<< (16 &&& 31) ||| (if w = 0 ∨ w = 1 ∨ w = 2 then n else 0)
def RcR (σ μ : Mem) : Prop := μ.1 25 0 = σ.1 0 72 ∧ (0 < rlN σ → σ.1 45 0 = 0) ∧ (∀ r, r < rlN σ → μ.1 26 r = σ.1 49 r ∧ μ.1 27 r = σ.1 45 (r + 1)) ∧ ∀ r, r < rlN σ → ∀ k, k < bgN σ (r + 1) → μ.1 28 k = stE (σ.1 43 k) (σ.1 44 k)
/-- the words' keys, in their order -/
def wdK : List (List Nat) := [[24, 15, 2], [13, 18, 1, 23], [16, 13, 1, 4], [14, 9, 1, 18], [4, 14, 9, 23], [15, 18, 5, 26], [5, 16, 15, 12, 19], [7, 1, 12], [5, 18, 9, 20], [15, 20], [6, 6, 15], [4, 5, 22, 15, 13], [8, 19, 5, 18, 6], [14, 15], [14, 5, 11, 15, 18, 2], [25, 1, 4, 9, 12, 15, 8], [5, 4, 1, 13], [6, 9], [25, 1, 19], [20, 5, 23], [25, 18, 4], [20, 19, 1, 12], [25, 1, 4], [4, 14, 1], [18, 15], [20, 15, 14]]
def RcX (μ : Mem) : Prop := (∀ w, w < 26 → μ.2.1 3 w = e27 (wdK.getD w [])) ∧ ∀ b, b < 5 → μ.1 (48 + 5 * b) 3 = nI b
def LC (σ μ : Mem) : Prop := RcT σ μ ∧ RcF σ μ ∧ RcH σ μ ∧ RcR σ μ ∧ RcX μ
theorem Kc.n {a b : Mem} (h : Kc a b) : wthN b = wthN a := by unfold wthN; rw [h.1 4 1 (by omega)]
theorem Kc.th {a b : Mem} (h : Kc a b) (k w d : Int32) : wth b k w d ↔ wth a k w d := by
  unfold wth
  rw [h.n]
  constructor
  · rintro ⟨i, h1, h2⟩
    refine ⟨i, h1, ?_⟩
    unfold lnP at h2 ⊢
    rw [← h.1 10 i (by omega), ← h.1 11 i (by omega), ← h.1 12 i (by omega), ← h.1 13 i (by omega)]
    exact h2
  · rintro ⟨i, h1, h2⟩
    refine ⟨i, h1, ?_⟩
    unfold lnP at h2 ⊢
    rw [h.1 10 i (by omega), h.1 11 i (by omega), h.1 12 i (by omega), h.1 13 i (by omega)]
    exact h2
theorem RcL.keep {σ a b : Mem} (h : RcL σ a) (g : Kc a b) : RcL σ b := by
  obtain ⟨h1, h2, h3, h4, h5, h6, h7⟩ := h
  have en := g.n
  refine ⟨⟨by rw [en]; exact h1.1, by rw [en, g.1 4 1 (by omega)]; exact h1.2⟩, fun d hd => (h2 d hd).trans (g.th _ _ _).symm, fun d hd => (h3 d hd).trans (g.th _ _ _).symm, fun x d hx hd => (h4 x d hx hd).trans (g.th _ _ _).symm, fun x d hx hd => ?_, fun x d hx hd => ?_, fun i hi => ?_⟩
  · refine (h5 x d hx hd).trans ?_
    rw [en]
    constructor
    · rintro ⟨i, i1, i2, i3, i4⟩; exact ⟨i, i1, (g.1 10 i (by omega)).trans i2, (g.1 11 i (by omega)).trans i3, (g.1 12 i (by omega)).trans i4⟩
    · rintro ⟨i, i1, i2, i3, i4⟩; exact ⟨i, i1, (g.1 10 i (by omega)).symm.trans i2, (g.1 11 i (by omega)).symm.trans i3, (g.1 12 i (by omega)).symm.trans i4⟩
  · refine (h6 x d hx hd).trans ?_
    rw [en]
    constructor
    · rintro ⟨i, i1, i2, i3, i4⟩; exact ⟨i, i1, (g.1 10 i (by omega)).trans i2, (g.1 11 i (by omega)).trans i3, (g.1 12 i (by omega)).trans i4⟩
    · rintro ⟨i, i1, i2, i3, i4⟩; exact ⟨i, i1, (g.1 10 i (by omega)).symm.trans i2, (g.1 11 i (by omega)).symm.trans i3, (g.1 12 i (by omega)).symm.trans i4⟩
  · rw [en] at hi
    obtain ⟨f, t, f1, f2, f3, f4⟩ := h7 i hi
    exact ⟨f, t, f1, f2, (g.1 12 i (by omega)).trans f3, (g.1 13 i (by omega)).trans f4⟩
theorem RcT.keep {σ a b : Mem} (h : RcT σ a) (g : Kc a b) : RcT σ b := ⟨(g.1 0 1 (by omega)).trans h.1, (g.1 0 2 (by omega)).trans h.2.1, (g.1 0 3 (by omega)).trans h.2.2.1, fun j hj => by rw [g.1 1 j (by omega)]; exact h.2.2.2 j hj⟩
theorem RcF.keep {σ a b : Mem} (h : RcF σ a) (g : Kc a b) : RcF σ b := by
  obtain ⟨h1, h2, h3, h4, h5⟩ := h
  refine ⟨(g.1 36 0 (by omega)).trans h1, (g.1 36 1 (by omega)).trans h2, by rw [g.2 36 3 (by omega)]; exact h3, by rw [g.1 36 4 (by omega)]; exact h4, fun f hf => ?_⟩
  rw [g.1 37 f (by omega), g.1 38 f (by omega), g.1 39 f (by omega), g.1 40 f (by omega), g.1 41 f (by omega), g.1 42 f (by omega)]
  exact h5 f hf
theorem RcH.keep {σ a b : Mem} (h : RcH σ a) (g : Kc a b) : RcH σ b := by
  obtain ⟨h1, h2, h3, h4⟩ := h
  refine ⟨(g.1 4 0 (by omega)).trans h1, (g.1 4 1 (by omega)).trans h2, fun x hx => ?_, h4.keep g⟩
  obtain ⟨a1, a2, a3, a4⟩ := h3 x hx
  refine ⟨by rw [g.2 5 x (by omega)]; exact a1, (g.1 6 x (by omega)).trans a2, (g.1 7 x (by omega)).trans a3, fun p hp => ?_⟩
  rw [g.1 8 _ (by omega), g.1 9 _ (by omega)]
  exact a4 p hp
theorem RcR.keep {σ a b : Mem} (h : RcR σ a) (g : Kc a b) : RcR σ b := by
  obtain ⟨h1, h0, h2, h3⟩ := h
  refine ⟨(g.1 25 0 (by omega)).trans h1, h0, fun r hr => ?_, fun r hr k hk => ?_⟩
  · rw [g.1 26 r (by omega), g.1 27 r (by omega)]; exact h2 r hr
  · rw [g.1 28 k (by omega)]; exact h3 r hr k hk
theorem RcX.keep {a b : Mem} (h : RcX a) (g : Kc a b) : RcX b := ⟨fun w hw => (g.2 3 w (by omega)).trans (h.1 w hw), fun x hx => (g.1 _ 3 (by omega)).trans (h.2 x hx)⟩
theorem LC.keep {σ a b : Mem} (h : LC σ a) (g : Kc a b) : LC σ b := ⟨h.1.keep g, h.2.1.keep g, h.2.2.1.keep g, h.2.2.2.1.keep g, h.2.2.2.2.keep g⟩
/-! Known -/
def KnI (σ : Mem) (k : Int32) (n : Nat) (μ : Mem) : Prop := (∀ j, j < 240 → μ.1 44 j = layF σ k n j) ∧ (∀ j, j < 300 → μ.1 45 j = layR σ k n j) ∧ ∀ j, j < 300 → layR σ k n j ≠ -100000 → μ.1 46 j = layW σ k n j
abbrev Kn (σ : Mem) (k : Int32) (μ : Mem) : Prop := KnI σ k (nfc σ) μ
theorem RcF.db {σ μ : Mem} (h : RcF σ μ) {r : Nat} (hr : r < 10) : fdb μ r ↔ ¬ σ.1 28 r = 0 := by
  obtain ⟨-, -, -, ⟨D, h1, h2, h3⟩, -⟩ := h
  unfold fdb
  rw [h2, bit_1 (by omega) (by omega), h3 r hr]
  cases D.testBit r <;> simp
theorem RcF.sh {σ μ : Mem} (h : RcF σ μ) {d : Nat} (hd : d < 60) : fsh μ d ↔ ¬ σ.1 27 d = 0 := by
  obtain ⟨-, -, ⟨N, h1, h2, h3⟩, -, -⟩ := h
  unfold fsh
  rw [h2, bit_L h1 hd, h3 d hd]
  cases N.testBit d <;> simp
/-- what entering a fact does -/
def enM (σ μ : Mem) (f : Nat) : Mem := if σ.1 26 f = 0 then (if σ.1 18 (σ.1 21 f).toNatClampNeg = 0 ∧ σ.1 17 (ps σ f) = 0 ∧ σ.1 28 (σ.1 22 f).toNatClampNeg = 0 then wI (wI μ 45 (ps σ f) (σ.1 23 f)) 46 (ps σ f) (σ.1 22 f) else μ) else wI μ 44 (ps σ f) (σ.1 23 f)
theorem enter_far {σ : Mem} {f : Nat} (h : okFt σ f) : (if σ.1 26 f = 0 then σ.1 22 f else -1) = -1 ↔ ¬ σ.1 26 f = 0 := by
  obtain ⟨-, ⟨q, d, r, -, -, h3, -, -, -, -, h8⟩, -⟩ := h
  constructor
  · intro z y
    rw [if_pos y, h3] at z
    have := i_eq.mp z
    rw [nI_i (by omega)] at this
    have h9 : (-1 : Int32).toInt = -1 := rfl
    omega
  · intro z; exact if_neg z
set_option maxHeartbeats 200000 in
set_option maxRecDepth 100000 in
theorem T_X4_enter {l : Launch} {G : Wd} {f : Nat} {σ μ : Mem} (hF : RcF σ μ) (hL : RcL σ μ) (hf : f < nfc σ) (hf3 : f < 300) (hok : okFt σ f) : Mt l G KC yX4_enter cX4_enter 6 none 4 [.ref (gA G 43), .int (nI f)] μ (Qv (fun μ' => μ' = enM σ μ f)) := by
  refine Mt.of (own := RX4) (n := 4) (by decide) rfl [some (.ref (gA G 43)), some (.int (nI f)), none, none, none, none] rfl (Nat.le_of_ble_eq_true rfl) ?_
  obtain ⟨ep, ep3, ep2⟩ := okFt_ps hok
  obtain ⟨g1, g2, g3, g4, -, -⟩ := hF.2.2.2.2 f hf
  have hok2 := hok
  obtain ⟨h01, ⟨q, d, r, h1, h2, h3, h4, h5, -, h6, h8⟩, -⟩ := hok2
  have eps : ps σ f = 60 * q + d := by unfold ps; rw [h1, h2, nI_60, nI_c (by omega)]
  have ep2' : ¬ σ.1 26 f = 0 → ps σ f < 240 := fun z => ep2 (by rcases h01 with y | y; exact absurd y z; exact y)
  refine A_aload0 dX4_enter_0 ?_
  refine A_getR gf_X4_9 rfl dX4_enter_1 ?_
  refine A_getR gf_X4_64 rfl dX4_enter_4 ?_
  refine A_iload1 dX4_enter_7 ?_
  refine A_iald (rfl) (vp_in_nI (by omega) (by omega)) dX4_enter_8 ?_
  rw [nI_c (by omega), g1, h1]
  refine A_istore2 dX4_enter_9 rfl (by decide) ?_
  refine A_aload0 dX4_enter_10 ?_
  refine A_getR gf_X4_9 rfl dX4_enter_11 ?_
  refine A_getR gf_X4_67 rfl dX4_enter_14 ?_
  refine A_iload1 dX4_enter_17 ?_
  refine A_iald (rfl) (vp_in_nI (by omega) (by omega)) dX4_enter_18 ?_
  rw [nI_c (by omega), g2, h2]
  refine A_istore3 dX4_enter_19 rfl (by decide) ?_
  refine A_aload0 dX4_enter_20 ?_
  refine A_getR gf_X4_9 rfl dX4_enter_21 ?_
  refine A_getR gf_X4_70 rfl dX4_enter_24 ?_
  refine A_iload1 dX4_enter_27 ?_
  refine A_iald (rfl) (vp_in_nI (by omega) (by omega)) dX4_enter_28 ?_
  rw [nI_c (by omega)]
  refine A_val g3 ?_
  refine A_istore4 dX4_enter_29 rfl (by decide) ?_
  refine A_iload2 dX4_enter_31 ?_
  refine A_bipush (v := 60) dX4_enter_32 (by decide) ?_
  refine A_imul dX4_enter_34 ?_
  refine A_iload3 dX4_enter_35 ?_
  refine A_iadd dX4_enter_36 ?_
  rw [show nI q * 60 + nI d = nI (ps σ f) by rw [← ep, h1, h2, show (60 : Int32) = nI 60 from rfl, pk_mul, pk_mul, nI_add, nI_add, Nat.mul_comm]]
  refine A_istore5 dX4_enter_37 rfl (by decide) ?_
  refine A_iload4 dX4_enter_39 ?_
  refine A_iconst (v := -1) dX4_enter_41 (by decide) ?_
  refine A_icmp_ne (tgt := 64) dX4_enter_42 (by decide) (fun c_42 => ?_) (fun c_42 => ?_)
  · have n1 : (if σ.1 26 f = 0 then σ.1 22 f else -1) = nI r := (if_pos (Decidable.not_not.mp (fun y => c_42 ((enter_far hok).mpr y)))).trans h3
    refine A_aload0 dX4_enter_64 ?_
    refine A_getR gf_X4_9 rfl dX4_enter_65 ?_
    refine A_iload4 dX4_enter_68 ?_
    refine A_sets (st' := [.int (nI r), .ref (gA G 36)]) (by rw [n1]) ?_
    refine A_vi1 lk_X4_74 yv_X1_isDoubted dX4_enter_70 (rfl) (rfl) (T_X1_isDoubted) (by decide) (Nat.le_of_ble_eq_true rfl) (fun r_70 μ_70 h_70 => ?_)
    obtain ⟨v_70, e_70⟩ := h_70
    replace v_70 := Eq.symm v_70
    subst v_70
    replace e_70 := e_70.symm
    subst e_70
    refine A_if_ne (tgt := 113) dX4_enter_73 (by decide) (fun c_73 => ?_) (fun c_73 => ?_)
    · refine A_vret dX4_enter_113 ?_
      have n0 : σ.1 26 f = 0 := Decidable.not_not.mp (fun y => c_42 ((enter_far hok).mpr y))
      refine ⟨rfl, ((if_pos n0).trans (if_neg (fun y => ?_))).symm⟩
      have y3 := y.2.2
      rw [h3, nI_c (by omega)] at y3
      exact (hF.db h8).mp (bz_y c_73) y3
    · refine A_aload0 dX4_enter_76 ?_
      refine A_getR gf_X4_15 rfl dX4_enter_77 ?_
      refine A_iload2 dX4_enter_80 ?_
      refine A_iload3 dX4_enter_81 ?_
      refine A_vi2 lk_X4_78 yv_X2_canRead dX4_enter_82 (rfl) (rfl) (T_X2_canRead hL.1) (by decide) (Nat.le_of_ble_eq_true rfl) (fun r_82 μ_82 h_82 => ?_)
      obtain ⟨v_82, e_82⟩ := h_82
      replace e_82 := Eq.symm e_82
      subst e_82
      refine A_if_eq (tgt := 113) dX4_enter_85 (by decide) (fun c_85 => ?_) (fun c_85 => ?_)
      · refine A_vret dX4_enter_113 ?_
        have n0 : σ.1 26 f = 0 := Decidable.not_not.mp (fun y => c_42 ((enter_far hok).mpr y))
        refine ⟨rfl, ((if_pos n0).trans (if_neg (fun y => ?_))).symm⟩
        rcases v_82 with x | x
        · exact absurd (x.1.symm.trans c_85) (by decide)
        · have y1 := y.1
          have y2 := y.2.1
          rw [h2, nI_c (by omega)] at y1
          rw [eps] at y2
          rcases x.2 with x2 | x2
          · exact (hL.2.1 d h6).mpr x2 y1
          · exact (hL.2.2.2.1 q d h4 h6).mpr x2 y2
      · refine A_aload0 dX4_enter_88 ?_
        refine A_getR gf_X4_25 rfl dX4_enter_89 ?_
        refine A_iload5 dX4_enter_92 ?_
        refine A_aload0 dX4_enter_94 ?_
        refine A_getR gf_X4_9 rfl dX4_enter_95 ?_
        refine A_getR gf_X4_71 rfl dX4_enter_98 ?_
        refine A_iload1 dX4_enter_101 ?_
        refine A_iald (rfl) (vp_in_nI (by omega) (by omega)) dX4_enter_102 ?_
        rw [nI_c (by omega), g4]
        refine A_iast (rfl) (vp_in_nI (by omega) (by omega)) dX4_enter_103 ?_
        rw [nI_c (by omega)]
        refine A_aload0 dX4_enter_104 ?_
        refine A_getR gf_X4_28 rfl dX4_enter_105 ?_
        refine A_iload5 dX4_enter_108 ?_
        refine A_iload4 dX4_enter_110 ?_
        refine A_iast (rfl) (vp_in_nI (by omega) (by omega)) dX4_enter_112 ?_
        rw [nI_c (by omega)]
        refine A_vret dX4_enter_113 ?_
        have n0 : σ.1 26 f = 0 := Decidable.not_not.mp (fun y => c_42 ((enter_far hok).mpr y))
        refine ⟨rfl, ((if_pos n0).trans ((if_pos ?_).trans ?_)).symm⟩
        · rcases v_82 with x | x
          · refine ⟨?_, ?_, ?_⟩
            · rw [h2, nI_c (by omega)]; exact Decidable.not_not.mp (fun y => x.2.1 ((hL.2.1 d h6).mp y))
            · rw [eps]; exact Decidable.not_not.mp (fun y => x.2.2 ((hL.2.2.2.1 q d h4 h6).mp y))
            · rw [h3, nI_c (by omega)]; exact Decidable.not_not.mp (fun y => bz_0.mp c_73 ((hF.db h8).mpr y))
          · exact absurd x.1 c_85
        · rw [if_pos n0]
  · refine A_aload0 dX4_enter_45 ?_
    refine A_getR gf_X4_19 rfl dX4_enter_46 ?_
    refine A_iload5 dX4_enter_49 ?_
    refine A_aload0 dX4_enter_51 ?_
    refine A_getR gf_X4_9 rfl dX4_enter_52 ?_
    refine A_getR gf_X4_71 rfl dX4_enter_55 ?_
    refine A_iload1 dX4_enter_58 ?_
    refine A_iald (rfl) (vp_in_nI (by omega) (by omega)) dX4_enter_59 ?_
    rw [nI_c (by omega), g4]
    refine A_iast (rfl) (vp_in_nI (ep2' ((enter_far hok).mp c_42)) (by omega)) dX4_enter_60 ?_
    rw [nI_c (by omega)]
    refine A_goto (tgt := 113) dX4_enter_61 (by decide) ?_
    refine A_vret dX4_enter_113 ?_
    have n0 : ¬ σ.1 26 f = 0 := (enter_far hok).mp c_42
    exact ⟨rfl, (if_neg n0).symm⟩
theorem enM_k {σ μ : Mem} {f : Nat} : Kc μ (enM σ μ f) := by
  unfold enM
  split
  · split
    · exact (Kc.rf.w (by omega)).w (by omega)
    · exact Kc.rf
  · exact Kc.rf.w (by omega)
theorem enM_o {σ μ : Mem} {f i j : Nat} (hi : i < 44 ∨ 46 < i) : (enM σ μ f).1 i j = μ.1 i j := by
  unfold enM
  split
  · split
    · rw [wI_ne (by omega), wI_ne (by omega)]
    · rfl
  · rw [wI_ne (by omega)]
theorem enM_l {σ μ : Mem} {f : Nat} : (enM σ μ f).2 = μ.2 := by
  unfold enM
  split
  · split <;> rfl
  · rfl
theorem KnI.skip {σ μ : Mem} {k : Int32} {n : Nat} (h : KnI σ k n μ) (h1 : ¬ kn σ k n) : KnI σ k (n + 1) μ := by
  obtain ⟨b, c, d⟩ := h
  refine ⟨fun j hj => ?_, fun j hj => ?_, fun j hj => ?_⟩
  · rw [layF, if_neg (fun z => h1 z.1)]; exact b j hj
  · rw [layR, if_neg (fun z => h1 z.1.1)]; exact c j hj
  · rw [layR, if_neg (fun z => h1 z.1.1), layW, if_neg (fun z => h1 z.1.1)]; exact d j hj
theorem KnI.en {σ μ : Mem} {k : Int32} {n : Nat} (h : KnI σ k n μ) (h1 : kn σ k n) : KnI σ k (n + 1) (enM σ μ n) := by
  obtain ⟨b, c, d⟩ := h
  unfold enM
  by_cases e : σ.1 26 n = 0
  · rw [if_pos e]
    by_cases e2 : σ.1 18 (σ.1 21 n).toNatClampNeg = 0 ∧ σ.1 17 (ps σ n) = 0 ∧ σ.1 28 (σ.1 22 n).toNatClampNeg = 0
    · rw [if_pos e2]
      have hc : cnt σ k n := ⟨h1, e, e2⟩
      refine ⟨fun j hj => ?_, fun j hj => ?_, fun j hj => ?_⟩
      · rw [layF, if_neg (fun z => z.2.1 e), wI_ne (by omega), wI_ne (by omega)]; exact b j hj
      · rw [layR]
        by_cases e3 : ps σ n = j
        · rw [if_pos ⟨hc, e3⟩, wI_ne (by omega), e3, wI_same]
        · rw [if_neg (fun z => e3 z.2), wI_ne (by omega), wI_ne (by omega)]; exact c j hj
      · rw [layR, layW]
        by_cases e3 : ps σ n = j
        · intro _; rw [if_pos ⟨hc, e3⟩, e3, wI_same]
        · rw [if_neg (fun z => e3 z.2), if_neg (fun z => e3 z.2), wI_ne (by omega), wI_ne (by omega)]; exact d j hj
    · rw [if_neg e2]
      have hc : ¬ cnt σ k n := fun z => e2 z.2.2
      refine ⟨fun j hj => ?_, fun j hj => ?_, fun j hj => ?_⟩
      · rw [layF, if_neg (fun z => z.2.1 e)]; exact b j hj
      · rw [layR, if_neg (fun z => hc z.1)]; exact c j hj
      · rw [layR, if_neg (fun z => hc z.1), layW, if_neg (fun z => hc z.1)]; exact d j hj
  · rw [if_neg e]
    have hc : ¬ cnt σ k n := fun z => e z.2.1
    refine ⟨fun j hj => ?_, fun j hj => ?_, fun j hj => ?_⟩
    · rw [layF]
      by_cases e3 : ps σ n = j
      · rw [if_pos ⟨h1, e, e3⟩, e3, wI_same]
      · rw [if_neg (fun z => e3 z.2.2), wI_ne (by omega)]; exact b j hj
    · rw [layR, if_neg (fun z => hc z.1), wI_ne (by omega)]; exact c j hj
    · rw [layR, if_neg (fun z => hc z.1), layW, if_neg (fun z => hc z.1), wI_ne (by omega)]; exact d j hj
theorem kn_C {σ μ : Mem} {k : Int32} {f : Nat} (hF : RcF σ μ) (hf : f < nfc σ) (hok : okFt σ f) : knC μ k f ↔ kn σ k f := by
  obtain ⟨-, -, -, -, g5, g6⟩ := hF.2.2.2.2 f hf
  unfold knC
  rw [g5, g6]
  obtain ⟨-, -, -, h7⟩ := hok
  constructor
  · rintro ⟨a1, a2⟩ (z | ⟨z1, z2⟩)
    · rw [i_le] at a1; rw [i_lt] at z; omega
    · rcases a2 with a2 | a2
      · rw [a2] at z1; exact absurd z1 (by decide)
      · rw [i_lt] at a2; rw [i_le] at z2; omega
  · intro z
    have z1 : ¬ k < σ.1 24 f := fun y => z (Or.inl y)
    refine ⟨Int32.not_lt.mp z1, ?_⟩
    rcases h7 with y | y
    · exact Or.inl y
    · exact Or.inr (Int32.not_le.mp (fun x => z (Or.inr ⟨y, x⟩)))
/-- what a new edition leaves as it was -/
def AtK (μ : Mem) (k : Int32) (μ' : Mem) : Prop := μ'.1 43 5 = k ∧ μ'.1 43 6 = μ.1 36 2 ∧ μ'.1 43 7 = μ.1 43 7 + 1 ∧ μ'.2 = μ.2 ∧ ∀ i j, (i < 43 ∨ 46 < i) → μ'.1 i j = μ.1 i j
theorem AtK.k {μ μ' : Mem} {k : Int32} (h : AtK μ k μ') : Kc μ μ' := ⟨fun i j q => h.2.2.2.2 i j (by omega), fun i j _ => by rw [h.2.2.2.1]⟩
set_option maxHeartbeats 200000 in
set_option maxRecDepth 100000 in
theorem L_X4_at {l : Launch} {G : Wd} {σ μ : Mem} {k : Int32} (hF : RcF σ μ) (hL : RcL σ μ) (hw : WFf σ) (h0 : ¬ (0 < μ.1 43 7 ∧ k = μ.1 43 5 ∧ μ.1 43 6 = μ.1 36 2)) : ∀ (q f : Nat) (m : Mem), q + f = nfc σ → KnI σ k f m → AtK μ k m → AW l G KC RX4 cX4_at 3 5 none (Qv (fun μ' => (0 < μ.1 43 7 ∧ k = μ.1 43 5 ∧ μ.1 43 6 = μ.1 36 2 ∧ μ' = μ) ∨ (¬ (0 < μ.1 43 7 ∧ k = μ.1 43 5 ∧ μ.1 43 6 = μ.1 36 2) ∧ Kn σ k μ' ∧ AtK μ k μ'))) 84 [some (.ref (gA G 43)), some (.int k), some (.int (nI f))] [] m := by
  have hn3 : nfc σ ≤ 300 ∧ σ.1 0 42 = nI (nfc σ) := by
    obtain ⟨t, t1, t2⟩ := hw.1
    have e : nfc σ = t := by unfold nfc; rw [t2]; exact nI_c (by omega)
    rw [e]; exact ⟨t1, t2⟩
  have hct : ∀ m, AtK μ k m → m.1 36 0 = nI (nfc σ) := fun m h => (h.2.2.2.2 36 0 (by omega)).trans (hF.1.trans hn3.2)
  intro q
  induction q with
  | zero =>
    intro f m hq hK hA
    obtain rfl : f = nfc σ := by omega
    refine A_iload2 dX4_at_84 ?_
    refine A_aload0 dX4_at_85 ?_
    refine A_getR gf_X4_9 rfl dX4_at_86 ?_
    refine A_getI gf_X4_53 rfl dX4_at_89 ?_
    rw [hct m hA]
    refine A_icmp_ge (tgt := 118) dX4_at_92 (by decide) (fun c_92 => ?_) (fun c_92 => absurd c_92 (fun z => z (Int32.le_refl _)))
    refine A_vret dX4_at_118 ?_
    exact ⟨rfl, Or.inr ⟨h0, hK, hA⟩⟩
  | succ q ih =>
    intro f m hq hK hA
    have hf : f < nfc σ := by omega
    have hok := hw.2 f hf
    have hFm := hF.keep hA.k
    have hLm := hL.keep hA.k
    refine A_iload2 dX4_at_84 ?_
    refine A_aload0 dX4_at_85 ?_
    refine A_getR gf_X4_9 rfl dX4_at_86 ?_
    refine A_getI gf_X4_53 rfl dX4_at_89 ?_
    rw [hct m hA]
    refine A_icmp_ge (tgt := 118) dX4_at_92 (by decide) (fun c_92 => absurd c_92 (fun z => nI_ge (by omega) (by omega) z)) (fun c_92 => ?_)
    refine A_aload0 dX4_at_95 ?_
    refine A_getR gf_X4_9 rfl dX4_at_96 ?_
    refine A_iload2 dX4_at_99 ?_
    refine A_iload1 dX4_at_100 ?_
    refine A_vi2 lk_X4_56 yv_X1_isKnown dX4_at_101 (rfl) (rfl) (T_X1_isKnown (by omega)) (by decide) (Nat.le_of_ble_eq_true rfl) (fun r_101 μ_101 h_101 => ?_)
    obtain ⟨v_101, e_101⟩ := h_101
    replace v_101 := Eq.symm v_101
    subst v_101
    replace e_101 := e_101.symm
    subst e_101
    refine A_if_eq (tgt := 112) dX4_at_104 (by decide) (fun c_104 => ?_) (fun c_104 => ?_)
    · refine A_iinc2 dX4_at_112 rfl rfl (by decide) ?_
      refine A_goto (tgt := 84) dX4_at_115 (by decide) ?_
      rw [show nI f + Int32.ofInt 1 = nI (f + 1) from nI_1 f]
      exact ih (f + 1) m (by omega) (hK.skip (fun z => bz_0.mp c_104 ((kn_C hFm hf hok).mpr z))) hA
    · refine A_aload0 dX4_at_107 ?_
      refine A_iload2 dX4_at_108 ?_
      refine A_vv1 lk_X4_60 yv_X4_enter dX4_at_109 (rfl) (rfl) (T_X4_enter hFm hLm hf (by omega) hok) (by decide) (Nat.le_of_ble_eq_true rfl) (fun μ_109 h_109 => ?_)
      refine A_iinc2 dX4_at_112 rfl rfl (by decide) ?_
      refine A_goto (tgt := 84) dX4_at_115 (by decide) ?_
      rw [show nI f + Int32.ofInt 1 = nI (f + 1) from nI_1 f]
      rw [h_109]
      have hkn := (kn_C hFm hf hok).mp (bz_y c_104)
      exact ih (f + 1) _ (by omega) (hK.en hkn) ⟨(enM_o (by omega)).trans hA.1, (enM_o (by omega)).trans hA.2.1, (enM_o (by omega)).trans hA.2.2.1, enM_l.trans hA.2.2.2.1, fun i j hij => (enM_o (by omega)).trans (hA.2.2.2.2 i j hij)⟩
theorem wRow_o {μ : Mem} {i n a b : Nat} {v : Int32} (h : a ≠ i ∨ n ≤ b) : (wRow μ i n v).1 a b = μ.1 a b := if_neg (by omega)
theorem wRow_i {μ : Mem} {i n b : Nat} {v : Int32} (h : b < n) : (wRow μ i n v).1 i b = v := if_pos ⟨rfl, h⟩
set_option maxHeartbeats 100000 in
set_option maxRecDepth 100000 in
theorem T_X4_at {l : Launch} {G : Wd} {k : Int32} {σ μ : Mem} (hF : RcF σ μ) (hL : RcL σ μ) (hw : WFf σ) : Mt l G KC yX4_at cX4_at 3 none 5 [.ref (gA G 43), .int k] μ (Qv (fun μ' => (0 < μ.1 43 7 ∧ k = μ.1 43 5 ∧ μ.1 43 6 = μ.1 36 2 ∧ μ' = μ) ∨ (¬ (0 < μ.1 43 7 ∧ k = μ.1 43 5 ∧ μ.1 43 6 = μ.1 36 2) ∧ Kn σ k μ' ∧ AtK μ k μ'))) := by
  refine Mt.of (own := RX4) (n := 1) (by decide) rfl [some (.ref (gA G 43)), some (.int k), none] rfl (Nat.le_of_ble_eq_true rfl) ?_
  refine A_aload0 dX4_at_0 ?_
  refine A_getI gf_X4_31 rfl dX4_at_1 ?_
  refine A_if_le (tgt := 30) dX4_at_4 (by decide) (fun c_4 => ?_) (fun c_4 => ?_)
  · refine A_aload0 dX4_at_30 ?_
    refine A_iload1 dX4_at_31 ?_
    refine A_putI gf_X4_35 rfl dX4_at_32 ?_
    refine A_aload0 dX4_at_35 ?_
    refine A_aload0 dX4_at_36 ?_
    refine A_getR gf_X4_9 rfl dX4_at_37 ?_
    refine A_getI gf_X4_41 rfl dX4_at_40 ?_
    refine A_putI gf_X4_38 rfl dX4_at_43 ?_
    refine A_aload0 dX4_at_46 ?_
    refine A_dup dX4_at_47 rfl ?_
    refine A_getI gf_X4_31 rfl dX4_at_48 ?_
    refine A_iconst (v := 1) dX4_at_51 (by decide) ?_
    refine A_iadd dX4_at_52 ?_
    refine A_putI gf_X4_31 rfl dX4_at_53 ?_
    refine A_aload0 dX4_at_56 ?_
    refine A_getR gf_X4_19 rfl dX4_at_57 ?_
    refine A_ldc dX4_at_60 kc_X4_46 ?_
    refine A_sv2 lk_X4_47 ys_J7_fill_53178 dX4_at_62 (T_fill (n := 240) (by decide) rfl) (by decide) (Nat.le_of_ble_eq_true rfl) (fun μ_62 h_62 => ?_)
    refine A_aload0 dX4_at_65 ?_
    refine A_getR gf_X4_25 rfl dX4_at_66 ?_
    refine A_ldc dX4_at_69 kc_X4_46 ?_
    refine A_sv2 lk_X4_47 ys_J7_fill_53178 dX4_at_71 (T_fill (n := 300) (by decide) rfl) (by decide) (Nat.le_of_ble_eq_true rfl) (fun μ_71 h_71 => ?_)
    refine A_aload0 dX4_at_74 ?_
    refine A_getR gf_X4_28 rfl dX4_at_75 ?_
    refine A_iconst (v := -1) dX4_at_78 (by decide) ?_
    refine A_sv2 lk_X4_47 ys_J7_fill_53178 dX4_at_79 (T_fill (n := 300) (by decide) rfl) (by decide) (Nat.le_of_ble_eq_true rfl) (fun μ_79 h_79 => ?_)
    refine A_iconst (v := 0) dX4_at_82 (by decide) ?_
    refine A_istore2 dX4_at_83 rfl (by decide) ?_
    have h0 : ¬ (0 < μ.1 43 7 ∧ k = μ.1 43 5 ∧ μ.1 43 6 = μ.1 36 2) := fun z => absurd z.1 (Int32.not_lt.mpr c_4)
    rw [h_79, h_71, h_62]
    refine L_X4_at hF hL hw h0 (nfc σ) 0 _ (by omega) ⟨fun j hj => ?_, fun j hj => ?_, fun j hj z => absurd rfl z⟩ ⟨?_, ?_, ?_, rfl, fun i j hij => ?_⟩
    · rw [wRow_o (by omega), wRow_o (by omega), wRow_i hj]; rfl
    · rw [wRow_o (by omega), wRow_i hj]; rfl
    · rw [wRow_o (by omega), wRow_o (by omega), wRow_o (by omega), wI_ne (by omega), wI_ne (by omega), wI_same]
    · rw [wRow_o (by omega), wRow_o (by omega), wRow_o (by omega), wI_ne (by omega), wI_same, wI_ne (by omega)]
    · rw [wRow_o (by omega), wRow_o (by omega), wRow_o (by omega), wI_same, wI_ne (by omega), wI_ne (by omega)]
    · rw [wRow_o (by omega), wRow_o (by omega), wRow_o (by omega), wI_ne (by omega), wI_ne (by omega), wI_ne (by omega)]
  · refine A_iload1 dX4_at_7 ?_
    refine A_aload0 dX4_at_8 ?_
    refine A_getI gf_X4_35 rfl dX4_at_9 ?_
    refine A_icmp_ne (tgt := 30) dX4_at_12 (by decide) (fun c_12 => ?_) (fun c_12 => ?_)
    · refine A_aload0 dX4_at_30 ?_
      refine A_iload1 dX4_at_31 ?_
      refine A_putI gf_X4_35 rfl dX4_at_32 ?_
      refine A_aload0 dX4_at_35 ?_
      refine A_aload0 dX4_at_36 ?_
      refine A_getR gf_X4_9 rfl dX4_at_37 ?_
      refine A_getI gf_X4_41 rfl dX4_at_40 ?_
      refine A_putI gf_X4_38 rfl dX4_at_43 ?_
      refine A_aload0 dX4_at_46 ?_
      refine A_dup dX4_at_47 rfl ?_
      refine A_getI gf_X4_31 rfl dX4_at_48 ?_
      refine A_iconst (v := 1) dX4_at_51 (by decide) ?_
      refine A_iadd dX4_at_52 ?_
      refine A_putI gf_X4_31 rfl dX4_at_53 ?_
      refine A_aload0 dX4_at_56 ?_
      refine A_getR gf_X4_19 rfl dX4_at_57 ?_
      refine A_ldc dX4_at_60 kc_X4_46 ?_
      refine A_sv2 lk_X4_47 ys_J7_fill_53178 dX4_at_62 (T_fill (n := 240) (by decide) rfl) (by decide) (Nat.le_of_ble_eq_true rfl) (fun μ_62 h_62 => ?_)
      refine A_aload0 dX4_at_65 ?_
      refine A_getR gf_X4_25 rfl dX4_at_66 ?_
      refine A_ldc dX4_at_69 kc_X4_46 ?_
      refine A_sv2 lk_X4_47 ys_J7_fill_53178 dX4_at_71 (T_fill (n := 300) (by decide) rfl) (by decide) (Nat.le_of_ble_eq_true rfl) (fun μ_71 h_71 => ?_)
      refine A_aload0 dX4_at_74 ?_
      refine A_getR gf_X4_28 rfl dX4_at_75 ?_
      refine A_iconst (v := -1) dX4_at_78 (by decide) ?_
      refine A_sv2 lk_X4_47 ys_J7_fill_53178 dX4_at_79 (T_fill (n := 300) (by decide) rfl) (by decide) (Nat.le_of_ble_eq_true rfl) (fun μ_79 h_79 => ?_)
      refine A_iconst (v := 0) dX4_at_82 (by decide) ?_
      refine A_istore2 dX4_at_83 rfl (by decide) ?_
      have h0 : ¬ (0 < μ.1 43 7 ∧ k = μ.1 43 5 ∧ μ.1 43 6 = μ.1 36 2) := fun z => c_12 z.2.1
      rw [h_79, h_71, h_62]
      refine L_X4_at hF hL hw h0 (nfc σ) 0 _ (by omega) ⟨fun j hj => ?_, fun j hj => ?_, fun j hj z => absurd rfl z⟩ ⟨?_, ?_, ?_, rfl, fun i j hij => ?_⟩
      · rw [wRow_o (by omega), wRow_o (by omega), wRow_i hj]; rfl
      · rw [wRow_o (by omega), wRow_i hj]; rfl
      · rw [wRow_o (by omega), wRow_o (by omega), wRow_o (by omega), wI_ne (by omega), wI_ne (by omega), wI_same]
      · rw [wRow_o (by omega), wRow_o (by omega), wRow_o (by omega), wI_ne (by omega), wI_same, wI_ne (by omega)]
      · rw [wRow_o (by omega), wRow_o (by omega), wRow_o (by omega), wI_same, wI_ne (by omega), wI_ne (by omega)]
      · rw [wRow_o (by omega), wRow_o (by omega), wRow_o (by omega), wI_ne (by omega), wI_ne (by omega), wI_ne (by omega)]
    · refine A_aload0 dX4_at_15 ?_
      refine A_getI gf_X4_38 rfl dX4_at_16 ?_
      refine A_aload0 dX4_at_19 ?_
      refine A_getR gf_X4_9 rfl dX4_at_20 ?_
      refine A_getI gf_X4_41 rfl dX4_at_23 ?_
      refine A_icmp_ne (tgt := 30) dX4_at_26 (by decide) (fun c_26 => ?_) (fun c_26 => ?_)
      · refine A_aload0 dX4_at_30 ?_
        refine A_iload1 dX4_at_31 ?_
        refine A_putI gf_X4_35 rfl dX4_at_32 ?_
        refine A_aload0 dX4_at_35 ?_
        refine A_aload0 dX4_at_36 ?_
        refine A_getR gf_X4_9 rfl dX4_at_37 ?_
        refine A_getI gf_X4_41 rfl dX4_at_40 ?_
        refine A_putI gf_X4_38 rfl dX4_at_43 ?_
        refine A_aload0 dX4_at_46 ?_
        refine A_dup dX4_at_47 rfl ?_
        refine A_getI gf_X4_31 rfl dX4_at_48 ?_
        refine A_iconst (v := 1) dX4_at_51 (by decide) ?_
        refine A_iadd dX4_at_52 ?_
        refine A_putI gf_X4_31 rfl dX4_at_53 ?_
        refine A_aload0 dX4_at_56 ?_
        refine A_getR gf_X4_19 rfl dX4_at_57 ?_
        refine A_ldc dX4_at_60 kc_X4_46 ?_
        refine A_sv2 lk_X4_47 ys_J7_fill_53178 dX4_at_62 (T_fill (n := 240) (by decide) rfl) (by decide) (Nat.le_of_ble_eq_true rfl) (fun μ_62 h_62 => ?_)
        refine A_aload0 dX4_at_65 ?_
        refine A_getR gf_X4_25 rfl dX4_at_66 ?_
        refine A_ldc dX4_at_69 kc_X4_46 ?_
        refine A_sv2 lk_X4_47 ys_J7_fill_53178 dX4_at_71 (T_fill (n := 300) (by decide) rfl) (by decide) (Nat.le_of_ble_eq_true rfl) (fun μ_71 h_71 => ?_)
        refine A_aload0 dX4_at_74 ?_
        refine A_getR gf_X4_28 rfl dX4_at_75 ?_
        refine A_iconst (v := -1) dX4_at_78 (by decide) ?_
        refine A_sv2 lk_X4_47 ys_J7_fill_53178 dX4_at_79 (T_fill (n := 300) (by decide) rfl) (by decide) (Nat.le_of_ble_eq_true rfl) (fun μ_79 h_79 => ?_)
        refine A_iconst (v := 0) dX4_at_82 (by decide) ?_
        refine A_istore2 dX4_at_83 rfl (by decide) ?_
        have h0 : ¬ (0 < μ.1 43 7 ∧ k = μ.1 43 5 ∧ μ.1 43 6 = μ.1 36 2) := fun z => c_26 z.2.2
        rw [h_79, h_71, h_62]
        refine L_X4_at hF hL hw h0 (nfc σ) 0 _ (by omega) ⟨fun j hj => ?_, fun j hj => ?_, fun j hj z => absurd rfl z⟩ ⟨?_, ?_, ?_, rfl, fun i j hij => ?_⟩
        · rw [wRow_o (by omega), wRow_o (by omega), wRow_i hj]; rfl
        · rw [wRow_o (by omega), wRow_i hj]; rfl
        · rw [wRow_o (by omega), wRow_o (by omega), wRow_o (by omega), wI_ne (by omega), wI_ne (by omega), wI_same]
        · rw [wRow_o (by omega), wRow_o (by omega), wRow_o (by omega), wI_ne (by omega), wI_same, wI_ne (by omega)]
        · rw [wRow_o (by omega), wRow_o (by omega), wRow_o (by omega), wI_same, wI_ne (by omega), wI_ne (by omega)]
        · rw [wRow_o (by omega), wRow_o (by omega), wRow_o (by omega), wI_ne (by omega), wI_ne (by omega), wI_ne (by omega)]
      · refine A_vret dX4_at_29 ?_
        exact ⟨rfl, Or.inl ⟨Int32.not_le.mp c_4, c_12, c_26, rfl⟩⟩
set_option maxHeartbeats 100000 in
set_option maxRecDepth 100000 in
theorem T_X4_distant {l : Launch} {G : Wd} {b d : Int32} {μ : Mem}  : Mt l G KC yX4_distant cX4_distant 4 (some .int) 1 [.ref (gA G 43), .int b, .int d] μ (Qi (fun v μ' => v = (if 0 ≤ b ∧ b < 4 ∧ 0 ≤ d ∧ d < 60 then μ.1 44 (60 * b + d).toNatClampNeg else -100000) ∧ μ' = μ)) := by
  refine Mt.of (own := RX4) (n := 1) (by decide) rfl [some (.ref (gA G 43)), some (.int b), some (.int d), none] rfl (Nat.le_of_ble_eq_true rfl) ?_
  refine A_iload1 dX4_distant_0 ?_
  refine A_if_lt (tgt := 23) dX4_distant_1 (by decide) (fun c_1 => ?_) (fun c_1 => ?_)
  · refine A_iconst (v := 0) dX4_distant_23 (by decide) ?_
    refine A_istore3 dX4_distant_24 rfl (by decide) ?_
    refine A_iload3 dX4_distant_25 ?_
    refine A_if_eq (tgt := 43) dX4_distant_26 (by decide) (fun c_26 => ?_) (fun c_26 => absurd c_26 (fun z => z rfl))
    refine A_ldc dX4_distant_43 kc_X4_46 ?_
    refine A_iret dX4_distant_45 ?_
    exact ⟨_, rfl, (if_neg (fun z => absurd z.1 (Int32.not_le.mpr c_1))).symm, rfl⟩
  · refine A_iload1 dX4_distant_4 ?_
    refine A_iconst (v := 4) dX4_distant_5 (by decide) ?_
    refine A_icmp_ge (tgt := 23) dX4_distant_6 (by decide) (fun c_6 => ?_) (fun c_6 => ?_)
    · refine A_iconst (v := 0) dX4_distant_23 (by decide) ?_
      refine A_istore3 dX4_distant_24 rfl (by decide) ?_
      refine A_iload3 dX4_distant_25 ?_
      refine A_if_eq (tgt := 43) dX4_distant_26 (by decide) (fun c_26 => ?_) (fun c_26 => absurd c_26 (fun z => z rfl))
      refine A_ldc dX4_distant_43 kc_X4_46 ?_
      refine A_iret dX4_distant_45 ?_
      exact ⟨_, rfl, (if_neg (fun z => absurd z.2.1 (Int32.not_lt.mpr c_6))).symm, rfl⟩
    · refine A_iload2 dX4_distant_9 ?_
      refine A_if_lt (tgt := 23) dX4_distant_10 (by decide) (fun c_10 => ?_) (fun c_10 => ?_)
      · refine A_iconst (v := 0) dX4_distant_23 (by decide) ?_
        refine A_istore3 dX4_distant_24 rfl (by decide) ?_
        refine A_iload3 dX4_distant_25 ?_
        refine A_if_eq (tgt := 43) dX4_distant_26 (by decide) (fun c_26 => ?_) (fun c_26 => absurd c_26 (fun z => z rfl))
        refine A_ldc dX4_distant_43 kc_X4_46 ?_
        refine A_iret dX4_distant_45 ?_
        exact ⟨_, rfl, (if_neg (fun z => absurd z.2.2.1 (Int32.not_le.mpr c_10))).symm, rfl⟩
      · refine A_iload2 dX4_distant_13 ?_
        refine A_bipush (v := 60) dX4_distant_14 (by decide) ?_
        refine A_icmp_ge (tgt := 23) dX4_distant_16 (by decide) (fun c_16 => ?_) (fun c_16 => ?_)
        · refine A_iconst (v := 0) dX4_distant_23 (by decide) ?_
          refine A_istore3 dX4_distant_24 rfl (by decide) ?_
          refine A_iload3 dX4_distant_25 ?_
          refine A_if_eq (tgt := 43) dX4_distant_26 (by decide) (fun c_26 => ?_) (fun c_26 => absurd c_26 (fun z => z rfl))
          refine A_ldc dX4_distant_43 kc_X4_46 ?_
          refine A_iret dX4_distant_45 ?_
          exact ⟨_, rfl, (if_neg (fun z => absurd z.2.2.2 (Int32.not_lt.mpr c_16))).symm, rfl⟩
        · have hp : 0 ≤ b ∧ b < 4 ∧ 0 ≤ d ∧ d < 60 := ⟨Int32.not_lt.mp c_1, Int32.not_le.mp c_6, Int32.not_lt.mp c_10, Int32.not_le.mp c_16⟩
          obtain ⟨x, hx, ex⟩ := nI_rng (n := 4) hp.1 hp.2.1 (by decide)
          have hx5 : x < 4 := hx
          obtain ⟨y, hy, ey⟩ := nI_rng (n := 60) hp.2.2.1 hp.2.2.2 (by decide)
          have ix : b * 60 + d = 60 * b + d := by rw [Int32.mul_comm]
          have hin : vp_in (60 * b + d) 240 := by rw [ex, ey, nI_60]; exact vp_in_nI (by omega) (by omega)
          refine A_iconst (v := 1) dX4_distant_19 (by decide) ?_
          refine A_goto (tgt := 24) dX4_distant_20 (by decide) ?_
          refine A_istore3 dX4_distant_24 rfl (by decide) ?_
          refine A_iload3 dX4_distant_25 ?_
          refine A_if_eq (tgt := 43) dX4_distant_26 (by decide) (fun c_26 => absurd c_26 (fun z => absurd z (by decide))) (fun c_26 => ?_)
          refine A_aload0 dX4_distant_29 ?_
          refine A_getR gf_X4_19 rfl dX4_distant_30 ?_
          refine A_iload1 dX4_distant_33 ?_
          refine A_bipush (v := 60) dX4_distant_34 (by decide) ?_
          refine A_imul dX4_distant_36 ?_
          refine A_iload2 dX4_distant_37 ?_
          refine A_iadd dX4_distant_38 ?_
          rw [ix]
          refine A_iald (rfl) (hin) dX4_distant_39 ?_
          refine A_goto (tgt := 45) dX4_distant_40 (by decide) ?_
          refine A_iret dX4_distant_45 ?_
          exact ⟨_, rfl, (if_pos hp).symm, rfl⟩
set_option maxHeartbeats 100000 in
set_option maxRecDepth 100000 in
theorem T_X4_number {l : Launch} {G : Wd} {b d : Int32} {μ : Mem} (hb5 : ∃ t : Nat, t ≤ 5 ∧ μ.1 4 0 = nI t) : Mt l G KC yX4_number cX4_number 4 (some .int) 1 [.ref (gA G 43), .int b, .int d] μ (Qi (fun v μ' => v = (if 0 ≤ b ∧ b < μ.1 4 0 ∧ 0 ≤ d ∧ d < 60 then μ.1 45 (60 * b + d).toNatClampNeg else -100000) ∧ μ' = μ)) := by
  refine Mt.of (own := RX4) (n := 1) (by decide) rfl [some (.ref (gA G 43)), some (.int b), some (.int d), none] rfl (Nat.le_of_ble_eq_true rfl) ?_
  refine A_iload1 dX4_number_0 ?_
  refine A_if_lt (tgt := 29) dX4_number_1 (by decide) (fun c_1 => ?_) (fun c_1 => ?_)
  · refine A_iconst (v := 0) dX4_number_29 (by decide) ?_
    refine A_istore3 dX4_number_30 rfl (by decide) ?_
    refine A_iload3 dX4_number_31 ?_
    refine A_if_eq (tgt := 49) dX4_number_32 (by decide) (fun c_32 => ?_) (fun c_32 => absurd c_32 (fun z => z rfl))
    refine A_ldc dX4_number_49 kc_X4_46 ?_
    refine A_iret dX4_number_51 ?_
    exact ⟨_, rfl, (if_neg (fun z => absurd z.1 (Int32.not_le.mpr c_1))).symm, rfl⟩
  · refine A_iload1 dX4_number_4 ?_
    refine A_aload0 dX4_number_5 ?_
    refine A_getR gf_X4_15 rfl dX4_number_6 ?_
    refine A_getI gf_X4_81 rfl dX4_number_9 ?_
    refine A_icmp_ge (tgt := 29) dX4_number_12 (by decide) (fun c_12 => ?_) (fun c_12 => ?_)
    · refine A_iconst (v := 0) dX4_number_29 (by decide) ?_
      refine A_istore3 dX4_number_30 rfl (by decide) ?_
      refine A_iload3 dX4_number_31 ?_
      refine A_if_eq (tgt := 49) dX4_number_32 (by decide) (fun c_32 => ?_) (fun c_32 => absurd c_32 (fun z => z rfl))
      refine A_ldc dX4_number_49 kc_X4_46 ?_
      refine A_iret dX4_number_51 ?_
      exact ⟨_, rfl, (if_neg (fun z => absurd z.2.1 (Int32.not_lt.mpr c_12))).symm, rfl⟩
    · refine A_iload2 dX4_number_15 ?_
      refine A_if_lt (tgt := 29) dX4_number_16 (by decide) (fun c_16 => ?_) (fun c_16 => ?_)
      · refine A_iconst (v := 0) dX4_number_29 (by decide) ?_
        refine A_istore3 dX4_number_30 rfl (by decide) ?_
        refine A_iload3 dX4_number_31 ?_
        refine A_if_eq (tgt := 49) dX4_number_32 (by decide) (fun c_32 => ?_) (fun c_32 => absurd c_32 (fun z => z rfl))
        refine A_ldc dX4_number_49 kc_X4_46 ?_
        refine A_iret dX4_number_51 ?_
        exact ⟨_, rfl, (if_neg (fun z => absurd z.2.2.1 (Int32.not_le.mpr c_16))).symm, rfl⟩
      · refine A_iload2 dX4_number_19 ?_
        refine A_bipush (v := 60) dX4_number_20 (by decide) ?_
        refine A_icmp_ge (tgt := 29) dX4_number_22 (by decide) (fun c_22 => ?_) (fun c_22 => ?_)
        · refine A_iconst (v := 0) dX4_number_29 (by decide) ?_
          refine A_istore3 dX4_number_30 rfl (by decide) ?_
          refine A_iload3 dX4_number_31 ?_
          refine A_if_eq (tgt := 49) dX4_number_32 (by decide) (fun c_32 => ?_) (fun c_32 => absurd c_32 (fun z => z rfl))
          refine A_ldc dX4_number_49 kc_X4_46 ?_
          refine A_iret dX4_number_51 ?_
          exact ⟨_, rfl, (if_neg (fun z => absurd z.2.2.2 (Int32.not_lt.mpr c_22))).symm, rfl⟩
        · have hp : 0 ≤ b ∧ b < μ.1 4 0 ∧ 0 ≤ d ∧ d < 60 := ⟨Int32.not_lt.mp c_1, Int32.not_le.mp c_12, Int32.not_lt.mp c_16, Int32.not_le.mp c_22⟩
          obtain ⟨t, t5, et⟩ := hb5
          obtain ⟨x, hx, ex⟩ := nI_rng (n := t) hp.1 (et ▸ hp.2.1) (by omega)
          have hx5 : x < 5 := by omega
          obtain ⟨y, hy, ey⟩ := nI_rng (n := 60) hp.2.2.1 hp.2.2.2 (by decide)
          have ix : b * 60 + d = 60 * b + d := by rw [Int32.mul_comm]
          have hin : vp_in (60 * b + d) 300 := by rw [ex, ey, nI_60]; exact vp_in_nI (by omega) (by omega)
          refine A_iconst (v := 1) dX4_number_25 (by decide) ?_
          refine A_goto (tgt := 30) dX4_number_26 (by decide) ?_
          refine A_istore3 dX4_number_30 rfl (by decide) ?_
          refine A_iload3 dX4_number_31 ?_
          refine A_if_eq (tgt := 49) dX4_number_32 (by decide) (fun c_32 => absurd c_32 (fun z => absurd z (by decide))) (fun c_32 => ?_)
          refine A_aload0 dX4_number_35 ?_
          refine A_getR gf_X4_25 rfl dX4_number_36 ?_
          refine A_iload1 dX4_number_39 ?_
          refine A_bipush (v := 60) dX4_number_40 (by decide) ?_
          refine A_imul dX4_number_42 ?_
          refine A_iload2 dX4_number_43 ?_
          refine A_iadd dX4_number_44 ?_
          rw [ix]
          refine A_iald (rfl) (hin) dX4_number_45 ?_
          refine A_goto (tgt := 51) dX4_number_46 (by decide) ?_
          refine A_iret dX4_number_51 ?_
          exact ⟨_, rfl, (if_pos hp).symm, rfl⟩
set_option maxHeartbeats 100000 in
set_option maxRecDepth 100000 in
theorem T_X4_readerOf {l : Launch} {G : Wd} {b d : Int32} {μ : Mem} (hb5 : ∃ t : Nat, t ≤ 5 ∧ μ.1 4 0 = nI t) : Mt l G KC yX4_readerOf cX4_readerOf 4 (some .int) 1 [.ref (gA G 43), .int b, .int d] μ (Qi (fun v μ' => v = (if 0 ≤ b ∧ b < μ.1 4 0 ∧ 0 ≤ d ∧ d < 60 then μ.1 46 (60 * b + d).toNatClampNeg else -1) ∧ μ' = μ)) := by
  refine Mt.of (own := RX4) (n := 1) (by decide) rfl [some (.ref (gA G 43)), some (.int b), some (.int d), none] rfl (Nat.le_of_ble_eq_true rfl) ?_
  refine A_iload1 dX4_readerOf_0 ?_
  refine A_if_lt (tgt := 29) dX4_readerOf_1 (by decide) (fun c_1 => ?_) (fun c_1 => ?_)
  · refine A_iconst (v := 0) dX4_readerOf_29 (by decide) ?_
    refine A_istore3 dX4_readerOf_30 rfl (by decide) ?_
    refine A_iload3 dX4_readerOf_31 ?_
    refine A_if_eq (tgt := 49) dX4_readerOf_32 (by decide) (fun c_32 => ?_) (fun c_32 => absurd c_32 (fun z => z rfl))
    refine A_iconst (v := -1) dX4_readerOf_49 (by decide) ?_
    refine A_iret dX4_readerOf_50 ?_
    exact ⟨_, rfl, (if_neg (fun z => absurd z.1 (Int32.not_le.mpr c_1))).symm, rfl⟩
  · refine A_iload1 dX4_readerOf_4 ?_
    refine A_aload0 dX4_readerOf_5 ?_
    refine A_getR gf_X4_15 rfl dX4_readerOf_6 ?_
    refine A_getI gf_X4_81 rfl dX4_readerOf_9 ?_
    refine A_icmp_ge (tgt := 29) dX4_readerOf_12 (by decide) (fun c_12 => ?_) (fun c_12 => ?_)
    · refine A_iconst (v := 0) dX4_readerOf_29 (by decide) ?_
      refine A_istore3 dX4_readerOf_30 rfl (by decide) ?_
      refine A_iload3 dX4_readerOf_31 ?_
      refine A_if_eq (tgt := 49) dX4_readerOf_32 (by decide) (fun c_32 => ?_) (fun c_32 => absurd c_32 (fun z => z rfl))
      refine A_iconst (v := -1) dX4_readerOf_49 (by decide) ?_
      refine A_iret dX4_readerOf_50 ?_
      exact ⟨_, rfl, (if_neg (fun z => absurd z.2.1 (Int32.not_lt.mpr c_12))).symm, rfl⟩
    · refine A_iload2 dX4_readerOf_15 ?_
      refine A_if_lt (tgt := 29) dX4_readerOf_16 (by decide) (fun c_16 => ?_) (fun c_16 => ?_)
      · refine A_iconst (v := 0) dX4_readerOf_29 (by decide) ?_
        refine A_istore3 dX4_readerOf_30 rfl (by decide) ?_
        refine A_iload3 dX4_readerOf_31 ?_
        refine A_if_eq (tgt := 49) dX4_readerOf_32 (by decide) (fun c_32 => ?_) (fun c_32 => absurd c_32 (fun z => z rfl))
        refine A_iconst (v := -1) dX4_readerOf_49 (by decide) ?_
        refine A_iret dX4_readerOf_50 ?_
        exact ⟨_, rfl, (if_neg (fun z => absurd z.2.2.1 (Int32.not_le.mpr c_16))).symm, rfl⟩
      · refine A_iload2 dX4_readerOf_19 ?_
        refine A_bipush (v := 60) dX4_readerOf_20 (by decide) ?_
        refine A_icmp_ge (tgt := 29) dX4_readerOf_22 (by decide) (fun c_22 => ?_) (fun c_22 => ?_)
        · refine A_iconst (v := 0) dX4_readerOf_29 (by decide) ?_
          refine A_istore3 dX4_readerOf_30 rfl (by decide) ?_
          refine A_iload3 dX4_readerOf_31 ?_
          refine A_if_eq (tgt := 49) dX4_readerOf_32 (by decide) (fun c_32 => ?_) (fun c_32 => absurd c_32 (fun z => z rfl))
          refine A_iconst (v := -1) dX4_readerOf_49 (by decide) ?_
          refine A_iret dX4_readerOf_50 ?_
          exact ⟨_, rfl, (if_neg (fun z => absurd z.2.2.2 (Int32.not_lt.mpr c_22))).symm, rfl⟩
        · have hp : 0 ≤ b ∧ b < μ.1 4 0 ∧ 0 ≤ d ∧ d < 60 := ⟨Int32.not_lt.mp c_1, Int32.not_le.mp c_12, Int32.not_lt.mp c_16, Int32.not_le.mp c_22⟩
          obtain ⟨t, t5, et⟩ := hb5
          obtain ⟨x, hx, ex⟩ := nI_rng (n := t) hp.1 (et ▸ hp.2.1) (by omega)
          have hx5 : x < 5 := by omega
          obtain ⟨y, hy, ey⟩ := nI_rng (n := 60) hp.2.2.1 hp.2.2.2 (by decide)
          have ix : b * 60 + d = 60 * b + d := by rw [Int32.mul_comm]
          have hin : vp_in (60 * b + d) 300 := by rw [ex, ey, nI_60]; exact vp_in_nI (by omega) (by omega)
          refine A_iconst (v := 1) dX4_readerOf_25 (by decide) ?_
          refine A_goto (tgt := 30) dX4_readerOf_26 (by decide) ?_
          refine A_istore3 dX4_readerOf_30 rfl (by decide) ?_
          refine A_iload3 dX4_readerOf_31 ?_
          refine A_if_eq (tgt := 49) dX4_readerOf_32 (by decide) (fun c_32 => absurd c_32 (fun z => absurd z (by decide))) (fun c_32 => ?_)
          refine A_aload0 dX4_readerOf_35 ?_
          refine A_getR gf_X4_28 rfl dX4_readerOf_36 ?_
          refine A_iload1 dX4_readerOf_39 ?_
          refine A_bipush (v := 60) dX4_readerOf_40 (by decide) ?_
          refine A_imul dX4_readerOf_42 ?_
          refine A_iload2 dX4_readerOf_43 ?_
          refine A_iadd dX4_readerOf_44 ?_
          rw [ix]
          refine A_iald (rfl) (hin) dX4_readerOf_45 ?_
          refine A_goto (tgt := 50) dX4_readerOf_46 (by decide) ?_
          refine A_iret dX4_readerOf_50 ?_
          exact ⟨_, rfl, (if_pos hp).symm, rfl⟩

/-! what answers hang on -/
def Sm (σ τ : Mem) : Prop := ∀ i j, ((i = 0 ∧ (j = 31 ∨ j = 42)) ∨ (7 ≤ i ∧ i ≤ 9) ∨ (15 ≤ i ∧ i ≤ 28)) → τ.1 i j = σ.1 i j
theorem Sm.f {σ τ : Mem} (h : Sm σ τ) {i : Nat} (hi : (7 ≤ i ∧ i ≤ 9) ∨ (15 ≤ i ∧ i ≤ 28)) : τ.1 i = σ.1 i := funext fun j => h i j (by omega)
theorem Sm.xnfc {σ τ : Mem} (h : Sm σ τ) : nfc τ = nfc σ := by unfold nfc; rw [h 0 42 (by omega)]
theorem Sm.xnbx {σ τ : Mem} (h : Sm σ τ) : nbx τ = nbx σ := by unfold nbx; rw [h 0 31 (by omega)]
theorem Sm.xkn {σ τ : Mem} (h : Sm σ τ) (k : Int32) (f : Nat) : kn τ k f = kn σ k f := by unfold kn; rw [h.f (i := 24) (by omega), h.f (i := 25) (by omega)]
theorem Sm.xps {σ τ : Mem} (h : Sm σ τ) (f : Nat) : ps τ f = ps σ f := by unfold ps; rw [h.f (i := 20) (by omega), h.f (i := 21) (by omega)]
theorem Sm.xcnt {σ τ : Mem} (h : Sm σ τ) (k : Int32) (f : Nat) : cnt τ k f = cnt σ k f := by unfold cnt; rw [h.xkn, h.xps, h.f (i := 26) (by omega), h.f (i := 18) (by omega), h.f (i := 17) (by omega), h.f (i := 28) (by omega), h.f (i := 21) (by omega), h.f (i := 22) (by omega)]
theorem Sm.lF {σ τ : Mem} (h : Sm σ τ) (k : Int32) : ∀ n j, layF τ k n j = layF σ k n j := by
  intro n
  induction n with
  | zero => intro j; rfl
  | succ n ih =>
    intro j
    have e1 := h.xkn k n
    have e2 := h.xps n
    have e3 := h.f (i := 26) (by omega)
    have e4 := h.f (i := 23) (by omega)
    unfold layF
    by_cases q : kn σ k n ∧ ¬ σ.1 26 n = 0 ∧ ps σ n = j
    · rw [if_pos q, if_pos (by rw [e1, e2, e3]; exact q), e4]
    · rw [if_neg q, if_neg (by rw [e1, e2, e3]; exact q)]; exact ih j
theorem Sm.lR {σ τ : Mem} (h : Sm σ τ) (k : Int32) : ∀ n j, layR τ k n j = layR σ k n j := by
  intro n
  induction n with
  | zero => intro j; rfl
  | succ n ih =>
    intro j
    have e1 := h.xcnt k n
    have e2 := h.xps n
    have e4 := h.f (i := 23) (by omega)
    unfold layR
    by_cases q : cnt σ k n ∧ ps σ n = j
    · rw [if_pos q, if_pos (by rw [e1, e2]; exact q), e4]
    · rw [if_neg q, if_neg (by rw [e1, e2]; exact q)]; exact ih j
theorem Sm.lW {σ τ : Mem} (h : Sm σ τ) (k : Int32) : ∀ n j, layW τ k n j = layW σ k n j := by
  intro n
  induction n with
  | zero => intro j; rfl
  | succ n ih =>
    intro j
    have e1 := h.xcnt k n
    have e2 := h.xps n
    have e4 := h.f (i := 22) (by omega)
    unfold layW
    by_cases q : cnt σ k n ∧ ps σ n = j
    · rw [if_pos q, if_pos (by rw [e1, e2]; exact q), e4]
    · rw [if_neg q, if_neg (by rw [e1, e2]; exact q)]; exact ih j
theorem Sm.xmv {σ τ : Mem} (h : Sm σ τ) (b : Nat) : mv τ b = mv σ b := by unfold mv; rw [h.f (i := 15) (by omega)]
theorem Sm.xfr {σ τ : Mem} (h : Sm σ τ) (b : Nat) : fr τ b = fr σ b := by unfold fr; rw [h.f (i := 16) (by omega)]
theorem Sm.sF {σ τ : Mem} (h : Sm σ τ) (b d : Nat) : stF τ b d = stF σ b d := by unfold stF; rw [h.xmv]
theorem Sm.sT {σ τ : Mem} (h : Sm σ τ) (b d : Nat) : stT τ b d = stT σ b d := by unfold stT; rw [h.xmv]
theorem Sm.ag {σ τ : Mem} (h : Sm σ τ) (b d : Nat) : agS τ b d = agS σ b d := by unfold agS; rw [h.xfr, h.sF]
theorem Sm.rd {σ τ : Mem} (h : Sm σ τ) (k : Int32) (b d : Nat) : rdN τ k b d = rdN σ k b d := by unfold rdN; rw [h.xnfc, h.lR]
theorem Sm.fa {σ τ : Mem} (h : Sm σ τ) (k : Int32) (q d : Nat) : farN τ k q d = farN σ k q d := by unfold farN; rw [h.xnfc, h.lF]
theorem Sm.kd {σ τ : Mem} (h : Sm σ τ) (b : Nat) : kdN τ b = kdN σ b := by unfold kdN; rw [h.f (i := 7) (by omega)]
theorem Sm.sh {σ τ : Mem} (h : Sm σ τ) (k : Int32) (b d : Nat) (z s : Int32) (l : Nat) (t : Int32) : shO τ k b d z s l t = shO σ k b d z s l t := by unfold shO shB; rw [h.kd, h.fa, h.ag, h.f (i := 7) (by omega)]
theorem Sm.ft {σ τ : Mem} (h : Sm σ τ) (b : Nat) (s r : Int32) : fitS τ b s r = fitS σ b s r := by unfold fitS apt; rw [h.f (i := 7) (by omega), h.f (i := 9) (by omega)]
theorem Sm.xmis {σ τ : Mem} (h : Sm σ τ) (k : Int32) (b : Nat) (x : Lw) (d : Nat) : mis τ k b x d = mis σ k b x d := by unfold mis; rw [h.rd, h.sh, h.ft, h.f (i := 27) (by omega)]
theorem Sm.cM {σ τ : Mem} (h : Sm σ τ) (k : Int32) (b : Nat) (x : Lw) (f : Nat) : ∀ m, cntM τ k b x f m = cntM σ k b x f m := by
  intro m
  induction m with
  | zero => rfl
  | succ m ih =>
    have e := h.xmis k b x (f + m)
    rw [cntM, cntM, ih]
    by_cases q : mis σ k b x (f + m)
    · rw [if_pos q, if_pos (by rw [e]; exact q)]
    · rw [if_neg q, if_neg (by rw [e]; exact q)]
theorem Sm.fM {σ τ : Mem} (h : Sm σ τ) (k : Int32) (b : Nat) (x : Lw) (f : Nat) : ∀ m, fstM τ k b x f m = fstM σ k b x f m := by
  intro m
  induction m with
  | zero => rfl
  | succ m ih =>
    have e := h.xmis k b x (f + m)
    rw [fstM, fstM, ih]
    by_cases q : mis σ k b x (f + m) ∧ ¬ 0 ≤ fstM σ k b x f m
    · rw [if_pos q, if_pos (by rw [e]; exact q)]
    · rw [if_neg q, if_neg (by rw [e]; exact q)]
theorem Sm.xrl {σ τ : Mem} (h : Sm σ τ) (b p : Nat) : rl τ b p = rl σ b p := by unfold rl; rw [h.f (i := 8) (by omega)]
theorem Sm.rn {σ τ : Mem} (h : Sm σ τ) (b p : Nat) : rn1 τ b p = rn1 σ b p := by unfold rn1; rw [h.xrl, h.xrl]
theorem Sm.al {σ τ : Mem} (h : Sm σ τ) (b : Nat) : allL τ b = allL σ b := by
  unfold allL eZ eS eL eT lgN
  simp only [h.xrl, h.rn]
theorem Sm.xfnd {σ τ : Mem} (h : Sm σ τ) (k : Int32) (b d : Nat) : fnd τ k b d = fnd σ k b d := by
  unfold fnd found
  rw [h.sF, h.sT, h.al]
  have e1 : cS τ k b (stF σ b d) (stT σ b d) = cS σ k b (stF σ b d) (stT σ b d) := funext fun x => h.cM k b x _ _
  have e2 : fS τ k b (stF σ b d) (stT σ b d) = fS σ k b (stF σ b d) (stT σ b d) := funext fun x => h.fM k b x _ _
  rw [e1, e2]
theorem Sm.lv {σ τ μ : Mem} (h : Sm σ τ) {k : Int32} {b : Nat} (g : LV σ k b μ) : LV τ k b μ := by
  obtain ⟨d, d6, g1, g2, g3⟩ := g
  exact ⟨d, d6, by rw [h.sF]; exact g1, by rw [h.sT]; exact g2, by rw [h.xfnd]; exact g3⟩
theorem Sm.xKn {σ τ μ : Mem} (h : Sm σ τ) {k : Int32} (g : Kn σ k μ) : Kn τ k μ := by
  unfold Kn KnI
  simp only [h.xnfc, h.lF, h.lR, h.lW]
  exact g
theorem Ce.sm {σ τ μ : Mem} {k : Int32} {e : Nat} (h : Ce σ k e μ) (g : Sm σ τ) (hl : LC τ μ) (hw : WF τ) : Ce τ k e μ := by
  obtain ⟨h1, h2, h3, h4⟩ := h
  refine ⟨⟨hl, g.xKn h1.2.1, hw⟩, h2, h3, fun b hb => ?_⟩
  obtain ⟨eb, b1, b2, b3⟩ := h4 b hb
  exact ⟨eb, b1, b2, fun z y => g.lv (b3 z (by rw [← g.xnbx]; exact y))⟩
/-- caches and editions alone -/
def Sk (μ μ' : Mem) : Prop := ∀ i j, 43 ≤ i → i < 73 → μ'.1 i j = μ.1 i j
theorem Ce.sk {σ a c : Mem} {k : Int32} {e : Nat} (h : Ce σ k e a) (g : Sk a c) (hl : LC σ c) : Ce σ k e c := by
  obtain ⟨⟨h0, ⟨k1, k2, k3⟩, hw⟩, h2, h3, h4⟩ := h
  refine ⟨⟨hl, ⟨fun j hj => (g 44 j (by omega) (by omega)).trans (k1 j hj), fun j hj => (g 45 j (by omega) (by omega)).trans (k2 j hj), fun j hj z => (g 46 j (by omega) (by omega)).trans (k3 j hj z)⟩, hw⟩, (g 43 7 (by omega) (by omega)).trans h2, h3, fun b hb => ?_⟩
  obtain ⟨eb, b1, b2, b3⟩ := h4 b hb
  exact ⟨eb, b1, (g _ 4 (by omega) (by omega)).trans b2, fun z y => (b3 z y).keep (fun i j q1 q2 => g i j (by omega) (by omega))⟩
/-- a step that changes nothing that answers hang on -/
theorem Rc.calm {σ τ a c : Mem} {n : Nat} (h : Rc σ n a) (hn : n + 1 ≤ 600) (g : Sm σ τ) (gk : Sk a c) (hl : LC τ c) (hl0 : LC σ c) (hw : WFa τ) (g2 : c.1 36 2 = a.1 36 2) : Rc τ (n + 1) c := by
  obtain ⟨h1, h2, h3, e, x, s, h4, h5, h6, h7, h8, h9, h10, h11⟩ := h
  refine ⟨hl, hw, hn, e, x, s, (gk 43 7 (by omega) (by omega)).trans h4, g2.trans h5, (gk 43 6 (by omega) (by omega)).trans h6, by omega, h8, by omega, fun z y => ?_, fun b hb => ?_⟩
  · rw [gk 43 5 (by omega) (by omega)]
    exact ((h10 z y).sk gk hl0).sm g hl hw.1
  · obtain ⟨eb, b1, b2⟩ := h11 b hb
    exact ⟨eb, b1, (gk _ 4 (by omega) (by omega)).trans b2⟩
/-- a step that counts as a change -/
theorem Rc.step {σ τ a c : Mem} {n : Nat} (h : Rc σ n a) (hn : n + 1 ≤ 600) (gk : Sk a c) (hl : LC τ c) (hw : WFa τ) (g2 : c.1 36 2 = a.1 36 2 + 1) : Rc τ (n + 1) c := by
  obtain ⟨h1, h2, h3, e, x, s, h4, h5, h6, h7, h8, h9, h10, h11⟩ := h
  refine ⟨hl, hw, hn, e, x + 1, s, (gk 43 7 (by omega) (by omega)).trans h4, by rw [g2, h5, nI_1], (gk 43 6 (by omega) (by omega)).trans h6, by omega, by omega, by omega, fun z y => absurd y (by omega), fun b hb => ?_⟩
  obtain ⟨eb, b1, b2⟩ := h11 b hb
  exact ⟨eb, b1, (gk _ 4 (by omega) (by omega)).trans b2⟩

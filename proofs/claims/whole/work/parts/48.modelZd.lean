/-! how far the reader is -/
def plN (m : Mem) : Nat := (m.1 0 7).toNatClampNeg
def TkI (m : Mem) : Prop := WFx m ∧ atN m ≤ szN m ∧ szN m ≤ 800 ∧ m.1 0 7 = nI (plN m) ∧ plN m ≤ szN m ∧ (¬ m.1 0 6 = 0 → ¬ m.1 0 6 = 3 → plN m < atN m)
theorem spQ_g (T : Nat → Int32) (n : Nat) : ∀ q a, a ≤ spQ T n q a := by
  intro q
  induction q with
  | zero => intro a; exact Nat.le_refl _
  | succ q ih => intro a; unfold spQ; split; have := ih (a + 1); omega; omega
theorem tk_g {T : Nat → Int32} {n : Nat} {r : Int32} {p : Nat} (h0 : ¬ (tk T n r p).2.1 = 0) : 1 ≤ (tk T n r p).1 := by
  unfold tk at h0 ⊢
  split
  · rename_i q; rw [if_pos q] at h0; exact absurd rfl h0
  · rename_i q
    have hp : p < n := by rcases Nat.lt_or_ge p n with z | z; exact z; exact absurd (by rw [cA_out z]; decide) q
    obtain ⟨v, hv⟩ : ∃ v, n - p = v + 1 := ⟨n - p - 1, by omega⟩
    split
    · rename_i q2
      show 1 ≤ lrQ T n (n - p) p
      rw [hv, lrQ, if_pos q2]
      omega
    · split
      · rename_i q3
        show 1 ≤ dgQ T n (n - p) p
        rw [hv, dgQ, if_pos q3]
        omega
      · exact Nat.le_refl _
theorem tkM_4 (μ : Mem) (p : Nat) (t : Nat × Int32 × Int64 × Int32) : (tkM μ p t).1 0 4 = nI (if t.2.1 = 3 then p else p + t.1) := by
  unfold tkM
  split
  · exact tkB_4 _ _ _
  · exact wI_same
theorem tkM_7 (μ : Mem) (p : Nat) (t : Nat × Int32 × Int64 × Int32) : (tkM μ p t).1 0 7 = nI p := by
  unfold tkM tkB
  split
  · rw [wI_ne (by omega), wI_ne (by omega), wL_i, wI_same]
  · rw [wI_ne (by omega), wI_ne (by omega), wI_ne (by omega), wL_i, wI_same]
theorem tkM_6 (μ : Mem) (p : Nat) (t : Nat × Int32 × Int64 × Int32) : (tkM μ p t).1 0 6 = t.2.1 := by
  unfold tkM tkB
  split
  · exact wI_same
  · rw [wI_ne (by omega)]; exact wI_same
theorem tkM_8 (μ : Mem) (p : Nat) (t : Nat × Int32 × Int64 × Int32) : (tkM μ p t).1 0 8 = t.2.2.2 := by
  unfold tkM tkB
  split
  · rw [wI_ne (by omega)]; exact wI_same
  · rw [wI_ne (by omega), wI_ne (by omega)]; exact wI_same
theorem tkM_9 (μ : Mem) (p : Nat) (t : Nat × Int32 × Int64 × Int32) : (tkM μ p t).2.1 0 9 = t.2.2.1 := by
  unfold tkM tkB
  split
  · show (wL _ 0 9 _).2.1 0 9 = _; rw [wL_at, if_pos ⟨rfl, rfl⟩]
  · show (wL _ 0 9 _).2.1 0 9 = _; rw [wL_at, if_pos ⟨rfl, rfl⟩]
theorem tkn_p {m : Mem} (h : WFx m) (ha : atN m ≤ szN m) : TkI (tkn m) ∧ atN m ≤ plN (tkn m) ∧ szN (tkn m) = szN m := by
  have hx := h.x
  have hn8 := hx.n8
  have g1 : atN m ≤ spN (m.1 1) (szN m) (atN m) := spQ_g _ _ _ _
  have g2 : spN (m.1 1) (szN m) (atN m) ≤ szN m := by have := spQ_b (m.1 1) (szN m) (szN m - atN m) (atN m); unfold spN; omega
  have g3 := tk_b (m.1 1) (szN m) (m.1 0 10) (spN (m.1 1) (szN m) (atN m))
  have e7 : (tkn m).1 0 7 = nI (spN (m.1 1) (szN m) (atN m)) := tkM_7 _ _ _
  have e4 : (tkn m).1 0 4 = nI (if (tk (m.1 1) (szN m) (m.1 0 10) (spN (m.1 1) (szN m) (atN m))).2.1 = 3 then spN (m.1 1) (szN m) (atN m) else spN (m.1 1) (szN m) (atN m) + (tk (m.1 1) (szN m) (m.1 0 10) (spN (m.1 1) (szN m) (atN m))).1) := tkM_4 _ _ _
  have e6 : (tkn m).1 0 6 = (tk (m.1 1) (szN m) (m.1 0 10) (spN (m.1 1) (szN m) (atN m))).2.1 := tkM_6 _ _ _
  have e5 : (tkn m).1 0 5 = m.1 0 5 := Rd.rf.tk.1 0 5 (by decide)
  have es : szN (tkn m) = szN m := by unfold szN; rw [e5]
  have tg := fun h0 => tk_g (T := m.1 1) (n := szN m) (r := m.1 0 10) (p := spN (m.1 1) (szN m) (atN m)) h0
  generalize tk (m.1 1) (szN m) (m.1 0 10) (spN (m.1 1) (szN m) (atN m)) = t at g3 e4 e6 tg
  generalize spN (m.1 1) (szN m) (atN m) = p at g1 g2 g3 e7 e4
  have ep : plN (tkn m) = p := by unfold plN; rw [e7]; exact nI_c (by omega)
  have ea : atN (tkn m) = if t.2.1 = 3 then p else p + t.1 := by unfold atN; rw [e4]; exact nI_c (by split <;> omega)
  refine ⟨⟨h.tn, ?_, by omega, by rw [ep]; exact e7, by omega, fun h0 h3 => ?_⟩, by omega, es⟩
  · rw [ea, es]; split <;> omega
  · rw [e6] at h0 h3
    rw [ea, ep, if_neg h3]
    have := tg h0
    omega
theorem TkI.n {m : Mem} (h : TkI m) : TkI (tkn m) ∧ atN m ≤ plN (tkn m) ∧ szN (tkn m) = szN m := tkn_p h.1 h.2.1
theorem TkI.of {m m' : Mem} (h : TkI m) (h1 : m'.1 1 = m.1 1) (h4 : m'.1 0 4 = m.1 0 4) (h5 : m'.1 0 5 = m.1 0 5) (h6 : m'.1 0 6 = m.1 0 6) (h7 : m'.1 0 7 = m.1 0 7) : TkI m' ∧ plN m' = plN m ∧ atN m' = atN m ∧ szN m' = szN m := by
  have e1 : plN m' = plN m := by unfold plN; rw [h7]
  have e2 : atN m' = atN m := by unfold atN; rw [h4]
  have e3 : szN m' = szN m := by unfold szN; rw [h5]
  refine ⟨⟨h.1.of h1 h5 h4, by rw [e2, e3]; exact h.2.1, by rw [e3]; exact h.2.2.1, by rw [e1, h7]; exact h.2.2.2.1, by rw [e1, e3]; exact h.2.2.2.2.1, ?_⟩, e1, e2, e3⟩
  rw [h6, e1, e2]
  exact h.2.2.2.2.2
/-! notes as they can be -/
def dpF (W : Nat → Int32) (b : Nat) : Nat → Nat
  | 0 => 0
  | m + 1 => if W (b + m) < 20 then dpF W b m + 1 else if W (b + m) = 22 then dpF W b m else dpF W b m - 1
theorem dpS_F {σ : Mem} {b : Nat} (m : Nat) : dpS σ b m = dpF (σ.1 43) b m := by
  induction m with
  | zero => rfl
  | succ m ih => unfold dpS dpF; rw [ih]
theorem dpF_c {W V : Nat → Int32} {b : Nat} : ∀ m, (∀ j, j < m → W (b + j) = V (b + j)) → dpF W b m = dpF V b m := by
  intro m
  induction m with
  | zero => intro _; rfl
  | succ m ih =>
    intro h
    unfold dpF
    rw [ih (fun j hj => h j (by omega)), h m (by omega)]
def okF (W X : Nat → Int32) (b m : Nat) : Prop := (W (b + m) < 20 → (W (b + m) = 0 ∨ W (b + m) = 1 ∨ W (b + m) = 2 ∨ W (b + m) = 3) ∧ ((W (b + m) = 1 ∨ W (b + m) = 2) → ∃ x : Nat, x < 5 ∧ X (b + m) = nI x) ∧ dpF W b m < 60) ∧ (¬ W (b + m) < 20 → (W (b + m) = 22 → 1 ≤ dpF W b m) ∧ (¬ W (b + m) = 22 → 2 ≤ dpF W b m)) ∧ dpF W b m ≤ 60
theorem okF_c {W V X Y : Nat → Int32} {b m : Nat} (h : ∀ j, j ≤ m → W (b + j) = V (b + j)) (hx : X (b + m) = Y (b + m)) (hk : okF W X b m) : okF V Y b m := by
  unfold okF at hk ⊢
  rw [← h m (Nat.le_refl _), ← hx, ← dpF_c m (fun j hj => h j (by omega))]
  exact hk
theorem okF_N {σ : Mem} {b m : Nat} (h : okF (σ.1 43) (σ.1 44) b m) : okNt σ b m := by
  unfold okNt
  rw [dpS_F]
  exact h
abbrev okW (v : Int32) : Prop := v = 20 ∨ v = 21 ∨ v = 22 ∨ v = 23 ∨ v = 24 ∨ v = 25 ∨ v = 26 ∨ v = 27 ∨ v = 28 ∨ v = 30
def nbW (U : Nat → Int32) : Nat → Nat
  | 0 => 0
  | k + 1 => nbW U k + (if U k = 30 ∨ U k = 22 then 0 else 1)
theorem nbW_c {U V : Nat → Int32} : ∀ w, (∀ j, j < w → U j = V j) → nbW U w = nbW V w := by
  intro w
  induction w with
  | zero => intro _; rfl
  | succ w ih => intro h; unfold nbW; rw [ih (fun j hj => h j (by omega)), h w (by omega)]
/-- the pile's depth and what waits agree; c: 1 behind an operand -/
def SI (β n w u c : Nat) (m : Mem) : Prop := β ≤ n ∧ (∀ k, k < w → okW (m.1 46 k)) ∧ (∀ j, β + j < n → okF (m.1 40) (m.1 41) β j) ∧ dpF (m.1 40) β (n - β) = nbW (m.1 46) w + c ∧ dpF (m.1 40) β (n - β) ≤ u ∧ u ≤ 60
theorem SI.of {β n w u c : Nat} {m m' : Mem} (h : SI β n w u c m) (h0 : ∀ j, j < n → m'.1 40 j = m.1 40 j) (h1 : ∀ j, j < n → m'.1 41 j = m.1 41 j) (h6 : ∀ j, j < w → m'.1 46 j = m.1 46 j) : SI β n w u c m' := by
  obtain ⟨a1, a2, a3, a4, a5, a6⟩ := h
  have e : dpF (m'.1 40) β (n - β) = dpF (m.1 40) β (n - β) := dpF_c _ (fun j hj => h0 _ (by omega))
  refine ⟨a1, fun k hk => by rw [h6 k hk]; exact a2 k hk, fun j hj => ?_, ?_, by rw [e]; exact a5, a6⟩
  · exact okF_c (fun i hi => (h0 _ (by omega)).symm) ((h1 _ (by omega)).symm) (a3 j hj)
  · rw [e, a4, nbW_c w h6]
/-- one note more -/
theorem SI.note {β n w u c : Nat} {m m' : Mem} {a b : Int32} (h : SI β n w u c m) (h0 : ∀ j, j < n → m'.1 40 j = m.1 40 j) (h1 : ∀ j, j < n → m'.1 41 j = m.1 41 j) (ha : m'.1 40 n = a) (hb : m'.1 41 n = b) (u' w' c' : Nat) (h6 : ∀ j, j < w' → m'.1 46 j = m.1 46 j) (hw : w' ≤ w) (hu : u' ≤ 60)
    (hd : (a < 20 ∧ (a = 0 ∨ a = 1 ∨ a = 2 ∨ a = 3) ∧ ((a = 1 ∨ a = 2) → ∃ x : Nat, x < 5 ∧ b = nI x) ∧ nbW (m.1 46) w + c < u' ∧ nbW (m.1 46) w + c + 1 = nbW (m.1 46) w' + c') ∨ (a = 22 ∧ 1 ≤ nbW (m.1 46) w + c ∧ u ≤ u' ∧ nbW (m.1 46) w + c = nbW (m.1 46) w' + c') ∨ (¬ a < 20 ∧ ¬ a = 22 ∧ 2 ≤ nbW (m.1 46) w + c ∧ u ≤ u' ∧ nbW (m.1 46) w + c - 1 = nbW (m.1 46) w' + c')) : SI β (n + 1) w' u' c' m' := by
  obtain ⟨a1, a2, a3, a4, a5, a6⟩ := h
  have e : dpF (m'.1 40) β (n - β) = nbW (m.1 46) w + c := (dpF_c _ (fun j hj => h0 _ (by omega))).trans a4
  have en : β + (n - β) = n := by omega
  have e1 : dpF (m'.1 40) β (n + 1 - β) = if a < 20 then nbW (m.1 46) w + c + 1 else if a = 22 then nbW (m.1 46) w + c else nbW (m.1 46) w + c - 1 := by
    rw [show n + 1 - β = (n - β) + 1 by omega, dpF, e, en, ha]
  rw [a4] at a5
  have ew : nbW (m'.1 46) w' = nbW (m.1 46) w' := nbW_c w' h6
  refine ⟨by omega, fun k hk => by rw [h6 k hk]; exact a2 k (by omega), fun j hj => ?_, ?_, ?_, hu⟩
  · by_cases ej : β + j = n
    · have ej2 : j = n - β := by omega
      subst ej2
      unfold okF
      rw [e, en, ha, hb]
      rcases hd with ⟨d1, d2, d3, d4, d5⟩ | ⟨d1, d2, d3, d4⟩ | ⟨d1, d2, d3, d4, d5⟩
      · exact ⟨fun _ => ⟨d2, d3, by omega⟩, fun z => absurd d1 z, by omega⟩
      · subst d1; exact ⟨fun z => absurd z (by decide), fun _ => ⟨fun _ => d2, fun z => absurd rfl z⟩, by omega⟩
      · exact ⟨fun z => absurd z d1, fun _ => ⟨fun z => absurd z d2, fun _ => d3⟩, by omega⟩
    · exact okF_c (fun i hi => (h0 _ (by omega)).symm) ((h1 _ (by omega)).symm) (a3 j (by omega))
  · rw [e1, ew]
    rcases hd with ⟨d1, d2, d3, d4, d5⟩ | ⟨d1, d2, d3, d4⟩ | ⟨d1, d2, d3, d4, d5⟩
    · rw [if_pos d1]; exact d5
    · subst d1; rw [if_neg (by decide), if_pos rfl]; exact d4
    · rw [if_neg d1, if_neg d2]; exact d5
  · rw [e1]
    rcases hd with ⟨d1, d2, d3, d4, d5⟩ | ⟨d1, d2, d3, d4⟩ | ⟨d1, d2, d3, d4, d5⟩
    · rw [if_pos d1]; omega
    · subst d1; rw [if_neg (by decide), if_pos rfl]; omega
    · rw [if_neg d1, if_neg d2]; omega
theorem SI.hold {β n w u c : Nat} {m m' : Mem} {a : Int32} (h : SI β n w u c m) (h0 : ∀ j, j < n → m'.1 40 j = m.1 40 j) (h1 : ∀ j, j < n → m'.1 41 j = m.1 41 j) (h6 : ∀ j, j < w → m'.1 46 j = m.1 46 j) (ha : m'.1 46 w = a) (hok : okW a) (u' c' : Nat) (hu : u ≤ u' ∧ u' ≤ 60) (hc : c = (if a = 30 ∨ a = 22 then 0 else 1) + c') : SI β n (w + 1) u' c' m' := by
  obtain ⟨a1, a2, a3, a4, a5, a6⟩ := h.of h0 h1 h6
  refine ⟨a1, fun k hk => ?_, a3, ?_, by omega, hu.2⟩
  · by_cases e : k = w
    · rw [e, ha]; exact hok
    · exact a2 k (by omega)
  · rw [a4, nbW, ha]
    omega
theorem SI.drop {β n w u c : Nat} {m : Mem} (h : SI β n (w + 1) u c m) (ha : m.1 46 w = 30) : SI β n w u c m := by
  obtain ⟨a1, a2, a3, a4, a5, a6⟩ := h
  refine ⟨a1, fun k hk => a2 k (by omega), a3, ?_, a5, a6⟩
  rw [a4, nbW, ha, if_pos (Or.inl rfl), Nat.add_zero]
theorem okW_20 {v : Int32} (h : okW v) : ¬ v < 20 := by rcases h with rfl | rfl | rfl | rfl | rfl | rfl | rfl | rfl | rfl | rfl <;> decide
/-- settling behind an operand -/
theorem SI.settle {β u : Nat} (a : Int32) : ∀ (w n : Nat) (m : Mem), m.1 0 74 = nI w → m.1 0 70 = nI n → n + w ≤ 600 → SI β n w u 1 m → ∃ w', Stl a w n m (stQ a w m) w' ∧ SI β (n + (w - w')) w' u 1 (stQ a w m) := by
  intro w
  induction w with
  | zero =>
    intro n m h1 h2 h3 hs
    obtain ⟨w', q⟩ := stQ_r a 0 n m h1 h2 h3
    have e : w' = 0 := by have := q.1; omega
    subst e
    exact ⟨0, q, hs⟩
  | succ w ih =>
    intro n m h1 h2 h3 hs
    obtain ⟨w', q⟩ := stQ_r a (w + 1) n m h1 h2 h3
    refine ⟨w', q, ?_⟩
    unfold stQ at q ⊢
    split at q
    · rename_i c
      rw [if_pos c]
      have e : w' = w + 1 := by
        have q9 := q.2.2.2.2.2.2.2.2 w
        have := q.1
        rcases Nat.lt_or_ge w w' with z | z
        · omega
        · exact absurd c (q9 z (by omega))
      subst e
      rw [Nat.sub_self]
      exact hs
    · rename_i c
      rw [if_neg c]
      obtain ⟨p1, p2, p3, p4, p5, p6, p7⟩ := popAt_r (w := w) h2 (by omega)
      have ho : okW (m.1 46 w) := hs.2.1 w (by omega)
      have hs2 : SI β (n + 1) w u 1 (popAt w m) := by
        refine hs.note (a := m.1 46 w) (b := 0) (fun j hj => ?_) (fun j hj => ?_) ?_ ?_ u w 1 (fun j _ => p4 j) (by omega) hs.2.2.2.2.2 ?_
        · rw [p5]; unfold upd; rw [if_neg (by omega)]
        · rw [p6]; unfold upd; rw [if_neg (by omega)]
        · rw [p5]; unfold upd; rw [if_pos rfl]
        · rw [p6]; unfold upd; rw [if_pos rfl]
        · by_cases e : m.1 46 w = 22
          · refine Or.inr (Or.inl ⟨e, by omega, Nat.le_refl _, ?_⟩)
            rw [nbW, if_pos (Or.inr e)]
          · have e2 : ¬ (m.1 46 w = 30 ∨ m.1 46 w = 22) := fun z => by rcases z with z | z; exact c (Or.inl z); exact e z
            refine Or.inr (Or.inr ⟨okW_20 ho, e, ?_, Nat.le_refl _, ?_⟩)
            · rw [nbW, if_neg e2]; omega
            · rw [nbW, if_neg e2]; omega
      obtain ⟨w2, r1, r2⟩ := ih (n + 1) (popAt w m) p1 p2 (by omega) hs2
      have e : w2 = w' := by
        have b1 := r1.2.1.symm.trans q.2.1
        have := r1.1
        have := q.1
        exact (nI_eq (by omega) (by omega)).mp b1
      subst e
      have e3 : n + 1 + (w - w2) = n + (w + 1 - w2) := by have := r1.1; omega
      rw [← e3]
      exact r2

/-! hill of the class -/
set_option maxHeartbeats 200000 in
theorem csT_o {μ : Mem} {i j : Nat} (h : ¬ (i = 0 ∧ 1 ≤ j ∧ j ≤ 3)) : (csT μ).1 i j = μ.1 i j := by
  unfold csT
  rw [wI_ne (by omega), wI_ne (by omega), wI_ne (by omega)]
set_option maxHeartbeats 200000 in
theorem csT_1 {μ : Mem} : (csT μ).1 0 1 = 0 ∧ (csT μ).1 0 2 = μ.1 2 9 ∧ (csT μ).1 0 3 = μ.1 2 10 := by
  unfold csT
  rw [wI_ne (by omega), wI_ne (by omega), wI_same, wI_ne (by omega), wI_same, wI_same]
  exact ⟨rfl, rfl, rfl⟩
set_option maxHeartbeats 200000 in
theorem cpL_1 {μ : Mem} {a b n : Nat} : (cpL μ a b n).1 = μ.1 := rfl
set_option maxHeartbeats 200000 in
theorem cpI_2 {μ : Mem} {a b n : Nat} : (cpI μ a b n).2 = μ.2 := rfl
set_option maxHeartbeats 200000 in
theorem bcH_6 {μ : Mem} {j : Nat} (h : j < 5) : (bcH μ).1 6 j = μ.1 16 j := by
  unfold bcH
  rw [cpI_ne (by omega), cpI_ne (by omega), cpI_ne (by omega), cpI_ne (by omega), cpI_ne (by omega), cpI_ne (by omega), cpI_ne (by omega), cpI_in h, cpL_1, wI_ne (by omega), wI_ne (by omega)]
set_option maxHeartbeats 200000 in
theorem bcH_7 {μ : Mem} {j : Nat} (h : j < 5) : (bcH μ).1 7 j = μ.1 17 j := by
  unfold bcH
  rw [cpI_ne (by omega), cpI_ne (by omega), cpI_ne (by omega), cpI_ne (by omega), cpI_ne (by omega), cpI_ne (by omega), cpI_in h, cpI_ne (by omega), cpL_1, wI_ne (by omega), wI_ne (by omega)]
set_option maxHeartbeats 200000 in
theorem bcH_8 {μ : Mem} {j : Nat} (h : j < 20) : (bcH μ).1 8 j = μ.1 18 j := by
  unfold bcH
  rw [cpI_ne (by omega), cpI_ne (by omega), cpI_ne (by omega), cpI_ne (by omega), cpI_ne (by omega), cpI_in h, cpI_ne (by omega), cpI_ne (by omega), cpL_1, wI_ne (by omega), wI_ne (by omega)]
set_option maxHeartbeats 200000 in
theorem bcH_9 {μ : Mem} {j : Nat} (h : j < 20) : (bcH μ).1 9 j = μ.1 19 j := by
  unfold bcH
  rw [cpI_ne (by omega), cpI_ne (by omega), cpI_ne (by omega), cpI_ne (by omega), cpI_in h, cpI_ne (by omega), cpI_ne (by omega), cpI_ne (by omega), cpL_1, wI_ne (by omega), wI_ne (by omega)]
set_option maxHeartbeats 200000 in
theorem bcH_10 {μ : Mem} {j : Nat} (h : j < 16) : (bcH μ).1 10 j = μ.1 20 j := by
  unfold bcH
  rw [cpI_ne (by omega), cpI_ne (by omega), cpI_ne (by omega), cpI_in h, cpI_ne (by omega), cpI_ne (by omega), cpI_ne (by omega), cpI_ne (by omega), cpL_1, wI_ne (by omega), wI_ne (by omega)]
set_option maxHeartbeats 200000 in
theorem bcH_11 {μ : Mem} {j : Nat} (h : j < 16) : (bcH μ).1 11 j = μ.1 21 j := by
  unfold bcH
  rw [cpI_ne (by omega), cpI_ne (by omega), cpI_in h, cpI_ne (by omega), cpI_ne (by omega), cpI_ne (by omega), cpI_ne (by omega), cpI_ne (by omega), cpL_1, wI_ne (by omega), wI_ne (by omega)]
set_option maxHeartbeats 200000 in
theorem bcH_12 {μ : Mem} {j : Nat} (h : j < 16) : (bcH μ).1 12 j = μ.1 22 j := by
  unfold bcH
  rw [cpI_ne (by omega), cpI_in h, cpI_ne (by omega), cpI_ne (by omega), cpI_ne (by omega), cpI_ne (by omega), cpI_ne (by omega), cpI_ne (by omega), cpL_1, wI_ne (by omega), wI_ne (by omega)]
set_option maxHeartbeats 200000 in
theorem bcH_13 {μ : Mem} {j : Nat} (h : j < 16) : (bcH μ).1 13 j = μ.1 23 j := by
  unfold bcH
  rw [cpI_in h, cpI_ne (by omega), cpI_ne (by omega), cpI_ne (by omega), cpI_ne (by omega), cpI_ne (by omega), cpI_ne (by omega), cpI_ne (by omega), cpL_1, wI_ne (by omega), wI_ne (by omega)]
set_option maxHeartbeats 200000 in
theorem bcH_o {μ : Mem} {i j : Nat} (h1 : ¬ (i = 4 ∧ j ≤ 1)) (h2 : ¬ (6 ≤ i ∧ i ≤ 13)) : (bcH μ).1 i j = μ.1 i j := by
  unfold bcH
  rw [cpI_ne (by omega), cpI_ne (by omega), cpI_ne (by omega), cpI_ne (by omega), cpI_ne (by omega), cpI_ne (by omega), cpI_ne (by omega), cpI_ne (by omega), cpL_1, wI_ne (by omega), wI_ne (by omega)]
set_option maxHeartbeats 200000 in
theorem bcH_4 {μ : Mem} : (bcH μ).1 4 0 = μ.1 14 0 ∧ (bcH μ).1 4 1 = μ.1 14 1 := by
  unfold bcH
  rw [cpI_ne (by omega), cpI_ne (by omega), cpI_ne (by omega), cpI_ne (by omega), cpI_ne (by omega), cpI_ne (by omega), cpI_ne (by omega), cpI_ne (by omega), cpI_ne (by omega), cpI_ne (by omega), cpI_ne (by omega), cpI_ne (by omega), cpI_ne (by omega), cpI_ne (by omega), cpI_ne (by omega), cpI_ne (by omega), cpL_1, wI_ne (by omega), wI_same, wI_same]
  exact ⟨rfl, rfl⟩
set_option maxHeartbeats 200000 in
theorem bcH_2 (μ : Mem) : (bcH μ).2 = (cpL (wI (wI μ 4 0 (μ.1 14 0)) 4 1 (μ.1 14 1)) 15 5 5).2 := by
  unfold bcH
  rw [cpI_2, cpI_2, cpI_2, cpI_2, cpI_2, cpI_2, cpI_2, cpI_2]
set_option maxHeartbeats 200000 in
theorem bcH_5 {μ : Mem} {j : Nat} (h : j < 5) : (bcH μ).2.1 5 j = μ.2.1 15 j := by
  rw [bcH_2]
  exact cpL_in h
set_option maxHeartbeats 200000 in
theorem bcH_q {μ : Mem} {i j : Nat} (h : i ≠ 5) : (bcH μ).2.1 i j = μ.2.1 i j := by
  rw [bcH_2]
  exact cpL_ne h
set_option maxHeartbeats 200000 in
theorem nar_01 {x : Int32} (h : x = 0 ∨ x = 1) : vp_nar .boolean x = x := vz_01 h
set_option maxHeartbeats 200000 in
theorem RcH_of {m μ τ c : Mem} (h : HR m μ) (hb5 : nbN m ≤ 5) (h29 : m.1 0 29 = nI (nbN m)) (hT : TI m) (hK : HK3 m τ) (c0 : c.1 4 0 = μ.1 14 0) (c1 : c.1 4 1 = μ.1 14 1) (cl : ∀ j, j < 5 → c.2.1 5 j = μ.2.1 15 j) (c6 : ∀ j, j < 5 → c.1 6 j = μ.1 16 j ∧ c.1 7 j = μ.1 17 j) (c8 : ∀ j, j < 20 → c.1 8 j = μ.1 18 j ∧ c.1 9 j = μ.1 19 j) (c10 : ∀ i j, 10 ≤ i ∧ i ≤ 13 → j < 16 → c.1 i j = μ.1 (i + 10) j) : RcH τ c := by
  obtain ⟨h1, h2, h3, r1, r2, r3, r4, r5, r6, r7⟩ := h
  obtain ⟨k1, k2, k3, k4, k5, k6, k7, k8, -, -, -⟩ := hK
  have en : nbx τ = nbN m := by unfold nbx nbN; rw [k7]
  have ew : wthN c = wthN (sC μ) := by
    unfold wthN
    rw [c1, sC_t (by omega)]
  have w16 := r1.1
  have g0 : ∀ (P : Int32 → Int32 → Int32 → Int32 → Prop), (∃ i, i < wthN c ∧ P (c.1 10 i) (c.1 11 i) (c.1 12 i) (c.1 13 i)) ↔ ∃ i, i < wthN (sC μ) ∧ P ((sC μ).1 10 i) ((sC μ).1 11 i) ((sC μ).1 12 i) ((sC μ).1 13 i) := by
    intro P
    rw [ew]
    have old : ∀ i, i < wthN (sC μ) → (P (c.1 10 i) (c.1 11 i) (c.1 12 i) (c.1 13 i) ↔ P ((sC μ).1 10 i) ((sC μ).1 11 i) ((sC μ).1 12 i) ((sC μ).1 13 i)) := by
      intro i hi
      rw [sC_t (by omega), sC_t (by omega), sC_t (by omega), sC_t (by omega), c10 10 i (by omega) (by omega), c10 11 i (by omega) (by omega), c10 12 i (by omega) (by omega), c10 13 i (by omega) (by omega)]
    constructor
    · rintro ⟨i, hi, hP⟩; exact ⟨i, hi, (old i hi).mp hP⟩
    · rintro ⟨i, hi, hP⟩; exact ⟨i, hi, (old i hi).mpr hP⟩
  have tb : ∀ i j, 15 ≤ i ∧ i ≤ 17 → j < 300 → τ.1 i j = (sM m).1 i j := fun i j q hj => by
    rw [k3 i j q hj, sM_t (by omega), nar_01 (hT _ _ (by omega) (fun _ => hj) (fun _ => by omega))]
  have tc : ∀ i j, 18 ≤ i ∧ i ≤ 19 → j < 60 → τ.1 i j = (sM m).1 i j := fun i j q hj => by
    rw [k4 i j q hj, sM_t (by omega), nar_01 (hT _ _ (by omega) (fun _ => by omega) (fun _ => hj))]
  refine ⟨by rw [c0, k7]; exact h1, by rw [c1, k8]; exact h2, fun b hb => ?_, ⟨by rw [ew]; exact w16, by rw [ew, c1]; have e9 := r1.2; rw [sC_t (by omega)] at e9; exact e9⟩, fun d hd => ?_, fun d hd => ?_, fun b d hb hd => ?_, fun b d hb hd => ?_, fun b d hb hd => ?_, fun i hi => ?_⟩
  · rw [en] at hb
    obtain ⟨a1, a2, a3, a4⟩ := h3 b hb
    obtain ⟨e1, e2, e3⟩ := k1 b (by omega)
    refine ⟨by rw [cl b (by omega), e1]; exact a1, by rw [(c6 b (by omega)).1, e2]; exact a2, by rw [(c6 b (by omega)).2, e3]; exact a3, fun p hp => ?_⟩
    rw [(c8 _ (by omega)).1, (c8 _ (by omega)).2, k2 _ (by omega), k2 _ (by omega)]
    exact a4 p hp
  · rw [tc 18 d (by omega) hd]
    exact (r2 d hd).trans (g0 (fun k0 w0 f0 u0 => k0 = 143 ∧ w0 = -1 ∧ f0 ≤ nI d ∧ nI d ≤ u0)).symm
  · rw [tc 19 d (by omega) hd]
    exact (r3 d hd).trans (g0 (fun k0 w0 f0 u0 => k0 = 144 ∧ w0 = -1 ∧ f0 ≤ nI d ∧ nI d ≤ u0)).symm
  · rw [tb 17 _ (by omega) (by omega)]
    exact (r4 b d hb hd).trans (g0 (fun k0 w0 f0 u0 => k0 = 142 ∧ w0 = nI b ∧ f0 ≤ nI d ∧ nI d ≤ u0)).symm
  · rw [tb 15 _ (by omega) (by omega)]
    exact (r5 b d hb hd).trans (g0 (fun k0 w0 f0 _ => k0 = 139 ∧ w0 = nI b ∧ f0 = nI d)).symm
  · rw [tb 16 _ (by omega) (by omega)]
    exact (r6 b d hb hd).trans (g0 (fun k0 w0 f0 _ => k0 = 140 ∧ w0 = nI b ∧ f0 = nI d)).symm
  · rw [ew] at hi
    obtain ⟨a, b, a1, a2, a3, a4⟩ := r7 i hi
    rw [sC_t (by omega)] at a3 a4
    exact ⟨a, b, a1, a2, by rw [c10 12 i (by omega) (by omega)]; exact a3, by rw [c10 13 i (by omega) (by omega)]; exact a4⟩
set_option maxHeartbeats 200000 in
theorem HI_0 {m μ : Mem} (h29 : m.1 0 29 = 0) (h30 : m.1 0 30 = 0) (hz : (∀ i j, 10 ≤ i ∧ i ≤ 12 → j < 300 → m.1 i j = 0) ∧ ∀ i j, 13 ≤ i ∧ i ≤ 14 → j < 60 → m.1 i j = 0) : HI m (wI (wI μ 14 0 0) 14 1 0) := by
  have en : nbN m = 0 := by unfold nbN; rw [h29]; rfl
  have ew : wthN (sC (wI (wI μ 14 0 0) 14 1 0)) = 0 := by
    unfold wthN
    rw [sC_t (by omega)]
    show ((wI (wI μ 14 0 0) 14 1 0).1 14 1).toNatClampNeg = 0
    rw [wI_same]
    rfl
  have no : ∀ (P : Nat → Prop), ¬ ∃ i, i < wthN (sC (wI (wI μ 14 0 0) 14 1 0)) ∧ P i := by
    intro P
    rw [ew]
    rintro ⟨i, hi, -⟩
    exact absurd hi (Nat.not_lt_zero _)
  refine ⟨⟨?_, ?_, fun b hb => absurd hb (by omega), ⟨by omega, ?_⟩, fun d hd => ?_, fun d hd => ?_, fun b d hb hd => ?_, fun b d hb hd => ?_, fun b d hb hd => ?_, fun i hi => absurd hi (by omega)⟩, fun a b ha _ _ => absurd ha (by omega)⟩
  · rw [wI_ne (by omega), wI_same, h29]
  · rw [wI_same, h30]
  · rw [ew, sC_t (by omega)]; exact wI_same
  · rw [sM_t (by omega)]; exact ⟨fun y => absurd (hz.2 13 d (by omega) hd) y, fun y => absurd y (no _)⟩
  · rw [sM_t (by omega)]; exact ⟨fun y => absurd (hz.2 14 d (by omega) hd) y, fun y => absurd y (no _)⟩
  · rw [sM_t (by omega)]; exact ⟨fun y => absurd (hz.1 12 _ (by omega) (by omega)) y, fun y => absurd y (no _)⟩
  · rw [sM_t (by omega)]; exact ⟨fun y => absurd (hz.1 10 _ (by omega) (by omega)) y, fun y => absurd y (no _)⟩
  · rw [sM_t (by omega)]; exact ⟨fun y => absurd (hz.1 11 _ (by omega) (by omega)) y, fun y => absurd y (no _)⟩
set_option maxHeartbeats 200000 in
theorem wR_i {μ : Mem} {v : Nat} : (wR μ v).1 = μ.1 := rfl
def stM (m : Mem) (z : Int32) : Mem := wI (wI (wI (wI (wI (wI m 0 10 z) 0 5 (m.1 0 1)) 0 1 0) 0 4 0) 0 2 0) 0 3 (-1)
set_option maxHeartbeats 200000 in
theorem start_e (m : Mem) (z : Int32) : sp_start m z = tkn (stM m z) := by
  unfold sp_start stM
  rfl
set_option maxHeartbeats 200000 in
theorem st_tb {G : Wd} {m μ : Mem} {t : Nat} {z : Fin 2} {x : Int32} (hw : WFt m) (hx : x = nI z.val) (h1 : m.1 0 1 = nI t) (htx : ∀ j, j < 800 → μ.1 1 j = vp_nar .byte (m.1 1 j) ∧ 0 ≤ (m.1 1 j).toInt ∧ (m.1 1 j).toInt ≤ 255) (hk : ∀ w, w < 26 → μ.2.1 3 w = e27 (wdK.getD w [])) : TB G (stM m x) (opM G μ t z) ∧ (opM G μ t z).1 2 9 = (stM m x).1 0 2 ∧ (opM G μ t z).1 2 10 = (stM m x).1 0 3 ∧ (stM m x).1 0 2 = 0 ∧ (opM G μ t z).1 2 4 = (stM m x).1 0 4 := by
  have s1 : ∀ j, (stM m x).1 1 j = m.1 1 j := fun j => by
    unfold stM
    rw [wI_ne (by omega), wI_ne (by omega), wI_ne (by omega), wI_ne (by omega), wI_ne (by omega), wI_ne (by omega)]
  have o1 : ∀ j, (opM G μ t z).1 1 j = μ.1 1 j := fun j => by
    unfold opM
    rw [wI_ne (by omega), wI_ne (by omega), wI_ne (by omega), wR_i, wI_ne (by omega)]
  have s2 : (stM m x).1 0 2 = 0 := by
    unfold stM
    rw [wI_ne (by omega), wI_same]
  refine ⟨⟨WFx.st hw, ⟨z, ?_, ?_⟩, fun j hj => ?_, ?_, fun w hw2 => hk w hw2⟩, ?_, ?_, s2, ?_⟩
  · unfold stM
    rw [wI_ne (by omega), wI_ne (by omega), wI_ne (by omega), wI_ne (by omega), wI_ne (by omega), wI_same]
    exact hx
  · unfold opM
    rfl
  · rw [o1, s1]; exact htx j hj
  · unfold opM stM
    rw [wI_ne (by omega), wI_ne (by omega), wI_ne (by omega), wI_ne (a := 0) (b := 5) (by omega), wI_ne (a := 0) (b := 5) (by omega), wI_ne (a := 0) (b := 5) (by omega), wI_ne (a := 0) (b := 5) (by omega), wI_same, h1, wR_i, wI_same]
  · rw [s2]
    unfold opM
    rw [wI_ne (by omega), wI_same]
  · unfold opM stM
    rw [wI_same, wI_same]
  · unfold opM stM
    rw [wI_ne (by omega), wI_ne (by omega), wI_same, wI_ne (a := 0) (b := 4) (by omega), wI_ne (a := 0) (b := 4) (by omega), wI_same]
/-- only the reader, the new hill and the tape's three numbers may differ -/
def Fx9 (μ c : Mem) : Prop := (∀ i j, i ≠ 2 → ¬ (14 ≤ i ∧ i ≤ 23) → ¬ (i = 0 ∧ 1 ≤ j ∧ j ≤ 3) → c.1 i j = μ.1 i j) ∧ ∀ i j, i ≠ 2 → i ≠ 15 → c.2.1 i j = μ.2.1 i j
set_option maxHeartbeats 200000 in
theorem hill_t {G : Wd} {σ μ μ2 : Mem} (ht : RcT σ μ) (t2 : TS G (hl2 σ) μ2) : RcT (hl2 σ) (csT μ2) := by
  have tb := t2.1.2.2.1
  refine ⟨by rw [csT_1.1, hl2_1], by rw [csT_1.2.1]; exact t2.2.1, by rw [csT_1.2.2]; exact t2.2.2.1, fun j hj => ?_⟩
  rw [csT_o (by omega)]
  exact tb j hj
set_option maxHeartbeats 200000 in
theorem hill_f {G : Wd} {σ μ μ2 : Mem} {n : Nat} (hR : Rc σ n μ) (hn : n + 1 ≤ 600) (t2 : TS G (hl2 σ) μ2) (f : Fx9 μ (csT μ2)) : Rc (hl2 σ) (n + 1) (csT μ2) := by
  have h0 := hR
  obtain ⟨⟨r1, r2, r3, r4, r5⟩, w1, -⟩ := hR
  refine Rc.mv h0 hn (fun i j q => hl2_o (by omega) (by omega) (by omega) (by omega)) (fun i j q1 q2 => f.1 i j (by omega) (by omega) (by omega)) ⟨hill_t r1 t2, r2.mv (fun i j q => hl2_o (by omega) (by omega) (by omega) (by omega)) (fun i j q => f.1 i j (by omega) (by omega) (by omega)) (f.2 36 3 (by omega) (by omega)), r3.mv (fun i j q => hl2_o (by omega) (by omega) (by omega) (by omega)) (fun j => hl2_q) (fun i j q => f.1 i j (by omega) (by omega) (by omega)) (fun j => f.2 5 j (by omega) (by omega)), r4.mv (fun i j q => hl2_o (by omega) (by omega) (by omega) (by omega)) (fun i j q => f.1 i j (by omega) (by omega) (by omega)), r5.mv (fun b hb => f.1 _ _ (by omega) (by omega) (by omega)) (fun j => f.2 3 j (by omega) (by omega))⟩ ⟨⟨⟨0, by decide, hl2_1⟩, w1.1.2.1.mv (fun i j q => hl2_o (by omega) (by omega) (by omega) (by omega)), w1.1.2.2.mv (fun i j q => hl2_o (by omega) (by omega) (by omega) (by omega))⟩, w1.2.mv (fun i j q => hl2_o (by omega) (by omega) (by omega) (by omega))⟩ (f.1 36 2 (by omega) (by omega) (by omega))
set_option maxHeartbeats 200000 in
theorem pr_e {p : Int32 × Mem} {a : Int32} {b : Mem} (h : p = (a, b)) : p.1 = a ∧ p.2 = b := by
  subst h
  exact ⟨rfl, rfl⟩
set_option maxHeartbeats 200000 in
theorem sp_hill_f {σ : Mem} (h : 0 < (hl2 σ).1 0 2) : (sp_hill σ).1 = -1 ∧ (sp_hill σ).2 = hl2 σ := by
  have e : sp_hill σ = (-1, hl2 σ) := if_pos h
  exact pr_e e
set_option maxHeartbeats 200000 in
theorem sp_hill_s {σ : Mem} (h : ¬ 0 < (hl2 σ).1 0 2) : (sp_hill σ).1 = (hk3 (hl2 σ)).1 0 31 + (hk3 (hl2 σ)).1 0 32 ∧ (sp_hill σ).2 = hk3 (hl2 σ) := by
  have e : sp_hill σ = ((hk3 (hl2 σ)).1 0 31 + (hk3 (hl2 σ)).1 0 32, hk3 (hl2 σ)) := if_neg h
  exact pr_e e
def hlC (μ : Mem) : Mem := clM (wI (wI (bcH (csT μ)) 25 0 0) 25 3 0)
set_option maxHeartbeats 200000 in
theorem hlC_o {μ : Mem} {i j : Nat} (h1 : ¬ (i = 4 ∧ j ≤ 1)) (h2 : ¬ (6 ≤ i ∧ i ≤ 13)) (h3 : ¬ (i = 25 ∧ (j = 0 ∨ j = 3))) (h4 : ¬ (i = 36 ∧ (j = 0 ∨ j = 2 ∨ j = 4))) : (hlC μ).1 i j = (csT μ).1 i j := by
  unfold hlC clM
  rw [wI_ne (by omega), wI_ne (by omega), wL_i, wI_ne (by omega), wI_ne (by omega), wI_ne (by omega), bcH_o h1 h2]
set_option maxHeartbeats 200000 in
theorem hlC_h {μ : Mem} {i j : Nat} (h1 : (i = 4 ∧ j ≤ 1) ∨ (6 ≤ i ∧ i ≤ 13)) : (hlC μ).1 i j = (bcH (csT μ)).1 i j := by
  unfold hlC clM
  rw [wI_ne (by omega), wI_ne (by omega), wL_i, wI_ne (by omega), wI_ne (by omega), wI_ne (by omega)]
set_option maxHeartbeats 200000 in
theorem hlC_36 {μ : Mem} : (hlC μ).1 36 0 = 0 ∧ (hlC μ).1 36 4 = 0 ∧ (hlC μ).1 36 2 = (csT μ).1 36 2 + 1 ∧ (hlC μ).1 25 0 = 0 := by
  unfold hlC clM
  refine ⟨?_, ?_, ?_, ?_⟩
  · rw [wI_ne (by omega), wI_ne (by omega), wL_i, wI_same]
  · rw [wI_ne (by omega), wI_same]
  · rw [wI_same, wI_ne (by omega), wI_ne (by omega), bcH_o (by omega) (by omega)]
  · rw [wI_ne (by omega), wI_ne (by omega), wL_i, wI_ne (by omega), wI_ne (by omega), wI_same]
set_option maxHeartbeats 200000 in
theorem hlC_q {μ : Mem} {i j : Nat} (h : i ≠ 5) (h2 : ¬ (i = 36 ∧ j = 3)) : (hlC μ).2.1 i j = μ.2.1 i j := by
  unfold hlC clM
  rw [wI_l, wI_l, wL_at, if_neg (by omega), wI_l, wI_l, wI_l, bcH_q h]
  rfl
set_option maxHeartbeats 200000 in
theorem hlC_5 {μ : Mem} {j : Nat} (h : j < 5) : (hlC μ).2.1 5 j = μ.2.1 15 j := by
  unfold hlC clM
  rw [wI_l, wI_l, wL_at, if_neg (by omega), wI_l, wI_l, wI_l, bcH_5 h]
  rfl
set_option maxHeartbeats 200000 in
theorem hlC_363 {μ : Mem} : (hlC μ).2.1 36 3 = 0 := by
  unfold hlC clM
  rw [wI_l, wI_l, wL_at, if_pos ⟨rfl, rfl⟩]
set_option maxHeartbeats 200000 in
theorem hill_s {G : Wd} {σ μ μ2 : Mem} {n : Nat} (hR : Rc σ n μ) (hn : n + 1 ≤ 600) (t2 : TS G (hl2 σ) μ2) (h0 : (hl2 σ).1 0 2 = 0) (hI : HI (hl2 σ) μ2) (f : Fx9 μ (csT μ2)) : Rc (hk3 (hl2 σ)) (n + 1) (hlC μ2) := by
  have hR0 := hR
  obtain ⟨⟨r1, r2, r3, r4, r5⟩, w1, -⟩ := hR
  have hwl : WFl (hl2 σ) := hlL_c 22 _ (start_l (z := 0) (hl0_t w1.1.1) hl0_29 hl0_30).1
  obtain ⟨hb5, h29⟩ := hwl.2.1.t
  obtain ⟨hBI, hTI⟩ := hl2_i w1.1.1 h0
  have hK := hk3_s (hl2 σ)
  have hK0 := hK
  obtain ⟨k1, k2, k3, k4, k5, k6, k7, k8, k9, k10, k11⟩ := hK
  have kn : nbx (hk3 (hl2 σ)) = nbN (hl2 σ) := by unfold nbx nbN; rw [k7]
  have kc : nfc (hk3 (hl2 σ)) = 0 := by unfold nfc; rw [k9]; rfl
  have kr : rlN (hk3 (hl2 σ)) = 0 := by unfold rlN; rw [k10]; rfl
  have ko : ∀ i j, ¬ (7 ≤ i ∧ i ≤ 9) → ¬ (15 ≤ i ∧ i ≤ 19) → i ≠ 27 → i ≠ 28 → ¬ (i = 0 ∧ (j = 31 ∨ j = 32 ∨ j = 42 ∨ j = 72)) → (hk3 (hl2 σ)).1 i j = (hl2 σ).1 i j := k11
  have hT := hill_t r1 t2
  refine Rc.step hR0 hn (fun i j q1 q2 => ?_) ⟨?_, ?_, ?_, ?_, ?_⟩ ⟨⟨?_, ?_, ?_⟩, ?_⟩ ?_
  · rw [hlC_o (by omega) (by omega) (by omega) (by omega)]; exact f.1 i j (by omega) (by omega) (by omega)
  · exact hT.mv (fun i j q => ko i j (by omega) (by omega) (by omega) (by omega) (by omega)) (fun i j q => hlC_o (by omega) (by omega) (by omega) (by omega))
  · refine ⟨by rw [hlC_36.1, k9], ?_, ⟨0, by decide, hlC_363, fun d hd => ?_⟩, ⟨0, by decide, hlC_36.2.1, fun r hr => ?_⟩, fun x hx => absurd hx (by omega)⟩
    · rw [hlC_o (by omega) (by omega) (by omega) (by omega), f.1 36 1 (by omega) (by omega) (by omega), r2.2.1, ko 0 43 (by omega) (by omega) (by omega) (by omega) (by omega), hl2_o (by omega) (by omega) (by omega) (by omega)]
    · rw [k5 d hd, Nat.zero_testBit]; rfl
    · rw [k6 r hr, Nat.zero_testBit]; rfl
  · refine RcH_of hI.1 hb5 h29 hTI hK0 ?_ ?_ (fun j hj => hlC_5 hj) (fun j hj => ⟨?_, ?_⟩) (fun j hj => ⟨?_, ?_⟩) (fun i j q hj => ?_)
    · rw [hlC_h (by omega), bcH_4.1, csT_o (by omega)]
    · rw [hlC_h (by omega), bcH_4.2, csT_o (by omega)]
    · rw [hlC_h (by omega), bcH_6 hj, csT_o (by omega)]
    · rw [hlC_h (by omega), bcH_7 hj, csT_o (by omega)]
    · rw [hlC_h (by omega), bcH_8 hj, csT_o (by omega)]
    · rw [hlC_h (by omega), bcH_9 hj, csT_o (by omega)]
    · rw [hlC_h (by omega)]
      have hc : i = 10 ∨ i = 11 ∨ i = 12 ∨ i = 13 := by omega
      rcases hc with e | e | e | e
      · rw [e, bcH_10 hj, csT_o (by omega)]
      · rw [e, bcH_11 hj, csT_o (by omega)]
      · rw [e, bcH_12 hj, csT_o (by omega)]
      · rw [e, bcH_13 hj, csT_o (by omega)]
  · refine ⟨by rw [hlC_36.2.2.2, k10], fun y => absurd y (by omega), fun r hr => absurd hr (by omega), fun r hr => absurd hr (by omega)⟩
  · refine r5.mv (fun b hb => ?_) (fun j => ?_)
    · rw [hlC_o (by omega) (by omega) (by omega) (by omega)]; exact f.1 _ _ (by omega) (by omega) (by omega)
    · rw [hlC_q (by omega) (by omega)]
      exact f.2 3 j (by omega) (by omega)
  · exact ⟨0, by decide, by rw [ko 0 1 (by omega) (by omega) (by omega) (by omega) (by omega), hl2_1]; rfl⟩
  · exact ⟨⟨0, by decide, k9⟩, fun x hx => absurd hx (by omega)⟩
  · refine ⟨⟨nbN (hl2 σ), hb5, by rw [k7]; exact h29⟩, fun b hb => ?_⟩
    rw [kn] at hb
    have ob := (hBI b hb).1
    unfold okBx at ob ⊢
    rw [sM_7, sM_9, sM_8, sM_8, sM_8, sM_8, sM_8, sM_8, sM_8, sM_8] at ob
    obtain ⟨e1, e2, e3⟩ := k1 b (by omega)
    rw [e2, e3, k2 _ (by omega), k2 _ (by omega), k2 _ (by omega), k2 _ (by omega), k2 _ (by omega), k2 _ (by omega), k2 _ (by omega), k2 _ (by omega)]
    exact ob
  · exact ⟨by omega, by rw [kr, k10]; rfl, fun r hr => absurd hr (by omega)⟩
  · rw [hlC_36.2.2.1, f.1 36 2 (by omega) (by omega) (by omega)]
set_option maxHeartbeats 400000 in
set_option maxRecDepth 100000 in
theorem C_hill {l : Launch} {G : Wd} {n : Nat} {σ μ : Mem} (hS : okS G) (hZ : okZ G) (hR : Rc σ n μ) (hn : n + 1 ≤ 600) : Mt l G KC yX11_hill cX11_hill 1 (some .int) 10 [.ref (gA G 0)] μ (Qi (fun v μ' => v = (sp_hill σ).1 ∧ Rc (sp_hill σ).2 (n + 1) μ')) := by
  refine Mt.of (own := RX11) (n := 0) (by decide) rfl [some (.ref (gA G 0))] rfl (Nat.le_of_ble_eq_true rfl) ?_
  obtain ⟨htn, ht⟩ := hR.2.1.1.1.t
  obtain ⟨hwl, hsum, -⟩ := start_l (z := 0) (hl0_t hR.2.1.1.1) hl0_29 hl0_30
  obtain ⟨b1, b2, b3, b4, b5⟩ := st_tb (G := G) (μ := μ) (t := tpd σ) (z := 0) (x := 0) (hl0_t hR.2.1.1.1) rfl ((hl0_k (by omega) (by omega)).trans ht) (fun j hj => by rw [hl0_k (by omega) (by omega)]; exact hR.1.1.2.2.2 j hj) (fun w hw => hR.1.2.2.2.2.1 w hw)
  refine A_aload0 dX11_hill_0 ?_
  refine A_getR gf_X11_22 rfl dX11_hill_1 ?_
  refine A_aload0 dX11_hill_4 ?_
  refine A_getI gf_X11_114 rfl dX11_hill_5 ?_
  rw [hR.1.1.1, ht]
  refine A_ldcS (fun s1 H1 g1 => (hS s1 H1 g1).2.2.1) dX11_hill_8 ?_
  refine A_vv2 lk_X11_123 yv_X9_open dX11_hill_10 (rfl) (rfl) (T_X9_open (m := stM (hl0 σ) 0) (t := tpd σ) (z := 0) hS htn b1 b2 b3 b4 b5) (by decide) (Nat.le_of_ble_eq_true rfl) (fun μ_10 h_10 => ?_)
  have g1 := h_10
  rw [← start_e] at g1
  have hI0 : HI (sp_start (hl0 σ) 0) (wI (wI μ_10 14 0 0) 14 1 0) := HI_0 (by rw [start_o (by omega)]; exact hl0_29) (by rw [start_o (by omega)]; exact hl0_30) ⟨fun i j q hj => by rw [start_o (by omega)]; exact hl0_z.1 i j q hj, fun i j q hj => by rw [start_o (by omega)]; exact hl0_z.2 i j q hj⟩
  refine A_aload0 dX11_hill_13 ?_
  refine A_getR gf_X11_41 rfl dX11_hill_14 ?_
  refine A_vv0 lk_X11_127 yv_X3_parse dX11_hill_17 (rfl) (rfl) (T_X3_parse (m := sp_start (hl0 σ) 0) hS hZ g1.1 hwl hsum hI0) (by decide) (Nat.le_of_ble_eq_true rfl) (fun μ_17 h_17 => ?_)
  have g2 := h_17
  have e2 : hlL 22 (sp_start (hl0 σ) 0) = hl2 σ := by unfold hl2; rfl
  rw [e2] at g2
  have t2 := g2.1
  refine A_aload0 dX11_hill_20 ?_
  refine A_vv0 lk_X11_130 yv_X11_closeText dX11_hill_21 (rfl) (rfl) (T_X11_closeText) (by decide) (Nat.le_of_ble_eq_true rfl) (fun μ_21 h_21 => ?_)
  subst h_21
  have f9 : Fx9 μ (csT μ_17) := ⟨fun i j q1 q2 q3 => by rw [csT_o q3, g2.2.1.1 i j (by omega) q2, g1.2.1 i j q1], fun i j q1 q2 => (g2.2.1.2.1 i j (by omega) q2).trans (g1.2.2 i j q1)⟩
  refine A_aload0 dX11_hill_24 ?_
  refine A_getI gf_X11_133 rfl dX11_hill_25 ?_
  rw [csT_1.2.1, t2.2.1]
  refine A_if_eq (tgt := 33) dX11_hill_28 (by decide) (fun c_28 => ?_) (fun c_28 => ?_)
  · have h02 : (hl2 σ).1 0 2 = 0 := c_28
    have hneg : ¬ 0 < (hl2 σ).1 0 2 := by rw [h02]; decide
    refine A_aload0 dX11_hill_33 ?_
    refine A_getR gf_X11_29 rfl dX11_hill_34 ?_
    refine A_aload0 dX11_hill_37 ?_
    refine A_getR gf_X11_33 rfl dX11_hill_38 ?_
    refine A_vv1 lk_X11_136 yv_X2_become dX11_hill_41 (rfl) (rfl) (T_X2_become) (by decide) (Nat.le_of_ble_eq_true rfl) (fun μ_41 h_41 => ?_)
    subst h_41
    refine A_aload0 dX11_hill_44 ?_
    refine A_getR gf_X11_48 rfl dX11_hill_45 ?_
    refine A_vv0 lk_X11_140 yv_X6_clear dX11_hill_48 (rfl) (rfl) (T_X6_clear_25) (by decide) (Nat.le_of_ble_eq_true rfl) (fun μ_48 h_48 => ?_)
    subst h_48
    refine A_aload0 dX11_hill_51 ?_
    refine A_getR gf_X11_67 rfl dX11_hill_52 ?_
    refine A_vv0 lk_X11_143 yv_X1_clear dX11_hill_55 (rfl) (rfl) (T_X1_clear) (by decide) (Nat.le_of_ble_eq_true rfl) (fun μ_55 h_55 => ?_)
    have e55 : μ_55 = hlC μ_17 := h_55
    subst e55
    refine A_aload0 dX11_hill_58 ?_
    refine A_getR gf_X11_29 rfl dX11_hill_59 ?_
    refine A_getI gf_X11_144 rfl dX11_hill_62 ?_
    refine A_aload0 dX11_hill_65 ?_
    refine A_getR gf_X11_29 rfl dX11_hill_66 ?_
    refine A_getI gf_X11_147 rfl dX11_hill_69 ?_
    refine A_iadd dX11_hill_72 ?_
    refine A_iret dX11_hill_73 ?_
    obtain ⟨e1, e3⟩ := sp_hill_s hneg
    have hfin := hill_s hR hn t2 h02 (g2.2.2 h02) f9
    refine ⟨_, rfl, ?_, ?_⟩
    · rw [e1, hfin.1.2.2.1.1, hfin.1.2.2.1.2.1]
    · rw [e3]; exact hfin
  · have hpos : 0 < (hl2 σ).1 0 2 := (t2.en c_28).2
    refine A_iconst (v := -1) dX11_hill_31 (by decide) ?_
    refine A_iret dX11_hill_32 ?_
    obtain ⟨e1, e2⟩ := sp_hill_f hpos
    refine ⟨_, rfl, e1.symm, ?_⟩
    rw [e2]
    exact hill_f hR hn t2 f9

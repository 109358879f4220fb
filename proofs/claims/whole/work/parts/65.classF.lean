/-! a day is tried -/
/-- only the Laws of box b have changed, its number not -/
def LF (b : Nat) (μ μ' : Mem) : Prop := μ'.2 = μ.2 ∧ ∀ i j, ¬ (49 + 5 * b ≤ i ∧ i ≤ 52 + 5 * b) → ¬ (i = 48 + 5 * b ∧ j ≠ 3) → μ'.1 i j = μ.1 i j
theorem LF.rf {b : Nat} {μ : Mem} : LF b μ μ := ⟨rfl, fun _ _ _ _ => rfl⟩
theorem LF.tr {b : Nat} {x y z : Mem} (h : LF b x y) (g : LF b y z) : LF b x z := ⟨g.1.trans h.1, fun i j a c => (g.2 i j a c).trans (h.2 i j a c)⟩
theorem LF.w {b i k : Nat} {x y : Mem} {v : Int32} (h : LF b x y) (hi : (49 + 5 * b ≤ i ∧ i ≤ 52 + 5 * b) ∨ (i = 48 + 5 * b ∧ k ≠ 3)) : LF b x (wI y i k v) := ⟨h.1, fun p q a c => (wI_ne (by omega)).trans (h.2 p q a c)⟩
theorem BF.lf {b : Nat} {x y : Mem} (h : BF b x y) : LF b x y := ⟨h.1, fun i j a c => h.2 i j (by omega) (by omega)⟩
theorem LF.k {b : Nat} {x y : Mem} (hb : b < 5) (h : LF b x y) : Kc x y := ⟨fun i j q => h.2 i j (by omega) (by omega), fun i j _ => by rw [h.1]⟩
theorem LF.wk {b : Nat} {σ x y : Mem} {k : Int32} (hb : b < 5) (h : LF b x y) (g : Wk σ k x) : Wk σ k y := g.keep (h.k hb) (fun i j a c => h.2 i j (by omega) (by omega))
/-- bent and misses may have changed -/
def TrF (b : Nat) (μ μ' : Mem) : Prop := μ'.2 = μ.2 ∧ ∀ i j, i ≠ 50 + 5 * b → i ≠ 51 + 5 * b → μ'.1 i j = μ.1 i j
theorem TrF.rf {b : Nat} {μ : Mem} : TrF b μ μ := ⟨rfl, fun _ _ _ _ => rfl⟩
theorem TrF.tr {b : Nat} {x y z : Mem} (h : TrF b x y) (g : TrF b y z) : TrF b x z := ⟨g.1.trans h.1, fun i j a c => (g.2 i j a c).trans (h.2 i j a c)⟩
theorem TrF.w {b i k : Nat} {x y : Mem} {v : Int32} (h : TrF b x y) (hi : i = 50 + 5 * b ∨ i = 51 + 5 * b) : TrF b x (wI y i k v) := ⟨h.1, fun p q a c => (wI_ne (by omega)).trans (h.2 p q a c)⟩
theorem TrF.lf {b : Nat} {x y : Mem} (h : TrF b x y) : LF b x y := ⟨h.1, fun i j a c => h.2 i j (by omega) (by omega)⟩
theorem TrF.bw {b : Nat} {x y : Mem} {L : List Bd} (h : TrF b x y) (g : BW b L x) : BW b L y := ⟨(h.2 _ 9 (by omega) (by omega)).trans g.1, fun i z hz => (h.2 _ i (by omega) (by omega)).trans (g.2 i z hz)⟩
theorem ivN_ok : ∀ (n a x : Nat), x ∈ ivN a n → a ≤ x ∧ x < a + n := by
  intro n
  induction n with
  | zero => intro a x h; cases h
  | succ n ih =>
    intro a x h
    unfold ivN at h
    rcases List.mem_cons.mp h with h | h
    · omega
    · have := ih _ _ h; omega
theorem iv_ok : ∀ (n : Nat) (a x : Int32), a.toInt + n ≤ 2147483647 → x ∈ iv a n → a.toInt ≤ x.toInt ∧ x.toInt < a.toInt + n := by
  have e1 : (1 : Int32).toInt = 1 := rfl
  intro n
  induction n with
  | zero => intro a x _ h; cases h
  | succ n ih =>
    intro a x hn h
    unfold iv at h
    rcases List.mem_cons.mp h with h | h
    · rw [h]; omega
    · have := i_rng a
      have ea : (a + 1).toInt = a.toInt + 1 := by rw [i_add (by rw [e1]; omega), e1]
      have := ih _ _ (by rw [ea]; omega) h
      rw [ea] at this
      omega
theorem bnL_ok {σ : Mem} {b : Nat} (h : okBx σ b) {y : Bd} (hy : y ∈ bnL σ b) : okBd y := by
  obtain ⟨-, r2, r4, r6⟩ := rn_i h
  obtain ⟨-, -, -, h2, h4, h6⟩ := h
  unfold bnL bnS bnLg bnT at hy
  rw [List.mem_flatMap] at hy
  obtain ⟨s, s1, s2⟩ := hy
  rw [List.mem_flatMap] at s2
  obtain ⟨l, l1, l2⟩ := s2
  rw [List.mem_map] at l2
  obtain ⟨t, t1, t2⟩ := l2
  subst t2
  have a1 : 8 ≤ (rl σ b 2).toInt := h2.1
  have a2 : (rl σ b 3).toInt ≤ 12 := h2.2.2
  have a3 : 0 ≤ (rl σ b 4).toInt := h4.1
  have a4 : (rl σ b 5).toInt ≤ 2 := h4.2.2
  have a5 : 0 ≤ (rl σ b 6).toInt := h6.1
  have a6 : (rl σ b 7).toInt ≤ 3 := h6.2.2
  have b1 := iv_ok _ _ _ (by omega) s1
  have b2 := ivN_ok _ _ _ l1
  have b3 := iv_ok _ _ _ (by omega) t1
  have elg : ((lgN σ b : Nat) : Int) = (rl σ b 4).toInt := i_clamp a3
  exact ⟨by show 8 ≤ s.toInt; omega, by show s.toInt ≤ 12; omega, by show l ≤ 2; omega, by show 0 ≤ t.toInt; omega, by show t.toInt ≤ 3; omega⟩
theorem bnL_len {σ : Mem} {b : Nat} : (bnL σ b).length = rn1 σ b 2 * (rn1 σ b 4 * rn1 σ b 6) := by
  unfold bnL bnS
  generalize rl σ b 2 = s
  generalize rn1 σ b 2 = n
  induction n generalizing s with
  | zero => simp [iv]
  | succ n ih => rw [iv, List.flatMap_cons, List.length_append, ih, bnLg_len, Nat.succ_mul, Nat.add_comm]
theorem eZ_b (σ : Mem) (b : Nat) (z : Int32) (q : Nat) : eZ σ b z (q + 1) = (bnL σ b).map (fun y => ((z, y) : Lw)) ++ eZ σ b (z + 1) q := by
  unfold eZ
  rw [iv, List.flatMap_cons, eS_bn]
theorem eZ_l2 (σ : Mem) (b : Nat) : ∀ (q : Nat) (z : Int32), (eZ σ b z q).length = q * (bnL σ b).length := by
  intro q
  induction q with
  | zero => intro z; simp [eZ, iv]
  | succ q ih => intro z; rw [eZ_b, List.length_append, List.length_map, ih, Nat.succ_mul, Nat.add_comm]
theorem allL_n {σ : Mem} {b : Nat} (h : okBx σ b) : (allL σ b).length = rn1 σ b 0 * (bnL σ b).length ∧ (allL σ b).length ≤ 660 ∧ (bnL σ b).length ≤ 60 := by
  have e := eZ_l2 σ b (rn1 σ b 0) (rl σ b 0)
  have e2 : (bnL σ b).length ≤ 60 := by rw [bnL_len]; exact bn_60 h
  have e3 : rn1 σ b 0 * (bnL σ b).length ≤ 11 * 60 := Nat.mul_le_mul (rn1_le h).1.2 e2
  exact ⟨e, by unfold allL; omega, e2⟩
/-- misses: those of the first n laws with the day, the others without -/
def MsI (σ : Mem) (b : Nat) (c : Lw → Nat) (M : Lw → Bool) (n : Nat) (μ : Mem) : Prop := ∀ (j : Nat) (x : Lw), (allL σ b)[j]? = some x → μ.1 (51 + 5 * b) j = nI (if j < n ∧ M x = true then c x + 1 else c x)
def fal (c : Lw → Nat) (M : Lw → Bool) (L : List Lw) : Nat := L.countP (fun x => decide (c x = 0) && M x)
def misB (σ : Mem) (k : Int32) (b d : Nat) (x : Lw) : Bool := decide (¬ bnt σ k b d x.2 = -100000 ∧ ¬ fitS σ b (shO σ k b d x.1 x.2.1 x.2.2.1 x.2.2.2) (rdN σ k b d))
theorem misB_i {σ : Mem} {k : Int32} {b d : Nat} {x : Lw} (hw : WFf σ) (hz : -5 ≤ x.1.toInt ∧ x.1.toInt ≤ 5) (hy : okBd x.2) (hd : d < 60) (h1 : ¬ σ.1 27 d = 0) (h2 : ¬ rdN σ k b d = -100000) : misB σ k b d x = true ↔ mis σ k b x d := by
  unfold misB mis
  rw [decide_eq_true_iff]
  have h3 := (shO_b (k := k) (b := b) hw hz hy hd).1
  constructor
  · rintro ⟨a1, a2⟩; exact ⟨h1, h2, fun z => a1 (h3.mp z), a2⟩
  · rintro ⟨-, -, a1, a2⟩; exact ⟨fun z => a1 (h3.mpr z), a2⟩
theorem MsI.step {σ : Mem} {b : Nat} {c : Lw → Nat} {M : Lw → Bool} {n : Nat} {μ : Mem} {x : Lw} (h : MsI σ b c M n μ) (hx : (allL σ b)[n]? = some x) (hM : M x = false) : MsI σ b c M (n + 1) μ := by
  intro j y hy
  rw [h j y hy]
  by_cases e : j = n
  · subst e
    rw [hx] at hy
    cases hy
    rw [if_neg (by omega), if_neg (fun z => by rw [hM] at z; cases z.2)]
  · by_cases q : j < n ∧ M y = true
    · rw [if_pos q, if_pos ⟨by omega, q.2⟩]
    · rw [if_neg q, if_neg (fun z => q ⟨by omega, z.2⟩)]
theorem MsI.inc {σ : Mem} {b : Nat} {c : Lw → Nat} {M : Lw → Bool} {n : Nat} {μ : Mem} {x : Lw} (h : MsI σ b c M n μ) (hx : (allL σ b)[n]? = some x) (hM : M x = true) : MsI σ b c M (n + 1) (wI μ (51 + 5 * b) n (nI (c x + 1))) := by
  intro j y hy
  by_cases e : j = n
  · subst e
    rw [hx] at hy
    cases hy
    rw [wI_same, if_pos ⟨by omega, hM⟩]
  · rw [wI_ne (by omega), h j y hy]
    by_cases q : j < n ∧ M y = true
    · rw [if_pos q, if_pos ⟨by omega, q.2⟩]
    · rw [if_neg q, if_neg (fun z => q ⟨by omega, z.2⟩)]
set_option maxHeartbeats 400000 in
set_option maxRecDepth 100000 in
theorem L_X5_tryDay_91 {l : Launch} {G : Wd} {σ M : Mem} {k : Int32} {b d : Nat} {c : Lw → Nat} {z : Int32} {P2 R : List Lw} (hM : Wk σ k M) (hbn : b < nbx σ) (hb : b < 5) (hd : d < 60) (hr : ¬ rdN σ k b d = -100000) (hB : BW b (bnL σ b) M) (hc : ∀ x, c x ≤ 100) (hz : -5 ≤ z.toInt ∧ z.toInt ≤ 5) (hk : ∀ (x7 : Option Value) (m : Mem), TrF b M m → (∀ (i : Nat) (y : Bd), (bnL σ b)[i]? = some y → m.1 (50 + 5 * b) i = bnt σ k b d y) → MsI σ b c (misB σ k b d) P2.length m → AW l G KC RX5 cX5_tryDay 8 4 (some .int) (Qi (fun v μ' => v = nI (fal c (misB σ k b d) (allL σ b)) ∧ MsI σ b c (misB σ k b d) (allL σ b).length μ' ∧ TrF b M μ')) 185 [some (.ref (gA G (48 + 5 * b))), some (.int (nI d)), some (.int (rdN σ k b d)), some (.int (nI (agS σ b d))), some (.int (nI (fal c (misB σ k b d) P2))), some (.int (nI P2.length)), some (.int z), x7] [] m) : ∀ (Y : List Bd) (i : Nat) (L : List Lw) (m : Mem), (bnL σ b).drop i = Y → i ≤ 60 → TrF b M m → (∀ (i : Nat) (y : Bd), (bnL σ b)[i]? = some y → m.1 (50 + 5 * b) i = bnt σ k b d y) → MsI σ b c (misB σ k b d) L.length m → L ++ Y.map (fun y => ((z, y) : Lw)) = P2 → P2 ++ R = allL σ b → AW l G KC RX5 cX5_tryDay 8 4 (some .int) (Qi (fun v μ' => v = nI (fal c (misB σ k b d) (allL σ b)) ∧ MsI σ b c (misB σ k b d) (allL σ b).length μ' ∧ TrF b M μ')) 91 [some (.ref (gA G (48 + 5 * b))), some (.int (nI d)), some (.int (rdN σ k b d)), some (.int (nI (agS σ b d))), some (.int (nI (fal c (misB σ k b d) L))), some (.int (nI L.length)), some (.int z), some (.int (nI i))] [] m := by
  have hal := allL_n (hM.ok hbn).1
  intro Y
  induction Y with
  | nil =>
    intro i L m hY hi6 hF hN hS hP hR
    have hP2 : L = P2 := by rw [← hP]; simp
    have hBm := hF.bw hB
    have hi : (bnL σ b).length ≤ i := List.drop_eq_nil_iff.mp hY
    subst hP2
    refine A_iload7 dX5_tryDay_91 ?_
    refine A_aload0 dX5_tryDay_93 ?_
    refine A_getI gf_X5_87 (kL_9 hb) dX5_tryDay_94 ?_
    rw [hBm.1]
    refine A_icmp_ge (tgt := 185) dX5_tryDay_97 (by decide) (fun c_97 => ?_) (fun c_97 => absurd c_97 (fun q => q (nI_le hi (by omega))))
    exact hk _ m hF hN hS
  | cons y Y ih =>
    intro i L m hY hi6 hF hN hS hP hR
    have hBm := hF.bw hB
    have hW := hF.lf.wk hb hM
    have hi : i < (bnL σ b).length := by
      rcases Nat.lt_or_ge i (bnL σ b).length with q | q
      · exact q
      · rw [List.drop_eq_nil_iff.mpr q] at hY; cases hY
    have hyi : (bnL σ b)[i]? = some y := by
      have e := congrArg (fun l => l[0]?) hY
      simp only [List.getElem?_drop, Nat.add_zero] at e
      rw [e]; rfl
    have hY2 : (bnL σ b).drop (i + 1) = Y := by rw [← List.drop_drop, hY]; rfl
    have hyo : okBd y := bnL_ok (hM.ok hbn).1 (List.mem_of_getElem? hyi)
    have hAx : (allL σ b)[L.length]? = some (z, y) := by
      rw [← hR, ← hP, List.map_cons, List.append_assoc, List.getElem?_append_right (Nat.le_refl _), Nat.sub_self]
      rfl
    have hLl : L.length < 660 := by have := (List.getElem?_eq_some_iff.mp hAx).1; omega
    have hP3 : (L ++ [((z, y) : Lw)]) ++ Y.map (fun y => ((z, y) : Lw)) = P2 := by rw [← hP, List.append_assoc]; rfl
    have hl3 : (L ++ [((z, y) : Lw)]).length = L.length + 1 := by simp
    have eN := hN i y hyi
    have eS := hS L.length (z, y) hAx
    rw [if_neg (by omega)] at eS
    have hrb := (layR_b (k := k) (nfc σ) hM.2.2.2.1.2 (60 * b + d)).resolve_left hr
    have hrb2 : -999 ≤ (rdN σ k b d).toInt ∧ (rdN σ k b d).toInt ≤ 999 := hrb
    have hfit : ¬ bnt σ k b d y = -100000 → (fitC m b (z + bnt σ k b d y) (rdN σ k b d) ↔ fitS σ b (shO σ k b d z y.1 y.2.1 y.2.2) (rdN σ k b d)) := by
      intro q
      obtain ⟨s1, s2, s3, s4⟩ := (shO_b (k := k) (b := b) hM.2.2.2.1 hz hyo hd).2 q
      rcases bnt_b (k := k) (b := b) hM.2.2.2.1 hyo hd with g | g
      · exact absurd g q
      · refine fitC_i (hW.bx hbn).2.1 (hW.bx hbn).2.2.1 (by omega) (by rw [s3]; omega) ?_
        by_cases w : σ.1 7 b = 3
        · rw [if_pos w] at s4 ⊢; rw [s4, s3]; omega
        · rw [if_neg w] at s4 ⊢; rw [s4, s3]
    have fal1 : fal c (misB σ k b d) (L ++ [((z, y) : Lw)]) = fal c (misB σ k b d) L + (if c (z, y) = 0 ∧ misB σ k b d (z, y) = true then 1 else 0) := by
      unfold fal
      rw [List.countP_append, List.countP_singleton]
      congr 1
      by_cases a1 : c (z, y) = 0 <;> cases misB σ k b d (z, y) <;> simp [a1]
    refine A_iload7 dX5_tryDay_91 ?_
    refine A_aload0 dX5_tryDay_93 ?_
    refine A_getI gf_X5_87 (kL_9 hb) dX5_tryDay_94 ?_
    rw [hBm.1]
    refine A_icmp_ge (tgt := 185) dX5_tryDay_97 (by decide) (fun c_97 => absurd c_97 (fun q => nI_ge hi (by omega) q)) (fun c_97 => ?_)
    refine A_iload5 dX5_tryDay_100 ?_
    refine A_sipush (v := 660) dX5_tryDay_102 (by decide) ?_
    refine A_icmp_ge (tgt := 185) dX5_tryDay_105 (by decide) (fun c_105 => absurd c_105 (fun q => nI_ge (a := L.length) (b := 660) hLl (by decide) q)) (fun c_105 => ?_)
    refine A_aload0 dX5_tryDay_108 ?_
    refine A_getR gf_X5_31 (kL_8 hb) dX5_tryDay_109 ?_
    refine A_iload7 dX5_tryDay_112 ?_
    refine A_iald (kA_50 hb) (vp_in_nI (by omega) (by omega)) dX5_tryDay_114 ?_
    rw [nI_c (by omega), eN]
    refine A_ldc dX5_tryDay_115 kc_X5_53 ?_
    refine A_icmp_eq (tgt := 176) dX5_tryDay_117 (by decide) (fun c_117 => ?_) (fun c_117 => ?_)
    · refine A_iinc5 dX5_tryDay_176 rfl rfl (by decide) ?_
      refine A_iinc7 dX5_tryDay_179 rfl rfl (by decide) ?_
      refine A_goto (tgt := 91) dX5_tryDay_182 (by decide) ?_
      rw [show nI L.length + Int32.ofInt 1 = nI (L.length + 1) from nI_1 _, show nI i + Int32.ofInt 1 = nI (i + 1) from nI_1 i]
      have hMb : misB σ k b d (z, y) = false := by unfold misB; exact decide_eq_false (fun q => q.1 c_117)
      rw [hMb, if_neg (fun q => by cases q.2), Nat.add_zero] at fal1
      rw [← hl3, ← fal1]
      exact ih (i + 1) _ m hY2 (by omega) hF hN (by rw [hl3]; exact hS.step hAx hMb) hP3 hR
    · refine A_aload0 dX5_tryDay_120 ?_
      refine A_getR gf_X5_19 (kL_2 hb) dX5_tryDay_121 ?_
      refine A_aload0 dX5_tryDay_124 ?_
      refine A_getI gf_X5_23 (kL_3 hb) dX5_tryDay_125 ?_
      rw [hW.X hb]
      refine A_iload6 dX5_tryDay_128 ?_
      refine A_aload0 dX5_tryDay_130 ?_
      refine A_getR gf_X5_31 (kL_8 hb) dX5_tryDay_131 ?_
      refine A_iload7 dX5_tryDay_134 ?_
      refine A_iald (kA_50 hb) (vp_in_nI (by omega) (by omega)) dX5_tryDay_136 ?_
      rw [nI_c (by omega), eN]
      refine A_iadd dX5_tryDay_137 ?_
      refine A_iload2 dX5_tryDay_138 ?_
      refine A_vi3 lk_X5_118 yv_X2_fits dX5_tryDay_139 (rfl) (rfl) (T_X2_fits hb) (by decide) (Nat.le_of_ble_eq_true rfl) (fun r_139 μ_139 h_139 => ?_)
      obtain ⟨v_139, e_139⟩ := h_139
      replace v_139 := Eq.symm v_139
      subst v_139
      replace e_139 := e_139.symm
      subst e_139
      refine A_if_ne (tgt := 176) dX5_tryDay_142 (by decide) (fun c_142 => ?_) (fun c_142 => ?_)
      · refine A_iinc5 dX5_tryDay_176 rfl rfl (by decide) ?_
        refine A_iinc7 dX5_tryDay_179 rfl rfl (by decide) ?_
        refine A_goto (tgt := 91) dX5_tryDay_182 (by decide) ?_
        rw [show nI L.length + Int32.ofInt 1 = nI (L.length + 1) from nI_1 _, show nI i + Int32.ofInt 1 = nI (i + 1) from nI_1 i]
        have hMb : misB σ k b d (z, y) = false := by unfold misB; exact decide_eq_false (fun q => q.2 ((hfit c_117).mp (bz_y c_142)))
        rw [hMb, if_neg (fun q => by cases q.2), Nat.add_zero] at fal1
        rw [← hl3, ← fal1]
        exact ih (i + 1) _ m hY2 (by omega) hF hN (by rw [hl3]; exact hS.step hAx hMb) hP3 hR
      · refine A_iload4 dX5_tryDay_145 ?_
        refine A_aload0 dX5_tryDay_147 ?_
        refine A_getR gf_X5_34 (kL_10 hb) dX5_tryDay_148 ?_
        refine A_iload5 dX5_tryDay_151 ?_
        refine A_iald (kA_51 hb) (vp_in_nI (by omega) (by omega)) dX5_tryDay_153 ?_
        rw [nI_c (by omega), eS]
        refine A_if_ne (tgt := 161) dX5_tryDay_154 (by decide) (fun c_154 => ?_) (fun c_154 => ?_)
        · refine A_iconst (v := 0) dX5_tryDay_161 (by decide) ?_
          refine A_iadd dX5_tryDay_162 ?_
          refine A_istore4 dX5_tryDay_163 rfl (by decide) ?_
          refine A_aload0 dX5_tryDay_165 ?_
          refine A_getR gf_X5_34 (kL_10 hb) dX5_tryDay_166 ?_
          refine A_iload5 dX5_tryDay_169 ?_
          refine A_dup2 dX5_tryDay_171 rfl rfl ?_
          refine A_iald (kA_51 hb) (vp_in_nI (by omega) (by omega)) dX5_tryDay_172 ?_
          rw [nI_c (by omega), eS]
          refine A_iconst (v := 1) dX5_tryDay_173 (by decide) ?_
          refine A_iadd dX5_tryDay_174 ?_
          rw [nI_1 (c (z, y))]
          refine A_iast (kA_51 hb) (vp_in_nI (by omega) (by omega)) dX5_tryDay_175 ?_
          rw [nI_c (by omega)]
          refine A_iinc5 dX5_tryDay_176 rfl rfl (by decide) ?_
          refine A_iinc7 dX5_tryDay_179 rfl rfl (by decide) ?_
          refine A_goto (tgt := 91) dX5_tryDay_182 (by decide) ?_
          rw [show nI L.length + Int32.ofInt 1 = nI (L.length + 1) from nI_1 _, show nI i + Int32.ofInt 1 = nI (i + 1) from nI_1 i]
          have hMb : misB σ k b d (z, y) = true := by unfold misB; exact decide_eq_true ⟨c_117, fun q => bz_0.mp c_142 ((hfit c_117).mpr q)⟩
          have hc0 : ¬ c (z, y) = 0 := fun q => c_154 (by rw [q]; rfl)
          rw [hMb, if_neg (fun q => hc0 q.1), Nat.add_zero] at fal1
          rw [show nI (fal c (misB σ k b d) L) + 0 = nI (fal c (misB σ k b d) (L ++ [((z, y) : Lw)])) by rw [fal1]; exact Int32.add_zero _]
          rw [← hl3]
          exact ih (i + 1) _ _ hY2 (by omega) (hF.w (Or.inr rfl)) (fun a q e => (wI_ne (by omega)).trans (hN a q e)) (by rw [hl3]; exact hS.inc hAx hMb) hP3 hR
        · refine A_iconst (v := 1) dX5_tryDay_157 (by decide) ?_
          refine A_goto (tgt := 162) dX5_tryDay_158 (by decide) ?_
          refine A_iadd dX5_tryDay_162 ?_
          refine A_istore4 dX5_tryDay_163 rfl (by decide) ?_
          refine A_aload0 dX5_tryDay_165 ?_
          refine A_getR gf_X5_34 (kL_10 hb) dX5_tryDay_166 ?_
          refine A_iload5 dX5_tryDay_169 ?_
          refine A_dup2 dX5_tryDay_171 rfl rfl ?_
          refine A_iald (kA_51 hb) (vp_in_nI (by omega) (by omega)) dX5_tryDay_172 ?_
          rw [nI_c (by omega), eS]
          refine A_iconst (v := 1) dX5_tryDay_173 (by decide) ?_
          refine A_iadd dX5_tryDay_174 ?_
          rw [nI_1 (c (z, y))]
          refine A_iast (kA_51 hb) (vp_in_nI (by omega) (by omega)) dX5_tryDay_175 ?_
          rw [nI_c (by omega)]
          refine A_iinc5 dX5_tryDay_176 rfl rfl (by decide) ?_
          refine A_iinc7 dX5_tryDay_179 rfl rfl (by decide) ?_
          refine A_goto (tgt := 91) dX5_tryDay_182 (by decide) ?_
          rw [show nI L.length + Int32.ofInt 1 = nI (L.length + 1) from nI_1 _, show nI i + Int32.ofInt 1 = nI (i + 1) from nI_1 i]
          have hMb : misB σ k b d (z, y) = true := by unfold misB; exact decide_eq_true ⟨c_117, fun q => bz_0.mp c_142 ((hfit c_117).mpr q)⟩
          have hc0 : c (z, y) = 0 := (nI_eq (a := c (z, y)) (b := 0) (by have := hc (z, y); omega) (by omega)).mp c_154
          rw [hMb, if_pos ⟨hc0, rfl⟩] at fal1
          rw [show nI (fal c (misB σ k b d) L) + 1 = nI (fal c (misB σ k b d) (L ++ [((z, y) : Lw)])) by rw [fal1]; exact nI_1 _]
          rw [← hl3]
          exact ih (i + 1) _ _ hY2 (by omega) (hF.w (Or.inr rfl)) (fun a q e => (wI_ne (by omega)).trans (hN a q e)) (by rw [hl3]; exact hS.inc hAx hMb) hP3 hR
set_option maxHeartbeats 400000 in
set_option maxRecDepth 100000 in
theorem L_X5_tryDay_71 {l : Launch} {G : Wd} {σ M : Mem} {k : Int32} {b d : Nat} {c : Lw → Nat} (hM : Wk σ k M) (hbn : b < nbx σ) (hb : b < 5) (hd : d < 60) (hr : ¬ rdN σ k b d = -100000) (hB : BW b (bnL σ b) M) (hc : ∀ x, c x ≤ 100) : ∀ (q : Nat) (z : Int32) (L : List Lw) (m : Mem) (x7 : Option Value), z.toInt + q = (rl σ b 1).toInt + 1 → -5 ≤ z.toInt → TrF b M m → (∀ (i : Nat) (y : Bd), (bnL σ b)[i]? = some y → m.1 (50 + 5 * b) i = bnt σ k b d y) → MsI σ b c (misB σ k b d) L.length m → L ++ eZ σ b z q = allL σ b → AW l G KC RX5 cX5_tryDay 8 4 (some .int) (Qi (fun v μ' => v = nI (fal c (misB σ k b d) (allL σ b)) ∧ MsI σ b c (misB σ k b d) (allL σ b).length μ' ∧ TrF b M μ')) 71 [some (.ref (gA G (48 + 5 * b))), some (.int (nI d)), some (.int (rdN σ k b d)), some (.int (nI (agS σ b d))), some (.int (nI (fal c (misB σ k b d) L))), some (.int (nI L.length)), some (.int z), x7] [] m := by
  have h1 : (rl σ b 1).toInt ≤ 5 := (hM.ok hbn).1.2.2.1.2.2
  have e1 : (1 : Int32).toInt = 1 := rfl
  intro q
  induction q with
  | zero =>
    intro z L m x7 hq h5 hF hN hS hA
    have hW := hF.lf.wk hb hM
    have eh : m.1 9 (4 * b + 0) = rl σ b 1 := ((hW.bx hbn).2.2.2 0 (by decide)).2
    have hA2 : L = allL σ b := by rw [← hA]; exact (List.append_nil L).symm
    refine A_iload6 dX5_tryDay_71 ?_
    refine A_aload0 dX5_tryDay_73 ?_
    refine A_getR gf_X5_19 (kL_2 hb) dX5_tryDay_74 ?_
    refine A_aload0 dX5_tryDay_77 ?_
    refine A_getI gf_X5_23 (kL_3 hb) dX5_tryDay_78 ?_
    rw [hW.X hb]
    refine A_iconst (v := 0) dX5_tryDay_81 (by decide) ?_
    refine A_vi2 lk_X5_90 yv_X2_high dX5_tryDay_82 (rfl) (rfl) (T_X2_high hb (by decide)) (by decide) (Nat.le_of_ble_eq_true rfl) (fun r_82 μ_82 h_82 => ?_)
    obtain ⟨v_82, e_82⟩ := h_82
    replace v_82 := Eq.symm v_82
    subst v_82
    replace e_82 := e_82.symm
    subst e_82
    rw [eh]
    refine A_icmp_gt (tgt := 191) dX5_tryDay_85 (by decide) (fun c_85 => ?_) (fun c_85 => absurd c_85 (fun y => y (i_lt.mpr (by omega))))
    refine A_iload4 dX5_tryDay_191 ?_
    refine A_iret dX5_tryDay_193 ?_
    rw [hA2] at hS ⊢
    exact ⟨_, rfl, rfl, hS, hF⟩
  | succ q ih =>
    intro z L m x7 hq h5 hF hN hS hA
    have hW := hF.lf.wk hb hM
    have eh : m.1 9 (4 * b + 0) = rl σ b 1 := ((hW.bx hbn).2.2.2 0 (by decide)).2
    rw [eZ_b, ← List.append_assoc] at hA
    refine A_iload6 dX5_tryDay_71 ?_
    refine A_aload0 dX5_tryDay_73 ?_
    refine A_getR gf_X5_19 (kL_2 hb) dX5_tryDay_74 ?_
    refine A_aload0 dX5_tryDay_77 ?_
    refine A_getI gf_X5_23 (kL_3 hb) dX5_tryDay_78 ?_
    rw [hW.X hb]
    refine A_iconst (v := 0) dX5_tryDay_81 (by decide) ?_
    refine A_vi2 lk_X5_90 yv_X2_high dX5_tryDay_82 (rfl) (rfl) (T_X2_high hb (by decide)) (by decide) (Nat.le_of_ble_eq_true rfl) (fun r_82 μ_82 h_82 => ?_)
    obtain ⟨v_82, e_82⟩ := h_82
    replace v_82 := Eq.symm v_82
    subst v_82
    replace e_82 := e_82.symm
    subst e_82
    rw [eh]
    refine A_icmp_gt (tgt := 191) dX5_tryDay_85 (by decide) (fun c_85 => absurd c_85 (fun y => by have := i_lt.mp y; omega)) (fun c_85 => ?_)
    refine A_iconst (v := 0) dX5_tryDay_88 (by decide) ?_
    refine A_istore7 dX5_tryDay_89 rfl (by decide) ?_
    refine L_X5_tryDay_91 hM hbn hb hd hr hB hc ⟨h5, by omega⟩ (fun x8 m2 hF2 hN2 hS2 => ?_) (bnL σ b) 0 L m rfl (by omega) hF hN hS rfl hA
    refine A_iinc6 dX5_tryDay_185 rfl rfl (by decide) ?_
    refine A_goto (tgt := 71) dX5_tryDay_188 (by decide) ?_
    exact ih (z + 1) _ m2 _ (by rw [i_add (by rw [e1]; omega), e1]; omega) (by rw [i_add (by rw [e1]; omega), e1]; omega) hF2 hN2 hS2 hA
set_option maxHeartbeats 400000 in
set_option maxRecDepth 100000 in
theorem L_X5_tryDay_16 {l : Launch} {G : Wd} {σ M : Mem} {k : Int32} {b d : Nat} {c : Lw → Nat} (hM : Wk σ k M) (hbn : b < nbx σ) (hb : b < 5) (hd : d < 60) (hr : ¬ rdN σ k b d = -100000) (hB : BW b (bnL σ b) M) (hc : ∀ x, c x ≤ 100) (hS : MsI σ b c (misB σ k b d) 0 M) : ∀ (q i : Nat) (m : Mem) (x5 x6 x7 : Option Value), q + i = (bnL σ b).length → TrF b M m → (∀ j, m.1 (51 + 5 * b) j = M.1 (51 + 5 * b) j) → (∀ (j : Nat) (y : Bd), j < i → (bnL σ b)[j]? = some y → m.1 (50 + 5 * b) j = bnt σ k b d y) → AW l G KC RX5 cX5_tryDay 8 4 (some .int) (Qi (fun v μ' => v = nI (fal c (misB σ k b d) (allL σ b)) ∧ MsI σ b c (misB σ k b d) (allL σ b).length μ' ∧ TrF b M μ')) 16 [some (.ref (gA G (48 + 5 * b))), some (.int (nI d)), some (.int (rdN σ k b d)), some (.int (nI (agS σ b d))), some (.int (nI i)), x5, x6, x7] [] m := by
  have hal := allL_n (hM.ok hbn).1
  have hr0 := (rn_i (hM.ok hbn).1).1
  intro q
  induction q with
  | zero =>
    intro i m x5 x6 x7 hq hF h51 hN
    have hBm := hF.bw hB
    have hW := hF.lf.wk hb hM
    have el : m.1 8 (4 * b + 0) = rl σ b 0 := ((hW.bx hbn).2.2.2 0 (by decide)).1
    refine A_iload4 dX5_tryDay_16 ?_
    refine A_aload0 dX5_tryDay_18 ?_
    refine A_getI gf_X5_87 (kL_9 hb) dX5_tryDay_19 ?_
    rw [hBm.1]
    refine A_icmp_ge (tgt := 51) dX5_tryDay_22 (by decide) (fun c_22 => ?_) (fun c_22 => absurd c_22 (fun y => y (nI_le (by omega) (by omega))))
    refine A_iconst (v := 0) dX5_tryDay_51 (by decide) ?_
    refine A_istore4 dX5_tryDay_52 rfl (by decide) ?_
    refine A_iconst (v := 0) dX5_tryDay_54 (by decide) ?_
    refine A_istore5 dX5_tryDay_55 rfl (by decide) ?_
    refine A_aload0 dX5_tryDay_57 ?_
    refine A_getR gf_X5_19 (kL_2 hb) dX5_tryDay_58 ?_
    refine A_aload0 dX5_tryDay_61 ?_
    refine A_getI gf_X5_23 (kL_3 hb) dX5_tryDay_62 ?_
    rw [hW.X hb]
    refine A_iconst (v := 0) dX5_tryDay_65 (by decide) ?_
    refine A_vi2 lk_X5_93 yv_X2_low dX5_tryDay_66 (rfl) (rfl) (T_X2_low hb (by decide)) (by decide) (Nat.le_of_ble_eq_true rfl) (fun r_66 μ_66 h_66 => ?_)
    obtain ⟨v_66, e_66⟩ := h_66
    replace v_66 := Eq.symm v_66
    subst v_66
    replace e_66 := e_66.symm
    subst e_66
    rw [el]
    refine A_istore6 dX5_tryDay_69 rfl (by decide) ?_
    exact L_X5_tryDay_71 hM hbn hb hd hr hB hc (rn1 σ b 0) (rl σ b 0) [] m _ (by omega) (hM.ok hbn).1.2.2.1.1 hF (fun j y e => hN j y (by have := (List.getElem?_eq_some_iff.mp e).1; omega) e) (fun j x e => by rw [h51]; exact hS j x e) (List.nil_append _)
  | succ q ih =>
    intro i m x5 x6 x7 hq hF h51 hN
    have hBm := hF.bw hB
    have hW := hF.lf.wk hb hM
    obtain ⟨y, hy⟩ : ∃ y, (bnL σ b)[i]? = some y := ⟨(bnL σ b)[i]'(by omega), List.getElem?_eq_getElem (by omega)⟩
    have hyo : okBd y := bnL_ok (hM.ok hbn).1 (List.mem_of_getElem? hy)
    have eb := hBm.2 i y hy
    obtain ⟨p0, p1, p2, p3, p4⟩ := lw_parts (z := -5) (by decide) hyo
    have el5 : lwN (-5) y = bdN y := by unfold lwN; show (-5 + 5 : Int).toNat * 60 + bdN y = bdN y; simp
    rw [el5] at p2 p3 p4
    refine A_iload4 dX5_tryDay_16 ?_
    refine A_aload0 dX5_tryDay_18 ?_
    refine A_getI gf_X5_87 (kL_9 hb) dX5_tryDay_19 ?_
    rw [hBm.1]
    refine A_icmp_ge (tgt := 51) dX5_tryDay_22 (by decide) (fun c_22 => absurd c_22 (fun y => nI_ge (by omega) (by omega) y)) (fun c_22 => ?_)
    refine A_aload0 dX5_tryDay_25 ?_
    refine A_getR gf_X5_31 (kL_8 hb) dX5_tryDay_26 ?_
    refine A_iload4 dX5_tryDay_29 ?_
    refine A_aload0 dX5_tryDay_31 ?_
    refine A_aload0 dX5_tryDay_32 ?_
    refine A_getR gf_X5_27 (kL_7 hb) dX5_tryDay_33 ?_
    refine A_iload4 dX5_tryDay_36 ?_
    refine A_iald (kA_49 hb) (vp_in_nI (by omega) (by omega)) dX5_tryDay_38 ?_
    rw [nI_c (by omega), eb]
    refine A_iload1 dX5_tryDay_39 ?_
    refine A_iload3 dX5_tryDay_40 ?_
    refine A_vi3 lk_X5_114 yv_X5_withoutZero dX5_tryDay_41 (oL hb) (rfl) (T_X5_withoutZero hW hbn hb hd hyo p2 p3 p4) (by decide) (Nat.le_of_ble_eq_true rfl) (fun r_41 μ_41 h_41 => ?_)
    obtain ⟨v_41, e_41⟩ := h_41
    replace v_41 := Eq.symm v_41
    subst v_41
    replace e_41 := e_41.symm
    subst e_41
    refine A_iast (kA_50 hb) (vp_in_nI (by omega) (by omega)) dX5_tryDay_44 ?_
    rw [nI_c (by omega)]
    refine A_iinc4 dX5_tryDay_45 rfl rfl (by decide) ?_
    refine A_goto (tgt := 16) dX5_tryDay_48 (by decide) ?_
    rw [show nI i + Int32.ofInt 1 = nI (i + 1) from nI_1 i]
    refine ih (i + 1) _ _ _ _ (by omega) (hF.w (Or.inl rfl)) (fun j => (wI_ne (by omega)).trans (h51 j)) (fun j y2 h1 h2 => ?_)
    by_cases e : j = i
    · subst e; rw [hy] at h2; cases h2; rw [wI_same]
    · rw [wI_ne (by omega)]; exact hN j y2 (by omega) h2
set_option maxHeartbeats 400000 in
set_option maxRecDepth 100000 in
theorem T_X5_tryDay {l : Launch} {G : Wd} {σ M : Mem} {k : Int32} {b d : Nat} {c : Lw → Nat} (hM : Wk σ k M) (hbn : b < nbx σ) (hb : b < 5) (hd : d < 60) (hr : ¬ rdN σ k b d = -100000) (hB : BW b (bnL σ b) M) (hc : ∀ x, c x ≤ 100) (hS : MsI σ b c (misB σ k b d) 0 M) : Mt l G KC yX5_tryDay cX5_tryDay 8 (some .int) 4 [.ref (gA G (48 + 5 * b)), .int (nI d), .int (rdN σ k b d)] M (Qi (fun v μ' => v = nI (fal c (misB σ k b d) (allL σ b)) ∧ MsI σ b c (misB σ k b d) (allL σ b).length μ' ∧ TrF b M μ')) := by
  refine Mt.of (own := RX5) (n := 5) (by decide) rfl [some (.ref (gA G (48 + 5 * b))), some (.int (nI d)), some (.int (rdN σ k b d)), none, none, none, none, none] rfl (Nat.le_of_ble_eq_true rfl) ?_
  refine A_aload0 dX5_tryDay_0 ?_
  refine A_getR gf_X5_19 (kL_2 hb) dX5_tryDay_1 ?_
  refine A_aload0 dX5_tryDay_4 ?_
  refine A_getI gf_X5_23 (kL_3 hb) dX5_tryDay_5 ?_
  rw [hM.X hb]
  refine A_iload1 dX5_tryDay_8 ?_
  refine A_vi2 lk_X5_111 yv_X2_age dX5_tryDay_9 (rfl) (rfl) (T_X2_age hM.1.2.2.1.2.2.2 hb hd) (by decide) (Nat.le_of_ble_eq_true rfl) (fun r_9 μ_9 h_9 => ?_)
  obtain ⟨v_9, e_9⟩ := h_9
  replace v_9 := Eq.symm v_9
  subst v_9
  replace e_9 := e_9.symm
  subst e_9
  refine A_istore3 dX5_tryDay_12 rfl (by decide) ?_
  refine A_iconst (v := 0) dX5_tryDay_13 (by decide) ?_
  refine A_istore4 dX5_tryDay_14 rfl (by decide) ?_
  exact L_X5_tryDay_16 hM hbn hb hd hr hB hc hS (bnL σ b).length 0 M _ _ _ (by omega) TrF.rf (fun _ => rfl) (fun j y h => absurd h (by omega))

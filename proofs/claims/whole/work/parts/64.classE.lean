/-! what a box shows by a law -/
/-- the class at work on box b: hill, facts and what is known at k stand for σ -/
def Wk (σ : Mem) (k : Int32) (μ : Mem) : Prop := LC σ μ ∧ Kn σ k μ ∧ WF σ
theorem Wk.keep {σ a c : Mem} {k : Int32} (h : Wk σ k a) (g : Kc a c) (g4 : ∀ i j, 44 ≤ i → i ≤ 46 → c.1 i j = a.1 i j) : Wk σ k c := by
  obtain ⟨h1, ⟨k1, k2, k3⟩, h3⟩ := h
  exact ⟨h1.keep g, ⟨fun j hj => (g4 44 j (by omega) (by omega)).trans (k1 j hj), fun j hj => (g4 45 j (by omega) (by omega)).trans (k2 j hj), fun j hj z => (g4 46 j (by omega) (by omega)).trans (k3 j hj z)⟩, h3⟩
theorem Wk.bx {σ μ : Mem} {k : Int32} {b : Nat} (h : Wk σ k μ) (hb : b < nbx σ) : NmR (μ.2.1 5 b) (σ.2.1 3 b) ∧ μ.1 6 b = σ.1 7 b ∧ μ.1 7 b = σ.1 9 b ∧ ∀ p, p < 4 → μ.1 8 (4 * b + p) = σ.1 8 (8 * b + 2 * p) ∧ μ.1 9 (4 * b + p) = σ.1 8 (8 * b + 2 * p + 1) := h.1.2.2.1.2.2.1 b hb
theorem Wk.ok {σ μ : Mem} {k : Int32} {b : Nat} (h : Wk σ k μ) (hb : b < nbx σ) : okBx σ b ∧ b < 5 := ⟨h.2.2.2.2.2 b hb, by have := h.2.2.2.2.1.t.1; omega⟩
theorem Wk.n5 {σ μ : Mem} {k : Int32} (h : Wk σ k μ) : ∃ t : Nat, t ≤ 5 ∧ μ.1 4 0 = nI t := ⟨nbx σ, h.2.2.2.2.1.t.1, h.1.2.2.1.1.trans h.2.2.2.2.1.t.2⟩
theorem Wk.no {σ μ : Mem} {k : Int32} (h : Wk σ k μ) : μ.1 4 0 = nI (nbx σ) := h.1.2.2.1.1.trans h.2.2.2.2.1.t.2
theorem Wk.X {σ μ : Mem} {k : Int32} {b : Nat} (h : Wk σ k μ) (hb : b < 5) : μ.1 (48 + 5 * b) 3 = nI b := h.1.2.2.2.2.2 b hb
theorem dist_e {σ μ : Mem} {k : Int32} {b d l : Nat} (h : Wk σ k μ) (hb : b < nbx σ) (hd : d < 60) (hl : l ≤ 2) : (if 0 ≤ μ.1 6 b ∧ μ.1 6 b < 4 ∧ 0 ≤ nI d - nI l ∧ nI d - nI l < 60 then μ.1 44 (60 * μ.1 6 b + (nI d - nI l)).toNatClampNeg else -100000) = if d < l then -100000 else farN σ k (kdN σ b) (d - l) := by
  obtain ⟨q4, eq⟩ := (h.ok hb).1.k
  rw [(h.bx hb).2.1, eq]
  by_cases c : d < l
  · rw [if_pos c, if_neg]
    rintro ⟨-, -, z, -⟩
    have := i_le.mp z
    rw [pk_sub_toInt (by omega) (by omega)] at this
    have z0 : (0 : Int32).toInt = 0 := rfl
    omega
  · rw [if_neg c, if_pos]
    · rw [pk_sub (by omega), nI_60, nI_c (by omega), h.2.1.1 _ (by omega)]
      rfl
    · rw [pk_sub (by omega)]
      exact ⟨nI_pos' (by omega), nI_lt (b := 4) q4 (by decide), nI_pos' (by omega), nI_lt (b := 60) (by omega) (by omega)⟩
theorem fdiv_dn {a : Int32} (h : -1000000 ≤ a.toInt ∧ a.toInt ≤ 1000000) : fdiv a 10 = dn a 10 := by rw [i_eq, fdiv_10 h, dn_10 h]
theorem fmod_rn {a : Int32} (h : -1000000 ≤ a.toInt ∧ a.toInt ≤ 1000000) : fmod a 16 = rn a := by rw [i_eq, fmod_16 h, rn_mod h]
theorem bnt_e {σ : Mem} {k : Int32} {b d : Nat} {y : Bd} (hw : WFf σ) (hy : okBd y) (hd : d < 60) (q : ¬ (if d < y.2.1 then -100000 else farN σ k (kdN σ b) (d - y.2.1)) = -100000) : fdiv (y.1 * (if d < y.2.1 then -100000 else farN σ k (kdN σ b) (d - y.2.1))) 10 + y.2.2 * nI (agS σ b d) / 10 = bnt σ k b d y := by
  by_cases c : d < y.2.1
  · rw [if_pos c] at q; exact absurd rfl q
  · rw [if_neg c] at q ⊢
    unfold bnt
    rw [if_neg c, if_neg q]
    have hf2 : -999 ≤ (farN σ k (kdN σ b) (d - y.2.1)).toInt ∧ (farN σ k (kdN σ b) (d - y.2.1)).toInt ≤ 999 := (layF_b (k := k) (nfc σ) hw.2 (60 * kdN σ b + (d - y.2.1))).resolve_left q
    generalize farN σ k (kdN σ b) (d - y.2.1) = F at hf2
    obtain ⟨h1, h2, h3, h4, h5⟩ := hy
    have ha : agS σ b d ≤ d := by unfold agS; omega
    have p1 : -12000 ≤ y.1.toInt * F.toInt ∧ y.1.toInt * F.toInt ≤ 12000 := by
      have : y.1.toInt = 8 ∨ y.1.toInt = 9 ∨ y.1.toInt = 10 ∨ y.1.toInt = 11 ∨ y.1.toInt = 12 := by omega
      rcases this with e | e | e | e | e <;> rw [e] <;> omega
    have p2 : 0 ≤ y.2.2.toInt * (agS σ b d : Int) ∧ y.2.2.toInt * (agS σ b d : Int) ≤ 180 := by
      have : y.2.2.toInt = 0 ∨ y.2.2.toInt = 1 ∨ y.2.2.toInt = 2 ∨ y.2.2.toInt = 3 := by omega
      rcases this with e | e | e | e <;> rw [e] <;> omega
    have m1 : (y.1 * F).toInt = y.1.toInt * F.toInt := i_mul (by omega)
    have m2 : (y.2.2 * nI (agS σ b d)).toInt = y.2.2.toInt * (agS σ b d : Int) := by rw [i_mul (by rw [nI_i (by omega)]; omega), nI_i (by omega)]
    rw [fdiv_dn (by omega)]
    congr 1
    unfold dn
    rw [if_neg]
    intro z
    have := i_lt.mp z
    have z0 : (0 : Int32).toInt = 0 := rfl
    omega
set_option maxHeartbeats 100000 in
set_option maxRecDepth 100000 in
theorem T_X5_withoutZero {l : Launch} {G : Wd} {b d : Nat} {x k : Int32} {y : Bd} {σ μ : Mem} (h : Wk σ k μ) (hbn : b < nbx σ) (hb : b < 5) (hd : d < 60) (hy : okBd y) (e1 : x / 12 - x / 12 / 5 * 5 + 8 = y.1) (e2 : x / 4 - x / 4 / 3 * 3 = nI y.2.1) (e3 : x - x / 4 * 4 = y.2.2) : Mt l G KC yX5_withoutZero cX5_withoutZero 5 (some .int) 2 [.ref (gA G (48 + 5 * b)), .int x, .int (nI d), .int (nI (agS σ b d))] μ (Qi (fun v μ' => v = bnt σ k b d y ∧ μ' = μ)) := by
  refine Mt.of (own := RX5) (n := 1) (by decide) rfl [some (.ref (gA G (48 + 5 * b))), some (.int x), some (.int (nI d)), some (.int (nI (agS σ b d))), none] rfl (Nat.le_of_ble_eq_true rfl) ?_
  refine A_aload0 dX5_withoutZero_0 ?_
  refine A_getR gf_X5_15 (kL_1 hb) dX5_withoutZero_1 ?_
  refine A_aload0 dX5_withoutZero_4 ?_
  refine A_getR gf_X5_19 (kL_2 hb) dX5_withoutZero_5 ?_
  refine A_getR gf_X5_133 rfl dX5_withoutZero_8 ?_
  refine A_aload0 dX5_withoutZero_11 ?_
  refine A_getI gf_X5_23 (kL_3 hb) dX5_withoutZero_12 ?_
  rw [h.X hb]
  refine A_iald (rfl) (vp_in_nI (by omega) (by omega)) dX5_withoutZero_15 ?_
  rw [nI_c (by omega)]
  refine A_iload2 dX5_withoutZero_16 ?_
  refine A_iload1 dX5_withoutZero_17 ?_
  refine A_si1 lk_X5_47 ys_X5_lagOf dX5_withoutZero_18 (T_X5_lagOf) (by decide) (Nat.le_of_ble_eq_true rfl) (fun r_18 μ_18 h_18 => ?_)
  obtain ⟨v_18, e_18⟩ := h_18
  replace v_18 := Eq.symm v_18
  subst v_18
  replace e_18 := e_18.symm
  subst e_18
  rw [e2]
  refine A_isub dX5_withoutZero_21 ?_
  refine A_vi2 lk_X5_136 yv_X4_distant dX5_withoutZero_22 (rfl) (rfl) (T_X4_distant) (by decide) (Nat.le_of_ble_eq_true rfl) (fun r_22 μ_22 h_22 => ?_)
  obtain ⟨v_22, e_22⟩ := h_22
  replace v_22 := Eq.symm v_22
  subst v_22
  replace e_22 := e_22.symm
  subst e_22
  rw [dist_e h hbn hd hy.2.2.1]
  refine A_istore4 dX5_withoutZero_25 rfl (by decide) ?_
  refine A_iload4 dX5_withoutZero_27 ?_
  refine A_ldc dX5_withoutZero_29 kc_X5_53 ?_
  refine A_icmp_ne (tgt := 37) dX5_withoutZero_31 (by decide) (fun c_31 => ?_) (fun c_31 => ?_)
  · refine A_iload1 dX5_withoutZero_37 ?_
    refine A_si1 lk_X5_44 ys_X5_slopeOf dX5_withoutZero_38 (T_X5_slopeOf) (by decide) (Nat.le_of_ble_eq_true rfl) (fun r_38 μ_38 h_38 => ?_)
    obtain ⟨v_38, e_38⟩ := h_38
    replace v_38 := Eq.symm v_38
    subst v_38
    replace e_38 := e_38.symm
    subst e_38
    rw [e1]
    refine A_iload4 dX5_withoutZero_41 ?_
    refine A_imul dX5_withoutZero_43 ?_
    refine A_bipush (v := 10) dX5_withoutZero_44 (by decide) ?_
    refine A_si2 lk_X5_139 ys_J9_floorDiv_7cf53 dX5_withoutZero_46 (T_floorDiv (by decide)) (by decide) (Nat.le_of_ble_eq_true rfl) (fun r_46 μ_46 h_46 => ?_)
    obtain ⟨v_46, e_46⟩ := h_46
    replace v_46 := Eq.symm v_46
    subst v_46
    replace e_46 := e_46.symm
    subst e_46
    refine A_iload1 dX5_withoutZero_49 ?_
    refine A_si1 lk_X5_50 ys_X5_tireOf dX5_withoutZero_50 (T_X5_tireOf) (by decide) (Nat.le_of_ble_eq_true rfl) (fun r_50 μ_50 h_50 => ?_)
    obtain ⟨v_50, e_50⟩ := h_50
    replace v_50 := Eq.symm v_50
    subst v_50
    replace e_50 := e_50.symm
    subst e_50
    rw [e3]
    refine A_iload3 dX5_withoutZero_53 ?_
    refine A_imul dX5_withoutZero_54 ?_
    refine A_bipush (v := 10) dX5_withoutZero_55 (by decide) ?_
    refine A_idiv dX5_withoutZero_57 (by decide) ?_
    refine A_iadd dX5_withoutZero_58 ?_
    refine A_iret dX5_withoutZero_59 ?_
    exact ⟨_, rfl, (bnt_e h.2.2.2.1 hy hd c_31), rfl⟩
  · refine A_ldc dX5_withoutZero_34 kc_X5_53 ?_
    refine A_iret dX5_withoutZero_36 ?_
    refine ⟨_, rfl, ?_, rfl⟩
    unfold bnt
    by_cases c : d < y.2.1
    · rw [if_pos c]
    · rw [if_neg c] at c_31 ⊢
      rw [if_pos c_31]
set_option maxHeartbeats 100000 in
set_option maxRecDepth 100000 in
theorem T_X5_by {l : Launch} {G : Wd} {b d : Nat} {x z k : Int32} {y : Bd} {σ μ : Mem} (h : Wk σ k μ) (hbn : b < nbx σ) (hb : b < 5) (hd : d < 60) (hy : okBd y) (e1 : x / 12 - x / 12 / 5 * 5 + 8 = y.1) (e2 : x / 4 - x / 4 / 3 * 3 = nI y.2.1) (e3 : x - x / 4 * 4 = y.2.2) (hz : -5 ≤ z.toInt ∧ z.toInt ≤ 5) (e0 : x / 60 - 5 = z) : Mt l G KC yX5_by cX5_by 6 (some .int) 3 [.ref (gA G (48 + 5 * b)), .int x, .int (nI d), .int (nI (agS σ b d))] μ (Qi (fun v μ' => v = shO σ k b d z y.1 y.2.1 y.2.2 ∧ μ' = μ)) := by
  refine Mt.of (own := RX5) (n := 2) (by decide) rfl [some (.ref (gA G (48 + 5 * b))), some (.int x), some (.int (nI d)), some (.int (nI (agS σ b d))), none, none] rfl (Nat.le_of_ble_eq_true rfl) ?_
  refine A_aload0 dX5_by_0 ?_
  refine A_iload1 dX5_by_1 ?_
  refine A_iload2 dX5_by_2 ?_
  refine A_iload3 dX5_by_3 ?_
  refine A_vi3 lk_X5_114 yv_X5_withoutZero dX5_by_4 (oL hb) (rfl) (T_X5_withoutZero h hbn hb hd hy e1 e2 e3) (by decide) (Nat.le_of_ble_eq_true rfl) (fun r_4 μ_4 h_4 => ?_)
  obtain ⟨v_4, e_4⟩ := h_4
  replace v_4 := Eq.symm v_4
  subst v_4
  replace e_4 := e_4.symm
  subst e_4
  refine A_istore4 dX5_by_7 rfl (by decide) ?_
  refine A_iload4 dX5_by_9 ?_
  refine A_ldc dX5_by_11 kc_X5_53 ?_
  refine A_icmp_ne (tgt := 19) dX5_by_13 (by decide) (fun c_13 => ?_) (fun c_13 => ?_)
  · refine A_iload1 dX5_by_19 ?_
    refine A_si1 lk_X5_40 ys_X5_zeroOf dX5_by_20 (T_X5_zeroOf) (by decide) (Nat.le_of_ble_eq_true rfl) (fun r_20 μ_20 h_20 => ?_)
    obtain ⟨v_20, e_20⟩ := h_20
    replace v_20 := Eq.symm v_20
    subst v_20
    replace e_20 := e_20.symm
    subst e_20
    rw [e0]
    refine A_iload4 dX5_by_23 ?_
    refine A_iadd dX5_by_25 ?_
    refine A_istore5 dX5_by_26 rfl (by decide) ?_
    refine A_aload0 dX5_by_28 ?_
    refine A_getR gf_X5_19 (kL_2 hb) dX5_by_29 ?_
    refine A_aload0 dX5_by_32 ?_
    refine A_getI gf_X5_23 (kL_3 hb) dX5_by_33 ?_
    rw [h.X hb]
    refine A_vi1 lk_X5_142 yv_X2_isWind dX5_by_36 (rfl) (rfl) (T_X2_isWind hb) (by decide) (Nat.le_of_ble_eq_true rfl) (fun r_36 μ_36 h_36 => ?_)
    obtain ⟨v_36, e_36⟩ := h_36
    replace v_36 := Eq.symm v_36
    subst v_36
    replace e_36 := e_36.symm
    subst e_36
    refine A_if_eq (tgt := 52) dX5_by_39 (by decide) (fun c_39 => ?_) (fun c_39 => ?_)
    · refine A_iload5 dX5_by_52 ?_
      refine A_iret dX5_by_54 ?_
      refine ⟨_, rfl, ?_, rfl⟩
      obtain ⟨s1, s2, s3, s4⟩ := (shO_b h.2.2.2.1 hz hy hd).2 c_13
      rcases bnt_b (k := k) (b := b) h.2.2.2.1 hy hd with g | g
      · exact absurd g c_13
      · rw [i_eq]
        rw [if_neg (fun z9 => bz_0.mp c_39 ((h.bx hbn).2.1.trans z9))] at s4
        rw [s4, s3]
    · refine A_iload5 dX5_by_42 ?_
      refine A_bipush (v := 16) dX5_by_44 (by decide) ?_
      refine A_si2 lk_X5_145 ys_J9_floorMod_7cf53 dX5_by_46 (T_floorMod (by decide)) (by decide) (Nat.le_of_ble_eq_true rfl) (fun r_46 μ_46 h_46 => ?_)
      obtain ⟨v_46, e_46⟩ := h_46
      replace v_46 := Eq.symm v_46
      subst v_46
      replace e_46 := e_46.symm
      subst e_46
      refine A_goto (tgt := 54) dX5_by_49 (by decide) ?_
      refine A_iret dX5_by_54 ?_
      refine ⟨_, rfl, ?_, rfl⟩
      obtain ⟨s1, s2, s3, s4⟩ := (shO_b h.2.2.2.1 hz hy hd).2 c_13
      rcases bnt_b (k := k) (b := b) h.2.2.2.1 hy hd with g | g
      · exact absurd g c_13
      · rw [i_eq]
        rw [if_pos ((h.bx hbn).2.1.symm.trans (bz_y c_39))] at s4
        rw [s4, fmod_16 (by rw [s3]; omega), s3]
  · refine A_ldc dX5_by_16 kc_X5_53 ?_
    refine A_iret dX5_by_18 ?_
    exact ⟨_, rfl, ((shO_b h.2.2.2.1 hz hy hd).1.mpr c_13).symm, rfl⟩
/-! the bends in their order -/
def bnT (t : Int32) (n : Nat) (s : Int32) (l : Nat) : List Bd := (iv t n).map fun t => (s, l, t)
def bnLg (σ : Mem) (b l n : Nat) (s : Int32) : List Bd := (ivN l n).flatMap fun l => bnT (rl σ b 6) (rn1 σ b 6) s l
def bnS (σ : Mem) (b : Nat) (s : Int32) (n : Nat) : List Bd := (iv s n).flatMap fun s => bnLg σ b (lgN σ b) (rn1 σ b 4) s
def bnL (σ : Mem) (b : Nat) : List Bd := bnS σ b (rl σ b 2) (rn1 σ b 2)
theorem eS_bn (σ : Mem) (b : Nat) (z : Int32) : eS σ b z (rl σ b 2) (rn1 σ b 2) = (bnL σ b).map fun y => ((z, y) : Lw) := by
  unfold eS bnL bnS bnLg bnT eL eT
  simp only [List.map_flatMap, List.map_map]
  rfl
/-- the first bends are laid -/
def BW (b : Nat) (L : List Bd) (μ : Mem) : Prop := μ.1 (48 + 5 * b) 9 = nI L.length ∧ ∀ (i : Nat) (y : Bd), L[i]? = some y → μ.1 (49 + 5 * b) i = nI (bdN y)
def bwM (b n : Nat) (μ : Mem) (y : Bd) : Mem := wI (wI μ (49 + 5 * b) n (nI (bdN y))) (48 + 5 * b) 9 (nI (n + 1))
theorem BW.add {b : Nat} {L : List Bd} {μ : Mem} {y : Bd} (h : BW b L μ) : BW b (L ++ [y]) (bwM b L.length μ y) := by
  unfold bwM
  refine ⟨by rw [wI_same, List.length_append]; rfl, fun i x hx => ?_⟩
  rw [wI_ne (by omega)]
  by_cases e : i = L.length
  · subst e
    rw [List.getElem?_append_right (Nat.le_refl _), Nat.sub_self] at hx
    cases hx
    rw [wI_same]
  · have hl : i < (L ++ [y]).length := (List.getElem?_eq_some_iff.mp hx).1
    rw [List.length_append] at hl
    have hl2 : i < L.length := by simp at hl; omega
    rw [List.getElem?_append_left hl2] at hx
    rw [wI_ne (by omega)]
    exact h.2 i x hx
/-- only the bends of box b have changed -/
def BF (b : Nat) (μ μ' : Mem) : Prop := μ'.2 = μ.2 ∧ ∀ i j, ¬ (i = 49 + 5 * b) → ¬ (i = 48 + 5 * b ∧ j = 9) → μ'.1 i j = μ.1 i j
theorem BF.rf {b : Nat} {μ : Mem} : BF b μ μ := ⟨rfl, fun _ _ _ _ => rfl⟩
theorem BF.tr {b : Nat} {x y z : Mem} (h : BF b x y) (g : BF b y z) : BF b x z := ⟨g.1.trans h.1, fun i j a c => (g.2 i j a c).trans (h.2 i j a c)⟩
theorem BF.m {b n : Nat} {μ : Mem} {y : Bd} : BF b μ (bwM b n μ y) := ⟨rfl, fun i j a c => by unfold bwM; rw [wI_ne (by omega), wI_ne (by omega)]⟩
theorem BF.k {b : Nat} {x y : Mem} (hb : b < 5) (h : BF b x y) : Kc x y := ⟨fun i j q => h.2 i j (by omega) (by omega), fun i j _ => by rw [h.1]⟩
theorem BF.wk {b : Nat} {σ x y : Mem} {k : Int32} (hb : b < 5) (h : BF b x y) (g : Wk σ k x) : Wk σ k y := g.keep (h.k hb) (fun i j a c => h.2 i j (by omega) (by omega))
theorem bn_code {s t : Int32} {l : Nat} (hy : okBd (s, l, t)) : (s - 8) * 12 + nI l * 4 + t = nI (bdN (s, l, t)) := by
  obtain ⟨e, e6⟩ := bdN_i hy
  obtain ⟨h1, h2, h3, h4, h5⟩ := hy
  have g1 : 8 ≤ s.toInt := h1
  have g2 : s.toInt ≤ 12 := h2
  have g3 : l ≤ 2 := h3
  have g4 : 0 ≤ t.toInt := h4
  have g5 : t.toInt ≤ 3 := h5
  have e8 : (8 : Int32).toInt = 8 := rfl
  have e12 : (12 : Int32).toInt = 12 := rfl
  have s1 : (s - 8).toInt = s.toInt - 8 := by rw [i_sub (by rw [e8]; omega), e8]
  have s2 : ((s - 8) * 12).toInt = (s.toInt - 8) * 12 := by rw [i_mul (by rw [s1, e12]; omega), s1, e12]
  have s3 : (nI l * 4).toInt = l * 4 := by rw [show (4 : Int32) = nI 4 from rfl, pk_mul, nI_i (by omega)]; omega
  have s4 : ((s - 8) * 12 + nI l * 4).toInt = (s.toInt - 8) * 12 + l * 4 := by rw [i_add (by rw [s2, s3]; omega), s2, s3]
  rw [i_eq, i_add (by rw [s4]; omega), s4, nI_i (by omega), e]
set_option maxHeartbeats 200000 in
set_option maxRecDepth 100000 in
theorem L_X5_listBends_76 {l : Launch} {G : Wd} {σ M : Mem} {k : Int32} {b : Nat} {s : Int32} {lg : Nat} {Z : List Bd} (hM : Wk σ k M) (hbn : b < nbx σ) (hb : b < 5) (hs : 8 ≤ s.toInt ∧ s.toInt ≤ 12) (hl : lg ≤ 2) (hk : ∀ (t : Int32) (m : Mem), BF b M m → BW b Z m → AW l G KC RX5 cX5_listBends 4 2 none (Qv (fun μ' => BW b (bnL σ b) μ' ∧ BF b M μ')) 139 [some (.ref (gA G (48 + 5 * b))), some (.int s), some (.int (nI lg)), some (.int t)] [] m) : ∀ (q : Nat) (t : Int32) (L : List Bd) (m : Mem), t.toInt + q = (rl σ b 7).toInt + 1 → 0 ≤ t.toInt → L.length + q ≤ 60 → BF b M m → BW b L m → L ++ bnT t q s lg = Z → AW l G KC RX5 cX5_listBends 4 2 none (Qv (fun μ' => BW b (bnL σ b) μ' ∧ BF b M μ')) 76 [some (.ref (gA G (48 + 5 * b))), some (.int s), some (.int (nI lg)), some (.int t)] [] m := by
  have hi := (hM.ok hbn).1.2.2.2.2.2
  have h7 : (rl σ b 7).toInt ≤ 3 := hi.2.2
  intro q
  induction q with
  | zero =>
    intro t L m hq h0 hn hF hB hZ
    have hZ2 : L = Z := by rw [← hZ]; exact (List.append_nil L).symm
    have hW := hF.wk hb hM
    have eh : m.1 9 (4 * b + 3) = rl σ b 7 := ((hW.bx hbn).2.2.2 3 (by decide)).2
    refine A_iload3 dX5_listBends_76 ?_
    refine A_aload0 dX5_listBends_77 ?_
    refine A_getR gf_X5_19 (kL_2 hb) dX5_listBends_78 ?_
    refine A_aload0 dX5_listBends_81 ?_
    refine A_getI gf_X5_23 (kL_3 hb) dX5_listBends_82 ?_
    rw [hW.X hb]
    refine A_iconst (v := 3) dX5_listBends_85 (by decide) ?_
    refine A_vi2 lk_X5_90 yv_X2_high dX5_listBends_86 (rfl) (rfl) (T_X2_high hb (by decide)) (by decide) (Nat.le_of_ble_eq_true rfl) (fun r_86 μ_86 h_86 => ?_)
    obtain ⟨v_86, e_86⟩ := h_86
    replace v_86 := Eq.symm v_86
    subst v_86
    replace e_86 := e_86.symm
    subst e_86
    rw [eh]
    refine A_icmp_gt (tgt := 139) dX5_listBends_89 (by decide) (fun c_89 => ?_) (fun c_89 => absurd c_89 (fun z => z (i_lt.mpr (by omega))))
    exact hk t m hF (hZ2 ▸ hB)
  | succ q ih =>
    intro t L m hq h0 hn hF hB hZ
    have hW := hF.wk hb hM
    have eh : m.1 9 (4 * b + 3) = rl σ b 7 := ((hW.bx hbn).2.2.2 3 (by decide)).2
    have hy : okBd (s, lg, t) := ⟨hs.1, hs.2, hl, h0, by show t.toInt ≤ 3; omega⟩
    have hB1 := hB.1
    have e1 : (1 : Int32).toInt = 1 := rfl
    refine A_iload3 dX5_listBends_76 ?_
    refine A_aload0 dX5_listBends_77 ?_
    refine A_getR gf_X5_19 (kL_2 hb) dX5_listBends_78 ?_
    refine A_aload0 dX5_listBends_81 ?_
    refine A_getI gf_X5_23 (kL_3 hb) dX5_listBends_82 ?_
    rw [hW.X hb]
    refine A_iconst (v := 3) dX5_listBends_85 (by decide) ?_
    refine A_vi2 lk_X5_90 yv_X2_high dX5_listBends_86 (rfl) (rfl) (T_X2_high hb (by decide)) (by decide) (Nat.le_of_ble_eq_true rfl) (fun r_86 μ_86 h_86 => ?_)
    obtain ⟨v_86, e_86⟩ := h_86
    replace v_86 := Eq.symm v_86
    subst v_86
    replace e_86 := e_86.symm
    subst e_86
    rw [eh]
    refine A_icmp_gt (tgt := 139) dX5_listBends_89 (by decide) (fun c_89 => absurd c_89 (fun z => by have := i_lt.mp z; omega)) (fun c_89 => ?_)
    refine A_aload0 dX5_listBends_92 ?_
    refine A_getI gf_X5_87 (kL_9 hb) dX5_listBends_93 ?_
    rw [hB1]
    refine A_bipush (v := 60) dX5_listBends_96 (by decide) ?_
    refine A_icmp_ge (tgt := 133) dX5_listBends_98 (by decide) (fun c_98 => absurd c_98 (fun z => nI_ge (a := L.length) (b := 60) (by omega) (by decide) z)) (fun c_98 => ?_)
    refine A_aload0 dX5_listBends_101 ?_
    refine A_getR gf_X5_27 (kL_7 hb) dX5_listBends_102 ?_
    refine A_aload0 dX5_listBends_105 ?_
    refine A_getI gf_X5_87 (kL_9 hb) dX5_listBends_106 ?_
    rw [hB1]
    refine A_iload1 dX5_listBends_109 ?_
    refine A_bipush (v := 8) dX5_listBends_110 (by decide) ?_
    refine A_isub dX5_listBends_112 ?_
    refine A_bipush (v := 12) dX5_listBends_113 (by decide) ?_
    refine A_imul dX5_listBends_115 ?_
    refine A_iload2 dX5_listBends_116 ?_
    refine A_iconst (v := 4) dX5_listBends_117 (by decide) ?_
    refine A_imul dX5_listBends_118 ?_
    refine A_iadd dX5_listBends_119 ?_
    refine A_iload3 dX5_listBends_120 ?_
    refine A_iadd dX5_listBends_121 ?_
    rw [bn_code hy]
    refine A_iast (kA_49 hb) (vp_in_nI (by omega) (by omega)) dX5_listBends_122 ?_
    rw [nI_c (by omega)]
    refine A_aload0 dX5_listBends_123 ?_
    refine A_dup dX5_listBends_124 rfl ?_
    refine A_getI gf_X5_87 (kL_9 hb) dX5_listBends_125 ?_
    rw [wI_ne (by omega), hB1]
    refine A_iconst (v := 1) dX5_listBends_128 (by decide) ?_
    refine A_iadd dX5_listBends_129 ?_
    rw [nI_1]
    refine A_putI gf_X5_87 (kL_9 hb) dX5_listBends_130 ?_
    refine A_setm (μ' := bwM b L.length m (s, lg, t)) rfl ?_
    refine A_iinc3 dX5_listBends_133 rfl rfl (by decide) ?_
    refine A_goto (tgt := 76) dX5_listBends_136 (by decide) ?_
    refine ih (t + 1) (L ++ [(s, lg, t)]) _ ?_ ?_ ?_ (hF.tr BF.m) hB.add ?_
    · rw [i_add (by rw [e1]; omega), e1]; omega
    · rw [i_add (by rw [e1]; omega), e1]; omega
    · rw [List.length_append]; simp only [List.length_cons, List.length_nil]; omega
    · rw [← hZ, List.append_assoc]; rfl
set_option maxHeartbeats 200000 in
set_option maxRecDepth 100000 in
theorem L_X5_listBends_47 {l : Launch} {G : Wd} {σ M : Mem} {k : Int32} {b : Nat} {s : Int32} {Z : List Bd} (hM : Wk σ k M) (hbn : b < nbx σ) (hb : b < 5) (hs : 8 ≤ s.toInt ∧ s.toInt ≤ 12) (hk : ∀ (x2 x3 : Option Value) (m : Mem), BF b M m → BW b Z m → AW l G KC RX5 cX5_listBends 4 2 none (Qv (fun μ' => BW b (bnL σ b) μ' ∧ BF b M μ')) 145 [some (.ref (gA G (48 + 5 * b))), some (.int s), x2, x3] [] m) : ∀ (q lg : Nat) (L : List Bd) (m : Mem) (x3 : Option Value), (lg : Int) + q = (rl σ b 5).toInt + 1 → L.length + q * rn1 σ b 6 ≤ 60 → BF b M m → BW b L m → L ++ bnLg σ b lg q s = Z → AW l G KC RX5 cX5_listBends 4 2 none (Qv (fun μ' => BW b (bnL σ b) μ' ∧ BF b M μ')) 47 [some (.ref (gA G (48 + 5 * b))), some (.int s), some (.int (nI lg)), x3] [] m := by
  have hi := (hM.ok hbn).1.2.2.2.2.1
  have h5 : (rl σ b 5).toInt ≤ 2 := hi.2.2
  have hi6 := (hM.ok hbn).1.2.2.2.2.2
  have h6 : 0 ≤ (rl σ b 6).toInt := hi6.1
  have hr := (rn_i (hM.ok hbn).1).2.2.2
  intro q
  induction q with
  | zero =>
    intro lg L m x3 hq hn hF hB hZ
    have hZ2 : L = Z := by rw [← hZ]; exact (List.append_nil L).symm
    have hW := hF.wk hb hM
    have eh : m.1 9 (4 * b + 2) = rl σ b 5 := ((hW.bx hbn).2.2.2 2 (by decide)).2
    refine A_iload2 dX5_listBends_47 ?_
    refine A_aload0 dX5_listBends_48 ?_
    refine A_getR gf_X5_19 (kL_2 hb) dX5_listBends_49 ?_
    refine A_aload0 dX5_listBends_52 ?_
    refine A_getI gf_X5_23 (kL_3 hb) dX5_listBends_53 ?_
    rw [hW.X hb]
    refine A_iconst (v := 2) dX5_listBends_56 (by decide) ?_
    refine A_vi2 lk_X5_90 yv_X2_high dX5_listBends_57 (rfl) (rfl) (T_X2_high hb (by decide)) (by decide) (Nat.le_of_ble_eq_true rfl) (fun r_57 μ_57 h_57 => ?_)
    obtain ⟨v_57, e_57⟩ := h_57
    replace v_57 := Eq.symm v_57
    subst v_57
    replace e_57 := e_57.symm
    subst e_57
    rw [eh]
    refine A_icmp_gt (tgt := 145) dX5_listBends_60 (by decide) (fun c_60 => ?_) (fun c_60 => absurd c_60 (fun z => z (i_lt.mpr (by rw [nI_i (by omega)]; omega))))
    exact hk _ _ m hF (hZ2 ▸ hB)
  | succ q ih =>
    intro lg L m x3 hq hn hF hB hZ
    have hW := hF.wk hb hM
    have eh : m.1 9 (4 * b + 2) = rl σ b 5 := ((hW.bx hbn).2.2.2 2 (by decide)).2
    have el : m.1 8 (4 * b + 3) = rl σ b 6 := ((hW.bx hbn).2.2.2 3 (by decide)).1
    rw [Nat.succ_mul] at hn
    refine A_iload2 dX5_listBends_47 ?_
    refine A_aload0 dX5_listBends_48 ?_
    refine A_getR gf_X5_19 (kL_2 hb) dX5_listBends_49 ?_
    refine A_aload0 dX5_listBends_52 ?_
    refine A_getI gf_X5_23 (kL_3 hb) dX5_listBends_53 ?_
    rw [hW.X hb]
    refine A_iconst (v := 2) dX5_listBends_56 (by decide) ?_
    refine A_vi2 lk_X5_90 yv_X2_high dX5_listBends_57 (rfl) (rfl) (T_X2_high hb (by decide)) (by decide) (Nat.le_of_ble_eq_true rfl) (fun r_57 μ_57 h_57 => ?_)
    obtain ⟨v_57, e_57⟩ := h_57
    replace v_57 := Eq.symm v_57
    subst v_57
    replace e_57 := e_57.symm
    subst e_57
    rw [eh]
    refine A_icmp_gt (tgt := 145) dX5_listBends_60 (by decide) (fun c_60 => absurd c_60 (fun z => by have := i_lt.mp z; rw [nI_i (by omega)] at this; omega)) (fun c_60 => ?_)
    refine A_aload0 dX5_listBends_63 ?_
    refine A_getR gf_X5_19 (kL_2 hb) dX5_listBends_64 ?_
    refine A_aload0 dX5_listBends_67 ?_
    refine A_getI gf_X5_23 (kL_3 hb) dX5_listBends_68 ?_
    rw [hW.X hb]
    refine A_iconst (v := 3) dX5_listBends_71 (by decide) ?_
    refine A_vi2 lk_X5_93 yv_X2_low dX5_listBends_72 (rfl) (rfl) (T_X2_low hb (by decide)) (by decide) (Nat.le_of_ble_eq_true rfl) (fun r_72 μ_72 h_72 => ?_)
    obtain ⟨v_72, e_72⟩ := h_72
    replace v_72 := Eq.symm v_72
    subst v_72
    replace e_72 := e_72.symm
    subst e_72
    rw [el]
    refine A_istore3 dX5_listBends_75 rfl (by decide) ?_
    refine L_X5_listBends_76 (Z := L ++ bnT (rl σ b 6) (rn1 σ b 6) s lg) hM hbn hb hs (by omega) (fun t m2 hF2 hB2 => ?_) (rn1 σ b 6) (rl σ b 6) L m (by omega) h6 (by omega) hF hB rfl
    refine A_iinc2 dX5_listBends_139 rfl rfl (by decide) ?_
    refine A_goto (tgt := 47) dX5_listBends_142 (by decide) ?_
    rw [show nI lg + Int32.ofInt 1 = nI (lg + 1) from nI_1 lg]
    refine ih (lg + 1) _ m2 _ (by omega) ?_ hF2 hB2 ?_
    · rw [List.length_append]; unfold bnT; rw [List.length_map, iv_len]; omega
    · rw [← hZ, List.append_assoc]; rfl
theorem bnLg_len {σ : Mem} {b l n : Nat} {s : Int32} : (bnLg σ b l n s).length = n * rn1 σ b 6 := by
  unfold bnLg
  induction n generalizing l with
  | zero => simp [ivN]
  | succ n ih =>
    rw [ivN, List.flatMap_cons, List.length_append, ih, Nat.succ_mul]
    unfold bnT
    rw [List.length_map, iv_len, Nat.add_comm]
theorem bn_60 {σ : Mem} {b : Nat} (h : okBx σ b) : rn1 σ b 2 * (rn1 σ b 4 * rn1 σ b 6) ≤ 60 := by
  obtain ⟨-, h2, h4, h6⟩ := rn1_le h
  have a1 : rn1 σ b 4 * rn1 σ b 6 ≤ 3 * 4 := Nat.mul_le_mul h4.2 h6.2
  have a2 : rn1 σ b 2 * (rn1 σ b 4 * rn1 σ b 6) ≤ 5 * 12 := Nat.mul_le_mul h2.2 a1
  omega
set_option maxHeartbeats 200000 in
set_option maxRecDepth 100000 in
theorem L_X5_listBends_18 {l : Launch} {G : Wd} {σ M : Mem} {k : Int32} {b : Nat} (hM : Wk σ k M) (hbn : b < nbx σ) (hb : b < 5) : ∀ (q : Nat) (s : Int32) (L : List Bd) (m : Mem) (x2 x3 : Option Value), s.toInt + q = (rl σ b 3).toInt + 1 → 8 ≤ s.toInt → L.length + q * (rn1 σ b 4 * rn1 σ b 6) ≤ 60 → BF b M m → BW b L m → L ++ bnS σ b s q = bnL σ b → AW l G KC RX5 cX5_listBends 4 2 none (Qv (fun μ' => BW b (bnL σ b) μ' ∧ BF b M μ')) 18 [some (.ref (gA G (48 + 5 * b))), some (.int s), x2, x3] [] m := by
  have hi := (hM.ok hbn).1.2.2.2.1
  have h3 : (rl σ b 3).toInt ≤ 12 := hi.2.2
  have hi4 := (hM.ok hbn).1.2.2.2.2.1
  have h4 : 0 ≤ (rl σ b 4).toInt := hi4.1
  have h4b : (rl σ b 4).toInt ≤ 2 := by have h45 : (rl σ b 4).toInt ≤ (rl σ b 5).toInt := hi4.2.1; have h52 : (rl σ b 5).toInt ≤ 2 := hi4.2.2; omega
  have hr := (rn_i (hM.ok hbn).1).2.2.1
  have elg : rl σ b 4 = nI (lgN σ b) ∧ ((lgN σ b : Nat) : Int) = (rl σ b 4).toInt := by
    obtain ⟨x, x1, x2, x3, x4⟩ := i_nat (x := rl σ b 4) (i_le.mpr h4)
    have e : lgN σ b = x := x4
    rw [e]
    exact ⟨x2, x3.symm⟩
  have e1 : (1 : Int32).toInt = 1 := rfl
  intro q
  induction q with
  | zero =>
    intro s L m x2 x3 hq h8 hn hF hB hZ
    have hZ2 : L = bnL σ b := by rw [← hZ]; exact (List.append_nil L).symm
    have hW := hF.wk hb hM
    have eh : m.1 9 (4 * b + 1) = rl σ b 3 := ((hW.bx hbn).2.2.2 1 (by decide)).2
    refine A_iload1 dX5_listBends_18 ?_
    refine A_aload0 dX5_listBends_19 ?_
    refine A_getR gf_X5_19 (kL_2 hb) dX5_listBends_20 ?_
    refine A_aload0 dX5_listBends_23 ?_
    refine A_getI gf_X5_23 (kL_3 hb) dX5_listBends_24 ?_
    rw [hW.X hb]
    refine A_iconst (v := 1) dX5_listBends_27 (by decide) ?_
    refine A_vi2 lk_X5_90 yv_X2_high dX5_listBends_28 (rfl) (rfl) (T_X2_high hb (by decide)) (by decide) (Nat.le_of_ble_eq_true rfl) (fun r_28 μ_28 h_28 => ?_)
    obtain ⟨v_28, e_28⟩ := h_28
    replace v_28 := Eq.symm v_28
    subst v_28
    replace e_28 := e_28.symm
    subst e_28
    rw [eh]
    refine A_icmp_gt (tgt := 151) dX5_listBends_31 (by decide) (fun c_31 => ?_) (fun c_31 => absurd c_31 (fun z => z (i_lt.mpr (by omega))))
    refine A_vret dX5_listBends_151 ?_
    exact ⟨rfl, hZ2 ▸ hB, hF⟩
  | succ q ih =>
    intro s L m x2 x3 hq h8 hn hF hB hZ
    have hW := hF.wk hb hM
    have eh : m.1 9 (4 * b + 1) = rl σ b 3 := ((hW.bx hbn).2.2.2 1 (by decide)).2
    have el : m.1 8 (4 * b + 2) = rl σ b 4 := ((hW.bx hbn).2.2.2 2 (by decide)).1
    rw [Nat.succ_mul] at hn
    refine A_iload1 dX5_listBends_18 ?_
    refine A_aload0 dX5_listBends_19 ?_
    refine A_getR gf_X5_19 (kL_2 hb) dX5_listBends_20 ?_
    refine A_aload0 dX5_listBends_23 ?_
    refine A_getI gf_X5_23 (kL_3 hb) dX5_listBends_24 ?_
    rw [hW.X hb]
    refine A_iconst (v := 1) dX5_listBends_27 (by decide) ?_
    refine A_vi2 lk_X5_90 yv_X2_high dX5_listBends_28 (rfl) (rfl) (T_X2_high hb (by decide)) (by decide) (Nat.le_of_ble_eq_true rfl) (fun r_28 μ_28 h_28 => ?_)
    obtain ⟨v_28, e_28⟩ := h_28
    replace v_28 := Eq.symm v_28
    subst v_28
    replace e_28 := e_28.symm
    subst e_28
    rw [eh]
    refine A_icmp_gt (tgt := 151) dX5_listBends_31 (by decide) (fun c_31 => absurd c_31 (fun z => by have := i_lt.mp z; omega)) (fun c_31 => ?_)
    refine A_aload0 dX5_listBends_34 ?_
    refine A_getR gf_X5_19 (kL_2 hb) dX5_listBends_35 ?_
    refine A_aload0 dX5_listBends_38 ?_
    refine A_getI gf_X5_23 (kL_3 hb) dX5_listBends_39 ?_
    rw [hW.X hb]
    refine A_iconst (v := 2) dX5_listBends_42 (by decide) ?_
    refine A_vi2 lk_X5_93 yv_X2_low dX5_listBends_43 (rfl) (rfl) (T_X2_low hb (by decide)) (by decide) (Nat.le_of_ble_eq_true rfl) (fun r_43 μ_43 h_43 => ?_)
    obtain ⟨v_43, e_43⟩ := h_43
    replace v_43 := Eq.symm v_43
    subst v_43
    replace e_43 := e_43.symm
    subst e_43
    rw [el, elg.1]
    refine A_istore2 dX5_listBends_46 rfl (by decide) ?_
    refine L_X5_listBends_47 (Z := L ++ bnLg σ b (lgN σ b) (rn1 σ b 4) s) hM hbn hb ⟨h8, by omega⟩ (fun x4 x5 m2 hF2 hB2 => ?_) (rn1 σ b 4) (lgN σ b) L m _ (by rw [elg.2]; omega) (by omega) hF hB rfl
    refine A_iinc1 dX5_listBends_145 rfl rfl (by decide) ?_
    refine A_goto (tgt := 18) dX5_listBends_148 (by decide) ?_
    refine ih (s + 1) _ m2 _ _ ?_ ?_ ?_ hF2 hB2 ?_
    · rw [i_add (by rw [e1]; omega), e1]; omega
    · rw [i_add (by rw [e1]; omega), e1]; omega
    · rw [List.length_append, bnLg_len]; omega
    · rw [← hZ, List.append_assoc]; rfl
set_option maxHeartbeats 200000 in
set_option maxRecDepth 100000 in
theorem T_X5_listBends {l : Launch} {G : Wd} {σ M : Mem} {k : Int32} {b : Nat} (hM : Wk σ k M) (hbn : b < nbx σ) (hb : b < 5) : Mt l G KC yX5_listBends cX5_listBends 4 none 2 [.ref (gA G (48 + 5 * b))] M (Qv (fun μ' => BW b (bnL σ b) μ' ∧ BF b M μ')) := by
  refine Mt.of (own := RX5) (n := 3) (by decide) rfl [some (.ref (gA G (48 + 5 * b))), none, none, none] rfl (Nat.le_of_ble_eq_true rfl) ?_
  have el : M.1 8 (4 * b + 1) = rl σ b 2 := ((hM.bx hbn).2.2.2 1 (by decide)).1
  have h2 : 8 ≤ (rl σ b 2).toInt := (hM.ok hbn).1.2.2.2.1.1
  have hr := (rn_i (hM.ok hbn).1).2.1
  refine A_aload0 dX5_listBends_0 ?_
  refine A_iconst (v := 0) dX5_listBends_1 (by decide) ?_
  refine A_putI gf_X5_87 (kL_9 hb) dX5_listBends_2 ?_
  refine A_aload0 dX5_listBends_5 ?_
  refine A_getR gf_X5_19 (kL_2 hb) dX5_listBends_6 ?_
  refine A_aload0 dX5_listBends_9 ?_
  refine A_getI gf_X5_23 (kL_3 hb) dX5_listBends_10 ?_
  rw [wI_ne (by omega), hM.X hb]
  refine A_iconst (v := 1) dX5_listBends_13 (by decide) ?_
  refine A_vi2 lk_X5_93 yv_X2_low dX5_listBends_14 (rfl) (rfl) (T_X2_low hb (by decide)) (by decide) (Nat.le_of_ble_eq_true rfl) (fun r_14 μ_14 h_14 => ?_)
  obtain ⟨v_14, e_14⟩ := h_14
  replace v_14 := Eq.symm v_14
  subst v_14
  replace e_14 := e_14.symm
  subst e_14
  rw [wI_ne (Or.inl (by omega)), el]
  refine A_istore1 dX5_listBends_17 rfl (by decide) ?_
  refine L_X5_listBends_18 hM hbn hb (rn1 σ b 2) (rl σ b 2) [] _ _ _ (by omega) h2 ?_ ⟨rfl, fun i j a c => wI_ne (by omega)⟩ ⟨wI_same, fun i y hi => by cases hi⟩ (List.nil_append _)
  have := bn_60 (hM.ok hbn).1
  simp only [List.length_nil]
  omega

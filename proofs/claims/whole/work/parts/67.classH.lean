/-! the laws chosen -/
theorem mnC_app (c : Lw → Nat) (a : Nat) (L : List Lw) (x : Lw) : mnC c a (L ++ [x]) = min (mnC c a L) (c x) := by unfold mnC; rw [List.foldl_append]; rfl
theorem rn_0 {σ : Mem} {b : Nat} (h : okBx σ b) : rl σ b 1 - rl σ b 0 + 1 = nI (rn1 σ b 0) := by
  have hr := (rn_i h).1
  have hl := (rn1_le h).1
  have h1 : (rl σ b 1).toInt ≤ 5 := h.2.2.1.2.2
  have h0 : -5 ≤ (rl σ b 0).toInt := h.2.2.1.1
  have e1 : (1 : Int32).toInt = 1 := rfl
  have e2 : (rl σ b 1 - rl σ b 0).toInt = (rl σ b 1).toInt - (rl σ b 0).toInt := i_sub (by omega)
  rw [i_eq, i_add (by rw [e2, e1]; omega), e2, e1, nI_i (by omega)]
  omega
def ChF (b : Nat) (μ μ' : Mem) : Prop := μ'.2 = μ.2 ∧ ∀ i j, i ≠ 52 + 5 * b → ¬ (i = 48 + 5 * b ∧ (j = 12 ∨ j = 13)) → μ'.1 i j = μ.1 i j
theorem ChF.rf {b : Nat} {μ : Mem} : ChF b μ μ := ⟨rfl, fun _ _ _ _ => rfl⟩
theorem ChF.w {b i k : Nat} {x y : Mem} {v : Int32} (h : ChF b x y) (hi : i = 52 + 5 * b ∨ (i = 48 + 5 * b ∧ (k = 12 ∨ k = 13))) : ChF b x (wI y i k v) := ⟨h.1, fun p q a c => (wI_ne (by omega)).trans (h.2 p q a c)⟩
theorem ChF.lf {b : Nat} {x y : Mem} (h : ChF b x y) : LF b x y := ⟨h.1, fun i j a c => h.2 i j (by omega) (by omega)⟩
theorem ChF.bw {b : Nat} {x y : Mem} {L : List Bd} (h : ChF b x y) (g : BW b L x) : BW b L y := ⟨(h.2 _ 9 (by omega) (by omega)).trans g.1, fun i z hz => (h.2 _ i (by omega) (by omega)).trans (g.2 i z hz)⟩
def MsC (σ : Mem) (b : Nat) (c : Lw → Nat) (μ : Mem) : Prop := ∀ (j : Nat) (x : Lw), (allL σ b)[j]? = some x → μ.1 (51 + 5 * b) j = nI (c x)
theorem ChF.ms {σ : Mem} {b : Nat} {x y : Mem} {c : Lw → Nat} (h : ChF b x y) (g : MsC σ b c x) : MsC σ b c y := fun j z hz => (h.2 _ j (by omega) (by omega)).trans (g j z hz)
/-- laws laid as numbers -/
def BsI (b : Nat) (L : List Lw) (μ : Mem) : Prop := μ.1 (48 + 5 * b) 12 = nI L.length ∧ ∀ (i : Nat) (x : Lw), L[i]? = some x → μ.1 (52 + 5 * b) i = nI (lwN x.1 x.2)
def fltL (c : Lw → Nat) (n : Nat) (L : List Lw) : List Lw := L.filter (fun x => decide (c x = n))
theorem fltL_y {c : Lw → Nat} {n : Nat} {L : List Lw} {x : Lw} (h : c x = n) : fltL c n (L ++ [x]) = fltL c n L ++ [x] := by unfold fltL; rw [List.filter_append, List.filter_cons_of_pos (by simp; exact h)]; rfl
theorem fltL_n {c : Lw → Nat} {n : Nat} {L : List Lw} {x : Lw} (h : ¬ c x = n) : fltL c n (L ++ [x]) = fltL c n L := by unfold fltL; rw [List.filter_append, List.filter_cons_of_neg (by simp; exact h), List.filter_nil, List.append_nil]
theorem fltL_le {c : Lw → Nat} {n : Nat} {L : List Lw} : (fltL c n L).length ≤ L.length := List.length_filter_le _ _
theorem BsI.add {b : Nat} {L : List Lw} {μ : Mem} {x : Lw} (h : BsI b L μ) : BsI b (L ++ [x]) (wI (wI μ (52 + 5 * b) L.length (nI (lwN x.1 x.2))) (48 + 5 * b) 12 (nI (L.length + 1))) := by
  refine ⟨by rw [wI_same, List.length_append]; rfl, fun i y hy => ?_⟩
  rw [wI_ne (by omega)]
  by_cases e : i = L.length
  · subst e
    rw [List.getElem?_append_right (Nat.le_refl _), Nat.sub_self] at hy
    cases hy
    rw [wI_same]
  · have hl : i < (L ++ [x]).length := (List.getElem?_eq_some_iff.mp hy).1
    have hl2 : i < L.length := by simp at hl; omega
    rw [List.getElem?_append_left hl2] at hy
    rw [wI_ne (by omega)]
    exact h.2 i y hy
theorem lw_code {z : Int32} {y : Bd} (hz : -5 ≤ z.toInt ∧ z.toInt ≤ 5) (hy : okBd y) : (z + 5) * 60 + nI (bdN y) = nI (lwN z y) := by
  have e6 := (bdN_i hy).2
  have e5 : (5 : Int32).toInt = 5 := rfl
  have e60 : (60 : Int32).toInt = 60 := rfl
  have s1 : (z + 5).toInt = z.toInt + 5 := by rw [i_add (by rw [e5]; omega), e5]
  have s2 : ((z + 5) * 60).toInt = (z.toInt + 5) * 60 := by rw [i_mul (by rw [s1, e60]; omega), s1, e60]
  rw [i_eq, i_add (by rw [s2, nI_i (by omega)]; omega), s2, nI_i (by omega), nI_i (by unfold lwN; omega)]
  unfold lwN
  omega
set_option maxHeartbeats 400000 in
set_option maxRecDepth 100000 in
theorem L_X5_choose_115 {l : Launch} {G : Wd} {σ M : Mem} {k : Int32} {b : Nat} {c : Lw → Nat} {z : Int32} {P2 R : List Lw} (hM : Wk σ k M) (hbn : b < nbx σ) (hb : b < 5) (hB : BW b (bnL σ b) M) (hS : MsC σ b c M) (hc : ∀ x, c x ≤ 60) (hz : -5 ≤ z.toInt ∧ z.toInt ≤ 5) (hk : ∀ (x4 : Option Value) (m : Mem), ChF b M m → m.1 (48 + 5 * b) 13 = nI (mnC c 60 (allL σ b)) → BsI b (fltL c (mnC c 60 (allL σ b)) P2) m → AW l G KC RX5 cX5_choose 5 2 none (Qv (fun μ' => μ'.1 (48 + 5 * b) 13 = nI (mnC c 60 (allL σ b)) ∧ BsI b (fltL c (mnC c 60 (allL σ b)) (allL σ b)) μ' ∧ ChF b M μ')) 186 [some (.ref (gA G (48 + 5 * b))), some (.int (nI (allL σ b).length)), some (.int (nI P2.length)), some (.int z), x4] [] m) : ∀ (Y : List Bd) (i : Nat) (L : List Lw) (m : Mem), (bnL σ b).drop i = Y → i ≤ 60 → ChF b M m → m.1 (48 + 5 * b) 13 = nI (mnC c 60 (allL σ b)) → BsI b (fltL c (mnC c 60 (allL σ b)) L) m → L ++ Y.map (fun y => ((z, y) : Lw)) = P2 → P2 ++ R = allL σ b → AW l G KC RX5 cX5_choose 5 2 none (Qv (fun μ' => μ'.1 (48 + 5 * b) 13 = nI (mnC c 60 (allL σ b)) ∧ BsI b (fltL c (mnC c 60 (allL σ b)) (allL σ b)) μ' ∧ ChF b M μ')) 115 [some (.ref (gA G (48 + 5 * b))), some (.int (nI (allL σ b).length)), some (.int (nI L.length)), some (.int z), some (.int (nI i))] [] m := by
  have hal := allL_n (hM.ok hbn).1
  have hm6 := mnC_le c (allL σ b) 60
  intro Y
  induction Y with
  | nil =>
    intro i L m hY hi6 hF hm hG hP hR
    have hP2 : L = P2 := by rw [← hP]; simp
    have hBm := hF.bw hB
    have hi : (bnL σ b).length ≤ i := List.drop_eq_nil_iff.mp hY
    subst hP2
    refine A_iload4 dX5_choose_115 ?_
    refine A_aload0 dX5_choose_117 ?_
    refine A_getI gf_X5_87 (kL_9 hb) dX5_choose_118 ?_
    rw [hBm.1]
    refine A_icmp_ge (tgt := 186) dX5_choose_121 (by decide) (fun c_121 => ?_) (fun c_121 => absurd c_121 (fun q => q (nI_le hi (by omega))))
    exact hk _ m hF hm hG
  | cons y Y ih =>
    intro i L m hY hi6 hF hm hG hP hR
    have hBm := hF.bw hB
    have hSm := hF.ms hS
    have hi : i < (bnL σ b).length := by
      rcases Nat.lt_or_ge i (bnL σ b).length with q | q
      · exact q
      · rw [List.drop_eq_nil_iff.mpr q] at hY; cases hY
    have hyi : (bnL σ b)[i]? = some y := by
      have e := congrArg (fun l => l[0]?) hY
      simp only [List.getElem?_drop, Nat.add_zero] at e
      rw [e]; rfl
    have hY2 : (bnL σ b).drop (i + 1) = Y := by rw [← List.drop_drop, hY]; rfl
    have hyo : okBd y := bnL_ok (hM.ok hbn).1 (List.mem_of_getElem? hyi)
    have hAx : (allL σ b)[L.length]? = some (z, y) := by
      rw [← hR, ← hP, List.map_cons, List.append_assoc, List.getElem?_append_right (Nat.le_refl _), Nat.sub_self]
      rfl
    have hLl : L.length < 660 := by have := (List.getElem?_eq_some_iff.mp hAx).1; omega
    have hP3 : (L ++ [((z, y) : Lw)]) ++ Y.map (fun y => ((z, y) : Lw)) = P2 := by rw [← hP, List.append_assoc]; rfl
    have hl3 : (L ++ [((z, y) : Lw)]).length = L.length + 1 := by simp
    have eN := hBm.2 i y hyi
    have eS := hSm L.length (z, y) hAx
    have hcx := hc (z, y)
    have hfl := fltL_le (c := c) (n := mnC c 60 (allL σ b)) (L := L)
    have hG1 := hG.1
    refine A_iload4 dX5_choose_115 ?_
    refine A_aload0 dX5_choose_117 ?_
    refine A_getI gf_X5_87 (kL_9 hb) dX5_choose_118 ?_
    rw [hBm.1]
    refine A_icmp_ge (tgt := 186) dX5_choose_121 (by decide) (fun c_121 => absurd c_121 (fun q => nI_ge hi (by omega) q)) (fun c_121 => ?_)
    refine A_iload2 dX5_choose_124 ?_
    refine A_sipush (v := 660) dX5_choose_125 (by decide) ?_
    refine A_icmp_ge (tgt := 186) dX5_choose_128 (by decide) (fun c_128 => absurd c_128 (fun q => nI_ge (a := L.length) (b := 660) hLl (by decide) q)) (fun c_128 => ?_)
    refine A_aload0 dX5_choose_131 ?_
    refine A_getR gf_X5_34 (kL_10 hb) dX5_choose_132 ?_
    refine A_iload2 dX5_choose_135 ?_
    refine A_iald (kA_51 hb) (vp_in_nI (by omega) (by omega)) dX5_choose_136 ?_
    rw [nI_c (by omega), eS]
    refine A_aload0 dX5_choose_137 ?_
    refine A_getI gf_X5_122 (kL_13 hb) dX5_choose_138 ?_
    rw [hm]
    refine A_icmp_ne (tgt := 177) dX5_choose_141 (by decide) (fun c_141 => ?_) (fun c_141 => ?_)
    · refine A_iinc2 dX5_choose_177 rfl rfl (by decide) ?_
      refine A_iinc4 dX5_choose_180 rfl rfl (by decide) ?_
      refine A_goto (tgt := 115) dX5_choose_183 (by decide) ?_
      rw [show nI L.length + Int32.ofInt 1 = nI (L.length + 1) from nI_1 _, show nI i + Int32.ofInt 1 = nI (i + 1) from nI_1 i, ← hl3]
      refine ih (i + 1) _ m hY2 (by omega) hF hm ?_ hP3 hR
      rw [fltL_n (fun q => c_141 (by rw [q]))]
      exact hG
    · refine A_aload0 dX5_choose_144 ?_
      refine A_getR gf_X5_37 (kL_11 hb) dX5_choose_145 ?_
      refine A_aload0 dX5_choose_148 ?_
      refine A_getI gf_X5_130 (kL_12 hb) dX5_choose_149 ?_
      rw [hG1]
      refine A_iload3 dX5_choose_152 ?_
      refine A_iconst (v := 5) dX5_choose_153 (by decide) ?_
      refine A_iadd dX5_choose_154 ?_
      refine A_bipush (v := 60) dX5_choose_155 (by decide) ?_
      refine A_imul dX5_choose_157 ?_
      refine A_aload0 dX5_choose_158 ?_
      refine A_getR gf_X5_27 (kL_7 hb) dX5_choose_159 ?_
      refine A_iload4 dX5_choose_162 ?_
      refine A_iald (kA_49 hb) (vp_in_nI (by omega) (by omega)) dX5_choose_164 ?_
      rw [nI_c (by omega), eN]
      refine A_iadd dX5_choose_165 ?_
      rw [lw_code hz hyo]
      refine A_iast (kA_52 hb) (vp_in_nI (by omega) (by omega)) dX5_choose_166 ?_
      rw [nI_c (by omega)]
      refine A_aload0 dX5_choose_167 ?_
      refine A_dup dX5_choose_168 rfl ?_
      refine A_getI gf_X5_130 (kL_12 hb) dX5_choose_169 ?_
      rw [wI_ne (by omega), hG1]
      refine A_iconst (v := 1) dX5_choose_172 (by decide) ?_
      refine A_iadd dX5_choose_173 ?_
      rw [nI_1]
      refine A_putI gf_X5_130 (kL_12 hb) dX5_choose_174 ?_
      refine A_iinc2 dX5_choose_177 rfl rfl (by decide) ?_
      refine A_iinc4 dX5_choose_180 rfl rfl (by decide) ?_
      refine A_goto (tgt := 115) dX5_choose_183 (by decide) ?_
      rw [show nI L.length + Int32.ofInt 1 = nI (L.length + 1) from nI_1 _, show nI i + Int32.ofInt 1 = nI (i + 1) from nI_1 i, ← hl3]
      have hq : c (z, y) = mnC c 60 (allL σ b) := (nI_eq (by omega) (by omega)).mp c_141
      refine ih (i + 1) _ _ hY2 (by omega) ((hF.w (Or.inl rfl)).w (Or.inr ⟨rfl, Or.inl rfl⟩)) ?_ ?_ hP3 hR
      · rw [wI_ne (by omega), wI_ne (by omega)]; exact hm
      · rw [fltL_y hq]; exact hG.add
set_option maxHeartbeats 400000 in
set_option maxRecDepth 100000 in
theorem L_X5_choose_96 {l : Launch} {G : Wd} {σ M : Mem} {k : Int32} {b : Nat} {c : Lw → Nat} (hM : Wk σ k M) (hbn : b < nbx σ) (hb : b < 5) (hB : BW b (bnL σ b) M) (hS : MsC σ b c M) (hc : ∀ x, c x ≤ 60) : ∀ (q : Nat) (z : Int32) (L : List Lw) (m : Mem) (x4 : Option Value), z.toInt + q = (rl σ b 1).toInt + 1 → -5 ≤ z.toInt → ChF b M m → m.1 (48 + 5 * b) 13 = nI (mnC c 60 (allL σ b)) → BsI b (fltL c (mnC c 60 (allL σ b)) L) m → L ++ eZ σ b z q = allL σ b → AW l G KC RX5 cX5_choose 5 2 none (Qv (fun μ' => μ'.1 (48 + 5 * b) 13 = nI (mnC c 60 (allL σ b)) ∧ BsI b (fltL c (mnC c 60 (allL σ b)) (allL σ b)) μ' ∧ ChF b M μ')) 96 [some (.ref (gA G (48 + 5 * b))), some (.int (nI (allL σ b).length)), some (.int (nI L.length)), some (.int z), x4] [] m := by
  have h1 : (rl σ b 1).toInt ≤ 5 := (hM.ok hbn).1.2.2.1.2.2
  have e1 : (1 : Int32).toInt = 1 := rfl
  intro q
  induction q with
  | zero =>
    intro z L m x4 hq h5 hF hm hG hA
    have hW := hF.lf.wk hb hM
    have eh : m.1 9 (4 * b + 0) = rl σ b 1 := ((hW.bx hbn).2.2.2 0 (by decide)).2
    have hA2 : L = allL σ b := by rw [← hA]; exact (List.append_nil L).symm
    refine A_iload3 dX5_choose_96 ?_
    refine A_aload0 dX5_choose_97 ?_
    refine A_getR gf_X5_19 (kL_2 hb) dX5_choose_98 ?_
    refine A_aload0 dX5_choose_101 ?_
    refine A_getI gf_X5_23 (kL_3 hb) dX5_choose_102 ?_
    rw [hW.X hb]
    refine A_iconst (v := 0) dX5_choose_105 (by decide) ?_
    refine A_vi2 lk_X5_90 yv_X2_high dX5_choose_106 (rfl) (rfl) (T_X2_high hb (by decide)) (by decide) (Nat.le_of_ble_eq_true rfl) (fun r_106 μ_106 h_106 => ?_)
    obtain ⟨v_106, e_106⟩ := h_106
    replace v_106 := Eq.symm v_106
    subst v_106
    replace e_106 := e_106.symm
    subst e_106
    rw [eh]
    refine A_icmp_gt (tgt := 192) dX5_choose_109 (by decide) (fun c_109 => ?_) (fun c_109 => absurd c_109 (fun y => y (i_lt.mpr (by omega))))
    refine A_vret dX5_choose_192 ?_
    rw [hA2] at hG
    exact ⟨rfl, hm, hG, hF⟩
  | succ q ih =>
    intro z L m x4 hq h5 hF hm hG hA
    have hW := hF.lf.wk hb hM
    have eh : m.1 9 (4 * b + 0) = rl σ b 1 := ((hW.bx hbn).2.2.2 0 (by decide)).2
    rw [eZ_b, ← List.append_assoc] at hA
    refine A_iload3 dX5_choose_96 ?_
    refine A_aload0 dX5_choose_97 ?_
    refine A_getR gf_X5_19 (kL_2 hb) dX5_choose_98 ?_
    refine A_aload0 dX5_choose_101 ?_
    refine A_getI gf_X5_23 (kL_3 hb) dX5_choose_102 ?_
    rw [hW.X hb]
    refine A_iconst (v := 0) dX5_choose_105 (by decide) ?_
    refine A_vi2 lk_X5_90 yv_X2_high dX5_choose_106 (rfl) (rfl) (T_X2_high hb (by decide)) (by decide) (Nat.le_of_ble_eq_true rfl) (fun r_106 μ_106 h_106 => ?_)
    obtain ⟨v_106, e_106⟩ := h_106
    replace v_106 := Eq.symm v_106
    subst v_106
    replace e_106 := e_106.symm
    subst e_106
    rw [eh]
    refine A_icmp_gt (tgt := 192) dX5_choose_109 (by decide) (fun c_109 => absurd c_109 (fun y => by have := i_lt.mp y; omega)) (fun c_109 => ?_)
    refine A_iconst (v := 0) dX5_choose_112 (by decide) ?_
    refine A_istore4 dX5_choose_113 rfl (by decide) ?_
    refine L_X5_choose_115 hM hbn hb hB hS hc ⟨h5, by omega⟩ (fun x5 m2 hF2 hm2 hG2 => ?_) (bnL σ b) 0 L m rfl (by omega) hF hm hG rfl hA
    refine A_iinc3 dX5_choose_186 rfl rfl (by decide) ?_
    refine A_goto (tgt := 96) dX5_choose_189 (by decide) ?_
    exact ih (z + 1) _ m2 _ (by rw [i_add (by rw [e1]; omega), e1]; omega) (by rw [i_add (by rw [e1]; omega), e1]; omega) hF2 hm2 hG2 hA
set_option maxHeartbeats 400000 in
set_option maxRecDepth 100000 in
theorem L_X5_choose_76 {l : Launch} {G : Wd} {σ M : Mem} {k : Int32} {b : Nat} {c : Lw → Nat} {m : Mem} {x2 x3 x4 : Option Value} (hM : Wk σ k M) (hbn : b < nbx σ) (hb : b < 5) (hB : BW b (bnL σ b) M) (hS : MsC σ b c M) (hc : ∀ x, c x ≤ 60) (hF : ChF b M m) (hm : m.1 (48 + 5 * b) 13 = nI (mnC c 60 (allL σ b))) : AW l G KC RX5 cX5_choose 5 2 none (Qv (fun μ' => μ'.1 (48 + 5 * b) 13 = nI (mnC c 60 (allL σ b)) ∧ BsI b (fltL c (mnC c 60 (allL σ b)) (allL σ b)) μ' ∧ ChF b M μ')) 76 [some (.ref (gA G (48 + 5 * b))), some (.int (nI (allL σ b).length)), x2, x3, x4] [] m := by
  have hW := hF.lf.wk hb hM
  have hr0 := (rn_i (hM.ok hbn).1).1
  have el : m.1 8 (4 * b + 0) = rl σ b 0 := ((hW.bx hbn).2.2.2 0 (by decide)).1
  refine A_aload0 dX5_choose_76 ?_
  refine A_iconst (v := 0) dX5_choose_77 (by decide) ?_
  refine A_putI gf_X5_130 (kL_12 hb) dX5_choose_78 ?_
  refine A_iconst (v := 0) dX5_choose_81 (by decide) ?_
  refine A_istore2 dX5_choose_82 rfl (by decide) ?_
  refine A_aload0 dX5_choose_83 ?_
  refine A_getR gf_X5_19 (kL_2 hb) dX5_choose_84 ?_
  refine A_aload0 dX5_choose_87 ?_
  refine A_getI gf_X5_23 (kL_3 hb) dX5_choose_88 ?_
  rw [wI_ne (by omega), hW.X hb]
  refine A_iconst (v := 0) dX5_choose_91 (by decide) ?_
  refine A_vi2 lk_X5_93 yv_X2_low dX5_choose_92 (rfl) (rfl) (T_X2_low hb (by decide)) (by decide) (Nat.le_of_ble_eq_true rfl) (fun r_92 μ_92 h_92 => ?_)
  obtain ⟨v_92, e_92⟩ := h_92
  replace v_92 := Eq.symm v_92
  subst v_92
  replace e_92 := e_92.symm
  subst e_92
  rw [wI_ne (by omega), el]
  refine A_istore3 dX5_choose_95 rfl (by decide) ?_
  exact L_X5_choose_96 hM hbn hb hB hS hc (rn1 σ b 0) (rl σ b 0) [] _ _ (by omega) (hM.ok hbn).1.2.2.1.1 (hF.w (Or.inr ⟨rfl, Or.inl rfl⟩)) ((wI_ne (by omega)).trans hm) ⟨wI_same, fun i x h => by cases h⟩ (List.nil_append _)
set_option maxHeartbeats 400000 in
set_option maxRecDepth 100000 in
theorem L_X5_choose_41 {l : Launch} {G : Wd} {σ M : Mem} {k : Int32} {b : Nat} {c : Lw → Nat} {x3 x4 : Option Value} (hM : Wk σ k M) (hbn : b < nbx σ) (hb : b < 5) (hB : BW b (bnL σ b) M) (hS : MsC σ b c M) (hc : ∀ x, c x ≤ 60) : ∀ (R L : List Lw) (m : Mem), L ++ R = allL σ b → ChF b M m → m.1 (48 + 5 * b) 13 = nI (mnC c 60 L) → AW l G KC RX5 cX5_choose 5 2 none (Qv (fun μ' => μ'.1 (48 + 5 * b) 13 = nI (mnC c 60 (allL σ b)) ∧ BsI b (fltL c (mnC c 60 (allL σ b)) (allL σ b)) μ' ∧ ChF b M μ')) 41 [some (.ref (gA G (48 + 5 * b))), some (.int (nI (allL σ b).length)), some (.int (nI L.length)), x3, x4] [] m := by
  have hal := allL_n (hM.ok hbn).1
  intro R
  induction R with
  | nil =>
    intro L m hA hF hm
    have hA2 : L = allL σ b := by rw [← hA]; exact (List.append_nil L).symm
    refine A_iload2 dX5_choose_41 ?_
    refine A_iload1 dX5_choose_42 ?_
    refine A_icmp_ge (tgt := 76) dX5_choose_43 (by decide) (fun c_43 => ?_) (fun c_43 => absurd c_43 (fun q => q (by rw [hA2]; exact Int32.le_refl _)))
    rw [hA2] at hm
    exact L_X5_choose_76 hM hbn hb hB hS hc hF hm
  | cons x R ih =>
    intro L m hA hF hm
    have hSm := hF.ms hS
    have hAx : (allL σ b)[L.length]? = some x := by rw [← hA, List.getElem?_append_right (Nat.le_refl _), Nat.sub_self]; rfl
    have hLl := (List.getElem?_eq_some_iff.mp hAx).1
    have eS := hSm L.length x hAx
    have hcx := hc x
    have hm6 := mnC_le c L 60
    have hA3 : (L ++ [x]) ++ R = allL σ b := by rw [← hA, List.append_assoc]; rfl
    have hl3 : (L ++ [x]).length = L.length + 1 := by simp
    refine A_iload2 dX5_choose_41 ?_
    refine A_iload1 dX5_choose_42 ?_
    refine A_icmp_ge (tgt := 76) dX5_choose_43 (by decide) (fun c_43 => absurd c_43 (fun q => nI_ge hLl (by omega) q)) (fun c_43 => ?_)
    refine A_iload2 dX5_choose_46 ?_
    refine A_sipush (v := 660) dX5_choose_47 (by decide) ?_
    refine A_icmp_ge (tgt := 76) dX5_choose_50 (by decide) (fun c_50 => absurd c_50 (fun q => nI_ge (a := L.length) (b := 660) (by omega) (by decide) q)) (fun c_50 => ?_)
    refine A_aload0 dX5_choose_53 ?_
    refine A_aload0 dX5_choose_54 ?_
    refine A_getI gf_X5_122 (kL_13 hb) dX5_choose_55 ?_
    rw [hm]
    refine A_aload0 dX5_choose_58 ?_
    refine A_getR gf_X5_34 (kL_10 hb) dX5_choose_59 ?_
    refine A_iload2 dX5_choose_62 ?_
    refine A_iald (kA_51 hb) (vp_in_nI (by omega) (by omega)) dX5_choose_63 ?_
    rw [nI_c (by omega), eS]
    refine A_si2 lk_X5_125 ys_J9_min_7cf53 dX5_choose_64 (T_min) (by decide) (Nat.le_of_ble_eq_true rfl) (fun r_64 μ_64 h_64 => ?_)
    obtain ⟨v_64, e_64⟩ := h_64
    replace v_64 := Eq.symm v_64
    subst v_64
    replace e_64 := e_64.symm
    subst e_64
    rw [imin_n (by omega) (by omega)]
    refine A_putI gf_X5_122 (kL_13 hb) dX5_choose_67 ?_
    refine A_iinc2 dX5_choose_70 rfl rfl (by decide) ?_
    refine A_goto (tgt := 41) dX5_choose_73 (by decide) ?_
    rw [show nI L.length + Int32.ofInt 1 = nI (L.length + 1) from nI_1 _, ← hl3]
    exact ih (L ++ [x]) _ hA3 (hF.w (Or.inr ⟨rfl, Or.inr rfl⟩)) (by rw [wI_same, mnC_app])
set_option maxHeartbeats 400000 in
set_option maxRecDepth 100000 in
theorem T_X5_choose {l : Launch} {G : Wd} {σ M : Mem} {k : Int32} {b : Nat} {c : Lw → Nat} (hM : Wk σ k M) (hbn : b < nbx σ) (hb : b < 5) (hB : BW b (bnL σ b) M) (hS : MsC σ b c M) (hc : ∀ x, c x ≤ 60) : Mt l G KC yX5_choose cX5_choose 5 none 2 [.ref (gA G (48 + 5 * b))] M (Qv (fun μ' => μ'.1 (48 + 5 * b) 13 = nI (mnC c 60 (allL σ b)) ∧ BsI b (fltL c (mnC c 60 (allL σ b)) (allL σ b)) μ' ∧ ChF b M μ')) := by
  refine Mt.of (own := RX5) (n := 4) (by decide) rfl [some (.ref (gA G (48 + 5 * b))), none, none, none, none] rfl (Nat.le_of_ble_eq_true rfl) ?_
  have hal := allL_n (hM.ok hbn).1
  have eh : M.1 9 (4 * b + 0) = rl σ b 1 := ((hM.bx hbn).2.2.2 0 (by decide)).2
  have el : M.1 8 (4 * b + 0) = rl σ b 0 := ((hM.bx hbn).2.2.2 0 (by decide)).1
  refine A_aload0 dX5_choose_0 ?_
  refine A_getI gf_X5_87 (kL_9 hb) dX5_choose_1 ?_
  rw [hB.1]
  refine A_aload0 dX5_choose_4 ?_
  refine A_getR gf_X5_19 (kL_2 hb) dX5_choose_5 ?_
  refine A_aload0 dX5_choose_8 ?_
  refine A_getI gf_X5_23 (kL_3 hb) dX5_choose_9 ?_
  rw [hM.X hb]
  refine A_iconst (v := 0) dX5_choose_12 (by decide) ?_
  refine A_vi2 lk_X5_90 yv_X2_high dX5_choose_13 (rfl) (rfl) (T_X2_high hb (by decide)) (by decide) (Nat.le_of_ble_eq_true rfl) (fun r_13 μ_13 h_13 => ?_)
  obtain ⟨v_13, e_13⟩ := h_13
  replace v_13 := Eq.symm v_13
  subst v_13
  replace e_13 := e_13.symm
  subst e_13
  rw [eh]
  refine A_aload0 dX5_choose_16 ?_
  refine A_getR gf_X5_19 (kL_2 hb) dX5_choose_17 ?_
  refine A_aload0 dX5_choose_20 ?_
  refine A_getI gf_X5_23 (kL_3 hb) dX5_choose_21 ?_
  rw [hM.X hb]
  refine A_iconst (v := 0) dX5_choose_24 (by decide) ?_
  refine A_vi2 lk_X5_93 yv_X2_low dX5_choose_25 (rfl) (rfl) (T_X2_low hb (by decide)) (by decide) (Nat.le_of_ble_eq_true rfl) (fun r_25 μ_25 h_25 => ?_)
  obtain ⟨v_25, e_25⟩ := h_25
  replace v_25 := Eq.symm v_25
  subst v_25
  replace e_25 := e_25.symm
  subst e_25
  rw [el]
  refine A_isub dX5_choose_28 ?_
  refine A_iconst (v := 1) dX5_choose_29 (by decide) ?_
  refine A_iadd dX5_choose_30 ?_
  refine A_imul dX5_choose_31 ?_
  rw [rn_0 (hM.ok hbn).1, pk_mul, Nat.mul_comm (bnL σ b).length, ← hal.1]
  refine A_istore1 dX5_choose_32 rfl (by decide) ?_
  refine A_aload0 dX5_choose_33 ?_
  refine A_bipush (v := 60) dX5_choose_34 (by decide) ?_
  refine A_putI gf_X5_122 (kL_13 hb) dX5_choose_36 ?_
  refine A_iconst (v := 0) dX5_choose_39 (by decide) ?_
  refine A_istore2 dX5_choose_40 rfl (by decide) ?_
  exact L_X5_choose_41 hM hbn hb hB hS hc (allL σ b) [] _ rfl (ChF.rf.w (Or.inr ⟨rfl, Or.inr rfl⟩)) wI_same

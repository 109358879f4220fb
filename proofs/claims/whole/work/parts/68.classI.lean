/-! fitting a box's laws to a stretch -/
theorem sFrom_p (f : Nat → Int32) : ∀ d, (sFrom f d = 0 ∨ ¬ f (sFrom f d) = 0) ∧ ∀ y, sFrom f d < y → y ≤ d → f y = 0 := by
  intro d
  induction d with
  | zero => exact ⟨Or.inl rfl, fun y y1 y2 => absurd y2 (by omega)⟩
  | succ d ih =>
    unfold sFrom
    split
    · rename_i q
      refine ⟨ih.1, fun y y1 y2 => ?_⟩
      by_cases e : y = d + 1
      · rw [e]; exact q
      · exact ih.2 y y1 (by omega)
    · rename_i q
      exact ⟨Or.inr q, fun y y1 y2 => absurd y2 (by omega)⟩
theorem sTo_p (f : Nat → Int32) : ∀ n d, (sTo f n d = d + n ∨ ¬ f (sTo f n d + 1) = 0) ∧ ∀ y, d < y → y ≤ sTo f n d → f y = 0 := by
  intro n
  induction n with
  | zero => intro d; exact ⟨Or.inl rfl, fun y y1 y2 => absurd y2 (by unfold sTo; omega)⟩
  | succ n ih =>
    intro d
    unfold sTo
    split
    · rename_i q
      obtain ⟨i1, i2⟩ := ih (d + 1)
      refine ⟨by rcases i1 with z | z; exact Or.inl (by omega); exact Or.inr z, fun y y1 y2 => ?_⟩
      by_cases e : y = d + 1
      · rw [e]; exact q
      · exact i2 y (by omega) y2
    · rename_i q
      exact ⟨Or.inr q, fun y y1 y2 => absurd y2 (by omega)⟩
theorem st_b {σ : Mem} {b d : Nat} (hd : d < 60) : stF σ b d ≤ d ∧ d ≤ stT σ b d ∧ stT σ b d < 60 := by
  have h1 := sFrom_le (mv σ b) d
  have h2 := sTo_ge (mv σ b) (59 - d) d
  unfold stF stT
  omega
theorem st_same {σ : Mem} {b d e : Nat} (hd : d < 60) (he : e < 60) (h1 : stF σ b d ≤ e) (h2 : e ≤ stT σ b d) : stF σ b e = stF σ b d ∧ stT σ b e = stT σ b d := by
  have hb := st_b (σ := σ) (b := b) hd
  obtain ⟨p1, p2⟩ := sFrom_p (mv σ b) d
  obtain ⟨q1, q2⟩ := sTo_p (mv σ b) (59 - d) d
  have z : ∀ y, stF σ b d < y → y ≤ stT σ b d → mv σ b y = 0 := by
    intro y y1 y2
    rcases Nat.lt_or_ge d y with w | w
    · exact q2 y w y2
    · exact p2 y y1 w
  constructor
  · exact sFrom_c _ _ _ h1 p1 (fun y y1 y2 => z y y1 (by omega))
  · refine sTo_c _ _ _ _ h2 (by omega) ?_ (fun y y1 y2 => z y (by omega) y2)
    rcases q1 with w | w
    · left; unfold stT at hb ⊢; omega
    · exact Or.inr w
def SLc (S : Sc) (b : Nat) (μ : Mem) : Prop := BsI b S.1 μ ∧ μ.1 (48 + 5 * b) 13 = nI S.2.1 ∧ μ.1 (48 + 5 * b) 14 = frS S
def FT (σ : Mem) (k : Int32) (b d : Nat) (μ : Mem) : Prop := μ.1 (48 + 5 * b) 5 = nI (stF σ b d) ∧ μ.1 (48 + 5 * b) 6 = nI (stT σ b d) ∧ SLc (fnd σ k b d) b μ
def LV (σ : Mem) (k : Int32) (b : Nat) (μ : Mem) : Prop := ∃ d, d < 60 ∧ FT σ k b d μ
theorem FT.same {σ μ : Mem} {k : Int32} {b d e : Nat} (h : FT σ k b d μ) (hd : d < 60) (he : e < 60) (h1 : stF σ b d ≤ e) (h2 : e ≤ stT σ b d) : FT σ k b e μ := by
  obtain ⟨e1, e2⟩ := st_same hd he h1 h2
  unfold FT fnd
  rw [e1, e2]
  exact h
theorem num_e {σ μ : Mem} {k : Int32} {b d : Nat} (h : Wk σ k μ) (hb : b < nbx σ) (hd : d < 60) : (if 0 ≤ nI b ∧ nI b < μ.1 4 0 ∧ 0 ≤ nI d ∧ nI d < 60 then μ.1 45 (60 * nI b + nI d).toNatClampNeg else -100000) = rdN σ k b d := by
  have h5 := (h.ok hb).2
  have hn := h.2.2.2.2.1.t.1
  rw [h.no, if_pos ⟨nI_pos' (by omega), nI_lt hb (by omega), nI_pos' (by omega), nI_lt (b := 60) hd (by decide)⟩, nI_60, nI_c (by omega), h.2.1.2.1 _ (by omega)]
  rfl
theorem iv_ne {σ : Mem} {b : Nat} (h : okBx σ b) : 0 < (allL σ b).length := by
  have h1 := rn1_le h
  rw [(allL_n h).1, bnL_len]
  exact Nat.mul_pos (by omega) (Nat.mul_pos (by omega) (Nat.mul_pos (by omega) (by omega)))
theorem allL_ok {σ : Mem} {b : Nat} (h : okBx σ b) {x : Lw} (hx : x ∈ allL σ b) : (-5 ≤ x.1.toInt ∧ x.1.toInt ≤ 5) ∧ okBd x.2 := by
  have hr := (rn_i h).1
  have h0 : -5 ≤ (rl σ b 0).toInt := h.2.2.1.1
  have h1 : (rl σ b 1).toInt ≤ 5 := h.2.2.1.2.2
  unfold allL eZ at hx
  rw [List.mem_flatMap] at hx
  obtain ⟨z, z1, z2⟩ := hx
  rw [eS_bn, List.mem_map] at z2
  obtain ⟨y, y1, y2⟩ := z2
  subst y2
  have := iv_ok _ _ _ (by omega) z1
  exact ⟨by show -5 ≤ z.toInt ∧ z.toInt ≤ 5; omega, bnL_ok h y1⟩
theorem cnt_skip {σ : Mem} {k : Int32} {b f m : Nat} (h : σ.1 27 (f + m) = 0 ∨ rdN σ k b (f + m) = -100000) (x : Lw) : cntM σ k b x f (m + 1) = cntM σ k b x f m ∧ fstM σ k b x f (m + 1) = fstM σ k b x f m := by
  have hn : ¬ mis σ k b x (f + m) := fun z => by rcases h with h | h; exact z.1 h; exact z.2.1 h
  exact ⟨by rw [cntM, if_neg hn]; rfl, by rw [fstM]; exact if_neg (fun z => hn z.1)⟩
/-- within fit, m days done -/
def FtI (σ : Mem) (k : Int32) (b d : Nat) (M : Mem) (n : Nat) (μ : Mem) : Prop := LF b M μ ∧ BW b (bnL σ b) μ ∧ μ.1 (48 + 5 * b) 4 = M.1 43 7 ∧ μ.1 (48 + 5 * b) 5 = nI (stF σ b d) ∧ μ.1 (48 + 5 * b) 6 = nI (stT σ b d) ∧ MsC σ b (fun x => cntM σ k b x (stF σ b d) n) μ ∧ μ.1 (48 + 5 * b) 14 = frC (fun x => fstM σ k b x (stF σ b d) n) (allL σ b)
set_option maxHeartbeats 400000 in
set_option maxRecDepth 100000 in
theorem L_X5_fit_202 {l : Launch} {G : Wd} {σ M : Mem} {k : Int32} {b d : Nat} {m : Mem} {x2 x3 x4 : Option Value} (hM : Wk σ k M) (hbn : b < nbx σ) (hb : b < 5) (hd : d < 60) (hI : FtI σ k b d M (stT σ b d + 1 - stF σ b d) m) : AW l G KC RX5 cX5_fit 5 5 none (Qv (fun μ' => FT σ k b d μ' ∧ μ'.1 (48 + 5 * b) 4 = M.1 43 7 ∧ LF b M μ')) 202 [some (.ref (gA G (48 + 5 * b))), some (.int (nI d)), x2, x3, x4] [] m := by
  have hst := st_b (σ := σ) (b := b) hd
  obtain ⟨h1, h2, h3, h4, h5, h6, h7⟩ := hI
  have hW := h1.wk hb hM
  have hcle : ∀ x, cntM σ k b x (stF σ b d) (stT σ b d + 1 - stF σ b d) ≤ 60 := fun x => by have := cntM_le σ k b x (stF σ b d) (stT σ b d + 1 - stF σ b d); omega
  refine A_aload0 dX5_fit_202 ?_
  refine A_vv0 lk_X5_108 yv_X5_choose dX5_fit_203 (oL hb) (rfl) (T_X5_choose hW hbn hb h2 h6 (fun x => hcle x)) (by decide) (Nat.le_of_ble_eq_true rfl) (fun μ_203 h_203 => ?_)
  refine A_vret dX5_fit_206 ?_
  obtain ⟨r1, r2, r3⟩ := h_203
  have hlf := h1.tr r3.lf
  obtain ⟨s1, s2⟩ := scan_c (f := fun x => fS σ k b (stF σ b d) (stT σ b d) x) (iv_ne (hM.ok hbn).1) (fun x => hcle x)
  refine ⟨rfl, ⟨?_, ?_, ⟨?_, ?_, ?_⟩⟩, ?_, hlf⟩
  · rw [r3.2 _ 5 (by omega) (by omega)]; exact h4
  · rw [r3.2 _ 6 (by omega) (by omega)]; exact h5
  · have e9 : (fnd σ k b d).1 = _ := s2
    rw [e9]; exact r2
  · have e9 : (fnd σ k b d).2.1 = _ := s1
    rw [e9]; exact r1
  · rw [r3.2 _ 14 (by omega) (by omega), h7]
    exact (scan_fr (c := cS σ k b (stF σ b d) (stT σ b d))).symm
  · rw [r3.2 _ 4 (by omega) (by omega)]; exact h3
set_option maxHeartbeats 400000 in
set_option maxRecDepth 100000 in
theorem L_X5_fit_129 {l : Launch} {G : Wd} {σ M : Mem} {k : Int32} {b d : Nat} (hM : Wk σ k M) (hbn : b < nbx σ) (hb : b < 5) (hd : d < 60) : ∀ (q n : Nat) (m : Mem) (x4 : Option Value), q + n = stT σ b d + 1 - stF σ b d → FtI σ k b d M n m → AW l G KC RX5 cX5_fit 5 5 none (Qv (fun μ' => FT σ k b d μ' ∧ μ'.1 (48 + 5 * b) 4 = M.1 43 7 ∧ LF b M μ')) 129 [some (.ref (gA G (48 + 5 * b))), some (.int (nI d)), some (.int (nI (clN (fun x => cntM σ k b x (stF σ b d) n) (allL σ b)))), some (.int (nI (stF σ b d + n))), x4] [] m := by
  have hst := st_b (σ := σ) (b := b) hd
  have hne := iv_ne (hM.ok hbn).1
  have hal := allL_n (hM.ok hbn).1
  intro q
  induction q with
  | zero =>
    intro n m x4 hq hI
    obtain rfl : n = stT σ b d + 1 - stF σ b d := by omega
    have h5 := hI.2.2.2.2.1
    refine A_iload3 dX5_fit_129 ?_
    refine A_aload0 dX5_fit_130 ?_
    refine A_getI gf_X5_63 (kL_6 hb) dX5_fit_131 ?_
    rw [h5]
    refine A_icmp_gt (tgt := 202) dX5_fit_134 (by decide) (fun c_134 => ?_) (fun c_134 => absurd c_134 (fun y => y (nI_lt (by omega) (by omega))))
    exact L_X5_fit_202 hM hbn hb hd hI
  | succ q ih =>
    intro n m x4 hq hI
    obtain ⟨h1, h2, h3, h4, h5, h6, h7⟩ := hI
    have hW := h1.wk hb hM
    have he : stF σ b d + n < 60 := by omega
    have hcle : ∀ x, cntM σ k b x (stF σ b d) n ≤ 60 := fun x => by have := cntM_le σ k b x (stF σ b d) n; omega
    have hskip : (σ.1 27 (stF σ b d + n) = 0 ∨ rdN σ k b (stF σ b d + n) = -100000) → FtI σ k b d M (n + 1) m ∧ (clN (fun x => cntM σ k b x (stF σ b d) (n + 1)) (allL σ b)) = (clN (fun x => cntM σ k b x (stF σ b d) n) (allL σ b)) := by
      intro h
      have e1 : (fun x => cntM σ k b x (stF σ b d) (n + 1)) = (fun x => cntM σ k b x (stF σ b d) n) := funext fun x => (cnt_skip h x).1
      have e2 : (fun x => fstM σ k b x (stF σ b d) (n + 1)) = (fun x => fstM σ k b x (stF σ b d) n) := funext fun x => (cnt_skip h x).2
      unfold FtI
      rw [e1, e2]
      exact ⟨⟨h1, h2, h3, h4, h5, h6, h7⟩, rfl⟩
    refine A_iload3 dX5_fit_129 ?_
    refine A_aload0 dX5_fit_130 ?_
    refine A_getI gf_X5_63 (kL_6 hb) dX5_fit_131 ?_
    rw [h5]
    refine A_icmp_gt (tgt := 202) dX5_fit_134 (by decide) (fun c_134 => absurd c_134 (fun y => nI_nlt (by omega) (by omega) y)) (fun c_134 => ?_)
    refine A_aload0 dX5_fit_137 ?_
    refine A_getR gf_X5_15 (kL_1 hb) dX5_fit_138 ?_
    refine A_aload0 dX5_fit_141 ?_
    refine A_getI gf_X5_23 (kL_3 hb) dX5_fit_142 ?_
    rw [hW.X hb]
    refine A_iload3 dX5_fit_145 ?_
    refine A_vi2 lk_X5_96 yv_X4_number dX5_fit_146 (rfl) (rfl) (T_X4_number hW.n5) (by decide) (Nat.le_of_ble_eq_true rfl) (fun r_146 μ_146 h_146 => ?_)
    obtain ⟨v_146, e_146⟩ := h_146
    replace v_146 := Eq.symm v_146
    subst v_146
    replace e_146 := e_146.symm
    subst e_146
    rw [num_e hW hbn he]
    refine A_istore4 dX5_fit_149 rfl (by decide) ?_
    refine A_iload4 dX5_fit_151 ?_
    refine A_ldc dX5_fit_153 kc_X5_53 ?_
    refine A_icmp_eq (tgt := 196) dX5_fit_155 (by decide) (fun c_155 => ?_) (fun c_155 => ?_)
    · refine A_iinc3 dX5_fit_196 rfl rfl (by decide) ?_
      refine A_goto (tgt := 129) dX5_fit_199 (by decide) ?_
      rw [show nI (stF σ b d + n) + Int32.ofInt 1 = nI (stF σ b d + (n + 1)) from nI_1 _]
      obtain ⟨s1, s2⟩ := hskip (Or.inr c_155)
      rw [← s2]
      exact ih (n + 1) m _ (by omega) s1
    · refine A_aload0 dX5_fit_158 ?_
      refine A_getR gf_X5_9 (kL_0 hb) dX5_fit_159 ?_
      refine A_iload3 dX5_fit_162 ?_
      refine A_vi1 lk_X5_99 yv_X1_isShared dX5_fit_163 (rfl) (rfl) (T_X1_isShared) (by decide) (Nat.le_of_ble_eq_true rfl) (fun r_163 μ_163 h_163 => ?_)
      obtain ⟨v_163, e_163⟩ := h_163
      replace v_163 := Eq.symm v_163
      subst v_163
      replace e_163 := e_163.symm
      subst e_163
      refine A_if_eq (tgt := 196) dX5_fit_166 (by decide) (fun c_166 => ?_) (fun c_166 => ?_)
      · refine A_iinc3 dX5_fit_196 rfl rfl (by decide) ?_
        refine A_goto (tgt := 129) dX5_fit_199 (by decide) ?_
        rw [show nI (stF σ b d + n) + Int32.ofInt 1 = nI (stF σ b d + (n + 1)) from nI_1 _]
        obtain ⟨s1, s2⟩ := hskip (Or.inl (Decidable.not_not.mp (fun z => bz_0.mp c_166 ((hW.1.2.1.sh he).mpr z))))
        rw [← s2]
        exact ih (n + 1) m _ (by omega) s1
      · refine A_iload2 dX5_fit_169 ?_
        refine A_aload0 dX5_fit_170 ?_
        refine A_iload3 dX5_fit_171 ?_
        refine A_iload4 dX5_fit_172 ?_
        refine A_vi2 lk_X5_105 yv_X5_tryDay dX5_fit_174 (oL hb) (rfl) (T_X5_tryDay (c := fun x => cntM σ k b x (stF σ b d) n) hW hbn hb he c_155 h2 (fun x => Nat.le_trans (hcle x) (by decide)) (fun j x hx => (h6 j x hx).trans (by rw [if_neg (by omega)]))) (by decide) (Nat.le_of_ble_eq_true rfl) (fun r_174 μ_174 h_174 => ?_)
        obtain ⟨g1, g2, g3⟩ := h_174
        replace g1 := Eq.symm g1
        subst g1
        have hsh : ¬ σ.1 27 (stF σ b d + n) = 0 := (hW.1.2.1.sh he).mp (bz_y c_166)
        have hmb : ∀ x, x ∈ allL σ b → (if misB σ k b (stF σ b d + n) x = true then cntM σ k b x (stF σ b d) n + 1 else cntM σ k b x (stF σ b d) n) = cntM σ k b x (stF σ b d) (n + 1) := fun x hx => by
          obtain ⟨o1, o2⟩ := allL_ok (hM.ok hbn).1 hx
          have hmi := misB_i (k := k) (b := b) hM.2.2.2.1 o1 o2 he hsh c_155
          rw [cntM]
          by_cases w : misB σ k b (stF σ b d + n) x = true
          · rw [if_pos w, if_pos (hmi.mp w)]
          · rw [if_neg w, if_neg (fun y => w (hmi.mpr y))]; rfl
        have hcl := cl_fal (fun x => cntM σ k b x (stF σ b d) n) (misB σ k b (stF σ b d + n)) (allL σ b)
        have hcg : clN (fun x => cntM σ k b x (stF σ b d) n + (if misB σ k b (stF σ b d + n) x = true then 1 else 0)) (allL σ b) = clN (fun x => cntM σ k b x (stF σ b d) (n + 1)) (allL σ b) := by
          unfold clN
          refine List.countP_congr (fun x hx => ?_)
          have h9 := hmb x hx
          rw [decide_eq_true_iff, decide_eq_true_iff]
          dsimp only
          rw [← h9]
          by_cases w : misB σ k b (stF σ b d + n) x = true
          · rw [if_pos w, if_pos w]
          · rw [if_neg w, if_neg w, Nat.add_zero]
        have hms : ∀ (j : Nat) (x : Lw), (allL σ b)[j]? = some x → μ_174.1 (51 + 5 * b) j = nI (cntM σ k b x (stF σ b d) (n + 1)) := fun j x hx => by
          rw [g2 j x hx]
          dsimp only
          rw [← hmb x (List.mem_of_getElem? hx)]
          by_cases w : misB σ k b (stF σ b d + n) x = true
          · rw [if_pos w, if_pos ⟨(List.getElem?_eq_some_iff.mp hx).1, w⟩]
          · rw [if_neg w, if_neg (fun y => w y.2)]
        have hclb : clN (fun x => cntM σ k b x (stF σ b d) (n + 1)) (allL σ b) ≤ 660 := Nat.le_trans (List.countP_le_length) hal.2.1
        have hclb2 : clN (fun x => cntM σ k b x (stF σ b d) n) (allL σ b) ≤ 660 := Nat.le_trans (List.countP_le_length) hal.2.1
        have hfr := fr_step (σ := σ) (k := k) (b := b) (f := stF σ b d) (m := n) hne (by omega)
        have e14 : μ_174.1 (48 + 5 * b) 14 = frC (fun x => fstM σ k b x (stF σ b d) n) (allL σ b) := (g3.2 _ 14 (by omega) (by omega)).trans h7
        have hstep : ∀ m2 : Mem, LF b m m2 → BW b (bnL σ b) m2 → (∀ j, m2.1 (51 + 5 * b) j = μ_174.1 (51 + 5 * b) j) → (∀ i, i = 4 ∨ i = 5 ∨ i = 6 → m2.1 (48 + 5 * b) i = μ_174.1 (48 + 5 * b) i) → m2.1 (48 + 5 * b) 14 = frC (fun x => fstM σ k b x (stF σ b d) (n + 1)) (allL σ b) → FtI σ k b d M (n + 1) m2 := fun m2 a1 a2 a3 a4 a5 => ⟨h1.tr a1, a2, (a4 4 (by omega)).trans ((g3.2 _ 4 (by omega) (by omega)).trans h3), (a4 5 (by omega)).trans ((g3.2 _ 5 (by omega) (by omega)).trans h4), (a4 6 (by omega)).trans ((g3.2 _ 6 (by omega) (by omega)).trans h5), fun j x hx => (a3 j).trans (hms j x hx), a5⟩
        refine A_isub dX5_fit_177 ?_
        rw [show nI (clN (fun x => cntM σ k b x (stF σ b d) n) (allL σ b)) - nI (fal (fun x => cntM σ k b x (stF σ b d) n) (misB σ k b (stF σ b d + n)) (allL σ b)) = nI (clN (fun x => cntM σ k b x (stF σ b d) (n + 1)) (allL σ b)) by rw [pk_sub (by omega)]; congr 1; omega]
        refine A_istore2 dX5_fit_178 rfl (by decide) ?_
        refine A_iload2 dX5_fit_179 ?_
        refine A_if_ne (tgt := 196) dX5_fit_180 (by decide) (fun c_180 => ?_) (fun c_180 => ?_)
        · refine A_iinc3 dX5_fit_196 rfl rfl (by decide) ?_
          refine A_goto (tgt := 129) dX5_fit_199 (by decide) ?_
          rw [show nI (stF σ b d + n) + Int32.ofInt 1 = nI (stF σ b d + (n + 1)) from nI_1 _]
          refine ih (n + 1) μ_174 _ (by omega) (hstep μ_174 g3.lf (g3.bw h2) (fun j => rfl) (fun i _ => rfl) ?_)
          rw [g3.2 _ 14 (by omega) (by omega), h7, hfr, if_neg (fun z => c_180 (by rw [z.1]; rfl))]
        · refine A_aload0 dX5_fit_183 ?_
          refine A_getI gf_X5_84 (kL_14 hb) dX5_fit_184 ?_
          refine A_iconst (v := -1) dX5_fit_187 (by decide) ?_
          refine A_icmp_ne (tgt := 196) dX5_fit_188 (by decide) (fun c_188 => ?_) (fun c_188 => ?_)
          · refine A_iinc3 dX5_fit_196 rfl rfl (by decide) ?_
            refine A_goto (tgt := 129) dX5_fit_199 (by decide) ?_
            rw [show nI (stF σ b d + n) + Int32.ofInt 1 = nI (stF σ b d + (n + 1)) from nI_1 _]
            refine ih (n + 1) μ_174 _ (by omega) (hstep μ_174 g3.lf (g3.bw h2) (fun j => rfl) (fun i _ => rfl) ?_)
            rw [g3.2 _ 14 (by omega) (by omega), h7, hfr, if_neg (fun z => c_188 (by rw [e14]; exact z.2))]
          · refine A_aload0 dX5_fit_191 ?_
            refine A_iload3 dX5_fit_192 ?_
            refine A_putI gf_X5_84 (kL_14 hb) dX5_fit_193 ?_
            refine A_iinc3 dX5_fit_196 rfl rfl (by decide) ?_
            refine A_goto (tgt := 129) dX5_fit_199 (by decide) ?_
            rw [show nI (stF σ b d + n) + Int32.ofInt 1 = nI (stF σ b d + (n + 1)) from nI_1 _]
            have hz : clN (fun x => cntM σ k b x (stF σ b d) (n + 1)) (allL σ b) = 0 := (nI_eq (b := 0) (by omega) (by omega)).mp c_180
            refine ih (n + 1) _ _ (by omega) (hstep _ (g3.lf.w (Or.inr ⟨rfl, by decide⟩)) ⟨(wI_ne (by omega)).trans (g3.bw h2).1, fun i y hy => (wI_ne (by omega)).trans ((g3.bw h2).2 i y hy)⟩ (fun j => wI_ne (by omega)) (fun i hi => wI_ne (by omega)) ?_)
            rw [wI_same, hfr, if_pos ⟨hz, by rw [← e14]; exact c_188⟩]
set_option maxHeartbeats 400000 in
set_option maxRecDepth 100000 in
theorem L_X5_fit_31 {l : Launch} {G : Wd} {σ M : Mem} {k : Int32} {b d : Nat} {x2 x3 x4 : Option Value} (hM : Wk σ k M) (hbn : b < nbx σ) (hb : b < 5) (hd : d < 60) : AW l G KC RX5 cX5_fit 5 5 none (Qv (fun μ' => FT σ k b d μ' ∧ μ'.1 (48 + 5 * b) 4 = M.1 43 7 ∧ LF b M μ')) 31 [some (.ref (gA G (48 + 5 * b))), some (.int (nI d)), x2, x3, x4] [] M := by
  have hst := st_b (σ := σ) (b := b) hd
  have hal := allL_n (hM.ok hbn).1
  have lf1 : LF b M (wI M (48 + 5 * b) 4 (M.1 43 7)) := LF.rf.w (Or.inr ⟨rfl, by decide⟩)
  have h1 := lf1.wk hb hM
  have lf2 : LF b M (wI (wI M (48 + 5 * b) 4 (M.1 43 7)) (48 + 5 * b) 5 (nI (stF σ b d))) := lf1.w (Or.inr ⟨rfl, by decide⟩)
  have h2 := lf2.wk hb hM
  have lf3 : LF b M (wI (wI (wI M (48 + 5 * b) 4 (M.1 43 7)) (48 + 5 * b) 5 (nI (stF σ b d))) (48 + 5 * b) 6 (nI (stT σ b d))) := lf2.w (Or.inr ⟨rfl, by decide⟩)
  have h3 := lf3.wk hb hM
  refine A_aload0 dX5_fit_31 ?_
  refine A_aload0 dX5_fit_32 ?_
  refine A_getR gf_X5_15 (kL_1 hb) dX5_fit_33 ?_
  refine A_getI gf_X5_57 rfl dX5_fit_36 ?_
  refine A_putI gf_X5_54 (kL_4 hb) dX5_fit_39 ?_
  refine A_aload0 dX5_fit_42 ?_
  refine A_aload0 dX5_fit_43 ?_
  refine A_getR gf_X5_19 (kL_2 hb) dX5_fit_44 ?_
  refine A_aload0 dX5_fit_47 ?_
  refine A_getI gf_X5_23 (kL_3 hb) dX5_fit_48 ?_
  rw [h1.X hb]
  refine A_iload1 dX5_fit_51 ?_
  refine A_vi2 lk_X5_66 yv_X2_firstDay dX5_fit_52 (rfl) (rfl) (T_X2_firstDay h1.1.2.2.1.2.2.2 hb hd) (by decide) (Nat.le_of_ble_eq_true rfl) (fun r_52 μ_52 h_52 => ?_)
  obtain ⟨v_52, e_52⟩ := h_52
  replace v_52 := Eq.symm v_52
  subst v_52
  replace e_52 := e_52.symm
  subst e_52
  refine A_putI gf_X5_60 (kL_5 hb) dX5_fit_55 ?_
  refine A_aload0 dX5_fit_58 ?_
  refine A_aload0 dX5_fit_59 ?_
  refine A_getR gf_X5_19 (kL_2 hb) dX5_fit_60 ?_
  refine A_aload0 dX5_fit_63 ?_
  refine A_getI gf_X5_23 (kL_3 hb) dX5_fit_64 ?_
  rw [h2.X hb]
  refine A_iload1 dX5_fit_67 ?_
  refine A_vi2 lk_X5_72 yv_X2_lastDay dX5_fit_68 (rfl) (rfl) (T_X2_lastDay h2.1.2.2.1.2.2.2 hb hd) (by decide) (Nat.le_of_ble_eq_true rfl) (fun r_68 μ_68 h_68 => ?_)
  obtain ⟨v_68, e_68⟩ := h_68
  replace v_68 := Eq.symm v_68
  subst v_68
  replace e_68 := e_68.symm
  subst e_68
  refine A_putI gf_X5_63 (kL_6 hb) dX5_fit_71 ?_
  generalize hm3 : wI (wI (wI M (48 + 5 * b) 4 (M.1 43 7)) (48 + 5 * b) 5 (nI (stF σ b d))) (48 + 5 * b) 6 (nI (stT σ b d)) = m3 at *
  refine A_aload0 dX5_fit_74 ?_
  refine A_vv0 lk_X5_75 yv_X5_listBends dX5_fit_75 (oL hb) (rfl) (T_X5_listBends h3 hbn hb) (by decide) (Nat.le_of_ble_eq_true rfl) (fun μ_75 h_75 => ?_)
  obtain ⟨b1, b2⟩ := h_75
  have hb1 := b1.1
  refine A_aload0 dX5_fit_78 ?_
  refine A_getR gf_X5_34 (kL_10 hb) dX5_fit_79 ?_
  refine A_iconst (v := 0) dX5_fit_82 (by decide) ?_
  refine A_sv2 lk_X5_78 ys_J7_fill_53178 dX5_fit_83 (T_fill (n := 660) (by decide) (kA_51 hb)) (by decide) (Nat.le_of_ble_eq_true rfl) (fun μ_83 h_83 => ?_)
  replace h_83 := Eq.symm h_83
  subst h_83
  refine A_aload0 dX5_fit_86 ?_
  refine A_iconst (v := -1) dX5_fit_87 (by decide) ?_
  refine A_putI gf_X5_84 (kL_14 hb) dX5_fit_88 ?_
  have lf5 : LF b M (wI (wRow μ_75 (51 + 5 * b) 660 0) (48 + 5 * b) 14 (-1)) := (lf3.tr b2.lf).tr ⟨rfl, fun i j a c => (wI_ne (by omega)).trans (wRow_o (by omega))⟩
  have h5 := lf5.wk hb hM
  have eh : (wI (wRow μ_75 (51 + 5 * b) 660 0) (48 + 5 * b) 14 (-1)).1 9 (4 * b + 0) = rl σ b 1 := ((h5.bx hbn).2.2.2 0 (by decide)).2
  have el : (wI (wRow μ_75 (51 + 5 * b) 660 0) (48 + 5 * b) 14 (-1)).1 8 (4 * b + 0) = rl σ b 0 := ((h5.bx hbn).2.2.2 0 (by decide)).1
  refine A_aload0 dX5_fit_91 ?_
  refine A_getI gf_X5_87 (kL_9 hb) dX5_fit_92 ?_
  rw [wI_ne (by omega), wRow_o (by omega), hb1]
  refine A_aload0 dX5_fit_95 ?_
  refine A_getR gf_X5_19 (kL_2 hb) dX5_fit_96 ?_
  refine A_aload0 dX5_fit_99 ?_
  refine A_getI gf_X5_23 (kL_3 hb) dX5_fit_100 ?_
  rw [h5.X hb]
  refine A_iconst (v := 0) dX5_fit_103 (by decide) ?_
  refine A_vi2 lk_X5_90 yv_X2_high dX5_fit_104 (rfl) (rfl) (T_X2_high hb (by decide)) (by decide) (Nat.le_of_ble_eq_true rfl) (fun r_104 μ_104 h_104 => ?_)
  obtain ⟨v_104, e_104⟩ := h_104
  replace v_104 := Eq.symm v_104
  subst v_104
  replace e_104 := e_104.symm
  subst e_104
  rw [eh]
  refine A_aload0 dX5_fit_107 ?_
  refine A_getR gf_X5_19 (kL_2 hb) dX5_fit_108 ?_
  refine A_aload0 dX5_fit_111 ?_
  refine A_getI gf_X5_23 (kL_3 hb) dX5_fit_112 ?_
  rw [h5.X hb]
  refine A_iconst (v := 0) dX5_fit_115 (by decide) ?_
  refine A_vi2 lk_X5_93 yv_X2_low dX5_fit_116 (rfl) (rfl) (T_X2_low hb (by decide)) (by decide) (Nat.le_of_ble_eq_true rfl) (fun r_116 μ_116 h_116 => ?_)
  obtain ⟨v_116, e_116⟩ := h_116
  replace v_116 := Eq.symm v_116
  subst v_116
  replace e_116 := e_116.symm
  subst e_116
  rw [el]
  refine A_isub dX5_fit_119 ?_
  refine A_iconst (v := 1) dX5_fit_120 (by decide) ?_
  refine A_iadd dX5_fit_121 ?_
  refine A_imul dX5_fit_122 ?_
  rw [rn_0 (hM.ok hbn).1, pk_mul, Nat.mul_comm (bnL σ b).length, ← hal.1]
  refine A_istore2 dX5_fit_123 rfl (by decide) ?_
  refine A_aload0 dX5_fit_124 ?_
  refine A_getI gf_X5_60 (kL_5 hb) dX5_fit_125 ?_
  rw [wI_ne (by omega), wRow_o (by omega), b2.2 _ 5 (by omega) (by omega), show m3.1 (48 + 5 * b) 5 = nI (stF σ b d) from by rw [← hm3, wI_ne (by omega), wI_same]]
  refine A_istore3 dX5_fit_128 rfl (by decide) ?_
  have hcl0 : clN (fun x => cntM σ k b x (stF σ b d) 0) (allL σ b) = (allL σ b).length := List.countP_eq_length.mpr (fun x _ => rfl)
  rw [← hcl0]
  refine L_X5_fit_129 hM hbn hb hd (stT σ b d + 1 - stF σ b d) 0 _ _ (by omega) ⟨lf5, ⟨?_, fun i y hy => ?_⟩, ?_, ?_, ?_, fun j x hx => ?_, ?_⟩
  · rw [wI_ne (by omega), wRow_o (by omega)]; exact hb1
  · rw [wI_ne (by omega), wRow_o (by omega)]; exact b1.2 i y hy
  · rw [wI_ne (by omega), wRow_o (by omega), b2.2 _ 4 (by omega) (by omega), ← hm3, wI_ne (by omega), wI_ne (by omega), wI_same]
  · rw [wI_ne (by omega), wRow_o (by omega), b2.2 _ 5 (by omega) (by omega), ← hm3, wI_ne (by omega), wI_same]
  · rw [wI_ne (by omega), wRow_o (by omega), b2.2 _ 6 (by omega) (by omega), ← hm3, wI_same]
  · rw [wI_ne (by omega), wRow_i (by have := (List.getElem?_eq_some_iff.mp hx).1; omega)]; rfl
  · rw [wI_same]
    refine (if_pos ?_).symm
    obtain ⟨x, hx⟩ := List.exists_mem_of_length_pos (iv_ne (hM.ok hbn).1)
    exact (any_n (f := fun x => fstM σ k b x (stF σ b d) 0)).mpr ⟨x, hx, by show ¬ (0 : Int32) ≤ -1; decide⟩
set_option maxHeartbeats 400000 in
set_option maxRecDepth 100000 in
theorem T_X5_fit {l : Launch} {G : Wd} {σ M : Mem} {k : Int32} {b d : Nat} (hM : Wk σ k M) (hbn : b < nbx σ) (hb : b < 5) (hd : d < 60) (hV : M.1 (48 + 5 * b) 4 = M.1 43 7 → LV σ k b M) : Mt l G KC yX5_fit cX5_fit 5 none 5 [.ref (gA G (48 + 5 * b)), .int (nI d)] M (Qv (fun μ' => FT σ k b d μ' ∧ μ'.1 (48 + 5 * b) 4 = M.1 43 7 ∧ LF b M μ')) := by
  refine Mt.of (own := RX5) (n := 3) (by decide) rfl [some (.ref (gA G (48 + 5 * b))), some (.int (nI d)), none, none, none] rfl (Nat.le_of_ble_eq_true rfl) ?_
  refine A_aload0 dX5_fit_0 ?_
  refine A_getI gf_X5_54 (kL_4 hb) dX5_fit_1 ?_
  refine A_aload0 dX5_fit_4 ?_
  refine A_getR gf_X5_15 (kL_1 hb) dX5_fit_5 ?_
  refine A_getI gf_X5_57 rfl dX5_fit_8 ?_
  refine A_icmp_ne (tgt := 31) dX5_fit_11 (by decide) (fun c_11 => ?_) (fun c_11 => ?_)
  · exact L_X5_fit_31 hM hbn hb hd
  · refine A_aload0 dX5_fit_14 ?_
    refine A_getI gf_X5_60 (kL_5 hb) dX5_fit_15 ?_
    refine A_iload1 dX5_fit_18 ?_
    refine A_icmp_gt (tgt := 31) dX5_fit_19 (by decide) (fun c_19 => ?_) (fun c_19 => ?_)
    · exact L_X5_fit_31 hM hbn hb hd
    · refine A_iload1 dX5_fit_22 ?_
      refine A_aload0 dX5_fit_23 ?_
      refine A_getI gf_X5_63 (kL_6 hb) dX5_fit_24 ?_
      refine A_icmp_gt (tgt := 31) dX5_fit_27 (by decide) (fun c_27 => ?_) (fun c_27 => ?_)
      · exact L_X5_fit_31 hM hbn hb hd
      · refine A_vret dX5_fit_30 ?_
        obtain ⟨d0, d1, f1, f2, f3⟩ := hV c_11
        have hst := st_b (σ := σ) (b := b) d1
        rw [f1] at c_19
        rw [f2] at c_27
        refine ⟨rfl, FT.same ⟨f1, f2, f3⟩ d1 hd ?_ ?_, c_11, LF.rf⟩
        · rcases Nat.lt_or_ge d (stF σ b d0) with z | z
          · exact absurd (nI_lt z (by omega)) c_19
          · exact z
        · rcases Nat.lt_or_ge (stT σ b d0) d with z | z
          · exact absurd (nI_lt z (by omega)) c_27
          · exact z

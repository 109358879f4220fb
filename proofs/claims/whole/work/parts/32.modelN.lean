theorem in70 : vp_in 0 70 := by
  rw [← nI_0]
  exact vp_in_nI (by decide) (by decide)
set_option maxHeartbeats 4000000 in
set_option maxRecDepth 100000 in
theorem T_X12_holds {l : Launch} {G : Wd} {r d : Nat} {k : Int32} {F σ μ : Mem} (hL : Lay F σ k μ) (hrl : okRl σ r) (hr6 : r < 6) (hd : d < 60) : Mt l G KM yX12_holds cX12_holds 7 (some .boolean) 2 [.ref (gA G 0), .int (nI r), .int (nI d)] μ (Qi (fun v μ' => v = bz (hldS σ k r d = true) ∧ Lay F σ k μ')) := by
  refine Mt.of (own := RX12) (n := 4) (by decide) rfl [some (.ref (gA G 0)), some (.int (nI r)), some (.int (nI d)), none, none, none, none] rfl (Nat.le_of_ble_eq_true rfl) ?_
  refine A_iconst (v := 0) dX12_holds_0 (by decide) ?_
  refine A_istore3 dX12_holds_1 rfl (by decide) ?_
  refine A_aload0 dX12_holds_2 ?_
  refine A_getR gf_X12_148 rfl dX12_holds_3 ?_
  refine A_iload1 dX12_holds_6 ?_
  refine A_iald (rfl) (vp_in_nI (by omega) (by omega)) dX12_holds_7 ?_
  rw [nI_c (by omega), hL.1.1 45 _ rfl, hrl.1]
  refine A_istore4 dX12_holds_8 rfl (by decide) ?_
  refine L_X12_holds (F := F) (σ := σ) (k := k) (by omega) hrl hd (fun μ2 h0 hL2 => ⟨_, rfl, by rw [bz_f (by rw [h0]; exact Bool.false_ne_true)], hL2⟩) (fun μ2 g n x3 x4 x5 x6 hS hn hpl hL2 => ?_) (bgN σ (r + 1) - bgN σ r + 1) 0 (fun _ => 0) 0 _ _ _ _ _ (by have := hrl.2.2.1; omega) (by have := hrl.2.2.1; omega) rfl rfl rfl (fun j hj => by omega) hL
  refine A_aload0 dX12_holds_225 ?_
  refine A_getR gf_X12_154 rfl dX12_holds_226 ?_
  refine A_iconst (v := 0) dX12_holds_229 (by decide) ?_
  refine A_iald (rfl) (in70) dX12_holds_230 ?_
  refine A_val (y := g 0) (hpl 0 (by omega)) ?_
  refine A_if_eq (tgt := 238) dX12_holds_231 (by decide) (fun c_231 => ?_) (fun c_231 => ?_)
  · refine A_iconst (v := 0) dX12_holds_238 (by decide) ?_
    refine A_zret dX12_holds_239 (by decide) ?_
    refine ⟨_, rfl, ?_, hL2⟩
    unfold hldS
    rw [hS]
    rw [bz_f]; simp [c_231]
  · refine A_iconst (v := 1) dX12_holds_234 (by decide) ?_
    refine A_goto (tgt := 239) dX12_holds_235 (by decide) ?_
    refine A_zret dX12_holds_239 (by decide) ?_
    refine ⟨_, rfl, ?_, hL2⟩
    unfold hldS
    rw [hS]
    rw [bz_t]; simp [c_231]
def roS (σ : Mem) (k : Int32) (d : Nat) : Nat → Nat → Int32
  | 0, _ => -1
  | q + 1, r => if hldS σ k r d = true then nI r else roS σ k d q (r + 1)
def ron (σ : Mem) (k : Int32) (d : Nat) : Int32 := roS σ k d (rlN σ) 0
theorem roS_r (σ : Mem) (k : Int32) (d : Nat) : ∀ q r, roS σ k d q r = -1 ∨ ∃ j : Nat, j < r + q ∧ roS σ k d q r = nI j := by
  intro q
  induction q with
  | zero => intro r; exact Or.inl rfl
  | succ q ih =>
    intro r
    unfold roS
    split
    · exact Or.inr ⟨r, by omega, rfl⟩
    · rcases ih (r + 1) with h | ⟨j, h1, h2⟩
      · exact Or.inl h
      · exact Or.inr ⟨j, by omega, h2⟩
theorem ron_r (σ : Mem) (k : Int32) (d : Nat) : ron σ k d = -1 ∨ ∃ j : Nat, j < rlN σ ∧ ron σ k d = nI j := by
  rcases roS_r σ k d (rlN σ) 0 with h | ⟨j, h1, h2⟩
  · exact Or.inl h
  · exact Or.inr ⟨j, by omega, h2⟩
theorem ron_s {σ : Mem} {k : Int32} {d : Nat} (h : ¬ ron σ k d < 0) : ∃ j : Nat, j < rlN σ ∧ ron σ k d = nI j := by
  rcases ron_r σ k d with q | q
  · exact absurd (by rw [q]; decide) h
  · exact q
set_option maxHeartbeats 800000 in
set_option maxRecDepth 100000 in
theorem L_X12_ruleOn {l : Launch} {G : Wd} {k : Int32} {F σ : Mem} {d : Nat} {Q : Option Value → Mem → Prop} (hw : WFr σ) (hd : d < 60) : ∀ (q r : Nat) (x : Int32) (μ : Mem), r + q = rlN σ + 1 → r ≤ rlN σ → x = nI r → Lay F σ k μ → (∀ (v : Int32) (μ : Mem), v = roS σ k d (rlN σ - r) r → Lay F σ k μ → Q (some (.int v)) μ) → AW l G KM RX12 cX12_ruleOn 3 3 (some .int) Q 2 [some (.ref (gA G 0)), some (.int (nI d)), some (.int x)] [] μ := by
  have hr6 := hw.1
  intro q
  induction q with
  | zero => intro r x μ h1 h2; omega
  | succ q ih =>
    intro r x μ h1 h2 hx hL hk
    subst hx
    refine A_iload2 dX12_ruleOn_2 ?_
    refine A_aload0 dX12_ruleOn_3 ?_
    refine A_getI gf_X12_330 rfl dX12_ruleOn_4 ?_
    rw [hL.1.1 0 72 rfl, hw.2.1]
    refine A_icmp_ge (tgt := 27) dX12_ruleOn_7 (by decide) (fun c_7 => ?_) (fun c_7 => ?_)
    · have e : r = rlN σ := by have h9 := (nI_leI (a := rlN σ) (b := r) (by omega) (by omega)).mp c_7; omega
      subst e
      refine A_iconst (v := -1) dX12_ruleOn_27 (by decide) ?_
      refine A_iret dX12_ruleOn_28 ?_
      exact hk _ _ (by rw [Nat.sub_self]; rfl) hL
    · have hr : r < rlN σ := by rcases Nat.lt_or_ge r (rlN σ) with z | z; exact z; exact absurd (nI_le z (by omega)) c_7
      refine A_aload0 dX12_ruleOn_10 ?_
      refine A_iload2 dX12_ruleOn_11 ?_
      refine A_iload1 dX12_ruleOn_12 ?_
      refine A_vi2 lk_X12_474 yv_X12_holds dX12_ruleOn_13 (rfl) (rfl) (T_X12_holds hL (hw.2.2 r hr) (by omega) hd) (by decide) (Nat.le_of_ble_eq_true rfl) (fun r_13 μ_13 h_13 => ?_)
      obtain ⟨rfl, hL2⟩ := h_13
      refine A_if_eq (tgt := 21) dX12_ruleOn_16 (by decide) (fun c_16 => ?_) (fun c_16 => ?_)
      · refine A_iinc2 dX12_ruleOn_21 rfl rfl (by decide) ?_
        refine A_goto (tgt := 2) dX12_ruleOn_24 (by decide) ?_
        refine ih (r + 1) _ _ (by omega) (by omega) (nI_1 r) hL2 (fun v μ2 h => hk v μ2 ?_)
        rw [show rlN σ - r = (rlN σ - (r + 1)) + 1 by omega, roS, if_neg (bz_0.mp c_16)]
        exact h
      · refine A_iload2 dX12_ruleOn_19 ?_
        refine A_iret dX12_ruleOn_20 ?_
        refine hk _ _ ?_ hL2
        rw [show rlN σ - r = (rlN σ - (r + 1)) + 1 by omega, roS, if_pos (Classical.not_not.mp (fun z => c_16 (bz_0.mpr z)))]
set_option maxHeartbeats 4000000 in
set_option maxRecDepth 100000 in
theorem T_X12_ruleOn {l : Launch} {G : Wd} {d : Nat} {k : Int32} {F σ μ : Mem} (hL : Lay F σ k μ) (hw : WFr σ) (hd : d < 60) : Mt l G KM yX12_ruleOn cX12_ruleOn 3 (some .int) 3 [.ref (gA G 0), .int (nI d)] μ (Qi (fun v μ' => v = ron σ k d ∧ Lay F σ k μ')) := by
  refine Mt.of (own := RX12) (n := 1) (by decide) rfl [some (.ref (gA G 0)), some (.int (nI d)), none] rfl (Nat.le_of_ble_eq_true rfl) ?_
  refine A_iconst (v := 0) dX12_ruleOn_0 (by decide) ?_
  refine A_istore2 dX12_ruleOn_1 rfl (by decide) ?_
  refine L_X12_ruleOn (F := F) (σ := σ) (k := k) hw hd (rlN σ + 1) 0 _ _ (by omega) (by omega) rfl hL (fun v μ2 hv hL2 => ⟨v, rfl, hv, hL2⟩)
def WFa (σ : Mem) : Prop := WF σ ∧ WFr σ
def wetR (σ : Mem) (v : Int32) : Int32 := σ.1 49 v.toNatClampNeg
def sp_says (σ : Mem) (d k : Int32) : Int32 := if isDy d ∧ ¬ ron σ k d.toNatClampNeg < 0 then (if wetR σ (ron σ k d.toNatClampNeg) = 0 then 0 else 1) else -1
theorem i_dy {d : Int32} (h : isDy d) : ∃ n : Nat, n < 60 ∧ d = nI n ∧ d.toNatClampNeg = n := by
  obtain ⟨n, hn, rfl, -, e⟩ := i_nat h.1
  have h9 := h.2
  rw [show (60 : Int32) = nI 60 from rfl] at h9
  exact ⟨n, (nI_ltI (by omega) (by omega)).mp h9, rfl, e⟩
set_option maxHeartbeats 4000000 in
set_option maxRecDepth 100000 in
theorem T_X12_says {l : Launch} {G : Wd} {d k : Int32} {μ : Mem} (hw : WFa μ) : Mt l G KM yX12_says cX12_says 4 (some .int) 4 [.ref (gA G 0), .int d, .int k] μ (Qi (fun v μ' => v = sp_says μ d k ∧ Pm μ μ')) := by
  refine Mt.of (own := RX12) (n := 1) (by decide) rfl [some (.ref (gA G 0)), some (.int d), some (.int k), none] rfl (Nat.le_of_ble_eq_true rfl) ?_
  refine A_iload1 dX12_says_0 ?_
  refine A_si1 lk_X12_333 ys_X12_isDay dX12_says_1 (T_X12_isDay) (by decide) (Nat.le_of_ble_eq_true rfl) (fun r_1 μ_1 h_1 => ?_)
  obtain ⟨rfl, e_1⟩ := h_1
  replace e_1 := e_1.symm
  subst e_1
  refine A_if_ne (tgt := 9) dX12_says_4 (by decide) (fun c_4 => ?_) (fun c_4 => ?_)
  · have hd : isDy d := Classical.not_not.mp (fun z => c_4 (bz_0.mpr z))
    obtain ⟨dn, hd6, rfl, ed⟩ := i_dy hd
    refine A_aload0 dX12_says_9 ?_
    refine A_iload2 dX12_says_10 ?_
    refine A_vv1 lk_X12_354 yv_X12_layOut dX12_says_11 (rfl) (rfl) (T_X12_layOut hw.1.2.1) (by decide) (Nat.le_of_ble_eq_true rfl) (fun μ_11 h_11 => ?_)
    refine A_aload0 dX12_says_14 ?_
    refine A_iload1 dX12_says_15 ?_
    refine A_vi1 lk_X12_477 yv_X12_ruleOn dX12_says_16 (rfl) (rfl) (T_X12_ruleOn h_11 hw.2 hd6) (by decide) (Nat.le_of_ble_eq_true rfl) (fun r_16 μ_16 h_16 => ?_)
    obtain ⟨rfl, hL2⟩ := h_16
    refine A_istore3 dX12_says_19 rfl (by decide) ?_
    refine A_iload3 dX12_says_20 ?_
    refine A_if_ge (tgt := 28) dX12_says_21 (by decide) (fun c_21 => ?_) (fun c_21 => ?_)
    · have hng : ¬ ron μ k dn < 0 := fun z => by have h8 := i_lt.mp z; have h9 := i_le.mp c_21; omega
      obtain ⟨j, hj, ej⟩ := ron_s hng
      have h66 := hw.2.1
      refine A_aload0 dX12_says_28 ?_
      refine A_getR gf_X12_160 rfl dX12_says_29 ?_
      refine A_iload3 dX12_says_32 ?_
      refine A_zald (rfl) (by rw [ej]; exact vp_in_nI (by omega) (by omega)) dX12_says_33 ?_
      refine A_val (y := wetR μ (ron μ k dn)) (hL2.1.1 49 _ rfl) ?_
      refine A_if_eq (tgt := 41) dX12_says_34 (by decide) (fun c_34 => ?_) (fun c_34 => ?_)
      · refine A_iconst (v := 0) dX12_says_41 (by decide) ?_
        refine A_iret dX12_says_42 ?_
        refine ⟨_, rfl, ?_, hL2.1⟩
        unfold sp_says
        rw [ed, if_pos ⟨hd, hng⟩, if_pos c_34]
      · refine A_iconst (v := 1) dX12_says_37 (by decide) ?_
        refine A_goto (tgt := 42) dX12_says_38 (by decide) ?_
        refine A_iret dX12_says_42 ?_
        refine ⟨_, rfl, ?_, hL2.1⟩
        unfold sp_says
        rw [ed, if_pos ⟨hd, hng⟩, if_neg c_34]
    · refine A_iconst (v := -1) dX12_says_24 (by decide) ?_
      refine A_goto (tgt := 42) dX12_says_25 (by decide) ?_
      refine A_iret dX12_says_42 ?_
      refine ⟨_, rfl, ?_, hL2.1⟩
      unfold sp_says
      rw [ed, if_neg (fun z => z.2 (i_nle c_21))]
  · refine A_iconst (v := -1) dX12_says_7 (by decide) ?_
    refine A_iret dX12_says_8 ?_
    refine ⟨_, rfl, ?_, Pm.rf⟩
    unfold sp_says
    rw [if_neg (fun z => bz_0.mp c_4 z.1)]
abbrev trP (σ : Mem) (k : Int32) (d : Nat) : Prop := σ.1 19 d = 0 ∧ ¬ wnS σ k d < 0 ∧ ¬ ron σ k d < 0
set_option maxHeartbeats 4000000 in
set_option maxRecDepth 100000 in
theorem T_X12_isTried {l : Launch} {G : Wd} {d : Nat} {k : Int32} {F σ μ : Mem} (hL : Lay F σ k μ) (hw : WFr σ) (hd : d < 60) : Mt l G KM yX12_isTried cX12_isTried 2 (some .boolean) 4 [.ref (gA G 0), .int (nI d)] μ (Qi (fun v μ' => v = bz (trP σ k d) ∧ Lay F σ k μ')) := by
  refine Mt.of (own := RX12) (n := 0) (by decide) rfl [some (.ref (gA G 0)), some (.int (nI d))] rfl (Nat.le_of_ble_eq_true rfl) ?_
  refine A_aload0 dX12_isTried_0 ?_
  refine A_getR gf_X12_70 rfl dX12_isTried_1 ?_
  refine A_iload1 dX12_isTried_4 ?_
  refine A_zald (rfl) (vp_in_nI (by omega) (by omega)) dX12_isTried_5 ?_
  rw [nI_c (by omega), hL.1.1 19 _ rfl]
  refine A_if_ne (tgt := 29) dX12_isTried_6 (by decide) (fun c_6 => ?_) (fun c_6 => ?_)
  · refine A_iconst (v := 0) dX12_isTried_29 (by decide) ?_
    refine A_zret dX12_isTried_30 (by decide) ?_
    refine ⟨_, rfl, ?_, hL⟩
    rw [bz_f (fun z => c_6 z.1)]
  · refine A_aload0 dX12_isTried_9 ?_
    refine A_iload1 dX12_isTried_10 ?_
    refine A_vi1 lk_X12_480 yv_X12_wetNext dX12_isTried_11 (rfl) (rfl) (T_X12_wetNext hL hd) (by decide) (Nat.le_of_ble_eq_true rfl) (fun r_11 μ_11 h_11 => ?_)
    obtain ⟨rfl, e_11⟩ := h_11
    replace e_11 := e_11.symm
    subst e_11
    refine A_if_lt (tgt := 29) dX12_isTried_14 (by decide) (fun c_14 => ?_) (fun c_14 => ?_)
    · refine A_iconst (v := 0) dX12_isTried_29 (by decide) ?_
      refine A_zret dX12_isTried_30 (by decide) ?_
      refine ⟨_, rfl, ?_, hL⟩
      rw [bz_f (fun z => z.2.1 c_14)]
    · refine A_aload0 dX12_isTried_17 ?_
      refine A_iload1 dX12_isTried_18 ?_
      refine A_vi1 lk_X12_477 yv_X12_ruleOn dX12_isTried_19 (rfl) (rfl) (T_X12_ruleOn hL hw hd) (by decide) (Nat.le_of_ble_eq_true rfl) (fun r_19 μ_19 h_19 => ?_)
      obtain ⟨rfl, hL2⟩ := h_19
      refine A_if_lt (tgt := 29) dX12_isTried_22 (by decide) (fun c_22 => ?_) (fun c_22 => ?_)
      · refine A_iconst (v := 0) dX12_isTried_29 (by decide) ?_
        refine A_zret dX12_isTried_30 (by decide) ?_
        refine ⟨_, rfl, ?_, hL2⟩
        rw [bz_f (fun z => z.2.2 c_22)]
      · refine A_iconst (v := 1) dX12_isTried_25 (by decide) ?_
        refine A_goto (tgt := 30) dX12_isTried_26 (by decide) ?_
        refine A_zret dX12_isTried_30 (by decide) ?_
        refine ⟨_, rfl, ?_, hL2⟩
        rw [bz_t ⟨c_6, c_14, c_22⟩]
abbrev T4 : Type := Nat × Nat × Nat × Nat
def trS (σ : Mem) (k : Int32) : Nat → T4
  | 0 => (0, 0, 0, 0)
  | n + 1 => if trP σ k n then ((trS σ k n).1 + 1, (trS σ k n).2.1 + (if wetR σ (ron σ k n) = bz (wnS σ k n = 1) then 1 else 0), (trS σ k n).2.2.1 + (if wnS σ k n = 1 then 1 else 0), (trS σ k n).2.2.2 + (if wetR σ (ron σ k n) = 0 then 0 else 1)) else trS σ k n
theorem trS_le (σ : Mem) (k : Int32) : ∀ n, (trS σ k n).1 ≤ n ∧ (trS σ k n).2.1 ≤ n ∧ (trS σ k n).2.2.1 ≤ n ∧ (trS σ k n).2.2.2 ≤ n := by
  intro n
  induction n with
  | zero => exact ⟨Nat.le_refl _, Nat.le_refl _, Nat.le_refl _, Nat.le_refl _⟩
  | succ n ih =>
    unfold trS
    split
    · refine ⟨by show (trS σ k n).1 + 1 ≤ n + 1; omega, ?_, ?_, ?_⟩
      · show (trS σ k n).2.1 + _ ≤ n + 1; split <;> omega
      · show (trS σ k n).2.2.1 + _ ≤ n + 1; split <;> omega
      · show (trS σ k n).2.2.2 + _ ≤ n + 1; split <;> omega
    · omega
def TF (t : T4) (μ : Mem) : Prop := μ.1 0 76 = nI t.1 ∧ μ.1 0 77 = nI t.2.1 ∧ μ.1 0 78 = nI t.2.2.1 ∧ μ.1 0 79 = nI t.2.2.2
theorem TF.k {t : T4} {μ μ' : Mem} (h : TF t μ) (hf : Fr μ μ') : TF t μ' := ⟨(hf 0 76 rfl).trans h.1, (hf 0 77 rfl).trans h.2.1, (hf 0 78 rfl).trans h.2.2.1, (hf 0 79 rfl).trans h.2.2.2⟩
theorem wn01 {σ : Mem} {k : Int32} {d : Nat} (h : ¬ wnS σ k d < 0) : wnS σ k d = nI (if wnS σ k d = 1 then 1 else 0) := by
  rcases wnS_01 σ k d with q | q | q
  · exact absurd (by rw [q]; decide) h
  · rw [q]; rfl
  · rw [q]; rfl
theorem nI_if {p : Prop} [Decidable p] {a : Nat} : nI a + (if p then 1 else 0) = nI (a + (if p then 1 else 0)) := by
  split
  · exact nI_1 a
  · rw [Int32.add_zero, Nat.add_zero]
set_option maxHeartbeats 800000 in
set_option maxRecDepth 100000 in
theorem L_X12_tryAll {l : Launch} {G : Wd} {k : Int32} {σ : Mem} {Q : Option Value → Mem → Prop} (hw : WFr σ) : ∀ (q d : Nat) (x : Int32) (x3 : Option Value) (μ : Mem), d + q = 60 + 1 → d ≤ 60 → x = nI d → TF (trS σ k d) μ → Lay μ σ k μ → (∀ (x : Int32) (x3 : Option Value) (μ : Mem), TF (trS σ k 60) μ → Lay μ σ k μ → AW l G KM RX12 cX12_tryAll 4 5 none Q 135 [some (.ref (gA G 0)), some (.int k), some (.int x), x3] [] μ) → AW l G KM RX12 cX12_tryAll 4 5 none Q 27 [some (.ref (gA G 0)), some (.int k), some (.int x), x3] [] μ := by
  intro q
  induction q with
  | zero => intro d x x3 μ h1 h2; omega
  | succ q ih =>
    intro d x x3 μ h1 h2 hx hT hL hk
    subst hx
    refine A_iload2 dX12_tryAll_27 ?_
    refine A_bipush (v := 60) dX12_tryAll_28 (by decide) ?_
    refine A_icmp_ge (tgt := 135) dX12_tryAll_30 (by decide) (fun c_30 => ?_) (fun c_30 => ?_)
    · have e : d = 60 := by rw [show (60 : Int32) = nI 60 from rfl] at c_30; have h9 := (nI_leI (a := 60) (b := d) (by omega) (by omega)).mp c_30; omega
      subst e
      exact hk _ _ _ hT hL
    · have hd : d < 60 := by rw [show (60 : Int32) = nI 60 from rfl] at c_30; rcases Nat.lt_or_ge d 60 with z | z; exact z; exact absurd (nI_le z (by omega)) c_30
      have hle := trS_le σ k d
      refine A_aload0 dX12_tryAll_33 ?_
      refine A_iload2 dX12_tryAll_34 ?_
      refine A_vi1 lk_X12_495 yv_X12_isTried dX12_tryAll_35 (rfl) (rfl) (T_X12_isTried hL hw hd) (by decide) (Nat.le_of_ble_eq_true rfl) (fun r_35 μ_35 h_35 => ?_)
      obtain ⟨rfl, hL1⟩ := h_35
      refine A_if_ne (tgt := 44) dX12_tryAll_38 (by decide) (fun c_38 => ?_) (fun c_38 => ?_)
      · have hin : trP σ k d := Classical.not_not.mp (fun z => c_38 (bz_0.mpr z))
        obtain ⟨j, hj, ej⟩ := ron_s hin.2.2
        have h66 := hw.1
        refine A_aload0 dX12_tryAll_44 ?_
        refine A_getR gf_X12_160 rfl dX12_tryAll_45 ?_
        refine A_aload0 dX12_tryAll_48 ?_
        refine A_iload2 dX12_tryAll_49 ?_
        refine A_vi1 lk_X12_477 yv_X12_ruleOn dX12_tryAll_50 (rfl) (rfl) (T_X12_ruleOn hL1.self hw hd) (by decide) (Nat.le_of_ble_eq_true rfl) (fun r_50 μ_50 h_50 => ?_)
        obtain ⟨rfl, hL2⟩ := h_50
        have hT2 := (hT.k hL1.2.2.2.2).k hL2.2.2.2.2
        refine A_zald (rfl) (by rw [ej]; exact vp_in_nI (by omega) (by omega)) dX12_tryAll_53 ?_
        refine A_val (y := wetR σ (ron σ k d)) (hL2.1.1 49 _ rfl) ?_
        refine A_istore3 dX12_tryAll_54 rfl (by decide) ?_
        refine A_aload0 dX12_tryAll_55 ?_
        refine A_dup dX12_tryAll_56 rfl ?_
        refine A_getI gf_X12_483 rfl dX12_tryAll_57 ?_
        rw [hT2.1]
        refine A_iconst (v := 1) dX12_tryAll_60 (by decide) ?_
        refine A_iadd dX12_tryAll_61 ?_
        refine A_putI gf_X12_483 rfl dX12_tryAll_62 ?_
        refine A_aload0 dX12_tryAll_65 ?_
        refine A_dup dX12_tryAll_66 rfl ?_
        refine A_getI gf_X12_486 rfl dX12_tryAll_67 ?_
        refine A_val (y := nI (trS σ k d).2.1) hT2.2.1 ?_
        refine A_iload3 dX12_tryAll_70 ?_
        refine A_aload0 dX12_tryAll_71 ?_
        refine A_iload2 dX12_tryAll_72 ?_
        have hLa : Lay _ σ k (wI μ_50 0 76 (nI (trS σ k d).1 + 1)) := Lay.w3 (hL2) rfl ⟨by decide, by decide, by decide⟩
        refine A_vi1 lk_X12_480 yv_X12_wetNext dX12_tryAll_73 (rfl) (rfl) (T_X12_wetNext hLa hd) (by decide) (Nat.le_of_ble_eq_true rfl) (fun r_73 μ_73 h_73 => ?_)
        obtain ⟨rfl, e_73⟩ := h_73
        replace e_73 := e_73.symm
        subst e_73
        refine A_iconst (v := 1) dX12_tryAll_76 (by decide) ?_
        refine A_icmp_ne (tgt := 84) dX12_tryAll_77 (by decide) (fun c_77 => ?_) (fun c_77 => ?_)
        · refine A_iconst (v := 0) dX12_tryAll_84 (by decide) ?_
          refine A_icmp_ne (tgt := 92) dX12_tryAll_85 (by decide) (fun c_85 => ?_) (fun c_85 => ?_)
          · refine A_iconst (v := 0) dX12_tryAll_92 (by decide) ?_
            refine A_iadd dX12_tryAll_93 ?_
            refine A_putI gf_X12_486 rfl dX12_tryAll_94 ?_
            refine A_aload0 dX12_tryAll_97 ?_
            refine A_dup dX12_tryAll_98 rfl ?_
            refine A_getI gf_X12_489 rfl dX12_tryAll_99 ?_
            refine A_val (y := nI (trS σ k d).2.2.1) hT2.2.2.1 ?_
            refine A_aload0 dX12_tryAll_102 ?_
            refine A_iload2 dX12_tryAll_103 ?_
            refine A_vi1 lk_X12_480 yv_X12_wetNext dX12_tryAll_104 (rfl) (rfl) (T_X12_wetNext (Lay.w3 (i := 0) (j := 77) hLa rfl ⟨by decide, by decide, by decide⟩) hd) (by decide) (Nat.le_of_ble_eq_true rfl) (fun r_104 μ_104 h_104 => ?_)
            obtain ⟨rfl, e_104⟩ := h_104
            replace e_104 := e_104.symm
            subst e_104
            refine A_iadd dX12_tryAll_107 ?_
            refine A_putI gf_X12_489 rfl dX12_tryAll_108 ?_
            refine A_aload0 dX12_tryAll_111 ?_
            refine A_dup dX12_tryAll_112 rfl ?_
            refine A_getI gf_X12_492 rfl dX12_tryAll_113 ?_
            refine A_val (y := nI (trS σ k d).2.2.2) hT2.2.2.2 ?_
            refine A_iload3 dX12_tryAll_116 ?_
            refine A_if_eq (tgt := 124) dX12_tryAll_117 (by decide) (fun c_117 => ?_) (fun c_117 => ?_)
            · refine A_iconst (v := 0) dX12_tryAll_124 (by decide) ?_
              refine A_iadd dX12_tryAll_125 ?_
              refine A_putI gf_X12_492 rfl dX12_tryAll_126 ?_
              refine A_iinc2 dX12_tryAll_129 rfl rfl (by decide) ?_
              refine A_goto (tgt := 27) dX12_tryAll_132 (by decide) ?_
              refine ih (d + 1) _ _ _ (by omega) (by omega) (nI_1 d) ?_ (Lay.w3 (Lay.w3 (Lay.w3 (Lay.w3 (hL2) rfl ⟨by decide, by decide, by decide⟩) rfl ⟨by decide, by decide, by decide⟩) rfl ⟨by decide, by decide, by decide⟩) rfl ⟨by decide, by decide, by decide⟩) hk
              rw [← bz_f (p := wnS σ k d = 1) c_77] at c_85
              rw [trS, if_pos hin]
              refine ⟨?_, ?_, ?_, ?_⟩
              · exact nI_1 _
              · show _ = nI (_ + (if wetR σ (ron σ k d) = bz (wnS σ k d = 1) then 1 else 0)); rw [if_neg c_85]; exact Int32.add_zero _
              · show _ = nI (_ + (if wnS σ k d = 1 then 1 else 0)); rw [← nI_add, ← wn01 hin.2.1]; rfl
              · show _ = nI (_ + (if wetR σ (ron σ k d) = 0 then 0 else 1)); rw [if_pos c_117]; exact Int32.add_zero _
            · refine A_iconst (v := 1) dX12_tryAll_120 (by decide) ?_
              refine A_goto (tgt := 125) dX12_tryAll_121 (by decide) ?_
              refine A_iadd dX12_tryAll_125 ?_
              refine A_putI gf_X12_492 rfl dX12_tryAll_126 ?_
              refine A_iinc2 dX12_tryAll_129 rfl rfl (by decide) ?_
              refine A_goto (tgt := 27) dX12_tryAll_132 (by decide) ?_
              refine ih (d + 1) _ _ _ (by omega) (by omega) (nI_1 d) ?_ (Lay.w3 (Lay.w3 (Lay.w3 (Lay.w3 (hL2) rfl ⟨by decide, by decide, by decide⟩) rfl ⟨by decide, by decide, by decide⟩) rfl ⟨by decide, by decide, by decide⟩) rfl ⟨by decide, by decide, by decide⟩) hk
              rw [← bz_f (p := wnS σ k d = 1) c_77] at c_85
              rw [trS, if_pos hin]
              refine ⟨?_, ?_, ?_, ?_⟩
              · exact nI_1 _
              · show _ = nI (_ + (if wetR σ (ron σ k d) = bz (wnS σ k d = 1) then 1 else 0)); rw [if_neg c_85]; exact Int32.add_zero _
              · show _ = nI (_ + (if wnS σ k d = 1 then 1 else 0)); rw [← nI_add, ← wn01 hin.2.1]; rfl
              · show _ = nI (_ + (if wetR σ (ron σ k d) = 0 then 0 else 1)); rw [if_neg c_117]; exact nI_1 _
          · refine A_iconst (v := 1) dX12_tryAll_88 (by decide) ?_
            refine A_goto (tgt := 93) dX12_tryAll_89 (by decide) ?_
            refine A_iadd dX12_tryAll_93 ?_
            refine A_putI gf_X12_486 rfl dX12_tryAll_94 ?_
            refine A_aload0 dX12_tryAll_97 ?_
            refine A_dup dX12_tryAll_98 rfl ?_
            refine A_getI gf_X12_489 rfl dX12_tryAll_99 ?_
            refine A_val (y := nI (trS σ k d).2.2.1) hT2.2.2.1 ?_
            refine A_aload0 dX12_tryAll_102 ?_
            refine A_iload2 dX12_tryAll_103 ?_
            refine A_vi1 lk_X12_480 yv_X12_wetNext dX12_tryAll_104 (rfl) (rfl) (T_X12_wetNext (Lay.w3 (i := 0) (j := 77) hLa rfl ⟨by decide, by decide, by decide⟩) hd) (by decide) (Nat.le_of_ble_eq_true rfl) (fun r_104 μ_104 h_104 => ?_)
            obtain ⟨rfl, e_104⟩ := h_104
            replace e_104 := e_104.symm
            subst e_104
            refine A_iadd dX12_tryAll_107 ?_
            refine A_putI gf_X12_489 rfl dX12_tryAll_108 ?_
            refine A_aload0 dX12_tryAll_111 ?_
            refine A_dup dX12_tryAll_112 rfl ?_
            refine A_getI gf_X12_492 rfl dX12_tryAll_113 ?_
            refine A_val (y := nI (trS σ k d).2.2.2) hT2.2.2.2 ?_
            refine A_iload3 dX12_tryAll_116 ?_
            refine A_if_eq (tgt := 124) dX12_tryAll_117 (by decide) (fun c_117 => ?_) (fun c_117 => ?_)
            · refine A_iconst (v := 0) dX12_tryAll_124 (by decide) ?_
              refine A_iadd dX12_tryAll_125 ?_
              refine A_putI gf_X12_492 rfl dX12_tryAll_126 ?_
              refine A_iinc2 dX12_tryAll_129 rfl rfl (by decide) ?_
              refine A_goto (tgt := 27) dX12_tryAll_132 (by decide) ?_
              refine ih (d + 1) _ _ _ (by omega) (by omega) (nI_1 d) ?_ (Lay.w3 (Lay.w3 (Lay.w3 (Lay.w3 (hL2) rfl ⟨by decide, by decide, by decide⟩) rfl ⟨by decide, by decide, by decide⟩) rfl ⟨by decide, by decide, by decide⟩) rfl ⟨by decide, by decide, by decide⟩) hk
              rw [← bz_f (p := wnS σ k d = 1) c_77] at c_85
              rw [trS, if_pos hin]
              refine ⟨?_, ?_, ?_, ?_⟩
              · exact nI_1 _
              · show _ = nI (_ + (if wetR σ (ron σ k d) = bz (wnS σ k d = 1) then 1 else 0)); rw [if_pos c_85]; exact nI_1 _
              · show _ = nI (_ + (if wnS σ k d = 1 then 1 else 0)); rw [← nI_add, ← wn01 hin.2.1]; rfl
              · show _ = nI (_ + (if wetR σ (ron σ k d) = 0 then 0 else 1)); rw [if_pos c_117]; exact Int32.add_zero _
            · refine A_iconst (v := 1) dX12_tryAll_120 (by decide) ?_
              refine A_goto (tgt := 125) dX12_tryAll_121 (by decide) ?_
              refine A_iadd dX12_tryAll_125 ?_
              refine A_putI gf_X12_492 rfl dX12_tryAll_126 ?_
              refine A_iinc2 dX12_tryAll_129 rfl rfl (by decide) ?_
              refine A_goto (tgt := 27) dX12_tryAll_132 (by decide) ?_
              refine ih (d + 1) _ _ _ (by omega) (by omega) (nI_1 d) ?_ (Lay.w3 (Lay.w3 (Lay.w3 (Lay.w3 (hL2) rfl ⟨by decide, by decide, by decide⟩) rfl ⟨by decide, by decide, by decide⟩) rfl ⟨by decide, by decide, by decide⟩) rfl ⟨by decide, by decide, by decide⟩) hk
              rw [← bz_f (p := wnS σ k d = 1) c_77] at c_85
              rw [trS, if_pos hin]
              refine ⟨?_, ?_, ?_, ?_⟩
              · exact nI_1 _
              · show _ = nI (_ + (if wetR σ (ron σ k d) = bz (wnS σ k d = 1) then 1 else 0)); rw [if_pos c_85]; exact nI_1 _
              · show _ = nI (_ + (if wnS σ k d = 1 then 1 else 0)); rw [← nI_add, ← wn01 hin.2.1]; rfl
              · show _ = nI (_ + (if wetR σ (ron σ k d) = 0 then 0 else 1)); rw [if_neg c_117]; exact nI_1 _
        · refine A_iconst (v := 1) dX12_tryAll_80 (by decide) ?_
          refine A_goto (tgt := 85) dX12_tryAll_81 (by decide) ?_
          refine A_icmp_ne (tgt := 92) dX12_tryAll_85 (by decide) (fun c_85 => ?_) (fun c_85 => ?_)
          · refine A_iconst (v := 0) dX12_tryAll_92 (by decide) ?_
            refine A_iadd dX12_tryAll_93 ?_
            refine A_putI gf_X12_486 rfl dX12_tryAll_94 ?_
            refine A_aload0 dX12_tryAll_97 ?_
            refine A_dup dX12_tryAll_98 rfl ?_
            refine A_getI gf_X12_489 rfl dX12_tryAll_99 ?_
            refine A_val (y := nI (trS σ k d).2.2.1) hT2.2.2.1 ?_
            refine A_aload0 dX12_tryAll_102 ?_
            refine A_iload2 dX12_tryAll_103 ?_
            refine A_vi1 lk_X12_480 yv_X12_wetNext dX12_tryAll_104 (rfl) (rfl) (T_X12_wetNext (Lay.w3 (i := 0) (j := 77) hLa rfl ⟨by decide, by decide, by decide⟩) hd) (by decide) (Nat.le_of_ble_eq_true rfl) (fun r_104 μ_104 h_104 => ?_)
            obtain ⟨rfl, e_104⟩ := h_104
            replace e_104 := e_104.symm
            subst e_104
            refine A_iadd dX12_tryAll_107 ?_
            refine A_putI gf_X12_489 rfl dX12_tryAll_108 ?_
            refine A_aload0 dX12_tryAll_111 ?_
            refine A_dup dX12_tryAll_112 rfl ?_
            refine A_getI gf_X12_492 rfl dX12_tryAll_113 ?_
            refine A_val (y := nI (trS σ k d).2.2.2) hT2.2.2.2 ?_
            refine A_iload3 dX12_tryAll_116 ?_
            refine A_if_eq (tgt := 124) dX12_tryAll_117 (by decide) (fun c_117 => ?_) (fun c_117 => ?_)
            · refine A_iconst (v := 0) dX12_tryAll_124 (by decide) ?_
              refine A_iadd dX12_tryAll_125 ?_
              refine A_putI gf_X12_492 rfl dX12_tryAll_126 ?_
              refine A_iinc2 dX12_tryAll_129 rfl rfl (by decide) ?_
              refine A_goto (tgt := 27) dX12_tryAll_132 (by decide) ?_
              refine ih (d + 1) _ _ _ (by omega) (by omega) (nI_1 d) ?_ (Lay.w3 (Lay.w3 (Lay.w3 (Lay.w3 (hL2) rfl ⟨by decide, by decide, by decide⟩) rfl ⟨by decide, by decide, by decide⟩) rfl ⟨by decide, by decide, by decide⟩) rfl ⟨by decide, by decide, by decide⟩) hk
              rw [← bz_t (p := wnS σ k d = 1) c_77] at c_85
              rw [trS, if_pos hin]
              refine ⟨?_, ?_, ?_, ?_⟩
              · exact nI_1 _
              · show _ = nI (_ + (if wetR σ (ron σ k d) = bz (wnS σ k d = 1) then 1 else 0)); rw [if_neg c_85]; exact Int32.add_zero _
              · show _ = nI (_ + (if wnS σ k d = 1 then 1 else 0)); rw [← nI_add, ← wn01 hin.2.1]; rfl
              · show _ = nI (_ + (if wetR σ (ron σ k d) = 0 then 0 else 1)); rw [if_pos c_117]; exact Int32.add_zero _
            · refine A_iconst (v := 1) dX12_tryAll_120 (by decide) ?_
              refine A_goto (tgt := 125) dX12_tryAll_121 (by decide) ?_
              refine A_iadd dX12_tryAll_125 ?_
              refine A_putI gf_X12_492 rfl dX12_tryAll_126 ?_
              refine A_iinc2 dX12_tryAll_129 rfl rfl (by decide) ?_
              refine A_goto (tgt := 27) dX12_tryAll_132 (by decide) ?_
              refine ih (d + 1) _ _ _ (by omega) (by omega) (nI_1 d) ?_ (Lay.w3 (Lay.w3 (Lay.w3 (Lay.w3 (hL2) rfl ⟨by decide, by decide, by decide⟩) rfl ⟨by decide, by decide, by decide⟩) rfl ⟨by decide, by decide, by decide⟩) rfl ⟨by decide, by decide, by decide⟩) hk
              rw [← bz_t (p := wnS σ k d = 1) c_77] at c_85
              rw [trS, if_pos hin]
              refine ⟨?_, ?_, ?_, ?_⟩
              · exact nI_1 _
              · show _ = nI (_ + (if wetR σ (ron σ k d) = bz (wnS σ k d = 1) then 1 else 0)); rw [if_neg c_85]; exact Int32.add_zero _
              · show _ = nI (_ + (if wnS σ k d = 1 then 1 else 0)); rw [← nI_add, ← wn01 hin.2.1]; rfl
              · show _ = nI (_ + (if wetR σ (ron σ k d) = 0 then 0 else 1)); rw [if_neg c_117]; exact nI_1 _
          · refine A_iconst (v := 1) dX12_tryAll_88 (by decide) ?_
            refine A_goto (tgt := 93) dX12_tryAll_89 (by decide) ?_
            refine A_iadd dX12_tryAll_93 ?_
            refine A_putI gf_X12_486 rfl dX12_tryAll_94 ?_
            refine A_aload0 dX12_tryAll_97 ?_
            refine A_dup dX12_tryAll_98 rfl ?_
            refine A_getI gf_X12_489 rfl dX12_tryAll_99 ?_
            refine A_val (y := nI (trS σ k d).2.2.1) hT2.2.2.1 ?_
            refine A_aload0 dX12_tryAll_102 ?_
            refine A_iload2 dX12_tryAll_103 ?_
            refine A_vi1 lk_X12_480 yv_X12_wetNext dX12_tryAll_104 (rfl) (rfl) (T_X12_wetNext (Lay.w3 (i := 0) (j := 77) hLa rfl ⟨by decide, by decide, by decide⟩) hd) (by decide) (Nat.le_of_ble_eq_true rfl) (fun r_104 μ_104 h_104 => ?_)
            obtain ⟨rfl, e_104⟩ := h_104
            replace e_104 := e_104.symm
            subst e_104
            refine A_iadd dX12_tryAll_107 ?_
            refine A_putI gf_X12_489 rfl dX12_tryAll_108 ?_
            refine A_aload0 dX12_tryAll_111 ?_
            refine A_dup dX12_tryAll_112 rfl ?_
            refine A_getI gf_X12_492 rfl dX12_tryAll_113 ?_
            refine A_val (y := nI (trS σ k d).2.2.2) hT2.2.2.2 ?_
            refine A_iload3 dX12_tryAll_116 ?_
            refine A_if_eq (tgt := 124) dX12_tryAll_117 (by decide) (fun c_117 => ?_) (fun c_117 => ?_)
            · refine A_iconst (v := 0) dX12_tryAll_124 (by decide) ?_
              refine A_iadd dX12_tryAll_125 ?_
              refine A_putI gf_X12_492 rfl dX12_tryAll_126 ?_
              refine A_iinc2 dX12_tryAll_129 rfl rfl (by decide) ?_
              refine A_goto (tgt := 27) dX12_tryAll_132 (by decide) ?_
              refine ih (d + 1) _ _ _ (by omega) (by omega) (nI_1 d) ?_ (Lay.w3 (Lay.w3 (Lay.w3 (Lay.w3 (hL2) rfl ⟨by decide, by decide, by decide⟩) rfl ⟨by decide, by decide, by decide⟩) rfl ⟨by decide, by decide, by decide⟩) rfl ⟨by decide, by decide, by decide⟩) hk
              rw [← bz_t (p := wnS σ k d = 1) c_77] at c_85
              rw [trS, if_pos hin]
              refine ⟨?_, ?_, ?_, ?_⟩
              · exact nI_1 _
              · show _ = nI (_ + (if wetR σ (ron σ k d) = bz (wnS σ k d = 1) then 1 else 0)); rw [if_pos c_85]; exact nI_1 _
              · show _ = nI (_ + (if wnS σ k d = 1 then 1 else 0)); rw [← nI_add, ← wn01 hin.2.1]; rfl
              · show _ = nI (_ + (if wetR σ (ron σ k d) = 0 then 0 else 1)); rw [if_pos c_117]; exact Int32.add_zero _
            · refine A_iconst (v := 1) dX12_tryAll_120 (by decide) ?_
              refine A_goto (tgt := 125) dX12_tryAll_121 (by decide) ?_
              refine A_iadd dX12_tryAll_125 ?_
              refine A_putI gf_X12_492 rfl dX12_tryAll_126 ?_
              refine A_iinc2 dX12_tryAll_129 rfl rfl (by decide) ?_
              refine A_goto (tgt := 27) dX12_tryAll_132 (by decide) ?_
              refine ih (d + 1) _ _ _ (by omega) (by omega) (nI_1 d) ?_ (Lay.w3 (Lay.w3 (Lay.w3 (Lay.w3 (hL2) rfl ⟨by decide, by decide, by decide⟩) rfl ⟨by decide, by decide, by decide⟩) rfl ⟨by decide, by decide, by decide⟩) rfl ⟨by decide, by decide, by decide⟩) hk
              rw [← bz_t (p := wnS σ k d = 1) c_77] at c_85
              rw [trS, if_pos hin]
              refine ⟨?_, ?_, ?_, ?_⟩
              · exact nI_1 _
              · show _ = nI (_ + (if wetR σ (ron σ k d) = bz (wnS σ k d = 1) then 1 else 0)); rw [if_pos c_85]; exact nI_1 _
              · show _ = nI (_ + (if wnS σ k d = 1 then 1 else 0)); rw [← nI_add, ← wn01 hin.2.1]; rfl
              · show _ = nI (_ + (if wetR σ (ron σ k d) = 0 then 0 else 1)); rw [if_neg c_117]; exact nI_1 _
      · refine A_goto (tgt := 129) dX12_tryAll_41 (by decide) ?_
        refine A_iinc2 dX12_tryAll_129 rfl rfl (by decide) ?_
        refine A_goto (tgt := 27) dX12_tryAll_132 (by decide) ?_
        refine ih (d + 1) _ _ _ (by omega) (by omega) (nI_1 d) ?_ hL1.self hk
        rw [trS, if_neg (bz_0.mp c_38)]
        exact hT.k hL1.2.2.2.2
set_option maxHeartbeats 4000000 in
set_option maxRecDepth 100000 in
theorem T_X12_tryAll {l : Launch} {G : Wd} {k : Int32} {μ : Mem} (hw : WFa μ) : Mt l G KM yX12_tryAll cX12_tryAll 4 none 5 [.ref (gA G 0), .int k] μ (Qv (fun μ' => TF (trS μ k 60) μ' ∧ Lay μ' μ k μ')) := by
  refine Mt.of (own := RX12) (n := 2) (by decide) rfl [some (.ref (gA G 0)), some (.int k), none, none] rfl (Nat.le_of_ble_eq_true rfl) ?_
  refine A_aload0 dX12_tryAll_0 ?_
  refine A_iload1 dX12_tryAll_1 ?_
  refine A_vv1 lk_X12_354 yv_X12_layOut dX12_tryAll_2 (rfl) (rfl) (T_X12_layOut hw.1.2.1) (by decide) (Nat.le_of_ble_eq_true rfl) (fun μ_2 h_2 => ?_)
  refine A_aload0 dX12_tryAll_5 ?_
  refine A_iconst (v := 0) dX12_tryAll_6 (by decide) ?_
  refine A_putI gf_X12_483 rfl dX12_tryAll_7 ?_
  refine A_aload0 dX12_tryAll_10 ?_
  refine A_iconst (v := 0) dX12_tryAll_11 (by decide) ?_
  refine A_putI gf_X12_486 rfl dX12_tryAll_12 ?_
  refine A_aload0 dX12_tryAll_15 ?_
  refine A_iconst (v := 0) dX12_tryAll_16 (by decide) ?_
  refine A_putI gf_X12_489 rfl dX12_tryAll_17 ?_
  refine A_aload0 dX12_tryAll_20 ?_
  refine A_iconst (v := 0) dX12_tryAll_21 (by decide) ?_
  refine A_putI gf_X12_492 rfl dX12_tryAll_22 ?_
  refine A_iconst (v := 0) dX12_tryAll_25 (by decide) ?_
  refine A_istore2 dX12_tryAll_26 rfl (by decide) ?_
  refine L_X12_tryAll (σ := μ) (k := k) hw.2 61 0 _ _ _ (by omega) (by omega) rfl ⟨rfl, rfl, rfl, rfl⟩ (Lay.w3 (Lay.w3 (Lay.w3 (Lay.w3 (h_2) rfl ⟨by decide, by decide, by decide⟩) rfl ⟨by decide, by decide, by decide⟩) rfl ⟨by decide, by decide, by decide⟩) rfl ⟨by decide, by decide, by decide⟩) (fun x x3 μ2 hT hL2 => ?_)
  refine A_vret dX12_tryAll_135 ?_
  exact ⟨rfl, hT, hL2⟩
def sp_tried (σ : Mem) (w k : Int32) : Int32 := if w = 0 then nI (trS σ k 60).1 else if w = 1 then nI (trS σ k 60).2.1 else if w = 2 then nI (trS σ k 60).2.1 - (if nI (trS σ k 60).2.2.1 ≤ nI (trS σ k 60).1 - nI (trS σ k 60).2.2.1 then nI (trS σ k 60).1 - nI (trS σ k 60).2.2.1 else nI (trS σ k 60).2.2.1) else -100000
theorem i012 {w : Int32} (h : 0 ≤ w) (h1 : w ≤ 2) : w = 0 ∨ w = 1 ∨ w = 2 := by
  have h8 := i_le.mp h
  have h9 := i_le.mp h1
  rw [i_eq, i_eq, i_eq]
  have e0 : (0 : Int32).toInt = 0 := by decide
  have e1 : (1 : Int32).toInt = 1 := by decide
  have e2 : (2 : Int32).toInt = 2 := by decide
  omega
set_option maxHeartbeats 4000000 in
set_option maxRecDepth 100000 in
theorem T_X12_tried {l : Launch} {G : Wd} {w k : Int32} {μ : Mem} (hw : WFa μ) : Mt l G KM yX12_tried cX12_tried 4 (some .int) 6 [.ref (gA G 0), .int w, .int k] μ (Qi (fun v μ' => v = sp_tried μ w k ∧ Pm μ μ')) := by
  refine Mt.of (own := RX12) (n := 1) (by decide) rfl [some (.ref (gA G 0)), some (.int w), some (.int k), none] rfl (Nat.le_of_ble_eq_true rfl) ?_
  refine A_iload1 dX12_tried_0 ?_
  refine A_if_lt (tgt := 9) dX12_tried_1 (by decide) (fun c_1 => ?_) (fun c_1 => ?_)
  · refine A_ldcw dX12_tried_9 kc_X12_353 ?_
    refine A_iret dX12_tried_12 ?_
    refine ⟨_, rfl, ?_, Pm.rf⟩
    unfold sp_tried
    rw [if_neg (by rintro rfl; simp_all [i_lt, i_le]), if_neg (by rintro rfl; simp_all [i_lt, i_le]), if_neg (by rintro rfl; simp_all [i_lt, i_le])]
  · refine A_iload1 dX12_tried_4 ?_
    refine A_iconst (v := 2) dX12_tried_5 (by decide) ?_
    refine A_icmp_le (tgt := 13) dX12_tried_6 (by decide) (fun c_6 => ?_) (fun c_6 => ?_)
    · refine A_aload0 dX12_tried_13 ?_
      refine A_iload2 dX12_tried_14 ?_
      refine A_vv1 lk_X12_498 yv_X12_tryAll dX12_tried_15 (rfl) (rfl) (T_X12_tryAll hw) (by decide) (Nat.le_of_ble_eq_true rfl) (fun μ_15 h_15 => ?_)
      obtain ⟨hT, hL2⟩ := h_15
      have hw3 := i012 (i_nlt c_1) c_6
      refine A_aload0 dX12_tried_18 ?_
      refine A_getI gf_X12_483 rfl dX12_tried_19 ?_
      rw [hT.1]
      refine A_aload0 dX12_tried_22 ?_
      refine A_getI gf_X12_489 rfl dX12_tried_23 ?_
      rw [hT.2.2.1]
      refine A_isub dX12_tried_26 ?_
      refine A_istore3 dX12_tried_27 rfl (by decide) ?_
      refine A_iload1 dX12_tried_28 ?_
      refine A_if_ne (tgt := 39) dX12_tried_29 (by decide) (fun c_29 => ?_) (fun c_29 => ?_)
      · refine A_iload1 dX12_tried_39 ?_
        refine A_iconst (v := 1) dX12_tried_40 (by decide) ?_
        refine A_icmp_ne (tgt := 51) dX12_tried_41 (by decide) (fun c_41 => ?_) (fun c_41 => ?_)
        · refine A_aload0 dX12_tried_51 ?_
          refine A_getI gf_X12_486 rfl dX12_tried_52 ?_
          rw [hT.2.1]
          refine A_aload0 dX12_tried_55 ?_
          refine A_getI gf_X12_489 rfl dX12_tried_56 ?_
          rw [hT.2.2.1]
          refine A_iload3 dX12_tried_59 ?_
          refine A_icmp_le (tgt := 70) dX12_tried_60 (by decide) (fun c_60 => ?_) (fun c_60 => ?_)
          · refine A_iload3 dX12_tried_70 ?_
            refine A_isub dX12_tried_71 ?_
            refine A_iret dX12_tried_72 ?_
            refine ⟨_, rfl, ?_, hL2.1⟩
            unfold sp_tried
            rw [if_neg c_29, if_neg c_41, if_pos ((hw3.resolve_left c_29).resolve_left c_41), if_pos c_60]
          · refine A_aload0 dX12_tried_63 ?_
            refine A_getI gf_X12_489 rfl dX12_tried_64 ?_
            rw [hT.2.2.1]
            refine A_goto (tgt := 71) dX12_tried_67 (by decide) ?_
            refine A_isub dX12_tried_71 ?_
            refine A_iret dX12_tried_72 ?_
            refine ⟨_, rfl, ?_, hL2.1⟩
            unfold sp_tried
            rw [if_neg c_29, if_neg c_41, if_pos ((hw3.resolve_left c_29).resolve_left c_41), if_neg c_60]
        · refine A_aload0 dX12_tried_44 ?_
          refine A_getI gf_X12_486 rfl dX12_tried_45 ?_
          rw [hT.2.1]
          refine A_goto (tgt := 72) dX12_tried_48 (by decide) ?_
          refine A_iret dX12_tried_72 ?_
          refine ⟨_, rfl, ?_, hL2.1⟩
          unfold sp_tried
          rw [if_neg c_29, if_pos c_41]
      · refine A_aload0 dX12_tried_32 ?_
        refine A_getI gf_X12_483 rfl dX12_tried_33 ?_
        rw [hT.1]
        refine A_goto (tgt := 72) dX12_tried_36 (by decide) ?_
        refine A_iret dX12_tried_72 ?_
        refine ⟨_, rfl, ?_, hL2.1⟩
        unfold sp_tried
        rw [if_pos c_29]
    · refine A_ldcw dX12_tried_9 kc_X12_353 ?_
      refine A_iret dX12_tried_12 ?_
      refine ⟨_, rfl, ?_, Pm.rf⟩
      unfold sp_tried
      rw [if_neg (by rintro rfl; simp_all [i_lt, i_le]), if_neg (by rintro rfl; simp_all [i_lt, i_le]), if_neg (by rintro rfl; simp_all [i_lt, i_le])]

/-! the small steps of reading -/
def szN (μ : Mem) : Nat := (μ.1 0 5).toNatClampNeg
def atN (μ : Mem) : Nat := (μ.1 0 4).toNatClampNeg
def WFx (μ : Mem) : Prop := ∃ n a, Tx (μ.1 1) n a μ
theorem WFx.x {μ : Mem} (h : WFx μ) : Tx (μ.1 1) (szN μ) (atN μ) μ := by
  obtain ⟨n, a, h⟩ := h
  have h1 : szN μ = n := by unfold szN; rw [h.n]; exact nI_c (by have := h.n8; omega)
  have h2 : atN μ = a := by unfold atN; rw [h.a]; exact nI_c (by have := h.a8; omega)
  rw [h1, h2]
  exact h
def tkn (μ : Mem) : Mem := sp_token (μ.1 1) (szN μ) (atN μ) μ
theorem tk_b (T : Nat → Int32) (n : Nat) (r : Int32) (p : Nat) : p + (tk T n r p).1 ≤ max p n := by
  unfold tk
  split
  · show p + 0 ≤ _; omega
  · rename_i h
    have hp : p < n := by rcases Nat.lt_or_ge p n with z | z; exact z; exact absurd (by rw [cA_out z]; decide) h
    split
    · have := lrQ_b T n (n - p) p; show p + lrQ T n (n - p) p ≤ _; omega
    · split
      · have := dgQ_b T n (n - p) p; show p + dgQ T n (n - p) p ≤ _; omega
      · show p + 1 ≤ _; omega
theorem Tx.tB {T : Nat → Int32} {n a p : Nat} {μ : Mem} {t : Nat × Int32 × Int64 × Int32} (h : Tx T n a μ) (hp : p ≤ 800) : Tx T n p (tkB μ p t) := by
  unfold tkB
  have h1 : Tx T n p (wI (wI μ 0 4 (nI p)) 0 7 (nI p)) := (h.at hp).w (by decide)
  have h2 : Tx T n p (wL (wI (wI μ 0 4 (nI p)) 0 7 (nI p)) 0 9 t.2.2.1) := h1
  exact (h2.w (by decide)).w (by decide)
theorem Tx.tn {T : Nat → Int32} {n a : Nat} {μ : Mem} (h : Tx T n a μ) : ∃ b, Tx T n b (sp_token T n a μ) := by
  have h8 := h.n8
  have h9 := h.a8
  have hp : spN T n a ≤ 800 := by have := spQ_b T n (n - a) a; unfold spN; omega
  have hb := tk_b T n (μ.1 0 10) (spN T n a)
  unfold sp_token tkM
  split
  · exact ⟨_, h.tB hp⟩
  · exact ⟨_, (h.tB hp).at (by omega)⟩
theorem WFx.tn {μ : Mem} (h : WFx μ) : WFx (tkn μ) := by
  obtain ⟨b, hb⟩ := h.x.tn
  refine ⟨szN μ, b, ?_⟩
  have e : (tkn μ).1 1 = μ.1 1 := hb.t
  rw [e]
  exact hb
theorem WFx.w {μ : Mem} {k : Nat} {v : Int32} (h : WFx μ) (hk : k ≠ 4 ∧ k ≠ 5) : WFx (wI μ 0 k v) := by
  obtain ⟨n, a, h⟩ := h
  refine ⟨n, a, ?_⟩
  rw [wI_row (by decide)]
  exact ⟨wI_row (by decide), h.n8, h.a8, (wI_ne (Or.inr (by omega))).trans h.n, (wI_ne (Or.inr (by omega))).trans h.a⟩
theorem T_X12_tkn {l : Launch} {G : Wd} {μ : Mem} (h : WFx μ) : Mt l G KM yX12_token cX12_token 3 none 2 [.ref (gA G 0)] μ (Qv (fun μ' => μ' = tkn μ)) := T_X12_token h.x
def sp_spoil (μ : Mem) (w : Int32) : Mem := if 0 < μ.1 0 2 then μ else wI (wI μ 0 2 (if μ.1 0 6 = 3 then 1 else w)) 0 3 (μ.1 0 7)
theorem WFx.spoil {μ : Mem} {w : Int32} (h : WFx μ) : WFx (sp_spoil μ w) := by
  unfold sp_spoil
  split
  · exact h
  · exact (h.w (by decide)).w (by decide)
set_option maxHeartbeats 4000000 in
set_option maxRecDepth 100000 in
theorem T_X12_spoil {l : Launch} {G : Wd} {w : Int32} {μ : Mem}  : Mt l G KM yX12_spoil cX12_spoil 2 none 1 [.ref (gA G 0), .int w] μ (Qv (fun μ' => μ' = sp_spoil μ w)) := by
  refine Mt.of (own := RX12) (n := 0) (by decide) rfl [some (.ref (gA G 0)), some (.int w)] rfl (Nat.le_of_ble_eq_true rfl) ?_
  refine A_aload0 dX12_spoil_0 ?_
  refine A_getI gf_X12_210 rfl dX12_spoil_1 ?_
  refine A_if_le (tgt := 8) dX12_spoil_4 (by decide) (fun c_4 => ?_) (fun c_4 => ?_)
  · refine A_aload0 dX12_spoil_8 ?_
    refine A_aload0 dX12_spoil_9 ?_
    refine A_getI gf_X12_197 rfl dX12_spoil_10 ?_
    refine A_iconst (v := 3) dX12_spoil_13 (by decide) ?_
    refine A_icmp_ne (tgt := 21) dX12_spoil_14 (by decide) (fun c_14 => ?_) (fun c_14 => ?_)
    · refine A_iload1 dX12_spoil_21 ?_
      refine A_putI gf_X12_210 rfl dX12_spoil_22 ?_
      refine A_aload0 dX12_spoil_25 ?_
      refine A_aload0 dX12_spoil_26 ?_
      refine A_getI gf_X12_187 rfl dX12_spoil_27 ?_
      refine A_val (y := μ.1 0 7) (wI_ne (Or.inr (by decide))) ?_
      refine A_putI gf_X12_13 rfl dX12_spoil_30 ?_
      refine A_vret dX12_spoil_33 ?_
      refine ⟨rfl, ?_⟩
      unfold sp_spoil
      rw [if_neg (Int32.not_lt.mpr c_4), if_neg c_14]
    · refine A_iconst (v := 1) dX12_spoil_17 (by decide) ?_
      refine A_goto (tgt := 22) dX12_spoil_18 (by decide) ?_
      refine A_putI gf_X12_210 rfl dX12_spoil_22 ?_
      refine A_aload0 dX12_spoil_25 ?_
      refine A_aload0 dX12_spoil_26 ?_
      refine A_getI gf_X12_187 rfl dX12_spoil_27 ?_
      refine A_val (y := μ.1 0 7) (wI_ne (Or.inr (by decide))) ?_
      refine A_putI gf_X12_13 rfl dX12_spoil_30 ?_
      refine A_vret dX12_spoil_33 ?_
      refine ⟨rfl, ?_⟩
      unfold sp_spoil
      rw [if_neg (Int32.not_lt.mpr c_4), if_pos c_14]
  · refine A_vret dX12_spoil_7 ?_
    refine ⟨rfl, ?_⟩
    unfold sp_spoil
    rw [if_pos (Int32.not_le.mp c_4)]
def sp_start (μ : Mem) (z : Int32) : Mem := tkn (wI (wI (wI (wI (wI (wI μ 0 10 z) 0 5 (μ.1 0 1)) 0 1 0) 0 4 0) 0 2 0) 0 3 (-1))
theorem WFx.st {μ : Mem} {z : Int32} (h : WFt μ) : WFx (wI (wI (wI (wI (wI (wI μ 0 10 z) 0 5 (μ.1 0 1)) 0 1 0) 0 4 0) 0 2 0) 0 3 (-1)) := by
  obtain ⟨t, h1, h2⟩ := h
  refine WFx.w (WFx.w ⟨t, 0, rfl, h1, by decide, ?_, wI_same⟩ (by decide)) (by decide)
  rw [wI_ne (Or.inr (by decide)), wI_ne (Or.inr (by decide)), wI_same, h2]
set_option maxHeartbeats 4000000 in
set_option maxRecDepth 100000 in
theorem T_X12_start {l : Launch} {G : Wd} {z : Int32} {μ : Mem} (hz : z = 0 ∨ z = 1) (hw : WFt μ) : Mt l G KM yX12_start cX12_start 2 none 3 [.ref (gA G 0), .int z] μ (Qv (fun μ' => μ' = sp_start μ z)) := by
  refine Mt.of (own := RX12) (n := 0) (by decide) rfl [some (.ref (gA G 0)), some (.int z)] rfl (Nat.le_of_ble_eq_true rfl) ?_
  refine A_aload0 dX12_start_0 ?_
  refine A_iload1 dX12_start_1 ?_
  refine A_putZ gf_X12_179 rfl (hz) dX12_start_2 ?_
  refine A_aload0 dX12_start_5 ?_
  refine A_aload0 dX12_start_6 ?_
  refine A_getI gf_X12_166 rfl dX12_start_7 ?_
  refine A_val (y := μ.1 0 1) (wI_ne (Or.inr (by decide))) ?_
  refine A_putI gf_X12_176 rfl dX12_start_10 ?_
  refine A_aload0 dX12_start_13 ?_
  refine A_iconst (v := 0) dX12_start_14 (by decide) ?_
  refine A_putI gf_X12_166 rfl dX12_start_15 ?_
  refine A_aload0 dX12_start_18 ?_
  refine A_iconst (v := 0) dX12_start_19 (by decide) ?_
  refine A_putI gf_X12_173 rfl dX12_start_20 ?_
  refine A_aload0 dX12_start_23 ?_
  refine A_iconst (v := 0) dX12_start_24 (by decide) ?_
  refine A_putI gf_X12_210 rfl dX12_start_25 ?_
  refine A_aload0 dX12_start_28 ?_
  refine A_iconst (v := -1) dX12_start_29 (by decide) ?_
  refine A_putI gf_X12_13 rfl dX12_start_30 ?_
  refine A_aload0 dX12_start_33 ?_
  refine A_vv0 lk_X12_213 yv_X12_token dX12_start_34 (rfl) (rfl) (T_X12_tkn (WFx.st (z := z) hw)) (by decide) (Nat.le_of_ble_eq_true rfl) (fun μ_34 h_34 => ?_)
  refine A_vret dX12_start_37 ?_
  exact ⟨rfl, h_34⟩
theorem lg_0 {x y : Int64} : lg_cmp x y = 0 ↔ x = y := by
  unfold lg_cmp
  split
  · rename_i h; exact ⟨fun q => absurd q (by decide), fun q => by subst q; simp at h⟩
  · split
    · rename_i h; exact ⟨fun _ => by simpa using h, fun _ => rfl⟩
    · rename_i h; exact ⟨fun q => absurd q (by decide), fun q => by subst q; simp at h⟩
abbrev isWd (μ : Mem) (w : Int64) : Prop := μ.1 0 6 = 1 ∧ μ.2.1 0 9 = w
set_option maxHeartbeats 4000000 in
set_option maxRecDepth 100000 in
theorem T_X12_isWord {l : Launch} {G : Wd} {w : Int64} {μ : Mem}  : Mt l G KM yX12_isWord cX12_isWord 3 (some .boolean) 1 [.ref (gA G 0), .long w] μ (Qi (fun v μ' => v = bz (isWd μ w) ∧ μ' = μ)) := by
  refine Mt.of (own := RX12) (n := 0) (by decide) rfl [some (.ref (gA G 0)), some (.long w), none] rfl (Nat.le_of_ble_eq_true rfl) ?_
  refine A_aload0 dX12_isWord_0 ?_
  refine A_getI gf_X12_197 rfl dX12_isWord_1 ?_
  refine A_iconst (v := 1) dX12_isWord_4 (by decide) ?_
  refine A_icmp_ne (tgt := 21) dX12_isWord_5 (by decide) (fun c_5 => ?_) (fun c_5 => ?_)
  · refine A_iconst (v := 0) dX12_isWord_21 (by decide) ?_
    refine A_zret dX12_isWord_22 (by decide) ?_
    refine ⟨_, rfl, ?_, rfl⟩
    exact (bz_f (fun z => c_5 z.1)).symm
  · refine A_aload0 dX12_isWord_8 ?_
    refine A_getL gf_X12_190 rfl dX12_isWord_9 ?_
    refine A_lload1 dX12_isWord_12 ?_
    refine A_lcmp dX12_isWord_13 ?_
    refine A_if_ne (tgt := 21) dX12_isWord_14 (by decide) (fun c_14 => ?_) (fun c_14 => ?_)
    · refine A_iconst (v := 0) dX12_isWord_21 (by decide) ?_
      refine A_zret dX12_isWord_22 (by decide) ?_
      refine ⟨_, rfl, ?_, rfl⟩
      exact (bz_f (fun z => c_14 (lg_0.mpr z.2))).symm
    · refine A_iconst (v := 1) dX12_isWord_17 (by decide) ?_
      refine A_goto (tgt := 22) dX12_isWord_18 (by decide) ?_
      refine A_zret dX12_isWord_22 (by decide) ?_
      refine ⟨_, rfl, ?_, rfl⟩
      exact (bz_t ⟨c_5, lg_0.mp c_14⟩).symm
def sp_want (μ : Mem) (w : Int64) : Mem := if 0 < μ.1 0 2 then μ else if isWd μ w then tkn μ else sp_spoil μ 2
theorem WFx.want {μ : Mem} {w : Int64} (h : WFx μ) : WFx (sp_want μ w) := by
  unfold sp_want
  split
  · exact h
  · split
    · exact h.tn
    · exact h.spoil
set_option maxHeartbeats 4000000 in
set_option maxRecDepth 100000 in
theorem T_X12_want {l : Launch} {G : Wd} {w : Int64} {μ : Mem} (hw : WFx μ) : Mt l G KM yX12_want cX12_want 3 none 3 [.ref (gA G 0), .long w] μ (Qv (fun μ' => μ' = sp_want μ w)) := by
  refine Mt.of (own := RX12) (n := 0) (by decide) rfl [some (.ref (gA G 0)), some (.long w), none] rfl (Nat.le_of_ble_eq_true rfl) ?_
  refine A_aload0 dX12_want_0 ?_
  refine A_getI gf_X12_210 rfl dX12_want_1 ?_
  refine A_if_le (tgt := 8) dX12_want_4 (by decide) (fun c_4 => ?_) (fun c_4 => ?_)
  · refine A_aload0 dX12_want_8 ?_
    refine A_lload1 dX12_want_9 ?_
    refine A_vi1 lk_X12_268 yv_X12_isWord dX12_want_10 (rfl) (rfl) (T_X12_isWord) (by decide) (Nat.le_of_ble_eq_true rfl) (fun r_10 μ_10 h_10 => ?_)
    obtain ⟨rfl, e_10⟩ := h_10
    replace e_10 := e_10.symm
    subst e_10
    refine A_if_ne (tgt := 24) dX12_want_13 (by decide) (fun c_13 => ?_) (fun c_13 => ?_)
    · refine A_aload0 dX12_want_24 ?_
      refine A_vv0 lk_X12_213 yv_X12_token dX12_want_25 (rfl) (rfl) (T_X12_tkn hw) (by decide) (Nat.le_of_ble_eq_true rfl) (fun μ_25 h_25 => ?_)
      refine A_vret dX12_want_28 ?_
      refine ⟨rfl, ?_⟩
      unfold sp_want
      rw [if_neg (Int32.not_lt.mpr c_4), if_pos (Decidable.not_not.mp (fun z => c_13 (bz_f z)))]
      exact h_25
    · refine A_aload0 dX12_want_16 ?_
      refine A_iconst (v := 2) dX12_want_17 (by decide) ?_
      refine A_vv1 lk_X12_272 yv_X12_spoil dX12_want_18 (rfl) (rfl) (T_X12_spoil) (by decide) (Nat.le_of_ble_eq_true rfl) (fun μ_18 h_18 => ?_)
      refine A_goto (tgt := 28) dX12_want_21 (by decide) ?_
      refine A_vret dX12_want_28 ?_
      refine ⟨rfl, ?_⟩
      unfold sp_want
      rw [if_neg (Int32.not_lt.mpr c_4), if_neg (bz_0.mp c_13)]
      exact h_18
  · refine A_vret dX12_want_7 ?_
    refine ⟨rfl, ?_⟩
    unfold sp_want
    rw [if_pos (Int32.not_le.mp c_4)]
def tdA (μ : Mem) (a b : Int32) : Mem := if μ.1 0 6 = 2 then (if μ.1 0 8 < a ∨ b < μ.1 0 8 then sp_spoil μ 4 else μ) else sp_spoil μ 2
def sp_told (μ : Mem) (a b : Int32) : Int32 × Mem := if 0 < μ.1 0 2 then (0, μ) else (μ.1 0 8, if (tdA μ a b).1 0 2 = 0 then tkn (tdA μ a b) else tdA μ a b)
theorem WFx.dA {μ : Mem} {a b : Int32} (h : WFx μ) : WFx (tdA μ a b) := by
  unfold tdA
  split
  · split
    · exact h.spoil
    · exact h
  · exact h.spoil
theorem sp_spoil_8 (μ : Mem) (w : Int32) : (sp_spoil μ w).1 0 8 = μ.1 0 8 := by
  unfold sp_spoil
  split
  · rfl
  · rw [wI_ne (Or.inr (by decide)), wI_ne (Or.inr (by decide))]
theorem tdA_8 (μ : Mem) (a b : Int32) : (tdA μ a b).1 0 8 = μ.1 0 8 := by
  unfold tdA
  split
  · split
    · exact sp_spoil_8 _ _
    · rfl
  · exact sp_spoil_8 _ _
theorem WFx.told {μ : Mem} {a b : Int32} (h : WFx μ) : WFx (sp_told μ a b).2 := by
  unfold sp_told
  split
  · exact h
  · show WFx (if _ then _ else _)
    split
    · exact h.dA.tn
    · exact h.dA
set_option maxHeartbeats 4000000 in
set_option maxRecDepth 100000 in
theorem L_X12_told_46 {l : Launch} {G : Wd} {μ : Mem} {a b : Int32} {x3 : Option Value} (hw : WFx μ) (c_4 : μ.1 0 2 ≤ 0) : AW l G KM RX12 cX12_told 4 3 (some .int) (Qi (fun v μ' => sp_told μ a b = (v, μ'))) 46 [some (.ref (gA G 0)), some (.int a), some (.int b), x3] [] (tdA μ a b) := by
  refine A_aload0 dX12_told_46 ?_
  refine A_getI gf_X12_194 rfl dX12_told_47 ?_
  refine A_istore3 dX12_told_50 rfl (by decide) ?_
  refine A_aload0 dX12_told_51 ?_
  refine A_getI gf_X12_210 rfl dX12_told_52 ?_
  refine A_if_ne (tgt := 62) dX12_told_55 (by decide) (fun c_55 => ?_) (fun c_55 => ?_)
  · refine A_iload3 dX12_told_62 ?_
    refine A_iret dX12_told_63 ?_
    refine ⟨_, rfl, ?_⟩
    unfold sp_told
    rw [if_neg (Int32.not_lt.mpr c_4), tdA_8, if_neg c_55]
  · refine A_aload0 dX12_told_58 ?_
    refine A_vv0 lk_X12_213 yv_X12_token dX12_told_59 (rfl) (rfl) (T_X12_tkn hw.dA) (by decide) (Nat.le_of_ble_eq_true rfl) (fun μ_59 h_59 => ?_)
    refine A_iload3 dX12_told_62 ?_
    refine A_iret dX12_told_63 ?_
    refine ⟨_, rfl, ?_⟩
    unfold sp_told
    rw [if_neg (Int32.not_lt.mpr c_4), tdA_8, if_pos c_55, h_59]
set_option maxHeartbeats 4000000 in
set_option maxRecDepth 100000 in
theorem T_X12_told {l : Launch} {G : Wd} {a b : Int32} {μ : Mem} (hw : WFx μ) : Mt l G KM yX12_told cX12_told 4 (some .int) 3 [.ref (gA G 0), .int a, .int b] μ (Qi (fun v μ' => sp_told μ a b = (v, μ'))) := by
  refine Mt.of (own := RX12) (n := 1) (by decide) rfl [some (.ref (gA G 0)), some (.int a), some (.int b), none] rfl (Nat.le_of_ble_eq_true rfl) ?_
  refine A_aload0 dX12_told_0 ?_
  refine A_getI gf_X12_210 rfl dX12_told_1 ?_
  refine A_if_le (tgt := 9) dX12_told_4 (by decide) (fun c_4 => ?_) (fun c_4 => ?_)
  · refine A_aload0 dX12_told_9 ?_
    refine A_getI gf_X12_197 rfl dX12_told_10 ?_
    refine A_iconst (v := 2) dX12_told_13 (by decide) ?_
    refine A_icmp_eq (tgt := 25) dX12_told_14 (by decide) (fun c_14 => ?_) (fun c_14 => ?_)
    · refine A_aload0 dX12_told_25 ?_
      refine A_getI gf_X12_194 rfl dX12_told_26 ?_
      refine A_iload1 dX12_told_29 ?_
      refine A_icmp_lt (tgt := 41) dX12_told_30 (by decide) (fun c_30 => ?_) (fun c_30 => ?_)
      · refine A_aload0 dX12_told_41 ?_
        refine A_iconst (v := 4) dX12_told_42 (by decide) ?_
        refine A_vv1 lk_X12_272 yv_X12_spoil dX12_told_43 (rfl) (rfl) (T_X12_spoil) (by decide) (Nat.le_of_ble_eq_true rfl) (fun μ_43 h_43 => ?_)
        have e46 : tdA μ a b = μ_43 := by rw [h_43]; unfold tdA; rw [if_pos c_14, if_pos (Or.inl c_30)]
        rw [← e46]
        exact L_X12_told_46 hw c_4
      · refine A_aload0 dX12_told_33 ?_
        refine A_getI gf_X12_194 rfl dX12_told_34 ?_
        refine A_iload2 dX12_told_37 ?_
        refine A_icmp_le (tgt := 46) dX12_told_38 (by decide) (fun c_38 => ?_) (fun c_38 => ?_)
        · have e46 : tdA μ a b = μ := by unfold tdA; rw [if_pos c_14, if_neg (fun z => by rcases z with z | z; exact c_30 z; exact absurd z (Int32.not_lt.mpr c_38))]
          refine A_setm e46.symm ?_
          exact L_X12_told_46 hw c_4
        · refine A_aload0 dX12_told_41 ?_
          refine A_iconst (v := 4) dX12_told_42 (by decide) ?_
          refine A_vv1 lk_X12_272 yv_X12_spoil dX12_told_43 (rfl) (rfl) (T_X12_spoil) (by decide) (Nat.le_of_ble_eq_true rfl) (fun μ_43 h_43 => ?_)
          have e46 : tdA μ a b = μ_43 := by rw [h_43]; unfold tdA; rw [if_pos c_14, if_pos (Or.inr (Int32.not_le.mp c_38))]
          rw [← e46]
          exact L_X12_told_46 hw c_4
    · refine A_aload0 dX12_told_17 ?_
      refine A_iconst (v := 2) dX12_told_18 (by decide) ?_
      refine A_vv1 lk_X12_272 yv_X12_spoil dX12_told_19 (rfl) (rfl) (T_X12_spoil) (by decide) (Nat.le_of_ble_eq_true rfl) (fun μ_19 h_19 => ?_)
      refine A_goto (tgt := 46) dX12_told_22 (by decide) ?_
      have e46 : tdA μ a b = μ_19 := by rw [h_19]; exact if_neg c_14
      rw [← e46]
      exact L_X12_told_46 hw c_4
  · refine A_iconst (v := 0) dX12_told_7 (by decide) ?_
    refine A_iret dX12_told_8 ?_
    refine ⟨_, rfl, ?_⟩
    unfold sp_told
    rw [if_pos (Int32.not_le.mp c_4)]
def sgM (μ : Mem) : Mem := if μ.1 0 6 = 45 then tkn μ else μ
def sgV (μ : Mem) : Int32 := if μ.1 0 6 = 45 then -((sgM μ).1 0 8) else (sgM μ).1 0 8
def sp_signed (μ : Mem) (a b : Int32) : Int32 × Mem :=
  if 0 < μ.1 0 2 then (0, μ)
  else if (sgM μ).1 0 6 = 2 then (sgV μ, if sgV μ < a ∨ b < sgV μ then wI (wI (sgM μ) 0 2 4) 0 3 (μ.1 0 7) else tkn (sgM μ))
  else (0, sp_spoil (sgM μ) 2)
theorem WFx.gM {μ : Mem} (h : WFx μ) : WFx (sgM μ) := by
  unfold sgM
  split
  · exact h.tn
  · exact h
theorem WFx.signed {μ : Mem} {a b : Int32} (h : WFx μ) : WFx (sp_signed μ a b).2 := by
  unfold sp_signed
  split
  · exact h
  · split
    · show WFx (if _ then _ else _)
      split
      · exact (h.gM.w (by decide)).w (by decide)
      · exact h.gM.tn
    · exact h.gM.spoil
set_option maxHeartbeats 4000000 in
set_option maxRecDepth 100000 in
theorem L_X12_signed_73 {l : Launch} {G : Wd} {μ : Mem} {a b g : Int32} (hw : WFx μ) (c_4 : μ.1 0 2 ≤ 0) (c_44 : (sgM μ).1 0 6 = 2) : AW l G KM RX12 cX12_signed 6 3 (some .int) (Qi (fun v μ' => sp_signed μ a b = (v, μ'))) 73 [some (.ref (gA G 0)), some (.int a), some (.int b), some (.int (μ.1 0 7)), some (.int g), some (.int (sgV μ))] [] (sgM μ) := by
  refine A_iload5 dX12_signed_73 ?_
  refine A_iload1 dX12_signed_75 ?_
  refine A_icmp_lt (tgt := 85) dX12_signed_76 (by decide) (fun c_76 => ?_) (fun c_76 => ?_)
  · refine A_aload0 dX12_signed_85 ?_
    refine A_iconst (v := 4) dX12_signed_86 (by decide) ?_
    refine A_putI gf_X12_210 rfl dX12_signed_87 ?_
    refine A_aload0 dX12_signed_90 ?_
    refine A_iload3 dX12_signed_91 ?_
    refine A_putI gf_X12_13 rfl dX12_signed_92 ?_
    refine A_goto (tgt := 102) dX12_signed_95 (by decide) ?_
    refine A_iload5 dX12_signed_102 ?_
    refine A_iret dX12_signed_104 ?_
    refine ⟨_, rfl, ?_⟩
    unfold sp_signed
    rw [if_neg (Int32.not_lt.mpr c_4), if_pos c_44, if_pos (Or.inl c_76)]
  · refine A_iload5 dX12_signed_79 ?_
    refine A_iload2 dX12_signed_81 ?_
    refine A_icmp_le (tgt := 98) dX12_signed_82 (by decide) (fun c_82 => ?_) (fun c_82 => ?_)
    · refine A_aload0 dX12_signed_98 ?_
      refine A_vv0 lk_X12_213 yv_X12_token dX12_signed_99 (rfl) (rfl) (T_X12_tkn hw.gM) (by decide) (Nat.le_of_ble_eq_true rfl) (fun μ_99 h_99 => ?_)
      refine A_iload5 dX12_signed_102 ?_
      refine A_iret dX12_signed_104 ?_
      refine ⟨_, rfl, ?_⟩
      unfold sp_signed
      rw [if_neg (Int32.not_lt.mpr c_4), if_pos c_44, if_neg (fun z => by rcases z with z | z; exact c_76 z; exact absurd z (Int32.not_lt.mpr c_82)), h_99]
    · refine A_aload0 dX12_signed_85 ?_
      refine A_iconst (v := 4) dX12_signed_86 (by decide) ?_
      refine A_putI gf_X12_210 rfl dX12_signed_87 ?_
      refine A_aload0 dX12_signed_90 ?_
      refine A_iload3 dX12_signed_91 ?_
      refine A_putI gf_X12_13 rfl dX12_signed_92 ?_
      refine A_goto (tgt := 102) dX12_signed_95 (by decide) ?_
      refine A_iload5 dX12_signed_102 ?_
      refine A_iret dX12_signed_104 ?_
      refine ⟨_, rfl, ?_⟩
      unfold sp_signed
      rw [if_neg (Int32.not_lt.mpr c_4), if_pos c_44, if_pos (Or.inr (Int32.not_le.mp c_82))]
set_option maxHeartbeats 4000000 in
set_option maxRecDepth 100000 in
theorem L_X12_signed_39 {l : Launch} {G : Wd} {μ : Mem} {a b g : Int32} {x5 : Option Value} (hw : WFx μ) (c_4 : μ.1 0 2 ≤ 0) (hg : (¬ μ.1 0 6 = 45 ∧ g = 0) ∨ (μ.1 0 6 = 45 ∧ g = 1)) : AW l G KM RX12 cX12_signed 6 3 (some .int) (Qi (fun v μ' => sp_signed μ a b = (v, μ'))) 39 [some (.ref (gA G 0)), some (.int a), some (.int b), some (.int (μ.1 0 7)), some (.int g), x5] [] (sgM μ) := by
  refine A_aload0 dX12_signed_39 ?_
  refine A_getI gf_X12_197 rfl dX12_signed_40 ?_
  refine A_iconst (v := 2) dX12_signed_43 (by decide) ?_
  refine A_icmp_eq (tgt := 54) dX12_signed_44 (by decide) (fun c_44 => ?_) (fun c_44 => ?_)
  · refine A_iload4 dX12_signed_54 ?_
    refine A_if_eq (tgt := 67) dX12_signed_56 (by decide) (fun c_56 => ?_) (fun c_56 => ?_)
    · have hg0 : ¬ μ.1 0 6 = 45 := by rcases hg with z | z; exact z.1; exact absurd (z.2.symm.trans c_56) (by decide)
      refine A_aload0 dX12_signed_67 ?_
      refine A_getI gf_X12_194 rfl dX12_signed_68 ?_
      refine A_istore5 dX12_signed_71 rfl (by decide) ?_
      have e73 : sgV μ = (sgM μ).1 0 8 := by unfold sgV; rw [if_neg hg0]
      rw [← e73]
      exact L_X12_signed_73 hw c_4 c_44
    · have hg0 : μ.1 0 6 = 45 := by rcases hg with z | z; exact absurd z.2 c_56; exact z.1
      refine A_aload0 dX12_signed_59 ?_
      refine A_getI gf_X12_194 rfl dX12_signed_60 ?_
      refine A_ineg dX12_signed_63 ?_
      refine A_goto (tgt := 71) dX12_signed_64 (by decide) ?_
      refine A_istore5 dX12_signed_71 rfl (by decide) ?_
      have e73 : sgV μ = -((sgM μ).1 0 8) := by unfold sgV; rw [if_pos hg0]
      rw [← e73]
      exact L_X12_signed_73 hw c_4 c_44
  · refine A_aload0 dX12_signed_47 ?_
    refine A_iconst (v := 2) dX12_signed_48 (by decide) ?_
    refine A_vv1 lk_X12_272 yv_X12_spoil dX12_signed_49 (rfl) (rfl) (T_X12_spoil) (by decide) (Nat.le_of_ble_eq_true rfl) (fun μ_49 h_49 => ?_)
    refine A_iconst (v := 0) dX12_signed_52 (by decide) ?_
    refine A_iret dX12_signed_53 ?_
    refine ⟨_, rfl, ?_⟩
    unfold sp_signed
    rw [if_neg (Int32.not_lt.mpr c_4), if_neg c_44, h_49]
set_option maxHeartbeats 4000000 in
set_option maxRecDepth 100000 in
theorem T_X12_signed {l : Launch} {G : Wd} {a b : Int32} {μ : Mem} (hw : WFx μ) : Mt l G KM yX12_signed cX12_signed 6 (some .int) 3 [.ref (gA G 0), .int a, .int b] μ (Qi (fun v μ' => sp_signed μ a b = (v, μ'))) := by
  refine Mt.of (own := RX12) (n := 3) (by decide) rfl [some (.ref (gA G 0)), some (.int a), some (.int b), none, none, none] rfl (Nat.le_of_ble_eq_true rfl) ?_
  refine A_aload0 dX12_signed_0 ?_
  refine A_getI gf_X12_210 rfl dX12_signed_1 ?_
  refine A_if_le (tgt := 9) dX12_signed_4 (by decide) (fun c_4 => ?_) (fun c_4 => ?_)
  · refine A_aload0 dX12_signed_9 ?_
    refine A_getI gf_X12_187 rfl dX12_signed_10 ?_
    refine A_istore3 dX12_signed_13 rfl (by decide) ?_
    refine A_aload0 dX12_signed_14 ?_
    refine A_getI gf_X12_197 rfl dX12_signed_15 ?_
    refine A_bipush (v := 45) dX12_signed_18 (by decide) ?_
    refine A_icmp_ne (tgt := 27) dX12_signed_20 (by decide) (fun c_20 => ?_) (fun c_20 => ?_)
    · refine A_iconst (v := 0) dX12_signed_27 (by decide) ?_
      refine A_istore4 dX12_signed_28 rfl (by decide) ?_
      refine A_iload4 dX12_signed_30 ?_
      refine A_if_eq (tgt := 39) dX12_signed_32 (by decide) (fun c_32 => ?_) (fun c_32 => absurd c_32 (by first | decide | assumption | (simp_all; done)))
      have e0 : ¬ μ.1 0 6 = 45 := c_20
      have e39 : sgM μ = μ := if_neg c_20
      refine A_setm e39.symm ?_
      exact L_X12_signed_39 hw c_4 (Or.inl ⟨e0, rfl⟩)
    · refine A_iconst (v := 1) dX12_signed_23 (by decide) ?_
      refine A_goto (tgt := 28) dX12_signed_24 (by decide) ?_
      refine A_istore4 dX12_signed_28 rfl (by decide) ?_
      refine A_iload4 dX12_signed_30 ?_
      refine A_if_eq (tgt := 39) dX12_signed_32 (by decide) (fun c_32 => absurd c_32 (by first | decide | assumption | (simp_all; done))) (fun c_32 => ?_)
      refine A_aload0 dX12_signed_35 ?_
      refine A_vv0 lk_X12_213 yv_X12_token dX12_signed_36 (rfl) (rfl) (T_X12_tkn hw) (by decide) (Nat.le_of_ble_eq_true rfl) (fun μ_36 h_36 => ?_)
      have e39 : sgM μ = tkn μ := if_pos c_20
      rw [h_36, ← e39]
      exact L_X12_signed_39 hw c_4 (Or.inr ⟨c_20, rfl⟩)
  · refine A_iconst (v := 0) dX12_signed_7 (by decide) ?_
    refine A_iret dX12_signed_8 ?_
    refine ⟨_, rfl, ?_⟩
    unfold sp_signed
    rw [if_pos (Int32.not_le.mp c_4)]

/-! seekLaws as a whole, and who asks it -/
def fnd (σ : Mem) (k : Int32) (b d : Nat) : Sc := found σ k b (stF σ b d) (stT σ b d)
def frS (S : Sc) : Int32 := if S.2.2.2 = true then -1 else S.2.2.1
def SLf (S : Sc) (μ : Mem) : Prop := μ.1 0 51 = nI S.1.length ∧ μ.1 0 52 = nI S.2.1 ∧ μ.1 0 53 = frS S ∧ arrs S.1 μ
theorem stF_le (σ : Mem) (b d : Nat) : stF σ b d ≤ d := sFrom_le _ _
theorem stT_ge {σ : Mem} {b d : Nat} (h : d < 60) : d ≤ stT σ b d ∧ stT σ b d < 60 := by
  have := sTo_ge (mv σ b) (59 - d) d
  unfold stT
  omega
theorem scan_mem (c : Lw → Nat) (f : Lw → Int32) : ∀ (L : List Lw) (S : Sc) (x : Lw), x ∈ (L.foldl (stp c f) S).1 → x ∈ S.1 ∨ x ∈ L := by
  intro L
  induction L with
  | nil => intro S x h; exact Or.inl h
  | cons y L ih =>
    intro S x h
    rcases ih (stp c f S y) x h with q | q
    · unfold stp at q
      simp only at q
      split at q
      · exact Or.inl q
      · split at q
        · exact Or.inr (by simp at q; subst q; exact List.mem_cons_self)
        · rcases List.mem_append.mp q with q | q
          · exact Or.inl q
          · exact Or.inr (by simp at q; subst q; exact List.mem_cons_self)
    · exact Or.inr (List.mem_cons_of_mem _ q)
theorem scan_pos (c : Lw → Nat) (f : Lw → Int32) : ∀ (L : List Lw) (S : Sc), 0 < S.1.length + L.length → 0 < (L.foldl (stp c f) S).1.length := by
  intro L
  induction L with
  | nil => intro S h; simpa using h
  | cons y L ih =>
    intro S _
    refine ih (stp c f S y) ?_
    have : 0 < (stp c f S y).1.length := by
      unfold stp
      simp only
      split
      · omega
      · split <;> simp
    omega
theorem ivN_mem {a x : Nat} : ∀ {n : Nat}, x ∈ ivN a n → a ≤ x ∧ x < a + n := by
  intro n
  induction n generalizing a with
  | zero => intro h; simp [ivN] at h
  | succ n ih =>
    intro h
    rcases List.mem_cons.mp h with rfl | h
    · omega
    · have := ih h; omega
theorem allL_lag {σ : Mem} {b : Nat} (h : okBx σ b) {x : Lw} (hx : x ∈ allL σ b) : lgN σ b ≤ x.2.2.1 ∧ (x.2.2.1 : Int) ≤ (rl σ b 5).toInt ∧ x.2.2.1 ≤ 2 := by
  obtain ⟨z, -, hx⟩ := List.mem_flatMap.mp hx
  obtain ⟨s, -, hx⟩ := List.mem_flatMap.mp hx
  obtain ⟨l, hl, hx⟩ := List.mem_flatMap.mp hx
  obtain ⟨t, -, rfl⟩ := List.mem_map.mp hx
  have h1 := ivN_mem hl
  have h2 := rn_i h
  have h3 := lgN_i h
  have h4 := h.r
  refine ⟨h1.1, ?_, ?_⟩ <;> simp only <;> omega
theorem fnd_mem {σ : Mem} {k : Int32} {b d : Nat} {x : Lw} (hx : x ∈ (fnd σ k b d).1) : x ∈ allL σ b := by
  rcases scan_mem _ _ _ _ _ hx with q | q
  · simp at q
  · exact q
theorem fnd_len {σ : Mem} {k : Int32} {b d : Nat} (h : okBx σ b) : 0 < (fnd σ k b d).1.length ∧ (fnd σ k b d).1.length ≤ 660 := by
  constructor
  · refine scan_pos _ _ _ _ ?_
    have h1 := rn1_le h
    show 0 < 0 + (allL σ b).length
    unfold allL
    rw [eZ_len]
    have : 0 < rn1 σ b 0 * (rn1 σ b 2 * (rn1 σ b 4 * rn1 σ b 6)) := Nat.mul_pos h1.1.1 (Nat.mul_pos h1.2.1.1 (Nat.mul_pos h1.2.2.1.1 h1.2.2.2.1))
    omega
  · exact Nat.le_trans (scan_le _ _ _) (allL_len h)
theorem fnd_few {σ : Mem} {k : Int32} {b d : Nat} (hd : d < 60) : (fnd σ k b d).2.1 ≤ 60 := scan_few _ _ (fun y => by
  have h1 := cntM_le σ k b y (stF σ b d) (stT σ b d + 1 - stF σ b d)
  have h2 := stT_ge (σ := σ) (b := b) hd
  unfold cS
  omega) _ _ (by decide)
theorem SLm0 {μ : Mem} {c : Lw → Nat} {f : Lw → Int32} : SLm (scan c f []) (wI (wI (wI μ 0 51 0) 0 52 0) 0 53 (-1)) := ⟨rfl, rfl, rfl, arrs_nil _⟩
set_option maxHeartbeats 4000000 in
set_option maxRecDepth 100000 in
theorem T_X12_seekLaws {F : Mem} {l : Launch} {G : Wd} {b d : Nat} {k : Int32} {σ μ : Mem} (hL : Lay F σ k μ) (hb : b < 5) (hd : d < 60) (hok : okBx σ b) : Mt l G KM yX12_seekLaws cX12_seekLaws 16 none 5 [.ref (gA G 0), .int (nI b), .int (nI d)] μ (Qv (fun μ' => Lay F σ k μ' ∧ SLf (fnd σ k b d) μ')) := by
  refine Mt.of (own := RX12) (n := 13) (by decide) rfl [some (.ref (gA G 0)), some (.int (nI b)), some (.int (nI d)), none, none, none, none, none, none, none, none, none, none, none, none, none] rfl (Nat.le_of_ble_eq_true rfl) ?_
  refine A_aload0 dX12_seekLaws_0 ?_
  refine A_iconst (v := 0) dX12_seekLaws_1 (by decide) ?_
  refine A_putI gf_X12_377 rfl dX12_seekLaws_2 ?_
  refine A_aload0 dX12_seekLaws_5 ?_
  refine A_iconst (v := 0) dX12_seekLaws_6 (by decide) ?_
  refine A_putI gf_X12_380 rfl dX12_seekLaws_7 ?_
  refine A_aload0 dX12_seekLaws_10 ?_
  refine A_iconst (v := -1) dX12_seekLaws_11 (by decide) ?_
  refine A_putI gf_X12_383 rfl dX12_seekLaws_12 ?_
  refine A_iconst (v := 0) dX12_seekLaws_15 (by decide) ?_
  refine A_istore3 dX12_seekLaws_16 rfl (by decide) ?_
  have hL3 : Lay F σ k (wI (wI (wI μ 0 51 0) 0 52 0) 0 53 (-1)) := Lay.w (i := 0) (j := 53) (Lay.w (i := 0) (j := 52) (Lay.w (i := 0) (j := 51) hL rfl (by decide)) rfl (by decide)) rfl (by decide)
  refine A_aload0 dX12_seekLaws_17 ?_
  refine A_iload1 dX12_seekLaws_18 ?_
  refine A_iload2 dX12_seekLaws_19 ?_
  refine A_vi2 lk_X12_364 yv_X12_stretchFrom dX12_seekLaws_20 (rfl) (rfl) (T_X12_stretchFrom hL3.1 hb hd) (by decide) (Nat.le_of_ble_eq_true rfl) (fun r_20 μ_20 h_20 => ?_)
  obtain ⟨rfl, e_20⟩ := h_20
  replace e_20 := e_20.symm
  subst e_20
  refine A_istore4 dX12_seekLaws_23 rfl (by decide) ?_
  refine A_aload0 dX12_seekLaws_25 ?_
  refine A_iload1 dX12_seekLaws_26 ?_
  refine A_iload2 dX12_seekLaws_27 ?_
  refine A_vi2 lk_X12_386 yv_X12_stretchTo dX12_seekLaws_28 (rfl) (rfl) (T_X12_stretchTo hL3.1 hb hd) (by decide) (Nat.le_of_ble_eq_true rfl) (fun r_28 μ_28 h_28 => ?_)
  obtain ⟨rfl, e_28⟩ := h_28
  replace e_28 := e_28.symm
  subst e_28
  refine A_istore5 dX12_seekLaws_31 rfl (by decide) ?_
  refine A_bipush (v := 8) dX12_seekLaws_33 (by decide) ?_
  refine A_iload1 dX12_seekLaws_35 ?_
  refine A_imul dX12_seekLaws_36 ?_
  rw [show (8 : Int32) = nI 8 from rfl, pk_mul]
  refine A_istore6 dX12_seekLaws_37 rfl (by decide) ?_
  refine A_aload0 dX12_seekLaws_39 ?_
  refine A_getR gf_X12_36 rfl dX12_seekLaws_40 ?_
  refine A_iload6 dX12_seekLaws_43 ?_
  refine A_iald (rfl) (vp_in_nI (by omega) (by omega)) dX12_seekLaws_45 ?_
  rw [nI_c (by omega), hL3.1.1 8 _ rfl]
  refine A_val (y := rl σ b 0) rfl ?_
  refine A_istore7 dX12_seekLaws_46 rfl (by decide) ?_
  have hr := hok.r
  have h1 := stF_le σ b d
  have h2 := stT_ge (σ := σ) (b := b) hd
  refine L_X12_seekLaws_48 (k := k) (σ := σ) hb hok h2.2 (by omega) (rn1 σ b 0 + 1) (rn1 σ b 0) [] (rl σ b 0) _ _ _ _ _ _ _ _ _ _ (by omega) ⟨by have := rn_i hok; omega, by omega⟩ (by have := allL_len hok; exact this) rfl SLm0 hL3 (fun x7 x8 x9 x10 x11 x12 x13 x14 x15 μ1 hS hL1 => ?_)
  have hS1 : SLm (fnd σ k b d) μ1 := hS
  refine A_setl (ls' := [some (.ref (gA G 0)), some (.int (nI b)), some (.int (nI d)), some (.int (bz ((fnd σ k b d).2.2.2 = true))), some (.int (nI (stF σ b d))), some (.int (nI (stT σ b d))), some (.int (nI (8 * b))), x7, x8, x9, x10, x11, x12, x13, x14, x15]) rfl ?_
  refine A_iload3 dX12_seekLaws_408 ?_
  refine A_if_eq (tgt := 417) dX12_seekLaws_409 (by decide) (fun c1 => ?_) (fun c1 => ?_)
  · refine A_vret dX12_seekLaws_417 ?_
    refine ⟨rfl, hL1, hS1.1, hS1.2.1, ?_, hS1.2.2.2⟩
    unfold frS
    rw [if_neg (bz_0.mp c1)]
    exact hS1.2.2.1
  · refine A_aload0 dX12_seekLaws_412 ?_
    refine A_iconst (v := -1) dX12_seekLaws_413 (by decide) ?_
    refine A_putI gf_X12_383 rfl dX12_seekLaws_414 ?_
    refine A_vret dX12_seekLaws_417 ?_
    refine ⟨rfl, Lay.w (i := 0) (j := 53) hL1 rfl (by decide), hS1.1, hS1.2.1, ?_, hS1.2.2.2⟩
    unfold frS
    rw [if_pos (Classical.not_not.mp (fun z => c1 (bz_0.mpr z)))]
    exact wI_same
/-- a place that there is: its numbers -/
theorem i_pl {σ : Mem} {b d : Int32} (hw : WFh σ) (h : isPl σ b d) : ∃ x y : Nat, b = nI x ∧ d = nI y ∧ x < 5 ∧ y < 60 ∧ okBx σ x ∧ b.toNatClampNeg = x ∧ d.toNatClampNeg = y ∧ x < nbx σ := by
  obtain ⟨q, e, h1, h2, rfl, rfl, -, -⟩ := i_cell (i_bx2 hw.1 h.1) h.2 (by omega)
  obtain ⟨h3, h4⟩ := hw.1.t
  have h5 : q < nbx σ := by
    have := h.1.2
    rw [h4] at this
    exact (nI_ltI (by omega) (by omega)).mp this
  exact ⟨q, e, rfl, rfl, h1, h2, hw.2 q h5, nI_c (by omega), nI_c (by omega), h5⟩
abbrev fI (σ : Mem) (k b d : Int32) : Sc := fnd σ k b.toNatClampNeg d.toNatClampNeg
def sp_laws (σ : Mem) (b d k : Int32) : Int32 := if isPl σ b d then nI (fI σ k b d).1.length else -1
def sp_misses (σ : Mem) (b d k : Int32) : Int32 := if isPl σ b d then nI (fI σ k b d).2.1 else -1
def sp_frost (σ : Mem) (b d k : Int32) : Int32 := if isPl σ b d then frS (fI σ k b d) else -1
def WF (σ : Mem) : Prop := WFt σ ∧ WFf σ ∧ WFh σ
set_option maxHeartbeats 4000000 in
set_option maxRecDepth 100000 in
theorem T_X12_laws {l : Launch} {G : Wd} {b d k : Int32} {μ : Mem} (hw : WF μ) : Mt l G KM yX12_laws cX12_laws 4 (some .int) 6 [.ref (gA G 0), .int b, .int d, .int k] μ (Qi (fun v μ' => v = sp_laws μ b d k ∧ Pm μ μ')) := by
  refine Mt.of (own := RX12) (n := 0) (by decide) rfl [some (.ref (gA G 0)), some (.int b), some (.int d), some (.int k)] rfl (Nat.le_of_ble_eq_true rfl) ?_
  refine A_aload0 dX12_laws_0 ?_
  refine A_iload1 dX12_laws_1 ?_
  refine A_iload2 dX12_laws_2 ?_
  refine A_vi2 lk_X12_357 yv_X12_isPlace dX12_laws_3 (rfl) (rfl) (T_X12_isPlace) (by decide) (Nat.le_of_ble_eq_true rfl) (fun r_3 μ_3 h_3 => ?_)
  obtain ⟨rfl, e_3⟩ := h_3
  replace e_3 := e_3.symm
  subst e_3
  refine A_if_ne (tgt := 11) dX12_laws_6 (by decide) (fun c_6 => ?_) (fun c_6 => ?_)
  · have hp : isPl μ b d := Classical.not_not.mp (fun z => c_6 (bz_0.mpr z))
    obtain ⟨bn, dn, rfl, rfl, hb5, hd6, hok, eb, ed, hbn⟩ := i_pl hw.2.2 hp
    refine A_aload0 dX12_laws_11 ?_
    refine A_iload3 dX12_laws_12 ?_
    refine A_vv1 lk_X12_354 yv_X12_layOut dX12_laws_13 (rfl) (rfl) (T_X12_layOut hw.2.1) (by decide) (Nat.le_of_ble_eq_true rfl) (fun μ_13 h_13 => ?_)
    refine A_aload0 dX12_laws_16 ?_
    refine A_iload1 dX12_laws_17 ?_
    refine A_iload2 dX12_laws_18 ?_
    refine A_vv2 lk_X12_396 yv_X12_seekLaws dX12_laws_19 (rfl) (rfl) (T_X12_seekLaws h_13 hb5 hd6 hok) (by decide) (Nat.le_of_ble_eq_true rfl) (fun μ_19 h_19 => ?_)
    obtain ⟨hL2, hS2⟩ := h_19
    refine A_aload0 dX12_laws_22 ?_
    refine A_getI gf_X12_377 rfl dX12_laws_23 ?_
    rw [hS2.1]
    refine A_iret dX12_laws_26 ?_
    refine ⟨_, rfl, ?_, hL2.1⟩
    unfold sp_laws fI
    rw [if_pos hp, eb, ed]
  · refine A_iconst (v := -1) dX12_laws_9 (by decide) ?_
    refine A_iret dX12_laws_10 ?_
    refine ⟨_, rfl, ?_, Pm.rf⟩
    unfold sp_laws
    rw [if_neg (bz_0.mp c_6)]
set_option maxHeartbeats 4000000 in
set_option maxRecDepth 100000 in
theorem T_X12_misses {l : Launch} {G : Wd} {b d k : Int32} {μ : Mem} (hw : WF μ) : Mt l G KM yX12_misses cX12_misses 4 (some .int) 6 [.ref (gA G 0), .int b, .int d, .int k] μ (Qi (fun v μ' => v = sp_misses μ b d k ∧ Pm μ μ')) := by
  refine Mt.of (own := RX12) (n := 0) (by decide) rfl [some (.ref (gA G 0)), some (.int b), some (.int d), some (.int k)] rfl (Nat.le_of_ble_eq_true rfl) ?_
  refine A_aload0 dX12_misses_0 ?_
  refine A_iload1 dX12_misses_1 ?_
  refine A_iload2 dX12_misses_2 ?_
  refine A_vi2 lk_X12_357 yv_X12_isPlace dX12_misses_3 (rfl) (rfl) (T_X12_isPlace) (by decide) (Nat.le_of_ble_eq_true rfl) (fun r_3 μ_3 h_3 => ?_)
  obtain ⟨rfl, e_3⟩ := h_3
  replace e_3 := e_3.symm
  subst e_3
  refine A_if_ne (tgt := 11) dX12_misses_6 (by decide) (fun c_6 => ?_) (fun c_6 => ?_)
  · have hp : isPl μ b d := Classical.not_not.mp (fun z => c_6 (bz_0.mpr z))
    obtain ⟨bn, dn, rfl, rfl, hb5, hd6, hok, eb, ed, hbn⟩ := i_pl hw.2.2 hp
    refine A_aload0 dX12_misses_11 ?_
    refine A_iload3 dX12_misses_12 ?_
    refine A_vv1 lk_X12_354 yv_X12_layOut dX12_misses_13 (rfl) (rfl) (T_X12_layOut hw.2.1) (by decide) (Nat.le_of_ble_eq_true rfl) (fun μ_13 h_13 => ?_)
    refine A_aload0 dX12_misses_16 ?_
    refine A_iload1 dX12_misses_17 ?_
    refine A_iload2 dX12_misses_18 ?_
    refine A_vv2 lk_X12_396 yv_X12_seekLaws dX12_misses_19 (rfl) (rfl) (T_X12_seekLaws h_13 hb5 hd6 hok) (by decide) (Nat.le_of_ble_eq_true rfl) (fun μ_19 h_19 => ?_)
    obtain ⟨hL2, hS2⟩ := h_19
    refine A_aload0 dX12_misses_22 ?_
    refine A_getI gf_X12_380 rfl dX12_misses_23 ?_
    rw [hS2.2.1]
    refine A_iret dX12_misses_26 ?_
    refine ⟨_, rfl, ?_, hL2.1⟩
    unfold sp_misses fI
    rw [if_pos hp, eb, ed]
  · refine A_iconst (v := -1) dX12_misses_9 (by decide) ?_
    refine A_iret dX12_misses_10 ?_
    refine ⟨_, rfl, ?_, Pm.rf⟩
    unfold sp_misses
    rw [if_neg (bz_0.mp c_6)]
set_option maxHeartbeats 4000000 in
set_option maxRecDepth 100000 in
theorem T_X12_frost {l : Launch} {G : Wd} {b d k : Int32} {μ : Mem} (hw : WF μ) : Mt l G KM yX12_frost cX12_frost 4 (some .int) 6 [.ref (gA G 0), .int b, .int d, .int k] μ (Qi (fun v μ' => v = sp_frost μ b d k ∧ Pm μ μ')) := by
  refine Mt.of (own := RX12) (n := 0) (by decide) rfl [some (.ref (gA G 0)), some (.int b), some (.int d), some (.int k)] rfl (Nat.le_of_ble_eq_true rfl) ?_
  refine A_aload0 dX12_frost_0 ?_
  refine A_iload1 dX12_frost_1 ?_
  refine A_iload2 dX12_frost_2 ?_
  refine A_vi2 lk_X12_357 yv_X12_isPlace dX12_frost_3 (rfl) (rfl) (T_X12_isPlace) (by decide) (Nat.le_of_ble_eq_true rfl) (fun r_3 μ_3 h_3 => ?_)
  obtain ⟨rfl, e_3⟩ := h_3
  replace e_3 := e_3.symm
  subst e_3
  refine A_if_ne (tgt := 11) dX12_frost_6 (by decide) (fun c_6 => ?_) (fun c_6 => ?_)
  · have hp : isPl μ b d := Classical.not_not.mp (fun z => c_6 (bz_0.mpr z))
    obtain ⟨bn, dn, rfl, rfl, hb5, hd6, hok, eb, ed, hbn⟩ := i_pl hw.2.2 hp
    refine A_aload0 dX12_frost_11 ?_
    refine A_iload3 dX12_frost_12 ?_
    refine A_vv1 lk_X12_354 yv_X12_layOut dX12_frost_13 (rfl) (rfl) (T_X12_layOut hw.2.1) (by decide) (Nat.le_of_ble_eq_true rfl) (fun μ_13 h_13 => ?_)
    refine A_aload0 dX12_frost_16 ?_
    refine A_iload1 dX12_frost_17 ?_
    refine A_iload2 dX12_frost_18 ?_
    refine A_vv2 lk_X12_396 yv_X12_seekLaws dX12_frost_19 (rfl) (rfl) (T_X12_seekLaws h_13 hb5 hd6 hok) (by decide) (Nat.le_of_ble_eq_true rfl) (fun μ_19 h_19 => ?_)
    obtain ⟨hL2, hS2⟩ := h_19
    refine A_aload0 dX12_frost_22 ?_
    refine A_getI gf_X12_383 rfl dX12_frost_23 ?_
    rw [hS2.2.2.1]
    refine A_iret dX12_frost_26 ?_
    refine ⟨_, rfl, ?_, hL2.1⟩
    unfold sp_frost fI
    rw [if_pos hp, eb, ed]
  · refine A_iconst (v := -1) dX12_frost_9 (by decide) ?_
    refine A_iret dX12_frost_10 ?_
    refine ⟨_, rfl, ?_, Pm.rf⟩
    unfold sp_frost
    rw [if_neg (bz_0.mp c_6)]
def lwP (x : Lw) (w : Int32) : Int32 := if w = 0 then x.1 else if w = 1 then x.2.1 else if w = 2 then nI x.2.2.1 else if w = 3 then x.2.2.2 else -100000
def sp_law (σ : Mem) (b d i w k : Int32) : Int32 := if isPl σ b d ∧ 0 ≤ i ∧ i < nI (fI σ k b d).1.length then (match (fI σ k b d).1[i.toNatClampNeg]? with | some x => lwP x w | none => -100000) else -100000
theorem fI_at {σ : Mem} {k : Int32} {bn dn : Nat} {i : Int32} (hok : okBx σ bn) (h0 : 0 ≤ i) (h1 : i < nI (fnd σ k bn dn).1.length) : vp_in i 700 ∧ ∃ x, (fnd σ k bn dn).1[i.toNatClampNeg]? = some x := by
  have h2 := fnd_len (k := k) (d := dn) hok
  obtain ⟨j, hj, rfl⟩ := nI_rng h0 h1 (by omega)
  rw [nI_c (by omega)]
  exact ⟨vp_in_nI (by omega) (by omega), _, List.getElem?_eq_getElem hj⟩
set_option maxHeartbeats 4000000 in
set_option maxRecDepth 100000 in
theorem T_X12_law {l : Launch} {G : Wd} {b d i w k : Int32} {μ : Mem} (hw : WF μ) : Mt l G KM yX12_law cX12_law 6 (some .int) 6 [.ref (gA G 0), .int b, .int d, .int i, .int w, .int k] μ (Qi (fun v μ' => v = sp_law μ b d i w k ∧ Pm μ μ')) := by
  refine Mt.of (own := RX12) (n := 0) (by decide) rfl [some (.ref (gA G 0)), some (.int b), some (.int d), some (.int i), some (.int w), some (.int k)] rfl (Nat.le_of_ble_eq_true rfl) ?_
  refine A_aload0 dX12_law_0 ?_
  refine A_iload1 dX12_law_1 ?_
  refine A_iload2 dX12_law_2 ?_
  refine A_vi2 lk_X12_357 yv_X12_isPlace dX12_law_3 (rfl) (rfl) (T_X12_isPlace) (by decide) (Nat.le_of_ble_eq_true rfl) (fun r_3 μ_3 h_3 => ?_)
  obtain ⟨rfl, e_3⟩ := h_3
  replace e_3 := e_3.symm
  subst e_3
  refine A_if_ne (tgt := 13) dX12_law_6 (by decide) (fun c_6 => ?_) (fun c_6 => ?_)
  · have hp : isPl μ b d := Classical.not_not.mp (fun z => c_6 (bz_0.mpr z))
    obtain ⟨bn, dn, rfl, rfl, hb5, hd6, hok, eb, ed, hbn⟩ := i_pl hw.2.2 hp
    refine A_aload0 dX12_law_13 ?_
    refine A_iload5 dX12_law_14 ?_
    refine A_vv1 lk_X12_354 yv_X12_layOut dX12_law_16 (rfl) (rfl) (T_X12_layOut hw.2.1) (by decide) (Nat.le_of_ble_eq_true rfl) (fun μ_16 h_16 => ?_)
    refine A_aload0 dX12_law_19 ?_
    refine A_iload1 dX12_law_20 ?_
    refine A_iload2 dX12_law_21 ?_
    refine A_vv2 lk_X12_396 yv_X12_seekLaws dX12_law_22 (rfl) (rfl) (T_X12_seekLaws h_16 hb5 hd6 hok) (by decide) (Nat.le_of_ble_eq_true rfl) (fun μ_22 h_22 => ?_)
    obtain ⟨hL2, hS2⟩ := h_22
    refine A_iload3 dX12_law_25 ?_
    refine A_if_lt (tgt := 37) dX12_law_26 (by decide) (fun c_26 => ?_) (fun c_26 => ?_)
    · refine A_ldcw dX12_law_37 kc_X12_353 ?_
      refine A_iret dX12_law_40 ?_
      refine ⟨_, rfl, ?_, hL2.1⟩
      unfold sp_law fI
      rw [eb, ed, if_neg]
      first | exact fun q => absurd (i_le.mp q.2.1) (by have := i_lt.mp c_26; omega) | exact fun q => c_34 q.2.2
    · refine A_iload3 dX12_law_29 ?_
      refine A_aload0 dX12_law_30 ?_
      refine A_getI gf_X12_377 rfl dX12_law_31 ?_
      rw [hS2.1]
      refine A_icmp_lt (tgt := 41) dX12_law_34 (by decide) (fun c_34 => ?_) (fun c_34 => ?_)
      · obtain ⟨hin, x, hx⟩ := fI_at (k := k) (dn := dn) hok (i_nlt c_26) c_34
        have hxx := hS2.2.2.2 _ _ hx
        refine A_iload4 dX12_law_41 ?_
        refine A_if_ne (tgt := 55) dX12_law_43 (by decide) (fun c_43 => ?_) (fun c_43 => ?_)
        · refine A_iload4 dX12_law_55 ?_
          refine A_iconst (v := 1) dX12_law_57 (by decide) ?_
          refine A_icmp_ne (tgt := 70) dX12_law_58 (by decide) (fun c_58 => ?_) (fun c_58 => ?_)
          · refine A_iload4 dX12_law_70 ?_
            refine A_iconst (v := 2) dX12_law_72 (by decide) ?_
            refine A_icmp_ne (tgt := 85) dX12_law_73 (by decide) (fun c_73 => ?_) (fun c_73 => ?_)
            · refine A_iload4 dX12_law_85 ?_
              refine A_iconst (v := 3) dX12_law_87 (by decide) ?_
              refine A_icmp_ne (tgt := 100) dX12_law_88 (by decide) (fun c_88 => ?_) (fun c_88 => ?_)
              · refine A_ldcw dX12_law_100 kc_X12_353 ?_
                refine A_iret dX12_law_103 ?_
                refine ⟨_, rfl, ?_, hL2.1⟩
                unfold sp_law fI
                rw [eb, ed, if_pos ⟨hp, i_nlt c_26, c_34⟩, hx]
                unfold lwP
                simp_all
              · refine A_aload0 dX12_law_91 ?_
                refine A_getR gf_X12_118 rfl dX12_law_92 ?_
                refine A_iload3 dX12_law_95 ?_
                refine A_iald (rfl) (hin) dX12_law_96 ?_
                rw [hxx.2.2.2]
                refine A_goto (tgt := 103) dX12_law_97 (by decide) ?_
                refine A_iret dX12_law_103 ?_
                refine ⟨_, rfl, ?_, hL2.1⟩
                unfold sp_law fI
                rw [eb, ed, if_pos ⟨hp, i_nlt c_26, c_34⟩, hx]
                unfold lwP
                simp_all
            · refine A_aload0 dX12_law_76 ?_
              refine A_getR gf_X12_115 rfl dX12_law_77 ?_
              refine A_iload3 dX12_law_80 ?_
              refine A_iald (rfl) (hin) dX12_law_81 ?_
              rw [hxx.2.2.1]
              refine A_goto (tgt := 103) dX12_law_82 (by decide) ?_
              refine A_iret dX12_law_103 ?_
              refine ⟨_, rfl, ?_, hL2.1⟩
              unfold sp_law fI
              rw [eb, ed, if_pos ⟨hp, i_nlt c_26, c_34⟩, hx]
              unfold lwP
              simp_all
          · refine A_aload0 dX12_law_61 ?_
            refine A_getR gf_X12_112 rfl dX12_law_62 ?_
            refine A_iload3 dX12_law_65 ?_
            refine A_iald (rfl) (hin) dX12_law_66 ?_
            rw [hxx.2.1]
            refine A_goto (tgt := 103) dX12_law_67 (by decide) ?_
            refine A_iret dX12_law_103 ?_
            refine ⟨_, rfl, ?_, hL2.1⟩
            unfold sp_law fI
            rw [eb, ed, if_pos ⟨hp, i_nlt c_26, c_34⟩, hx]
            unfold lwP
            simp_all
        · refine A_aload0 dX12_law_46 ?_
          refine A_getR gf_X12_109 rfl dX12_law_47 ?_
          refine A_iload3 dX12_law_50 ?_
          refine A_iald (rfl) (hin) dX12_law_51 ?_
          rw [hxx.1]
          refine A_goto (tgt := 103) dX12_law_52 (by decide) ?_
          refine A_iret dX12_law_103 ?_
          refine ⟨_, rfl, ?_, hL2.1⟩
          unfold sp_law fI
          rw [eb, ed, if_pos ⟨hp, i_nlt c_26, c_34⟩, hx]
          unfold lwP
          simp_all
      · refine A_ldcw dX12_law_37 kc_X12_353 ?_
        refine A_iret dX12_law_40 ?_
        refine ⟨_, rfl, ?_, hL2.1⟩
        unfold sp_law fI
        rw [eb, ed, if_neg]
        first | exact fun q => absurd (i_le.mp q.2.1) (by have := i_lt.mp c_26; omega) | exact fun q => c_34 q.2.2
  · refine A_ldcw dX12_law_9 kc_X12_353 ?_
    refine A_iret dX12_law_12 ?_
    refine ⟨_, rfl, ?_, Pm.rf⟩
    unfold sp_law
    rw [if_neg (fun q => bz_0.mp c_6 q.1)]
/-- what a box shows on a day by the first of the laws -/
def sh1 (σ : Mem) (k : Int32) (b d : Nat) : Int32 := match (fnd σ k b d).1[0]? with
  | some x => shO σ k b d x.1 x.2.1 x.2.2.1 x.2.2.2
  | none => -100000
theorem in0 : vp_in 0 700 := by
  rw [← nI_0]
  exact vp_in_nI (by decide) (by decide)
theorem fnd_0 {σ : Mem} {k : Int32} {b d : Nat} (h : okBx σ b) : ∃ x : Lw, (fnd σ k b d).1[0]? = some x ∧ x.2.2.1 ≤ 2 := by
  have h1 := (fnd_len (k := k) (d := d) h).1
  have h2 : (fnd σ k b d).1[0]? = some (fnd σ k b d).1[0] := List.getElem?_eq_getElem h1
  exact ⟨_, h2, (allL_lag h (fnd_mem (List.mem_of_getElem? h2))).2.2⟩
set_option maxHeartbeats 4000000 in
set_option maxRecDepth 100000 in
theorem T_X12_showsFirst {F : Mem} {l : Launch} {G : Wd} {b d : Nat} {k : Int32} {σ μ : Mem} (hL : Lay F σ k μ) (hb : b < 5) (hd : d < 60) (hok : okBx σ b) : Mt l G KM yX12_showsFirst cX12_showsFirst 3 (some .int) 6 [.ref (gA G 0), .int (nI b), .int (nI d)] μ (Qi (fun v μ' => v = sh1 σ k b d ∧ Lay F σ k μ')) := by
  refine Mt.of (own := RX12) (n := 0) (by decide) rfl [some (.ref (gA G 0)), some (.int (nI b)), some (.int (nI d))] rfl (Nat.le_of_ble_eq_true rfl) ?_
  refine A_aload0 dX12_showsFirst_0 ?_
  refine A_iload1 dX12_showsFirst_1 ?_
  refine A_iload2 dX12_showsFirst_2 ?_
  refine A_vv2 lk_X12_396 yv_X12_seekLaws dX12_showsFirst_3 (rfl) (rfl) (T_X12_seekLaws hL hb hd hok) (by decide) (Nat.le_of_ble_eq_true rfl) (fun μ_3 h_3 => ?_)
  obtain ⟨hL2, hS2⟩ := h_3
  obtain ⟨x, hx, hxl⟩ := fnd_0 (k := k) (d := d) hok
  have hxx := hS2.2.2.2 _ _ hx
  refine A_aload0 dX12_showsFirst_6 ?_
  refine A_iload1 dX12_showsFirst_7 ?_
  refine A_iload2 dX12_showsFirst_8 ?_
  refine A_aload0 dX12_showsFirst_9 ?_
  refine A_getR gf_X12_109 rfl dX12_showsFirst_10 ?_
  refine A_iconst (v := 0) dX12_showsFirst_13 (by decide) ?_
  refine A_iald (rfl) (in0) dX12_showsFirst_14 ?_
  refine A_val hxx.1 ?_
  refine A_aload0 dX12_showsFirst_15 ?_
  refine A_getR gf_X12_112 rfl dX12_showsFirst_16 ?_
  refine A_iconst (v := 0) dX12_showsFirst_19 (by decide) ?_
  refine A_iald (rfl) (in0) dX12_showsFirst_20 ?_
  refine A_val hxx.2.1 ?_
  refine A_aload0 dX12_showsFirst_21 ?_
  refine A_getR gf_X12_115 rfl dX12_showsFirst_22 ?_
  refine A_iconst (v := 0) dX12_showsFirst_25 (by decide) ?_
  refine A_iald (rfl) (in0) dX12_showsFirst_26 ?_
  refine A_val hxx.2.2.1 ?_
  refine A_aload0 dX12_showsFirst_27 ?_
  refine A_getR gf_X12_118 rfl dX12_showsFirst_28 ?_
  refine A_iconst (v := 0) dX12_showsFirst_31 (by decide) ?_
  refine A_iald (rfl) (in0) dX12_showsFirst_32 ?_
  refine A_val hxx.2.2.2 ?_
  refine A_vi6 lk_X12_389 yv_X12_showsOn dX12_showsFirst_33 (rfl) (rfl) (T_X12_showsOn hL2 hb hd hok hxl) (by decide) (Nat.le_of_ble_eq_true rfl) (fun r_33 μ_33 h_33 => ?_)
  obtain ⟨rfl, e_33⟩ := h_33
  replace e_33 := e_33.symm
  subst e_33
  refine A_iret dX12_showsFirst_36 ?_
  refine ⟨_, rfl, ?_, hL2⟩
  unfold sh1
  rw [hx]
def sp_shows (σ : Mem) (b d k : Int32) : Int32 := if isPl σ b d then sh1 σ k b.toNatClampNeg d.toNatClampNeg else -100000
set_option maxHeartbeats 4000000 in
set_option maxRecDepth 100000 in
theorem T_X12_shows {l : Launch} {G : Wd} {b d k : Int32} {μ : Mem} (hw : WF μ) : Mt l G KM yX12_shows cX12_shows 4 (some .int) 7 [.ref (gA G 0), .int b, .int d, .int k] μ (Qi (fun v μ' => v = sp_shows μ b d k ∧ Pm μ μ')) := by
  refine Mt.of (own := RX12) (n := 0) (by decide) rfl [some (.ref (gA G 0)), some (.int b), some (.int d), some (.int k)] rfl (Nat.le_of_ble_eq_true rfl) ?_
  refine A_aload0 dX12_shows_0 ?_
  refine A_iload1 dX12_shows_1 ?_
  refine A_iload2 dX12_shows_2 ?_
  refine A_vi2 lk_X12_357 yv_X12_isPlace dX12_shows_3 (rfl) (rfl) (T_X12_isPlace) (by decide) (Nat.le_of_ble_eq_true rfl) (fun r_3 μ_3 h_3 => ?_)
  obtain ⟨rfl, e_3⟩ := h_3
  replace e_3 := e_3.symm
  subst e_3
  refine A_if_ne (tgt := 13) dX12_shows_6 (by decide) (fun c_6 => ?_) (fun c_6 => ?_)
  · have hp : isPl μ b d := Classical.not_not.mp (fun z => c_6 (bz_0.mpr z))
    obtain ⟨bn, dn, rfl, rfl, hb5, hd6, hok, eb, ed, hbn⟩ := i_pl hw.2.2 hp
    refine A_aload0 dX12_shows_13 ?_
    refine A_iload3 dX12_shows_14 ?_
    refine A_vv1 lk_X12_354 yv_X12_layOut dX12_shows_15 (rfl) (rfl) (T_X12_layOut hw.2.1) (by decide) (Nat.le_of_ble_eq_true rfl) (fun μ_15 h_15 => ?_)
    refine A_aload0 dX12_shows_18 ?_
    refine A_iload1 dX12_shows_19 ?_
    refine A_iload2 dX12_shows_20 ?_
    refine A_vi2 lk_X12_400 yv_X12_showsFirst dX12_shows_21 (rfl) (rfl) (T_X12_showsFirst h_15 hb5 hd6 hok) (by decide) (Nat.le_of_ble_eq_true rfl) (fun r_21 μ_21 h_21 => ?_)
    obtain ⟨rfl, hL2⟩ := h_21
    refine A_iret dX12_shows_24 ?_
    refine ⟨_, rfl, ?_, hL2.1⟩
    unfold sp_shows
    rw [if_pos hp, eb, ed]
  · refine A_ldcw dX12_shows_9 kc_X12_353 ?_
    refine A_iret dX12_shows_12 ?_
    refine ⟨_, rfl, ?_, Pm.rf⟩
    unfold sp_shows
    rw [if_neg (bz_0.mp c_6)]
def shnF (σ : Mem) (k : Int32) (b d : Nat) (high : Int32) (v : Int32) (x : Lw) : Int32 := if shO σ k b d x.1 x.2.1 x.2.2.1 x.2.2.2 = -100000 then v else if v = -100000 ∨ (if high = 0 then shO σ k b d x.1 x.2.1 x.2.2.1 x.2.2.2 < v else v < shO σ k b d x.1 x.2.1 x.2.2.1 x.2.2.2) then shO σ k b d x.1 x.2.1 x.2.2.1 x.2.2.2 else v
def shn (σ : Mem) (k : Int32) (b d : Nat) (high : Int32) (L : List Lw) : Int32 := L.foldl (shnF σ k b d high) (-100000)
def sp_shown (σ : Mem) (b d h k : Int32) : Int32 := if isPl σ b d then shn σ k b.toNatClampNeg d.toNatClampNeg h (fI σ k b d).1 else -100000
theorem take_s {α : Type} {L : List α} {i : Nat} {x : α} (h : L[i]? = some x) : L.take (i + 1) = L.take i ++ [x] := by
  rw [List.take_add_one, h]; rfl
set_option maxHeartbeats 4000000 in
set_option maxRecDepth 100000 in
theorem L_X12_shown {F : Mem} {l : Launch} {G : Wd} {k h : Int32} {σ μ : Mem} {b d : Nat} {Q : Option Value → Mem → Prop} (hL : Lay F σ k μ) (hb : b < 5) (hd : d < 60) (hok : okBx σ b) (hS : SLf (fnd σ k b d) μ) : ∀ (q i : Nat) (v x : Int32) (x7 : Option Value), i + q = (fnd σ k b d).1.length + 1 → i ≤ (fnd σ k b d).1.length → x = nI i → v = shn σ k b d h ((fnd σ k b d).1.take i) → (∀ (x7 : Option Value) (x : Int32), AW l G KM RX12 cX12_shown 8 6 (some .int) Q 125 [some (.ref (gA G 0)), some (.int (nI b)), some (.int (nI d)), some (.int h), some (.int k), some (.int (shn σ k b d h (fnd σ k b d).1)), some (.int x), x7] [] μ) → AW l G KM RX12 cX12_shown 8 6 (some .int) Q 33 [some (.ref (gA G 0)), some (.int (nI b)), some (.int (nI d)), some (.int h), some (.int k), some (.int v), some (.int x), x7] [] μ := by
  have hlen := fnd_len (k := k) (d := d) hok
  intro q
  induction q with
  | zero => intro i v x x7 h1 h2; omega
  | succ q ih =>
    intro i v x x7 h1 h2 hxi hv hk
    subst hxi
    refine A_iload6 dX12_shown_33 ?_
    refine A_aload0 dX12_shown_35 ?_
    refine A_getI gf_X12_377 rfl dX12_shown_36 ?_
    rw [hS.1]
    refine A_icmp_ge (tgt := 125) dX12_shown_39 (by decide) (fun c_39 => ?_) (fun c_39 => ?_)
    · have e : i = (fnd σ k b d).1.length := by have := (nI_leI (a := (fnd σ k b d).1.length) (b := i) (by omega) (by omega)).mp c_39; omega
      subst e
      rw [List.take_length] at hv
      subst hv
      exact hk _ _
    · have hi : i < (fnd σ k b d).1.length := by rcases Nat.lt_or_ge i (fnd σ k b d).1.length with q | q; exact q; exact absurd (nI_le q (by omega)) c_39
      obtain ⟨x, hx⟩ : ∃ x, (fnd σ k b d).1[i]? = some x := ⟨_, List.getElem?_eq_getElem hi⟩
      have hxx := hS.2.2.2 _ _ hx
      have hxl := (allL_lag hok (fnd_mem (List.mem_of_getElem? hx))).2.2
      refine A_aload0 dX12_shown_42 ?_
      refine A_iload1 dX12_shown_43 ?_
      refine A_iload2 dX12_shown_44 ?_
      refine A_aload0 dX12_shown_45 ?_
      refine A_getR gf_X12_109 rfl dX12_shown_46 ?_
      refine A_iload6 dX12_shown_49 ?_
      refine A_iald (rfl) (vp_in_nI (by omega) (by omega)) dX12_shown_51 ?_
      rw [nI_c (by omega), hxx.1]
      refine A_aload0 dX12_shown_52 ?_
      refine A_getR gf_X12_112 rfl dX12_shown_53 ?_
      refine A_iload6 dX12_shown_56 ?_
      refine A_iald (rfl) (vp_in_nI (by omega) (by omega)) dX12_shown_58 ?_
      rw [nI_c (by omega), hxx.2.1]
      refine A_aload0 dX12_shown_59 ?_
      refine A_getR gf_X12_115 rfl dX12_shown_60 ?_
      refine A_iload6 dX12_shown_63 ?_
      refine A_iald (rfl) (vp_in_nI (by omega) (by omega)) dX12_shown_65 ?_
      rw [nI_c (by omega), hxx.2.2.1]
      refine A_aload0 dX12_shown_66 ?_
      refine A_getR gf_X12_118 rfl dX12_shown_67 ?_
      refine A_iload6 dX12_shown_70 ?_
      refine A_iald (rfl) (vp_in_nI (by omega) (by omega)) dX12_shown_72 ?_
      rw [nI_c (by omega), hxx.2.2.2]
      refine A_vi6 lk_X12_389 yv_X12_showsOn dX12_shown_73 (rfl) (rfl) (T_X12_showsOn hL hb hd hok hxl) (by decide) (Nat.le_of_ble_eq_true rfl) (fun r_73 μ_73 h_73 => ?_)
      obtain ⟨rfl, e_73⟩ := h_73
      replace e_73 := e_73.symm
      subst e_73
      refine A_istore7 dX12_shown_76 rfl (by decide) ?_
      refine A_iload7 dX12_shown_78 ?_
      refine A_ldcw dX12_shown_80 kc_X12_353 ?_
      refine A_icmp_eq (tgt := 119) dX12_shown_83 (by decide) (fun c_83 => ?_) (fun c_83 => ?_)
      · refine A_iinc6 dX12_shown_119 rfl rfl (by decide) ?_
        refine A_goto (tgt := 33) dX12_shown_122 (by decide) ?_
        refine ih (i + 1) _ _ _ (by omega) (by omega) (nI_1 i) ?_ hk
        rw [take_s hx, shn, List.foldl_append]
        show _ = shnF σ k b d h (shn σ k b d h ((fnd σ k b d).1.take i)) x
        rw [← hv]
        unfold shnF
        rw [if_pos c_83]
      · refine A_iload5 dX12_shown_86 ?_
        refine A_ldcw dX12_shown_88 kc_X12_353 ?_
        refine A_icmp_eq (tgt := 115) dX12_shown_91 (by decide) (fun c_91 => ?_) (fun c_91 => ?_)
        · refine A_iload7 dX12_shown_115 ?_
          refine A_istore5 dX12_shown_117 rfl (by decide) ?_
          refine A_iinc6 dX12_shown_119 rfl rfl (by decide) ?_
          refine A_goto (tgt := 33) dX12_shown_122 (by decide) ?_
          refine ih (i + 1) _ _ _ (by omega) (by omega) (nI_1 i) ?_ hk
          rw [take_s hx, shn, List.foldl_append]
          show _ = shnF σ k b d h (shn σ k b d h ((fnd σ k b d).1.take i)) x
          rw [← hv]
          unfold shnF
          rw [if_neg c_83, if_pos (Or.inl c_91)]
        · refine A_iload3 dX12_shown_94 ?_
          refine A_if_eq (tgt := 108) dX12_shown_95 (by decide) (fun c_95 => ?_) (fun c_95 => ?_)
          · refine A_iload7 dX12_shown_108 ?_
            refine A_iload5 dX12_shown_110 ?_
            refine A_icmp_ge (tgt := 119) dX12_shown_112 (by decide) (fun c_112 => ?_) (fun c_112 => ?_)
            · refine A_iinc6 dX12_shown_119 rfl rfl (by decide) ?_
              refine A_goto (tgt := 33) dX12_shown_122 (by decide) ?_
              refine ih (i + 1) _ _ _ (by omega) (by omega) (nI_1 i) ?_ hk
              rw [take_s hx, shn, List.foldl_append]
              show _ = shnF σ k b d h (shn σ k b d h ((fnd σ k b d).1.take i)) x
              rw [← hv]
              unfold shnF
              rw [if_neg c_83, if_neg ?_]
              rw [if_pos c_95]
              rintro (q | q)
              · exact c_91 q
              · have h1 := i_le.mp c_112; have h2 := i_lt.mp q; omega
            · refine A_iload7 dX12_shown_115 ?_
              refine A_istore5 dX12_shown_117 rfl (by decide) ?_
              refine A_iinc6 dX12_shown_119 rfl rfl (by decide) ?_
              refine A_goto (tgt := 33) dX12_shown_122 (by decide) ?_
              refine ih (i + 1) _ _ _ (by omega) (by omega) (nI_1 i) ?_ hk
              rw [take_s hx, shn, List.foldl_append]
              show _ = shnF σ k b d h (shn σ k b d h ((fnd σ k b d).1.take i)) x
              rw [← hv]
              unfold shnF
              rw [if_neg c_83, if_pos (Or.inr ?_)]
              rw [if_pos c_95]
              exact i_nle c_112
          · refine A_iload7 dX12_shown_98 ?_
            refine A_iload5 dX12_shown_100 ?_
            refine A_icmp_le (tgt := 119) dX12_shown_102 (by decide) (fun c_102 => ?_) (fun c_102 => ?_)
            · refine A_iinc6 dX12_shown_119 rfl rfl (by decide) ?_
              refine A_goto (tgt := 33) dX12_shown_122 (by decide) ?_
              refine ih (i + 1) _ _ _ (by omega) (by omega) (nI_1 i) ?_ hk
              rw [take_s hx, shn, List.foldl_append]
              show _ = shnF σ k b d h (shn σ k b d h ((fnd σ k b d).1.take i)) x
              rw [← hv]
              unfold shnF
              rw [if_neg c_83, if_neg ?_]
              rw [if_neg c_95]
              rintro (q | q)
              · exact c_91 q
              · have h1 := i_le.mp c_102; have h2 := i_lt.mp q; omega
            · refine A_goto (tgt := 115) dX12_shown_105 (by decide) ?_
              refine A_iload7 dX12_shown_115 ?_
              refine A_istore5 dX12_shown_117 rfl (by decide) ?_
              refine A_iinc6 dX12_shown_119 rfl rfl (by decide) ?_
              refine A_goto (tgt := 33) dX12_shown_122 (by decide) ?_
              refine ih (i + 1) _ _ _ (by omega) (by omega) (nI_1 i) ?_ hk
              rw [take_s hx, shn, List.foldl_append]
              show _ = shnF σ k b d h (shn σ k b d h ((fnd σ k b d).1.take i)) x
              rw [← hv]
              unfold shnF
              rw [if_neg c_83, if_pos (Or.inr ?_)]
              rw [if_neg c_95]
              exact i_nle c_102
set_option maxHeartbeats 4000000 in
set_option maxRecDepth 100000 in
theorem T_X12_shown {l : Launch} {G : Wd} {b d h k : Int32} {μ : Mem} (hw : WF μ) : Mt l G KM yX12_shown cX12_shown 8 (some .int) 6 [.ref (gA G 0), .int b, .int d, .int h, .int k] μ (Qi (fun v μ' => v = sp_shown μ b d h k ∧ Pm μ μ')) := by
  refine Mt.of (own := RX12) (n := 3) (by decide) rfl [some (.ref (gA G 0)), some (.int b), some (.int d), some (.int h), some (.int k), none, none, none] rfl (Nat.le_of_ble_eq_true rfl) ?_
  refine A_aload0 dX12_shown_0 ?_
  refine A_iload1 dX12_shown_1 ?_
  refine A_iload2 dX12_shown_2 ?_
  refine A_vi2 lk_X12_357 yv_X12_isPlace dX12_shown_3 (rfl) (rfl) (T_X12_isPlace) (by decide) (Nat.le_of_ble_eq_true rfl) (fun r_3 μ_3 h_3 => ?_)
  obtain ⟨rfl, e_3⟩ := h_3
  replace e_3 := e_3.symm
  subst e_3
  refine A_if_ne (tgt := 13) dX12_shown_6 (by decide) (fun c_6 => ?_) (fun c_6 => ?_)
  · have hp : isPl μ b d := Classical.not_not.mp (fun z => c_6 (bz_0.mpr z))
    obtain ⟨bn, dn, rfl, rfl, hb5, hd6, hok, eb, ed, hbn⟩ := i_pl hw.2.2 hp
    refine A_aload0 dX12_shown_13 ?_
    refine A_iload4 dX12_shown_14 ?_
    refine A_vv1 lk_X12_354 yv_X12_layOut dX12_shown_16 (rfl) (rfl) (T_X12_layOut hw.2.1) (by decide) (Nat.le_of_ble_eq_true rfl) (fun μ_16 h_16 => ?_)
    refine A_aload0 dX12_shown_19 ?_
    refine A_iload1 dX12_shown_20 ?_
    refine A_iload2 dX12_shown_21 ?_
    refine A_vv2 lk_X12_396 yv_X12_seekLaws dX12_shown_22 (rfl) (rfl) (T_X12_seekLaws h_16 hb5 hd6 hok) (by decide) (Nat.le_of_ble_eq_true rfl) (fun μ_22 h_22 => ?_)
    obtain ⟨hL2, hS2⟩ := h_22
    refine A_ldcw dX12_shown_25 kc_X12_353 ?_
    refine A_istore5 dX12_shown_28 rfl (by decide) ?_
    refine A_iconst (v := 0) dX12_shown_30 (by decide) ?_
    refine A_istore6 dX12_shown_31 rfl (by decide) ?_
    refine L_X12_shown (k := k) (σ := μ) hL2 hb5 hd6 hok hS2 ((fnd μ k bn dn).1.length + 1) 0 _ _ _ (by omega) (by omega) rfl rfl (fun x7 x => ?_)
    refine A_iload5 dX12_shown_125 ?_
    refine A_iret dX12_shown_127 ?_
    refine ⟨_, rfl, ?_, hL2.1⟩
    unfold sp_shown fI
    rw [if_pos hp, eb, ed]
  · refine A_ldcw dX12_shown_9 kc_X12_353 ?_
    refine A_iret dX12_shown_12 ?_
    refine ⟨_, rfl, ?_, Pm.rf⟩
    unfold sp_shown
    rw [if_neg (bz_0.mp c_6)]
def nxtS (σ : Mem) (k : Int32) : Nat → Int32 × Nat
  | 0 => (-1, 0)
  | n + 1 => if (nxtS σ k n).2 < (fnd σ k n 59).1.length then (nI n, (fnd σ k n 59).1.length) else nxtS σ k n
def sp_next (σ : Mem) (k : Int32) : Int32 := (nxtS σ k (nbx σ)).1
theorem nxtS_le {σ : Mem} (h : WFh σ) (k : Int32) : ∀ n, n ≤ nbx σ → (nxtS σ k n).2 ≤ 660 := by
  intro n
  induction n with
  | zero => intro _; exact Nat.zero_le _
  | succ n ih =>
    intro hn
    unfold nxtS
    split
    · exact (fnd_len (h.2 n (by omega))).2
    · exact ih (by omega)
set_option maxHeartbeats 4000000 in
set_option maxRecDepth 100000 in
theorem L_X12_next {F : Mem} {l : Launch} {G : Wd} {k : Int32} {σ : Mem} {Q : Option Value → Mem → Prop} (hw : WF σ) : ∀ (q i : Nat) (bst m x : Int32) (μ : Mem), i + q = nbx σ + 1 → i ≤ nbx σ → x = nI i → bst = (nxtS σ k i).1 → m = nI (nxtS σ k i).2 → Lay F σ k μ → (∀ (m x : Int32) (μ : Mem), Lay F σ k μ → AW l G KM RX12 cX12_next 5 6 (some .int) Q 54 [some (.ref (gA G 0)), some (.int k), some (.int (sp_next σ k)), some (.int m), some (.int x)] [] μ) → AW l G KM RX12 cX12_next 5 6 (some .int) Q 12 [some (.ref (gA G 0)), some (.int k), some (.int bst), some (.int m), some (.int x)] [] μ := by
  have hn5 := (hw.2.2.1.t).1
  intro q
  induction q with
  | zero => intro i bst m x μ h1 h2; omega
  | succ q ih =>
    intro i bst m x μ h1 h2 hxi hbst hm hL hk
    subst hxi
    refine A_iload4 dX12_next_12 ?_
    refine A_aload0 dX12_next_14 ?_
    refine A_getI gf_X12_321 rfl dX12_next_15 ?_
    rw [hL.1.1 0 31 rfl, (hw.2.2.1.t).2]
    refine A_icmp_ge (tgt := 54) dX12_next_18 (by decide) (fun c_18 => ?_) (fun c_18 => ?_)
    · have e : i = nbx σ := by have := (nI_leI (a := nbx σ) (b := i) (by omega) (by omega)).mp c_18; omega
      subst e
      subst hbst
      exact hk _ _ _ hL
    · have hi : i < nbx σ := by rcases Nat.lt_or_ge i (nbx σ) with q | q; exact q; exact absurd (nI_le q (by omega)) c_18
      have hok := hw.2.2.2 i hi
      have hlen := fnd_len (k := k) (d := 59) hok
      have hmx := nxtS_le hw.2.2 k i (by omega)
      refine A_aload0 dX12_next_21 ?_
      refine A_iload4 dX12_next_22 ?_
      refine A_bipush (v := 59) dX12_next_24 (by decide) ?_
      refine A_vv2 lk_X12_396 yv_X12_seekLaws dX12_next_26 (rfl) (rfl) (T_X12_seekLaws (d := 59) hL (by omega) (by omega) hok) (by decide) (Nat.le_of_ble_eq_true rfl) (fun μ_26 h_26 => ?_)
      obtain ⟨hL2, hS2⟩ := h_26
      refine A_aload0 dX12_next_29 ?_
      refine A_getI gf_X12_377 rfl dX12_next_30 ?_
      rw [hS2.1]
      refine A_iload3 dX12_next_33 ?_
      refine A_icmp_gt (tgt := 40) dX12_next_34 (by decide) (fun c_34 => ?_) (fun c_34 => ?_)
      · refine A_iload4 dX12_next_40 ?_
        refine A_istore2 dX12_next_42 rfl (by decide) ?_
        refine A_aload0 dX12_next_43 ?_
        refine A_getI gf_X12_377 rfl dX12_next_44 ?_
        rw [hS2.1]
        refine A_istore3 dX12_next_47 rfl (by decide) ?_
        refine A_iinc4 dX12_next_48 rfl rfl (by decide) ?_
        refine A_goto (tgt := 12) dX12_next_51 (by decide) ?_
        refine ih (i + 1) _ _ _ _ (by omega) (by omega) (nI_1 i) ?_ ?_ hL2 hk
        · rw [nxtS, if_pos ((nI_ltI (by omega) (by omega)).mp (by rw [← hm]; exact c_34))]
        · rw [nxtS, if_pos ((nI_ltI (by omega) (by omega)).mp (by rw [← hm]; exact c_34))]
      · refine A_goto (tgt := 48) dX12_next_37 (by decide) ?_
        refine A_iinc4 dX12_next_48 rfl rfl (by decide) ?_
        refine A_goto (tgt := 12) dX12_next_51 (by decide) ?_
        refine ih (i + 1) _ _ _ _ (by omega) (by omega) (nI_1 i) ?_ ?_ hL2 hk
        · rw [nxtS, if_neg (fun q => c_34 (by rw [hm]; exact (nI_ltI (by omega) (by omega)).mpr q))]; exact hbst
        · rw [nxtS, if_neg (fun q => c_34 (by rw [hm]; exact (nI_ltI (by omega) (by omega)).mpr q))]; exact hm
set_option maxHeartbeats 4000000 in
set_option maxRecDepth 100000 in
theorem T_X12_next {l : Launch} {G : Wd} {k : Int32} {μ : Mem} (hw : WF μ) : Mt l G KM yX12_next cX12_next 5 (some .int) 6 [.ref (gA G 0), .int k] μ (Qi (fun v μ' => v = sp_next μ k ∧ Pm μ μ')) := by
  refine Mt.of (own := RX12) (n := 3) (by decide) rfl [some (.ref (gA G 0)), some (.int k), none, none, none] rfl (Nat.le_of_ble_eq_true rfl) ?_
  refine A_aload0 dX12_next_0 ?_
  refine A_iload1 dX12_next_1 ?_
  refine A_vv1 lk_X12_354 yv_X12_layOut dX12_next_2 (rfl) (rfl) (T_X12_layOut hw.2.1) (by decide) (Nat.le_of_ble_eq_true rfl) (fun μ_2 h_2 => ?_)
  refine A_iconst (v := -1) dX12_next_5 (by decide) ?_
  refine A_istore2 dX12_next_6 rfl (by decide) ?_
  refine A_iconst (v := 0) dX12_next_7 (by decide) ?_
  refine A_istore3 dX12_next_8 rfl (by decide) ?_
  refine A_iconst (v := 0) dX12_next_9 (by decide) ?_
  refine A_istore4 dX12_next_10 rfl (by decide) ?_
  refine L_X12_next (σ := μ) hw (nbx μ + 1) 0 _ _ _ _ (by omega) (by omega) rfl rfl rfl h_2 (fun m x μ2 hL2 => ?_)
  refine A_iload2 dX12_next_54 ?_
  refine A_iret dX12_next_55 ?_
  exact ⟨_, rfl, rfl, hL2.1⟩

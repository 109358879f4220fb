/-! a sign's rank; a box of the hill by its name -/
def rkO (x : Int32) : Int32 := if x = 27 then 26 else if x = 24 ∨ x = 25 then 23 else x
def sp_named (μ : Mem) : Int32 := bxO (μ.2.1 3) (μ.2.1 0 9) (nbx μ)
set_option maxHeartbeats 4000000 in
set_option maxRecDepth 100000 in
theorem T_X12_rank {l : Launch} {G : Wd} {x : Int32} {μ : Mem}  : Mt l G KM yX12_rank cX12_rank 1 (some .int) 1 [.int x] μ (Qi (fun v μ' => v = rkO x ∧ μ' = μ)) := by
  refine Mt.of (own := RX12) (n := 0) (by decide) rfl [some (.int x)] rfl (Nat.le_of_ble_eq_true rfl) ?_
  refine A_iload0 dX12_rank_0 ?_
  refine A_bipush (v := 27) dX12_rank_1 (by decide) ?_
  refine A_icmp_ne (tgt := 11) dX12_rank_3 (by decide) (fun c_3 => ?_) (fun c_3 => ?_)
  · refine A_iload0 dX12_rank_11 ?_
    refine A_bipush (v := 24) dX12_rank_12 (by decide) ?_
    refine A_icmp_eq (tgt := 23) dX12_rank_14 (by decide) (fun c_14 => ?_) (fun c_14 => ?_)
    · refine A_bipush (v := 23) dX12_rank_23 (by decide) ?_
      refine A_goto (tgt := 29) dX12_rank_25 (by decide) ?_
      refine A_iret dX12_rank_29 ?_
      refine ⟨_, rfl, ?_, rfl⟩
      unfold rkO
      rw [if_neg c_3, if_pos (Or.inl c_14)]
    · refine A_iload0 dX12_rank_17 ?_
      refine A_bipush (v := 25) dX12_rank_18 (by decide) ?_
      refine A_icmp_ne (tgt := 28) dX12_rank_20 (by decide) (fun c_20 => ?_) (fun c_20 => ?_)
      · refine A_iload0 dX12_rank_28 ?_
        refine A_iret dX12_rank_29 ?_
        refine ⟨_, rfl, ?_, rfl⟩
        unfold rkO
        rw [if_neg c_3, if_neg (fun z => by rcases z with z | z; exact c_14 z; exact c_20 z)]
      · refine A_bipush (v := 23) dX12_rank_23 (by decide) ?_
        refine A_goto (tgt := 29) dX12_rank_25 (by decide) ?_
        refine A_iret dX12_rank_29 ?_
        refine ⟨_, rfl, ?_, rfl⟩
        unfold rkO
        rw [if_neg c_3, if_pos (Or.inr c_20)]
  · refine A_bipush (v := 26) dX12_rank_6 (by decide) ?_
    refine A_goto (tgt := 29) dX12_rank_8 (by decide) ?_
    refine A_iret dX12_rank_29 ?_
    refine ⟨_, rfl, ?_, rfl⟩
    unfold rkO
    rw [if_pos c_3]
set_option maxHeartbeats 4000000 in
set_option maxRecDepth 100000 in
theorem L_X12_named {l : Launch} {G : Wd} {μ : Mem} (hn : nbx μ ≤ 5) (hb : μ.1 0 31 = nI (nbx μ)) : ∀ (q k : Nat) (x y : Int32), k + q = nbx μ → x = bxO (μ.2.1 3) (μ.2.1 0 9) k → y = nI k → AW l G KM RX12 cX12_named 3 1 (some .int) (Qi (fun v μ' => v = sp_named μ ∧ μ' = μ)) 4 [some (.ref (gA G 0)), some (.int x), some (.int y)] [] μ := by
  intro q
  induction q with
  | zero =>
    intro k x y hq hx hy
    obtain rfl : k = nbx μ := by omega
    subst hy
    refine A_iload2 dX12_named_4 ?_
    refine A_aload0 dX12_named_5 ?_
    refine A_getI gf_X12_321 rfl dX12_named_6 ?_
    rw [hb]
    refine A_icmp_ge (tgt := 38) dX12_named_9 (by decide) (fun c_9 => ?_) (fun c_9 => absurd c_9 (fun z => z (nI_le (Nat.le_refl _) (by omega))))
    refine A_iload1 dX12_named_38 ?_
    refine A_iret dX12_named_39 ?_
    exact ⟨_, rfl, hx, rfl⟩
  | succ q ih =>
    intro k x y hq hx hy
    subst hy
    refine A_iload2 dX12_named_4 ?_
    refine A_aload0 dX12_named_5 ?_
    refine A_getI gf_X12_321 rfl dX12_named_6 ?_
    rw [hb]
    refine A_icmp_ge (tgt := 38) dX12_named_9 (by decide) (fun c_9 => absurd c_9 (fun z => by have h9 := (nI_leI (by omega) (by omega)).mp z; omega)) (fun c_9 => ?_)
    refine A_aload0 dX12_named_12 ?_
    refine A_getR gf_X12_21 rfl dX12_named_13 ?_
    refine A_iload2 dX12_named_16 ?_
    refine A_lald (rfl) (vp_in_nI (by omega) (by omega)) dX12_named_17 ?_
    rw [nI_c (by omega)]
    refine A_aload0 dX12_named_18 ?_
    refine A_getL gf_X12_190 rfl dX12_named_19 ?_
    refine A_lcmp dX12_named_22 ?_
    refine A_if_ne (tgt := 30) dX12_named_23 (by decide) (fun c_23 => ?_) (fun c_23 => ?_)
    · refine A_iload1 dX12_named_30 ?_
      refine A_istore1 dX12_named_31 rfl (by decide) ?_
      refine A_iinc2 dX12_named_32 rfl rfl (by decide) ?_
      refine A_goto (tgt := 4) dX12_named_35 (by decide) ?_
      refine ih (k + 1) _ _ (by omega) ?_ (nI_1 k)
      rw [bxO, if_neg (fun z => c_23 (lg_0.mpr z)), ← hx]
    · refine A_iload2 dX12_named_26 ?_
      refine A_goto (tgt := 31) dX12_named_27 (by decide) ?_
      refine A_istore1 dX12_named_31 rfl (by decide) ?_
      refine A_iinc2 dX12_named_32 rfl rfl (by decide) ?_
      refine A_goto (tgt := 4) dX12_named_35 (by decide) ?_
      refine ih (k + 1) _ _ (by omega) ?_ (nI_1 k)
      rw [bxO, if_pos (lg_0.mp c_23)]
set_option maxHeartbeats 4000000 in
set_option maxRecDepth 100000 in
theorem T_X12_named {l : Launch} {G : Wd} {μ : Mem} (hw : WFb μ) : Mt l G KM yX12_named cX12_named 3 (some .int) 1 [.ref (gA G 0)] μ (Qi (fun v μ' => v = sp_named μ ∧ μ' = μ)) := by
  refine Mt.of (own := RX12) (n := 2) (by decide) rfl [some (.ref (gA G 0)), none, none] rfl (Nat.le_of_ble_eq_true rfl) ?_
  refine A_iconst (v := -1) dX12_named_0 (by decide) ?_
  refine A_istore1 dX12_named_1 rfl (by decide) ?_
  refine A_iconst (v := 0) dX12_named_2 (by decide) ?_
  refine A_istore2 dX12_named_3 rfl (by decide) ?_
  exact L_X12_named hw.t.1 hw.t.2 (nbx μ) 0 _ _ (by omega) rfl rfl
def opQ (U : Nat → Int32) : Nat → Int32
  | 0 => 0
  | k + 1 => if opQ U k ≠ 0 ∨ U k = 30 then 1 else 0
theorem opQ_01 (U : Nat → Int32) (k : Nat) : opQ U k = 0 ∨ opQ U k = 1 := by
  cases k with
  | zero => exact Or.inl rfl
  | succ k => unfold opQ; split; exact Or.inr rfl; exact Or.inl rfl
set_option maxHeartbeats 4000000 in
set_option maxRecDepth 100000 in
theorem L_X12_isOpen {l : Launch} {G : Wd} {μ : Mem} {n : Nat} (hn : n ≤ 600) (hb : μ.1 0 74 = nI n) : ∀ (q k : Nat) (x y : Int32), k + q = n → x = opQ (μ.1 46) k → y = nI k → AW l G KM RX12 cX12_isOpen 3 1 (some .boolean) (Qi (fun v μ' => v = opQ (μ.1 46) n ∧ μ' = μ)) 4 [some (.ref (gA G 0)), some (.int x), some (.int y)] [] μ := by
  intro q
  induction q with
  | zero =>
    intro k x y hq hx hy
    obtain rfl : k = n := by omega
    subst hy
    refine A_iload2 dX12_isOpen_4 ?_
    refine A_aload0 dX12_isOpen_5 ?_
    refine A_getI gf_X12_425 rfl dX12_isOpen_6 ?_
    rw [hb]
    refine A_icmp_ge (tgt := 39) dX12_isOpen_9 (by decide) (fun c_9 => ?_) (fun c_9 => absurd c_9 (fun z => z (nI_le (Nat.le_refl _) (by omega))))
    refine A_iload1 dX12_isOpen_39 ?_
    refine A_zret dX12_isOpen_40 (by rw [hx]; exact opQ_01 _ _) ?_
    exact ⟨_, rfl, hx, rfl⟩
  | succ q ih =>
    intro k x y hq hx hy
    subst hy
    refine A_iload2 dX12_isOpen_4 ?_
    refine A_aload0 dX12_isOpen_5 ?_
    refine A_getI gf_X12_425 rfl dX12_isOpen_6 ?_
    rw [hb]
    refine A_icmp_ge (tgt := 39) dX12_isOpen_9 (by decide) (fun c_9 => absurd c_9 (fun z => by have h9 := (nI_leI (by omega) (by omega)).mp z; omega)) (fun c_9 => ?_)
    refine A_iload1 dX12_isOpen_12 ?_
    refine A_if_ne (tgt := 27) dX12_isOpen_13 (by decide) (fun c_13 => ?_) (fun c_13 => ?_)
    · refine A_iconst (v := 1) dX12_isOpen_27 (by decide) ?_
      refine A_goto (tgt := 32) dX12_isOpen_28 (by decide) ?_
      refine A_istore1 dX12_isOpen_32 rfl (by decide) ?_
      refine A_iinc2 dX12_isOpen_33 rfl rfl (by decide) ?_
      refine A_goto (tgt := 4) dX12_isOpen_36 (by decide) ?_
      refine ih (k + 1) _ _ (by omega) ?_ (nI_1 k)
      rw [opQ, if_pos (Or.inl (by rw [← hx]; exact c_13))]
    · refine A_aload0 dX12_isOpen_16 ?_
      refine A_getR gf_X12_151 rfl dX12_isOpen_17 ?_
      refine A_iload2 dX12_isOpen_20 ?_
      refine A_iald (rfl) (vp_in_nI (by omega) (by omega)) dX12_isOpen_21 ?_
      rw [nI_c (by omega)]
      refine A_bipush (v := 30) dX12_isOpen_22 (by decide) ?_
      refine A_icmp_ne (tgt := 31) dX12_isOpen_24 (by decide) (fun c_24 => ?_) (fun c_24 => ?_)
      · refine A_iconst (v := 0) dX12_isOpen_31 (by decide) ?_
        refine A_istore1 dX12_isOpen_32 rfl (by decide) ?_
        refine A_iinc2 dX12_isOpen_33 rfl rfl (by decide) ?_
        refine A_goto (tgt := 4) dX12_isOpen_36 (by decide) ?_
        refine ih (k + 1) _ _ (by omega) ?_ (nI_1 k)
        rw [opQ, if_neg (fun z => by rcases z with z | z; exact z (by rw [← hx]; exact c_13); exact c_24 z)]
      · refine A_iconst (v := 1) dX12_isOpen_27 (by decide) ?_
        refine A_goto (tgt := 32) dX12_isOpen_28 (by decide) ?_
        refine A_istore1 dX12_isOpen_32 rfl (by decide) ?_
        refine A_iinc2 dX12_isOpen_33 rfl rfl (by decide) ?_
        refine A_goto (tgt := 4) dX12_isOpen_36 (by decide) ?_
        refine ih (k + 1) _ _ (by omega) ?_ (nI_1 k)
        rw [opQ, if_pos (Or.inr c_24)]
set_option maxHeartbeats 4000000 in
set_option maxRecDepth 100000 in
theorem T_X12_isOpen {l : Launch} {G : Wd} {n : Nat} {μ : Mem} (hn : n ≤ 600) (hb : μ.1 0 74 = nI n) : Mt l G KM yX12_isOpen cX12_isOpen 3 (some .boolean) 1 [.ref (gA G 0)] μ (Qi (fun v μ' => v = opQ (μ.1 46) n ∧ μ' = μ)) := by
  refine Mt.of (own := RX12) (n := 2) (by decide) rfl [some (.ref (gA G 0)), none, none] rfl (Nat.le_of_ble_eq_true rfl) ?_
  refine A_iconst (v := 0) dX12_isOpen_0 (by decide) ?_
  refine A_istore1 dX12_isOpen_1 rfl (by decide) ?_
  refine A_iconst (v := 0) dX12_isOpen_2 (by decide) ?_
  refine A_istore2 dX12_isOpen_3 rfl (by decide) ?_
  exact L_X12_isOpen hn hb n 0 _ _ (by omega) rfl rfl

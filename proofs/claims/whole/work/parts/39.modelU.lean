/-! boxes by name; a range -/
def bxO (N : Nat → Int64) (w : Int64) : Nat → Int32
  | 0 => -1
  | k + 1 => if N k = w then nI k else bxO N w k
def nbN (μ : Mem) : Nat := (μ.1 0 29).toNatClampNeg
def WFn (μ : Mem) : Prop := ∃ t : Nat, t ≤ 5 ∧ μ.1 0 29 = nI t
theorem WFn.t {μ : Mem} (h : WFn μ) : nbN μ ≤ 5 ∧ μ.1 0 29 = nI (nbN μ) := by
  obtain ⟨t, h1, h2⟩ := h
  have e : nbN μ = t := by unfold nbN; rw [h2]; exact nI_c (by omega)
  rw [e]
  exact ⟨h1, h2⟩
def sp_boxOf (μ : Mem) (w : Int64) : Int32 := bxO (μ.2.1 2) w (nbN μ)
set_option maxHeartbeats 4000000 in
set_option maxRecDepth 100000 in
theorem L_X12_boxOf {l : Launch} {G : Wd} {μ : Mem} {w : Int64} (hn : nbN μ ≤ 5) (hb : μ.1 0 29 = nI (nbN μ)) : ∀ (q k : Nat) (x y : Int32), k + q = nbN μ → x = bxO (μ.2.1 2) w k → y = nI k → AW l G KM RX12 cX12_boxOf 5 1 (some .int) (Qi (fun v μ' => v = sp_boxOf μ w ∧ μ' = μ)) 5 [some (.ref (gA G 0)), some (.long w), none, some (.int x), some (.int y)] [] μ := by
  intro q
  induction q with
  | zero =>
    intro k x y hq hx hy
    obtain rfl : k = nbN μ := by omega
    subst hy
    refine A_iload4 dX12_boxOf_5 ?_
    refine A_aload0 dX12_boxOf_7 ?_
    refine A_getI gf_X12_275 rfl dX12_boxOf_8 ?_
    rw [hb]
    refine A_icmp_ge (tgt := 39) dX12_boxOf_11 (by decide) (fun c_11 => ?_) (fun c_11 => absurd c_11 (fun z => z (nI_le (Nat.le_refl _) (by omega))))
    refine A_iload3 dX12_boxOf_39 ?_
    refine A_iret dX12_boxOf_40 ?_
    exact ⟨_, rfl, hx, rfl⟩
  | succ q ih =>
    intro k x y hq hx hy
    subst hy
    refine A_iload4 dX12_boxOf_5 ?_
    refine A_aload0 dX12_boxOf_7 ?_
    refine A_getI gf_X12_275 rfl dX12_boxOf_8 ?_
    rw [hb]
    refine A_icmp_ge (tgt := 39) dX12_boxOf_11 (by decide) (fun c_11 => absurd c_11 (fun z => by have h9 := (nI_leI (by omega) (by omega)).mp z; omega)) (fun c_11 => ?_)
    refine A_aload0 dX12_boxOf_14 ?_
    refine A_getR gf_X12_17 rfl dX12_boxOf_15 ?_
    refine A_iload4 dX12_boxOf_18 ?_
    refine A_lald (rfl) (vp_in_nI (by omega) (by omega)) dX12_boxOf_20 ?_
    rw [nI_c (by omega)]
    refine A_lload1 dX12_boxOf_21 ?_
    refine A_lcmp dX12_boxOf_22 ?_
    refine A_if_ne (tgt := 31) dX12_boxOf_23 (by decide) (fun c_23 => ?_) (fun c_23 => ?_)
    · refine A_iload3 dX12_boxOf_31 ?_
      refine A_istore3 dX12_boxOf_32 rfl (by decide) ?_
      refine A_iinc4 dX12_boxOf_33 rfl rfl (by decide) ?_
      refine A_goto (tgt := 5) dX12_boxOf_36 (by decide) ?_
      refine ih (k + 1) _ _ (by omega) ?_ (nI_1 k)
      rw [bxO, if_neg (fun z => c_23 (lg_0.mpr z)), ← hx]
    · refine A_iload4 dX12_boxOf_26 ?_
      refine A_goto (tgt := 32) dX12_boxOf_28 (by decide) ?_
      refine A_istore3 dX12_boxOf_32 rfl (by decide) ?_
      refine A_iinc4 dX12_boxOf_33 rfl rfl (by decide) ?_
      refine A_goto (tgt := 5) dX12_boxOf_36 (by decide) ?_
      refine ih (k + 1) _ _ (by omega) ?_ (nI_1 k)
      rw [bxO, if_pos (lg_0.mp c_23)]
set_option maxHeartbeats 4000000 in
set_option maxRecDepth 100000 in
theorem T_X12_boxOf {l : Launch} {G : Wd} {w : Int64} {μ : Mem} (hw : WFn μ) : Mt l G KM yX12_boxOf cX12_boxOf 5 (some .int) 1 [.ref (gA G 0), .long w] μ (Qi (fun v μ' => v = sp_boxOf μ w ∧ μ' = μ)) := by
  refine Mt.of (own := RX12) (n := 2) (by decide) rfl [some (.ref (gA G 0)), some (.long w), none, none, none] rfl (Nat.le_of_ble_eq_true rfl) ?_
  refine A_iconst (v := -1) dX12_boxOf_0 (by decide) ?_
  refine A_istore3 dX12_boxOf_1 rfl (by decide) ?_
  refine A_iconst (v := 0) dX12_boxOf_2 (by decide) ?_
  refine A_istore4 dX12_boxOf_3 rfl (by decide) ?_
  exact L_X12_boxOf hw.t.1 hw.t.2 (nbN μ) 0 _ _ (by omega) rfl rfl

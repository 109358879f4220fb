/-! an old box by its name -/
def obB (μ : Mem) : Int32 := sp_boxOf (tkn μ) ((tkn μ).2.1 0 9)
def obM (μ : Mem) : Mem := if isNm (tkn μ) then (if obB μ < 0 then sp_spoil (tkn μ) 5 else tkn μ) else sp_spoil (tkn μ) 2
def sp_oldBox (μ : Mem) : Int32 × Mem := (obB μ, if (obM μ).1 0 2 = 0 then tkn (obM μ) else obM μ)
theorem WFx.oM {μ : Mem} (h : WFx μ) : WFx (obM μ) := by
  unfold obM
  split
  · split
    · exact h.tn.spoil
    · exact h.tn
  · exact h.tn.spoil
theorem WFx.oldBox {μ : Mem} (h : WFx μ) : WFx (sp_oldBox μ).2 := by
  unfold sp_oldBox
  dsimp only
  split
  · exact h.oM.tn
  · exact h.oM
theorem Rd.oM {a b : Mem} (h : Rd a b) : Rd a (obM b) := by
  unfold obM
  split
  · split
    · exact h.tk.sp
    · exact h.tk
  · exact h.tk.sp
theorem Rd.oB {a b : Mem} (h : Rd a b) : Rd a (sp_oldBox b).2 := by
  unfold sp_oldBox
  dsimp only
  split
  · exact h.oM.tk
  · exact h.oM
set_option maxHeartbeats 4000000 in
set_option maxRecDepth 100000 in
theorem L_X12_oldBox_37 {l : Launch} {G : Wd} {μ : Mem} (hw : WFx μ) : AW l G KM RX12 cX12_oldBox 2 3 (some .int) (Qi (fun v μ' => sp_oldBox μ = (v, μ'))) 37 [some (.ref (gA G 0)), some (.int (obB μ))] [] (obM μ) := by
  refine A_aload0 dX12_oldBox_37 ?_
  refine A_getI gf_X12_210 rfl dX12_oldBox_38 ?_
  refine A_if_ne (tgt := 48) dX12_oldBox_41 (by decide) (fun c_41 => ?_) (fun c_41 => ?_)
  · refine A_iload1 dX12_oldBox_48 ?_
    refine A_iret dX12_oldBox_49 ?_
    refine ⟨_, rfl, ?_⟩
    unfold sp_oldBox
    rw [if_neg c_41]
  · refine A_aload0 dX12_oldBox_44 ?_
    refine A_vv0 lk_X12_213 yv_X12_token dX12_oldBox_45 (rfl) (rfl) (T_X12_tkn hw.oM) (by decide) (Nat.le_of_ble_eq_true rfl) (fun μ_45 h_45 => ?_)
    refine A_iload1 dX12_oldBox_48 ?_
    refine A_iret dX12_oldBox_49 ?_
    refine ⟨_, rfl, ?_⟩
    unfold sp_oldBox
    rw [if_pos c_41, h_45]
set_option maxHeartbeats 4000000 in
set_option maxRecDepth 100000 in
theorem T_X12_oldBox {l : Launch} {G : Wd} {μ : Mem} (hw : WFx μ) (hn0 : WFn μ) : Mt l G KM yX12_oldBox cX12_oldBox 2 (some .int) 3 [.ref (gA G 0)] μ (Qi (fun v μ' => sp_oldBox μ = (v, μ'))) := by
  refine Mt.of (own := RX12) (n := 1) (by decide) rfl [some (.ref (gA G 0)), none] rfl (Nat.le_of_ble_eq_true rfl) ?_
  refine A_aload0 dX12_oldBox_0 ?_
  refine A_vv0 lk_X12_213 yv_X12_token dX12_oldBox_1 (rfl) (rfl) (T_X12_tkn hw) (by decide) (Nat.le_of_ble_eq_true rfl) (fun μ_1 h_1 => ?_)
  subst h_1
  refine A_aload0 dX12_oldBox_4 ?_
  refine A_aload0 dX12_oldBox_5 ?_
  refine A_getL gf_X12_190 rfl dX12_oldBox_6 ?_
  refine A_vi1 lk_X12_293 yv_X12_boxOf dX12_oldBox_9 (rfl) (rfl) (T_X12_boxOf (Rd.rf.tk.n hn0)) (by decide) (Nat.le_of_ble_eq_true rfl) (fun r_9 μ_9 h_9 => ?_)
  obtain ⟨rfl, e_9⟩ := h_9
  replace e_9 := e_9.symm
  subst e_9
  refine A_istore1 dX12_oldBox_12 rfl (by decide) ?_
  refine A_aload0 dX12_oldBox_13 ?_
  refine A_vi0 lk_X12_289 yv_X12_isName dX12_oldBox_14 (rfl) (rfl) (T_X12_isName) (by decide) (Nat.le_of_ble_eq_true rfl) (fun r_14 μ_14 h_14 => ?_)
  obtain ⟨rfl, e_14⟩ := h_14
  replace e_14 := e_14.symm
  subst e_14
  refine A_if_ne (tgt := 28) dX12_oldBox_17 (by decide) (fun c_17 => ?_) (fun c_17 => ?_)
  · refine A_iload1 dX12_oldBox_28 ?_
    refine A_if_ge (tgt := 37) dX12_oldBox_29 (by decide) (fun c_29 => ?_) (fun c_29 => ?_)
    · have hn : isNm (tkn μ) := Decidable.not_not.mp (fun z => c_17 (bz_f z))
      have e37 : obM μ = tkn μ := (if_pos hn).trans (if_neg (Int32.not_lt.mpr c_29))
      refine A_setm e37.symm ?_
      exact L_X12_oldBox_37 hw
    · refine A_aload0 dX12_oldBox_32 ?_
      refine A_iconst (v := 5) dX12_oldBox_33 (by decide) ?_
      refine A_vv1 lk_X12_272 yv_X12_spoil dX12_oldBox_34 (rfl) (rfl) (T_X12_spoil) (by decide) (Nat.le_of_ble_eq_true rfl) (fun μ_34 h_34 => ?_)
      have hn : isNm (tkn μ) := Decidable.not_not.mp (fun z => c_17 (bz_f z))
      have e37 : obM μ = sp_spoil (tkn μ) 5 := (if_pos hn).trans (if_pos (Int32.not_le.mp c_29))
      rw [h_34, ← e37]
      exact L_X12_oldBox_37 hw
  · refine A_aload0 dX12_oldBox_20 ?_
    refine A_iconst (v := 2) dX12_oldBox_21 (by decide) ?_
    refine A_vv1 lk_X12_272 yv_X12_spoil dX12_oldBox_22 (rfl) (rfl) (T_X12_spoil) (by decide) (Nat.le_of_ble_eq_true rfl) (fun μ_22 h_22 => ?_)
    refine A_goto (tgt := 37) dX12_oldBox_25 (by decide) ?_
    have e37 : obM μ = sp_spoil (tkn μ) 2 := if_neg (bz_0.mp c_17)
    rw [h_22, ← e37]
    exact L_X12_oldBox_37 hw

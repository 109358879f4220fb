/-! another line: its walk -/
theorem roD_k {m : Mem} : Mk (roC m).2 (roD m) := by
  have h1 : Mk (roC m).2 (roM m) := by
    unfold roM
    split
    · exact Mk.rf.w (by omega)
    · exact Mk.rf
  have h2 : Mk (roC m).2 (roN m) := by
    unfold roN
    split
    · exact h1.w (by omega)
    · exact h1
  exact h2.w (by omega)
theorem flN_k {a : Mem} {i : Nat} (hi : 2 ≤ i) : ∀ (n k : Nat) (b : Mem), Mk a b → Mk a (flN b i k n) := by
  intro n
  induction n with
  | zero => intro k b h; exact h
  | succ n ih => intro k b h; exact ih _ _ (h.w (by omega))
theorem roF_k {m : Mem} : Mk (roE m).2 (roF m) := by
  unfold roF
  split
  · exact flN_k (by have := roI_b m; omega) _ _ _ Mk.rf
  · exact Mk.rf
theorem old_e (m : Mem) : (sp_oldBox m).2 = hlT (odA (tkn m)) := by
  unfold sp_oldBox hlT obM odA obB
  rfl
theorem old_1 (m : Mem) : (sp_oldBox m).1 = sp_boxOf (tkn m) ((tkn m).2.1 0 9) := by
  unfold sp_oldBox obB
  rfl
theorem nI_59 {x : Int32} {a : Nat} (h1 : nI a ≤ x) (ha : a < 60) (h2 : x ≤ 59) : ∃ t : Nat, t < 60 ∧ a ≤ t ∧ x = nI t := by
  have b1 := i_le.mp h1
  have b2 := i_le.mp h2
  rw [nI_i (by omega)] at b1
  have b3 : (59 : Int32).toInt = 59 := rfl
  obtain ⟨t, t1, t2, t3, -⟩ := i_nat (x := x) (i_le.mpr (by have := i_0; omega))
  exact ⟨t, by omega, by omega, t2⟩
set_option maxHeartbeats 400000 in
set_option maxRecDepth 100000 in
theorem L_X3_ot_77 {x3 : Option Value} {l : Launch} {G : Wd} {kd : Int32} {m μ0 μ : Mem} (hS : okS G) (h16 : noN m < 16) (h30 : m.1 0 30 = nI (noN m)) (hn : WFn m) (h0 : m.1 0 2 = 0) (hH : HI m μ0) (ho : onc m) (k1 : isWd m 470021465444 ↔ kd = 139) (k2 : isWd m 440005915496 ↔ kd = 140) (t : TS G (roA m).2 μ) (f : LnF (noN m) μ0 μ) (d0 : μ.1 20 (noN m) = kd) (d1 : (roA m).2.1 0 2 = 0 → μ.1 21 (noN m) = (roA m).1) : AW l G KC RX3 cX3_otherLine 4 8 none (Qv (fun μ' => TS G (hlT (hlS (sp_readOther m))) μ' ∧ Fh μ0 μ' ∧ ((hlT (hlS (sp_readOther m))).1 0 2 = 0 → HI (hlT (hlS (sp_readOther m))) μ'))) 77 [some (.ref (gA G 24)), some (.int kd), some (.int (nI (noN m))), x3] [] μ := by
  have eB : roB m = sp_want (roA m).2 28526 := if_pos ho
  have eC : rng 0 (roB m) 1 59 = roC m := by
    rw [rng_0 rfl]
    show sp_told (roB m) 1 59 = sp_told (roB m) (rz m) 59
    rw [show rz m = 1 from if_pos ho]
  refine A_aload0 dX3_otherLine_77 ?_
  refine A_getR gf_X3_9 rfl dX3_otherLine_78 ?_
  refine A_sipush (v := 141) dX3_otherLine_81 (by decide) ?_
  refine A_val (y := nI (128 + 13)) (by decide) ?_
  refine A_vv1 lk_X3_66 yv_X9_take dX3_otherLine_84 (rfl) (rfl) (T_take_w (i := 13) hS t (by decide)) (by decide) (Nat.le_of_ble_eq_true rfl) (fun μ_84 h_84 => ?_)
  have q1 := h_84
  rw [wd_13, ← eB] at q1
  refine A_aload0 dX3_otherLine_87 ?_
  refine A_getR gf_X3_15 rfl dX3_otherLine_88 ?_
  refine A_getR gf_X3_114 rfl dX3_otherLine_91 ?_
  refine A_iload2 dX3_otherLine_94 ?_
  refine A_aload0 dX3_otherLine_95 ?_
  refine A_iconst (v := 1) dX3_otherLine_96 (by decide) ?_
  refine A_bipush (v := 59) dX3_otherLine_97 (by decide) ?_
  refine A_iconst (v := 0) dX3_otherLine_99 (by decide) ?_
  refine A_vi3 lk_X3_69 yv_X3_takeNumber dX3_otherLine_100 (rfl) (rfl) (T_X3_takeNumber hS q1.1) (by decide) (Nat.le_of_ble_eq_true rfl) (fun r_100 μ_100 h_100 => ?_)
  obtain ⟨q2, q3, q4⟩ := h_100
  rw [eC] at q3 q4
  refine A_iast (rfl) (vp_in_nI (by omega) (by omega)) dX3_otherLine_103 ?_
  rw [nI_c (by omega)]
  refine A_aload0 dX3_otherLine_104 ?_
  refine A_getR gf_X3_15 rfl dX3_otherLine_105 ?_
  refine A_getR gf_X3_117 rfl dX3_otherLine_108 ?_
  refine A_iload2 dX3_otherLine_111 ?_
  refine A_aload0 dX3_otherLine_112 ?_
  refine A_getR gf_X3_15 rfl dX3_otherLine_113 ?_
  refine A_getR gf_X3_114 rfl dX3_otherLine_116 ?_
  refine A_iload2 dX3_otherLine_119 ?_
  refine A_iald (rfl) (vp_in_nI (by omega) (by omega)) dX3_otherLine_120 ?_
  rw [nI_c (by omega), wI_same]
  refine A_iast (rfl) (vp_in_nI (by omega) (by omega)) dX3_otherLine_121 ?_
  rw [nI_c (by omega)]
  refine A_goto (tgt := 177) dX3_otherLine_122 (by decide) ?_
  refine L_X3_ot_177 hS h16 h30 hn h0 hH ?_ ((((f.f4 q1.2).f4 q2).w (by omega)).w (by omega)) (fun y => ?_)
  · refine TS.mv (m := (roC m).2) q3 ?_ ((Ck.rf.w (by omega)).w (by omega))
    by_cases z : 0 < (roC m).2.1 0 2
    · rw [show sp_readOther m = (roC m).2 from if_pos z]; exact Mk.rf
    · rw [show sp_readOther m = roD m from (if_neg z).trans (if_pos ho)]; exact roD_k
  · have yC : ¬ 0 < (roC m).2.1 0 2 := fun z => by
      have e9 : sp_readOther m = (roC m).2 := if_pos z
      rw [e9] at y
      exact ps_0 z y
    have e9 : sp_readOther m = roD m := (if_neg yC).trans (if_pos ho)
    have yC0 : (roC m).2.1 0 2 = 0 := Fg.z q3.f0 (Int32.not_lt.mp yC)
    have yB : (roB m).1 0 2 = 0 := (told_F0 yC0).1
    have yA := roB_F0 yB
    obtain ⟨fn, f6, ef⟩ := roC_F0 yC0
    obtain ⟨bn, b5, eb⟩ := roA_F0 hn yA
    have ev : r_100 = nI fn := (q4 yC0).trans ef
    refine ⟨nI bn, nI fn, nI fn, ?_, ?_, ?_, ?_, ⟨fn, fn, f6, f6, rfl, rfl⟩, ?_⟩
    · rw [wI_ne (by omega), wI_ne (by omega), q2.1 20 _ (by omega), q1.2.1 20 _ (by omega)]; exact d0
    · rw [wI_ne (by omega), wI_ne (by omega), q2.1 21 _ (by omega), q1.2.1 21 _ (by omega), d1 yA, eb]
    · rw [wI_ne (by omega), wI_same, ev]
    · rw [wI_same, ev]
    · rw [e9]; exact ro_once ho k1 k2 b5 eb rfl f6 ef
set_option maxHeartbeats 400000 in
set_option maxRecDepth 100000 in
theorem L_X3_ot_125 {x3 : Option Value} {l : Launch} {G : Wd} {kd : Int32} {m μ0 μ : Mem} (hS : okS G) (h16 : noN m < 16) (h30 : m.1 0 30 = nI (noN m)) (hn : WFn m) (h0 : m.1 0 2 = 0) (hH : HI m μ0) (ho : ¬ onc m) (hi : isOt m) (k1 : isWd m 470021465444 ↔ kd = 139) (k2 : isWd m 440005915496 ↔ kd = 140) (k3 : isWd m 108243635103086 ↔ kd = 142) (k4 : isWd m 29395908993245561 ↔ kd = 143) (k5 : isWd m 1835099237 ↔ kd = 144) (t : TS G (roA m).2 μ) (f : LnF (noN m) μ0 μ) (d0 : μ.1 20 (noN m) = kd) (d1 : (roA m).2.1 0 2 = 0 → (kd = 142 → μ.1 21 (noN m) = (roA m).1) ∧ (¬ kd = 142 → μ.1 21 (noN m) = -1)) : AW l G KC RX3 cX3_otherLine 4 8 none (Qv (fun μ' => TS G (hlT (hlS (sp_readOther m))) μ' ∧ Fh μ0 μ' ∧ ((hlT (hlS (sp_readOther m))).1 0 2 = 0 → HI (hlT (hlS (sp_readOther m))) μ'))) 125 [some (.ref (gA G 24)), some (.int kd), some (.int (nI (noN m))), x3] [] μ := by
  have eB : roB m = (roA m).2 := if_neg ho
  have eC : rng 0 (roA m).2 0 59 = roC m := by
    rw [rng_0 rfl, ← eB]
    show sp_told (roB m) 0 59 = sp_told (roB m) (rz m) 59
    rw [show rz m = 0 from if_neg ho]
  refine A_aload0 dX3_otherLine_125 ?_
  refine A_getR gf_X3_15 rfl dX3_otherLine_126 ?_
  refine A_getR gf_X3_114 rfl dX3_otherLine_129 ?_
  refine A_iload2 dX3_otherLine_132 ?_
  refine A_aload0 dX3_otherLine_133 ?_
  refine A_iconst (v := 0) dX3_otherLine_134 (by decide) ?_
  refine A_bipush (v := 59) dX3_otherLine_135 (by decide) ?_
  refine A_iconst (v := 0) dX3_otherLine_137 (by decide) ?_
  refine A_vi3 lk_X3_69 yv_X3_takeNumber dX3_otherLine_138 (rfl) (rfl) (T_X3_takeNumber hS t) (by decide) (Nat.le_of_ble_eq_true rfl) (fun r_138 μ_138 h_138 => ?_)
  obtain ⟨q2, q3, q4⟩ := h_138
  rw [eC] at q3 q4
  refine A_iast (rfl) (vp_in_nI (by omega) (by omega)) dX3_otherLine_141 ?_
  rw [nI_c (by omega)]
  have eDp : 0 < (roC m).2.1 0 2 → (if 0 < (roC m).2.1 0 2 then (roC m).2 else roD m) = (roC m).2 := fun z => if_pos z
  have eDn : ¬ 0 < (roC m).2.1 0 2 → (if 0 < (roC m).2.1 0 2 then (roC m).2 else roD m) = roD m := fun z => if_neg z
  have t4 : TS G (if 0 < (roC m).2.1 0 2 then (roC m).2 else roD m) (wI μ_138 22 (noN m) r_138) := by
    refine TS.mv (m := (roC m).2) q3 ?_ (Ck.rf.w (by omega))
    split
    · exact Mk.rf
    · exact roD_k
  refine A_aload0 dX3_otherLine_142 ?_
  refine A_getR gf_X3_9 rfl dX3_otherLine_143 ?_
  refine A_sipush (v := 137) dX3_otherLine_146 (by decide) ?_
  refine A_val (y := nI (128 + 9)) (by decide) ?_
  refine A_vv1 lk_X3_66 yv_X9_take dX3_otherLine_149 (rfl) (rfl) (T_take_w (i := 9) hS t4 (by decide)) (by decide) (Nat.le_of_ble_eq_true rfl) (fun μ_149 h_149 => ?_)
  have q5 := h_149
  rw [wd_9] at q5
  refine A_aload0 dX3_otherLine_152 ?_
  refine A_getR gf_X3_15 rfl dX3_otherLine_153 ?_
  refine A_getR gf_X3_117 rfl dX3_otherLine_156 ?_
  refine A_iload2 dX3_otherLine_159 ?_
  refine A_aload0 dX3_otherLine_160 ?_
  refine A_aload0 dX3_otherLine_161 ?_
  refine A_getR gf_X3_15 rfl dX3_otherLine_162 ?_
  refine A_getR gf_X3_114 rfl dX3_otherLine_165 ?_
  refine A_iload2 dX3_otherLine_168 ?_
  refine A_iald (rfl) (vp_in_nI (by omega) (by omega)) dX3_otherLine_169 ?_
  rw [nI_c (by omega), q5.2.1 22 _ (by omega), wI_same]
  refine A_bipush (v := 59) dX3_otherLine_170 (by decide) ?_
  refine A_iconst (v := 0) dX3_otherLine_172 (by decide) ?_
  refine A_vi3 lk_X3_69 yv_X3_takeNumber dX3_otherLine_173 (rfl) (rfl) (T_X3_takeNumber hS q5.1) (by decide) (Nat.le_of_ble_eq_true rfl) (fun r_173 μ_173 h_173 => ?_)
  obtain ⟨q6, q7, q8⟩ := h_173
  refine A_iast (rfl) (vp_in_nI (by omega) (by omega)) dX3_otherLine_176 ?_
  rw [nI_c (by omega)]
  refine L_X3_ot_177 hS h16 h30 hn h0 hH ?_ ((((((f.f4 q2).w (by omega)).f4 q5.2).f4 q6)).w (by omega)) (fun y => ?_)
  · refine TS.cw ?_ (by omega)
    by_cases yC : 0 < (roC m).2.1 0 2
    · rw [show sp_readOther m = (roC m).2 from if_pos yC]
      rw [eDp yC] at q7
      rw [show sp_want (roC m).2 29807 = (roC m).2 from if_pos yC, rng_f yC] at q7
      exact q7
    · rw [show sp_readOther m = roF m from (if_neg yC).trans (if_neg ho)]
      have yC0 : (roC m).2.1 0 2 = 0 := Fg.z q3.f0 (Int32.not_lt.mp yC)
      rw [eDn yC, q4 yC0] at q7
      rw [rng_0 rfl] at q7
      exact TS.mv (m := (roE m).2) q7 roF_k Ck.rf
  · have yC : ¬ 0 < (roC m).2.1 0 2 := fun z => by
      have e9 : sp_readOther m = (roC m).2 := if_pos z
      rw [e9] at y
      exact ps_0 z y
    have e9 : sp_readOther m = roF m := (if_neg yC).trans (if_neg ho)
    have yC0 : (roC m).2.1 0 2 = 0 := Fg.z q3.f0 (Int32.not_lt.mp yC)
    have yB : (roB m).1 0 2 = 0 := (told_F0 yC0).1
    have yA := roB_F0 yB
    have yE : (roE m).2.1 0 2 = 0 := by
      rw [e9] at y
      exact (roF_k.1 2 (by omega)).symm.trans y
    obtain ⟨fn, f6, ef⟩ := roC_F0 yC0
    obtain ⟨bn, b5, eb⟩ := roA_F0 hn yA
    have ev : r_138 = nI fn := (q4 yC0).trans ef
    have eE : rng 0 (sp_want (if 0 < (roC m).2.1 0 2 then (roC m).2 else roD m) 29807) r_138 59 = roE m := by
      rw [eDn yC, q4 yC0, rng_0 rfl]
      rfl
    rw [eE] at q8
    have ev2 := q8 yE
    have tE := told_F0 (show (sp_told (sp_want (roD m) 29807) (roC m).1 59).2.1 0 2 = 0 from yE)
    have eE1 : (roE m).1 = (sp_want (roD m) 29807).1 0 8 := by
      show (sp_told (sp_want (roD m) 29807) (roC m).1 59).1 = _
      rw [tE.2.2.2.2]
    have t3 := tE.2.2.1
    rw [ef] at t3
    obtain ⟨tn, t6, tf, et⟩ := nI_59 t3 f6 tE.2.2.2.1
    rw [← eE1] at et
    refine ⟨if kd = 142 then nI bn else -1, nI fn, nI tn, ?_, ?_, ?_, ?_, ⟨fn, tn, f6, t6, rfl, rfl⟩, ?_⟩
    · rw [wI_ne (by omega), q6.1 20 _ (by omega), q5.2.1 20 _ (by omega), wI_ne (by omega), q2.1 20 _ (by omega)]; exact d0
    · rw [wI_ne (by omega), q6.1 21 _ (by omega), q5.2.1 21 _ (by omega), wI_ne (by omega), q2.1 21 _ (by omega)]
      by_cases c : kd = 142
      · rw [if_pos c, (d1 yA).1 c, eb]
      · rw [if_neg c, (d1 yA).2 c]
    · rw [wI_ne (by omega), q6.1 22 _ (by omega), q5.2.1 22 _ (by omega), wI_same, ev]
    · rw [wI_same, ev2, et]
    · rw [e9]
      exact ro_rng ho hi k1 k2 k3 k4 k5 b5 (fun c => ⟨eb, if_pos c⟩) (fun c => if_neg c) f6 ef t6 tf et yE
set_option maxHeartbeats 400000 in
set_option maxRecDepth 100000 in
theorem L_X3_ot_27 {g : Int32} {x3 : Option Value} {l : Launch} {G : Wd} {kd : Int32} {m μ0 : Mem} (hS : okS G) (h16 : noN m < 16) (h30 : m.1 0 30 = nI (noN m)) (hn : WFn m) (h0 : m.1 0 2 = 0) (hH : HI m μ0) (h : TS G m μ0) (hi : isOt m) (k1 : isWd m 470021465444 ↔ kd = 139) (k2 : isWd m 440005915496 ↔ kd = 140) (k3 : isWd m 108243635103086 ↔ kd = 142) (k4 : isWd m 29395908993245561 ↔ kd = 143) (k5 : isWd m 1835099237 ↔ kd = 144) (hg : (¬ g = 0 ∧ (kd = 139 ∨ kd = 140)) ∨ (g = 0 ∧ ¬ kd = 139 ∧ ¬ kd = 140)) : AW l G KC RX3 cX3_otherLine 4 8 none (Qv (fun μ' => TS G (hlT (hlS (sp_readOther m))) μ' ∧ Fh μ0 μ' ∧ ((hlT (hlS (sp_readOther m))).1 0 2 = 0 → HI (hlT (hlS (sp_readOther m))) μ'))) 27 [some (.ref (gA G 24)), some (.int kd), some (.int (nI (noN m))), x3] [.int g] μ0 := by
  have h3 : ¬ m.1 0 6 = 3 := by
    rcases hi with y | y | y | y | y <;> rw [y.1] <;> decide
  obtain ⟨hb5, h29⟩ := hn.t
  have eT : (tkn m).1 0 2 = 0 := (tkn_2 m).trans h0
  have eL : ∀ j, (tkn m).2.1 2 j = m.2.1 2 j := fun j => tk_sl (by omega)
  have hon : onc m ↔ (kd = 139 ∨ kd = 140) := or_congr k1 k2
  refine A_istore3 dX3_otherLine_27 rfl (by decide) ?_
  refine A_aload0 dX3_otherLine_28 ?_
  refine A_getR gf_X3_9 rfl dX3_otherLine_29 ?_
  refine A_vv0 lk_X3_50 yv_X9_step dX3_otherLine_32 (rfl) (rfl) (T_step hS h h0 h3) (by decide) (Nat.le_of_ble_eq_true rfl) (fun μ_32 h_32 => ?_)
  obtain ⟨t1, f1⟩ := h_32
  refine A_aload0 dX3_otherLine_35 ?_
  refine A_getR gf_X3_15 rfl dX3_otherLine_36 ?_
  refine A_getR gf_X3_104 rfl dX3_otherLine_39 ?_
  refine A_iload2 dX3_otherLine_42 ?_
  refine A_iload1 dX3_otherLine_43 ?_
  refine A_iast (rfl) (vp_in_nI (by omega) (by omega)) dX3_otherLine_44 ?_
  rw [nI_c (by omega)]
  refine A_aload0 dX3_otherLine_45 ?_
  refine A_getR gf_X3_15 rfl dX3_otherLine_46 ?_
  refine A_getR gf_X3_107 rfl dX3_otherLine_49 ?_
  refine A_iload2 dX3_otherLine_52 ?_
  refine A_iload3 dX3_otherLine_53 ?_
  refine A_if_ne (tgt := 64) dX3_otherLine_54 (by decide) (fun c_54 => ?_) (fun c_54 => ?_)
  · have hold : isWd m 470021465444 ∨ isWd m 440005915496 ∨ isWd m 108243635103086 := (hg.elim (fun y => y.2) (fun y => absurd y.1 c_54)).elim (fun y => Or.inl (k1.mpr y)) (fun y => Or.inr (Or.inl (k2.mpr y)))
    refine A_aload0 dX3_otherLine_64 ?_
    refine A_vi0 lk_X3_110 yv_X3_oldName dX3_otherLine_65 (rfl) (rfl) (T_X3_oldName (nb := nbN m) hS (t1.cw (by omega)) eT hb5 ((tk_same (by unfold rdK; omega)).trans h29) (((wI_ne (by omega)).trans (f1.1 14 0 (by omega))).trans (hH.1.1.trans h29)) ⟨fun k hk => by rw [eL, wI_l, f1.2.1 15 k (by omega)]; exact (hH.1.2.2.1 k hk).1, fun a b ha hb hab => by rw [eL, eL] at hab; exact hH.2 a b ha hb hab⟩) (by decide) (Nat.le_of_ble_eq_true rfl) (fun r_65 μ_65 h_65 => ?_)
    obtain ⟨q1, q2, q3⟩ := h_65
    refine A_goto (tgt := 72) dX3_otherLine_68 (by decide) ?_
    refine A_iast (rfl) (vp_in_nI (by omega) (by omega)) dX3_otherLine_72 ?_
    rw [nI_c (by omega)]
    refine A_iload3 dX3_otherLine_73 ?_
    refine A_if_eq (tgt := 125) dX3_otherLine_74 (by decide) (fun c_74 => ?_) (fun c_74 => ?_)
    · have eA : (roA m) = sp_oldBox m := if_pos hold
      have tA : TS G (roA m).2 (wI μ_65 21 (noN m) r_65) := by
        rw [eA, old_e]
        exact (q2.cw (by omega))
      have fA : LnF (noN m) μ0 (wI μ_65 21 (noN m) r_65) := ((((LnF.rf.f4 f1).w (by omega)).f4 q1).w (by omega))
      have dA : (wI μ_65 21 (noN m) r_65).1 20 (noN m) = kd := by rw [wI_ne (by omega), q1.1 20 _ (by omega), wI_same]
      have dB : (roA m).2.1 0 2 = 0 → (wI μ_65 21 (noN m) r_65).1 21 (noN m) = (roA m).1 := fun y => by
        rw [eA, old_e, hlT_2] at y
        rw [eA, old_1, wI_same, q3 y]
      exact absurd c_74 c_54
    · have eA : (roA m) = sp_oldBox m := if_pos hold
      have tA : TS G (roA m).2 (wI μ_65 21 (noN m) r_65) := by
        rw [eA, old_e]
        exact (q2.cw (by omega))
      have fA : LnF (noN m) μ0 (wI μ_65 21 (noN m) r_65) := ((((LnF.rf.f4 f1).w (by omega)).f4 q1).w (by omega))
      have dA : (wI μ_65 21 (noN m) r_65).1 20 (noN m) = kd := by rw [wI_ne (by omega), q1.1 20 _ (by omega), wI_same]
      have dB : (roA m).2.1 0 2 = 0 → (wI μ_65 21 (noN m) r_65).1 21 (noN m) = (roA m).1 := fun y => by
        rw [eA, old_e, hlT_2] at y
        rw [eA, old_1, wI_same, q3 y]
      exact L_X3_ot_77 hS h16 h30 hn h0 hH (hon.mpr (hg.elim (fun y => y.2) (fun y => absurd y.1 c_74))) k1 k2 tA fA dA dB
  · refine A_iload1 dX3_otherLine_57 ?_
    refine A_sipush (v := 142) dX3_otherLine_58 (by decide) ?_
    refine A_icmp_ne (tgt := 71) dX3_otherLine_61 (by decide) (fun c_61 => ?_) (fun c_61 => ?_)
    · have hold : ¬ (isWd m 470021465444 ∨ isWd m 440005915496 ∨ isWd m 108243635103086) := fun y => y.elim (fun y => (hg.elim (fun z => absurd c_54 z.1) (fun z => z.2.1)) (k1.mp y)) (fun y => y.elim (fun y => (hg.elim (fun z => absurd c_54 z.1) (fun z => z.2.2)) (k2.mp y)) (fun y => c_61 (k3.mp y)))
      refine A_iconst (v := -1) dX3_otherLine_71 (by decide) ?_
      refine A_iast (rfl) (vp_in_nI (by omega) (by omega)) dX3_otherLine_72 ?_
      rw [nI_c (by omega)]
      refine A_iload3 dX3_otherLine_73 ?_
      refine A_if_eq (tgt := 125) dX3_otherLine_74 (by decide) (fun c_74 => ?_) (fun c_74 => ?_)
      · have eA : (roA m) = (0, tkn m) := if_neg hold
        have tA : TS G (roA m).2 (wI (wI μ_32 20 (noN m) kd) 21 (noN m) (-1)) := by
          rw [eA]
          exact ((t1.cw (by omega)).cw (by omega))
        have fA : LnF (noN m) μ0 (wI (wI μ_32 20 (noN m) kd) 21 (noN m) (-1)) := (((LnF.rf.f4 f1).w (by omega)).w (by omega))
        have dA : (wI (wI μ_32 20 (noN m) kd) 21 (noN m) (-1)).1 20 (noN m) = kd := by rw [wI_ne (by omega), wI_same]
        exact L_X3_ot_125 hS h16 h30 hn h0 hH (fun y => (hon.mp y).elim (hg.elim (fun z => absurd c_74 z.1) (fun z => z.2.1)) (hg.elim (fun z => absurd c_74 z.1) (fun z => z.2.2))) hi k1 k2 k3 k4 k5 tA fA dA (fun y => ⟨fun c => absurd c c_61, fun _ => wI_same⟩)
      · have eA : (roA m) = (0, tkn m) := if_neg hold
        have tA : TS G (roA m).2 (wI (wI μ_32 20 (noN m) kd) 21 (noN m) (-1)) := by
          rw [eA]
          exact ((t1.cw (by omega)).cw (by omega))
        have fA : LnF (noN m) μ0 (wI (wI μ_32 20 (noN m) kd) 21 (noN m) (-1)) := (((LnF.rf.f4 f1).w (by omega)).w (by omega))
        have dA : (wI (wI μ_32 20 (noN m) kd) 21 (noN m) (-1)).1 20 (noN m) = kd := by rw [wI_ne (by omega), wI_same]
        exact absurd c_54 c_74
    · have hold : isWd m 470021465444 ∨ isWd m 440005915496 ∨ isWd m 108243635103086 := Or.inr (Or.inr (k3.mpr c_61))
      refine A_aload0 dX3_otherLine_64 ?_
      refine A_vi0 lk_X3_110 yv_X3_oldName dX3_otherLine_65 (rfl) (rfl) (T_X3_oldName (nb := nbN m) hS (t1.cw (by omega)) eT hb5 ((tk_same (by unfold rdK; omega)).trans h29) (((wI_ne (by omega)).trans (f1.1 14 0 (by omega))).trans (hH.1.1.trans h29)) ⟨fun k hk => by rw [eL, wI_l, f1.2.1 15 k (by omega)]; exact (hH.1.2.2.1 k hk).1, fun a b ha hb hab => by rw [eL, eL] at hab; exact hH.2 a b ha hb hab⟩) (by decide) (Nat.le_of_ble_eq_true rfl) (fun r_65 μ_65 h_65 => ?_)
      obtain ⟨q1, q2, q3⟩ := h_65
      refine A_goto (tgt := 72) dX3_otherLine_68 (by decide) ?_
      refine A_iast (rfl) (vp_in_nI (by omega) (by omega)) dX3_otherLine_72 ?_
      rw [nI_c (by omega)]
      refine A_iload3 dX3_otherLine_73 ?_
      refine A_if_eq (tgt := 125) dX3_otherLine_74 (by decide) (fun c_74 => ?_) (fun c_74 => ?_)
      · have eA : (roA m) = sp_oldBox m := if_pos hold
        have tA : TS G (roA m).2 (wI μ_65 21 (noN m) r_65) := by
          rw [eA, old_e]
          exact (q2.cw (by omega))
        have fA : LnF (noN m) μ0 (wI μ_65 21 (noN m) r_65) := ((((LnF.rf.f4 f1).w (by omega)).f4 q1).w (by omega))
        have dA : (wI μ_65 21 (noN m) r_65).1 20 (noN m) = kd := by rw [wI_ne (by omega), q1.1 20 _ (by omega), wI_same]
        have dB : (roA m).2.1 0 2 = 0 → (wI μ_65 21 (noN m) r_65).1 21 (noN m) = (roA m).1 := fun y => by
          rw [eA, old_e, hlT_2] at y
          rw [eA, old_1, wI_same, q3 y]
        exact L_X3_ot_125 hS h16 h30 hn h0 hH (fun y => (hon.mp y).elim (hg.elim (fun z => absurd c_74 z.1) (fun z => z.2.1)) (hg.elim (fun z => absurd c_74 z.1) (fun z => z.2.2))) hi k1 k2 k3 k4 k5 tA fA dA (fun y => ⟨fun _ => dB y, fun c => absurd c_61 c⟩)
      · have eA : (roA m) = sp_oldBox m := if_pos hold
        have tA : TS G (roA m).2 (wI μ_65 21 (noN m) r_65) := by
          rw [eA, old_e]
          exact (q2.cw (by omega))
        have fA : LnF (noN m) μ0 (wI μ_65 21 (noN m) r_65) := ((((LnF.rf.f4 f1).w (by omega)).f4 q1).w (by omega))
        have dA : (wI μ_65 21 (noN m) r_65).1 20 (noN m) = kd := by rw [wI_ne (by omega), q1.1 20 _ (by omega), wI_same]
        have dB : (roA m).2.1 0 2 = 0 → (wI μ_65 21 (noN m) r_65).1 21 (noN m) = (roA m).1 := fun y => by
          rw [eA, old_e, hlT_2] at y
          rw [eA, old_1, wI_same, q3 y]
        exact absurd c_54 c_74
set_option maxHeartbeats 400000 in
set_option maxRecDepth 100000 in
theorem T_X3_otherLine {l : Launch} {G : Wd} {m μ : Mem} (hS : okS G) (h16 : noN m < 16) (h30 : m.1 0 30 = nI (noN m)) (hn : WFn m) (h0 : m.1 0 2 = 0) (hH : HI m μ) (h : TS G m μ) (hi : isOt m) : Mt l G KC yX3_otherLine cX3_otherLine 4 none 8 [.ref (gA G 24), .int (μ.1 2 5)] μ (Qv (fun μ' => TS G (hlT (hlS (sp_readOther m))) μ' ∧ Fh μ μ' ∧ ((hlT (hlS (sp_readOther m))).1 0 2 = 0 → HI (hlT (hlS (sp_readOther m))) μ'))) := by
  refine Mt.of (own := RX3) (n := 2) (by decide) rfl [some (.ref (gA G 24)), some (.int (μ.1 2 5)), none, none] rfl (Nat.le_of_ble_eq_true rfl) ?_
  refine A_aload0 dX3_otherLine_0 ?_
  refine A_getR gf_X3_15 rfl dX3_otherLine_1 ?_
  refine A_getI gf_X3_40 rfl dX3_otherLine_4 ?_
  rw [hH.1.2.1, h30]
  refine A_istore2 dX3_otherLine_7 rfl (by decide) ?_
  refine A_iload1 dX3_otherLine_8 ?_
  refine A_sipush (v := 139) dX3_otherLine_9 (by decide) ?_
  refine A_icmp_eq (tgt := 22) dX3_otherLine_12 (by decide) (fun c_12 => ?_) (fun c_12 => ?_)
  · refine A_iconst (v := 1) dX3_otherLine_22 (by decide) ?_
    refine A_goto (tgt := 27) dX3_otherLine_23 (by decide) ?_
    obtain ⟨k1, k2, k3, k4, k5⟩ := ot_w h h0
    exact L_X3_ot_27 hS h16 h30 hn h0 hH h hi k1 k2 k3 k4 k5 (Or.inl ⟨by decide, Or.inl c_12⟩)
  · refine A_iload1 dX3_otherLine_15 ?_
    refine A_sipush (v := 140) dX3_otherLine_16 (by decide) ?_
    refine A_icmp_ne (tgt := 26) dX3_otherLine_19 (by decide) (fun c_19 => ?_) (fun c_19 => ?_)
    · refine A_iconst (v := 0) dX3_otherLine_26 (by decide) ?_
      obtain ⟨k1, k2, k3, k4, k5⟩ := ot_w h h0
      exact L_X3_ot_27 hS h16 h30 hn h0 hH h hi k1 k2 k3 k4 k5 (Or.inr ⟨rfl, c_12, c_19⟩)
    · refine A_iconst (v := 1) dX3_otherLine_22 (by decide) ?_
      refine A_goto (tgt := 27) dX3_otherLine_23 (by decide) ?_
      obtain ⟨k1, k2, k3, k4, k5⟩ := ot_w h h0
      exact L_X3_ot_27 hS h16 h30 hn h0 hH h hi k1 k2 k3 k4 k5 (Or.inl ⟨by decide, Or.inr c_19⟩)

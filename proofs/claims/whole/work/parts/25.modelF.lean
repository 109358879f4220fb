/-! which readings are wrong, and by whose habit -/
abbrev rowP (σ : Mem) (k : Int32) (b d : Nat) (sh own : Int32) (x : Nat) : Prop := ¬ x = b ∧ ¬ rdN σ k x d = -100000 ∧ fitS σ b sh (rdN σ k x d) ∧ ¬ sh1 σ k x d = -100000 ∧ fitS σ x (sh1 σ k x d) own
def rowB (σ : Mem) (k : Int32) (b d : Nat) (sh own : Int32) : Nat → Bool
  | 0 => false
  | n + 1 => rowB σ k b d sh own n || decide (rowP σ k b d sh own n)
theorem rowB_mono {σ : Mem} {k : Int32} {b d : Nat} {sh own : Int32} {x : Nat} (h : rowP σ k b d sh own x) : ∀ n, x < n → rowB σ k b d sh own n = true := by
  intro n
  induction n with
  | zero => intro q; omega
  | succ n ih =>
    intro q
    unfold rowB
    by_cases e : x = n
    · subst e; simp [h]
    · rw [ih (by omega)]; rfl
def wrS (σ : Mem) (k : Int32) (b d : Nat) : Int32 :=
  if rdN σ k b d = -100000 ∨ sh1 σ k b d = -100000 then -1
  else if fitS σ b (sh1 σ k b d) (rdN σ k b d) then 0
  else if σ.1 7 b = 3 ∧ fitS σ b (sh1 σ k b d) (rdN σ k b d + 8) then 1
  else if 0 < d ∧ rdN σ k b (d - 1) = rdN σ k b d then 2
  else if rowB σ k b d (sh1 σ k b d) (rdN σ k b d) (nbx σ) = true then 3
  else if σ.1 7 b = 2 ∧ rdN σ k b d < sh1 σ k b d ∧ fitS σ b (sh1 σ k b d) (2 * rdN σ k b d) then 4 else 5
def sp_wrong (σ : Mem) (b d k : Int32) : Int32 := if isPl σ b d then wrS σ k b.toNatClampNeg d.toNatClampNeg else -1
set_option maxHeartbeats 4000000 in
set_option maxRecDepth 100000 in
theorem L_X12_isRow {F : Mem} {l : Launch} {G : Wd} {k : Int32} {σ : Mem} {b d : Nat} {sh own : Int32} {Q : Option Value → Mem → Prop} (hw : WFh σ) (hb : b < 5) (hd : d < 60) (hk0 : ∀ μ : Mem, rowB σ k b d sh own (nbx σ) = false → Lay F σ k μ → Q (some (.int 0)) μ) (hk1 : ∀ μ : Mem, rowB σ k b d sh own (nbx σ) = true → Lay F σ k μ → Q (some (.int 1)) μ) : ∀ (q i : Nat) (x : Int32) (x6 x7 : Option Value) (μ : Mem), i + q = nbx σ + 1 → i ≤ nbx σ → x = nI i → rowB σ k b d sh own i = false → Lay F σ k μ → AW l G KM RX12 cX12_isRow 8 7 (some .boolean) Q 3 [some (.ref (gA G 0)), some (.int (nI b)), some (.int (nI d)), some (.int sh), some (.int own), some (.int x), x6, x7] [] μ := by
  have hn5 := (hw.1.t).1
  intro q
  induction q with
  | zero => intro i x x6 x7 μ h1 h2; omega
  | succ q ih =>
    intro i x x6 x7 μ h1 h2 hxi hr hL
    subst hxi
    refine A_iload5 dX12_isRow_3 ?_
    refine A_aload0 dX12_isRow_5 ?_
    refine A_getI gf_X12_321 rfl dX12_isRow_6 ?_
    rw [hL.1.1 0 31 rfl, (hw.1.t).2]
    refine A_icmp_ge (tgt := 92) dX12_isRow_9 (by decide) (fun c_9 => ?_) (fun c_9 => ?_)
    · have e : i = nbx σ := by have := (nI_leI (a := nbx σ) (b := i) (by omega) (by omega)).mp c_9; omega
      subst e
      refine A_iconst (v := 0) dX12_isRow_92 (by decide) ?_
      refine A_zret dX12_isRow_93 (by decide) ?_
      exact hk0 μ hr hL
    · have hi : i < nbx σ := by rcases Nat.lt_or_ge i (nbx σ) with q | q; exact q; exact absurd (nI_le q (by omega)) c_9
      refine A_aload0 dX12_isRow_12 ?_
      refine A_getR gf_X12_103 rfl dX12_isRow_13 ?_
      refine A_bipush (v := 60) dX12_isRow_16 (by decide) ?_
      refine A_iload5 dX12_isRow_18 ?_
      refine A_imul dX12_isRow_20 ?_
      refine A_iload2 dX12_isRow_21 ?_
      refine A_iadd dX12_isRow_22 ?_
      refine A_iald (rfl) (by rw [nI_60]; exact vp_in_nI (by omega) (by omega)) dX12_isRow_23 ?_
      rw [nI_60, nI_c (by omega), hL.2.2.1 _ (by omega)]
      refine A_val (y := rdN σ k i d) rfl ?_
      refine A_istore6 dX12_isRow_24 rfl (by decide) ?_
      refine A_iload5 dX12_isRow_26 ?_
      refine A_iload1 dX12_isRow_28 ?_
      refine A_icmp_eq (tgt := 86) dX12_isRow_29 (by decide) (fun c_29 => ?_) (fun c_29 => ?_)
      · refine A_iinc5 dX12_isRow_86 rfl rfl (by decide) ?_
        refine A_goto (tgt := 3) dX12_isRow_89 (by decide) ?_
        refine ih (i + 1) _ _ _ _ (by omega) (by omega) (nI_1 i) ?_ hL
        unfold rowB
        rw [hr, Bool.false_or, decide_eq_false_iff_not]
        exact fun q => q.1 ((nI_eq (by omega) (by omega)).mp c_29)
      · refine A_iload6 dX12_isRow_32 ?_
        refine A_ldcw dX12_isRow_34 kc_X12_353 ?_
        refine A_icmp_eq (tgt := 86) dX12_isRow_37 (by decide) (fun c_37 => ?_) (fun c_37 => ?_)
        · refine A_iinc5 dX12_isRow_86 rfl rfl (by decide) ?_
          refine A_goto (tgt := 3) dX12_isRow_89 (by decide) ?_
          refine ih (i + 1) _ _ _ _ (by omega) (by omega) (nI_1 i) ?_ hL
          unfold rowB
          rw [hr, Bool.false_or, decide_eq_false_iff_not]
          exact fun q => q.2.1 c_37
        · refine A_aload0 dX12_isRow_40 ?_
          refine A_iload1 dX12_isRow_41 ?_
          refine A_iload3 dX12_isRow_42 ?_
          refine A_iload6 dX12_isRow_43 ?_
          refine A_vi3 lk_X12_392 yv_X12_fits dX12_isRow_45 (rfl) (rfl) (T_X12_fits hL.1 hb) (by decide) (Nat.le_of_ble_eq_true rfl) (fun r_45 μ_45 h_45 => ?_)
          obtain ⟨rfl, e_45⟩ := h_45
          replace e_45 := e_45.symm
          subst e_45
          refine A_if_ne (tgt := 54) dX12_isRow_48 (by decide) (fun c_48 => ?_) (fun c_48 => ?_)
          · refine A_aload0 dX12_isRow_54 ?_
            refine A_iload5 dX12_isRow_55 ?_
            refine A_iload2 dX12_isRow_57 ?_
            refine A_vi2 lk_X12_400 yv_X12_showsFirst dX12_isRow_58 (rfl) (rfl) (T_X12_showsFirst hL (by omega) hd (hw.2 i hi)) (by decide) (Nat.le_of_ble_eq_true rfl) (fun r_58 μ_58 h_58 => ?_)
            obtain ⟨rfl, hL2⟩ := h_58
            refine A_istore7 dX12_isRow_61 rfl (by decide) ?_
            refine A_iload7 dX12_isRow_63 ?_
            refine A_ldcw dX12_isRow_65 kc_X12_353 ?_
            refine A_icmp_eq (tgt := 86) dX12_isRow_68 (by decide) (fun c_68 => ?_) (fun c_68 => ?_)
            · refine A_iinc5 dX12_isRow_86 rfl rfl (by decide) ?_
              refine A_goto (tgt := 3) dX12_isRow_89 (by decide) ?_
              refine ih (i + 1) _ _ _ _ (by omega) (by omega) (nI_1 i) ?_ hL2
              unfold rowB
              rw [hr, Bool.false_or, decide_eq_false_iff_not]
              exact fun q => q.2.2.2.1 c_68
            · refine A_aload0 dX12_isRow_71 ?_
              refine A_iload5 dX12_isRow_72 ?_
              refine A_iload7 dX12_isRow_74 ?_
              refine A_iload4 dX12_isRow_76 ?_
              refine A_vi3 lk_X12_392 yv_X12_fits dX12_isRow_78 (rfl) (rfl) (T_X12_fits hL2.1 (by omega)) (by decide) (Nat.le_of_ble_eq_true rfl) (fun r_78 μ_78 h_78 => ?_)
              obtain ⟨rfl, e_78⟩ := h_78
              replace e_78 := e_78.symm
              subst e_78
              refine A_if_eq (tgt := 86) dX12_isRow_81 (by decide) (fun c_81 => ?_) (fun c_81 => ?_)
              · refine A_iinc5 dX12_isRow_86 rfl rfl (by decide) ?_
                refine A_goto (tgt := 3) dX12_isRow_89 (by decide) ?_
                refine ih (i + 1) _ _ _ _ (by omega) (by omega) (nI_1 i) ?_ hL2
                unfold rowB
                rw [hr, Bool.false_or, decide_eq_false_iff_not]
                exact fun q => bz_0.mp c_81 q.2.2.2.2
              · refine A_iconst (v := 1) dX12_isRow_84 (by decide) ?_
                refine A_zret dX12_isRow_85 (by decide) ?_
                exact hk1 _ (rowB_mono (x := i) ⟨fun q => c_29 (by rw [q]), c_37, Classical.not_not.mp (fun z => c_48 (bz_0.mpr z)), c_68, Classical.not_not.mp (fun z => c_81 (bz_0.mpr z))⟩ (nbx σ) hi) hL2
          · refine A_goto (tgt := 86) dX12_isRow_51 (by decide) ?_
            refine A_iinc5 dX12_isRow_86 rfl rfl (by decide) ?_
            refine A_goto (tgt := 3) dX12_isRow_89 (by decide) ?_
            refine ih (i + 1) _ _ _ _ (by omega) (by omega) (nI_1 i) ?_ hL
            unfold rowB
            rw [hr, Bool.false_or, decide_eq_false_iff_not]
            exact fun q => absurd c_48 (by rw [bz_0]; exact fun z => z q.2.2.1)
set_option maxHeartbeats 4000000 in
set_option maxRecDepth 100000 in
theorem T_X12_isRow {F : Mem} {l : Launch} {G : Wd} {b d : Nat} {sh own k : Int32} {σ μ : Mem} (hL : Lay F σ k μ) (hw : WFh σ) (hb : b < 5) (hd : d < 60) : Mt l G KM yX12_isRow cX12_isRow 8 (some .boolean) 7 [.ref (gA G 0), .int (nI b), .int (nI d), .int sh, .int own] μ (Qi (fun v μ' => v = bz (rowB σ k b d sh own (nbx σ) = true) ∧ Lay F σ k μ')) := by
  refine Mt.of (own := RX12) (n := 3) (by decide) rfl [some (.ref (gA G 0)), some (.int (nI b)), some (.int (nI d)), some (.int sh), some (.int own), none, none, none] rfl (Nat.le_of_ble_eq_true rfl) ?_
  refine A_iconst (v := 0) dX12_isRow_0 (by decide) ?_
  refine A_istore5 dX12_isRow_1 rfl (by decide) ?_
  refine L_X12_isRow (σ := σ) hw hb hd (fun μ2 h1 h2 => ⟨_, rfl, ?_, h2⟩) (fun μ2 h1 h2 => ⟨_, rfl, ?_, h2⟩) (nbx σ + 1) 0 _ _ _ _ (by omega) (by omega) rfl rfl hL
  · rw [bz_f (by rw [h1]; exact Bool.false_ne_true)]
  · rw [bz_t h1]
set_option maxHeartbeats 4000000 in
set_option maxRecDepth 100000 in
theorem T_X12_wrongOn {F : Mem} {l : Launch} {G : Wd} {b d : Nat} {k : Int32} {σ μ : Mem} (hL : Lay F σ k μ) (hw : WFh σ) (hb : b < 5) (hd : d < 60) (hok : okBx σ b) : Mt l G KM yX12_wrongOn cX12_wrongOn 5 (some .int) 8 [.ref (gA G 0), .int (nI b), .int (nI d)] μ (Qi (fun v μ' => v = wrS σ k b d ∧ Lay F σ k μ')) := by
  refine Mt.of (own := RX12) (n := 2) (by decide) rfl [some (.ref (gA G 0)), some (.int (nI b)), some (.int (nI d)), none, none] rfl (Nat.le_of_ble_eq_true rfl) ?_
  refine A_aload0 dX12_wrongOn_0 ?_
  refine A_getR gf_X12_103 rfl dX12_wrongOn_1 ?_
  refine A_bipush (v := 60) dX12_wrongOn_4 (by decide) ?_
  refine A_iload1 dX12_wrongOn_6 ?_
  refine A_imul dX12_wrongOn_7 ?_
  refine A_iload2 dX12_wrongOn_8 ?_
  refine A_iadd dX12_wrongOn_9 ?_
  refine A_iald (rfl) (by rw [nI_60]; exact vp_in_nI (by omega) (by omega)) dX12_wrongOn_10 ?_
  rw [nI_60, nI_c (by omega), hL.2.2.1 _ (by omega)]
  refine A_val (y := rdN σ k b d) rfl ?_
  refine A_istore3 dX12_wrongOn_11 rfl (by decide) ?_
  refine A_aload0 dX12_wrongOn_12 ?_
  refine A_iload1 dX12_wrongOn_13 ?_
  refine A_iload2 dX12_wrongOn_14 ?_
  refine A_vi2 lk_X12_400 yv_X12_showsFirst dX12_wrongOn_15 (rfl) (rfl) (T_X12_showsFirst hL hb hd hok) (by decide) (Nat.le_of_ble_eq_true rfl) (fun r_15 μ_15 h_15 => ?_)
  obtain ⟨rfl, hL2⟩ := h_15
  refine A_istore4 dX12_wrongOn_18 rfl (by decide) ?_
  refine A_iload3 dX12_wrongOn_20 ?_
  refine A_ldcw dX12_wrongOn_21 kc_X12_353 ?_
  refine A_icmp_eq (tgt := 35) dX12_wrongOn_24 (by decide) (fun c_24 => ?_) (fun c_24 => ?_)
  · refine A_iconst (v := -1) dX12_wrongOn_35 (by decide) ?_
    refine A_iret dX12_wrongOn_36 ?_
    refine ⟨_, rfl, ?_, hL2⟩
    unfold wrS
    rw [if_pos (Or.inl c_24)]
  · refine A_iload4 dX12_wrongOn_27 ?_
    refine A_ldcw dX12_wrongOn_29 kc_X12_353 ?_
    refine A_icmp_ne (tgt := 37) dX12_wrongOn_32 (by decide) (fun c_32 => ?_) (fun c_32 => ?_)
    · refine A_aload0 dX12_wrongOn_37 ?_
      refine A_iload1 dX12_wrongOn_38 ?_
      refine A_iload4 dX12_wrongOn_39 ?_
      refine A_iload3 dX12_wrongOn_41 ?_
      refine A_vi3 lk_X12_392 yv_X12_fits dX12_wrongOn_42 (rfl) (rfl) (T_X12_fits hL2.1 hb) (by decide) (Nat.le_of_ble_eq_true rfl) (fun r_42 μ_42 h_42 => ?_)
      obtain ⟨rfl, e_42⟩ := h_42
      replace e_42 := e_42.symm
      subst e_42
      refine A_if_eq (tgt := 50) dX12_wrongOn_45 (by decide) (fun c_45 => ?_) (fun c_45 => ?_)
      · refine A_aload0 dX12_wrongOn_50 ?_
        refine A_getR gf_X12_33 rfl dX12_wrongOn_51 ?_
        refine A_iload1 dX12_wrongOn_54 ?_
        refine A_iald (rfl) (vp_in_nI hb (by omega)) dX12_wrongOn_55 ?_
        rw [nI_c (by omega), hL2.1.1 7 _ rfl]
        refine A_iconst (v := 3) dX12_wrongOn_56 (by decide) ?_
        refine A_icmp_ne (tgt := 76) dX12_wrongOn_57 (by decide) (fun c_57 => ?_) (fun c_57 => ?_)
        · refine A_iload2 dX12_wrongOn_76 ?_
          refine A_if_le (tgt := 99) dX12_wrongOn_77 (by decide) (fun c_77 => ?_) (fun c_77 => ?_)
          · refine A_aload0 dX12_wrongOn_99 ?_
            refine A_iload1 dX12_wrongOn_100 ?_
            refine A_iload2 dX12_wrongOn_101 ?_
            refine A_iload4 dX12_wrongOn_102 ?_
            refine A_iload3 dX12_wrongOn_104 ?_
            refine A_vi4 lk_X12_403 yv_X12_isRow dX12_wrongOn_105 (rfl) (rfl) (T_X12_isRow hL2 hw hb hd) (by decide) (Nat.le_of_ble_eq_true rfl) (fun r_105 μ_105 h_105 => ?_)
            obtain ⟨rfl, hL3⟩ := h_105
            refine A_if_eq (tgt := 113) dX12_wrongOn_108 (by decide) (fun c_108 => ?_) (fun c_108 => ?_)
            · refine A_aload0 dX12_wrongOn_113 ?_
              refine A_getR gf_X12_33 rfl dX12_wrongOn_114 ?_
              refine A_iload1 dX12_wrongOn_117 ?_
              refine A_iald (rfl) (vp_in_nI hb (by omega)) dX12_wrongOn_118 ?_
              rw [nI_c (by omega), hL3.1.1 7 _ rfl]
              refine A_iconst (v := 2) dX12_wrongOn_119 (by decide) ?_
              refine A_icmp_ne (tgt := 146) dX12_wrongOn_120 (by decide) (fun c_120 => ?_) (fun c_120 => ?_)
              · refine A_iconst (v := 5) dX12_wrongOn_146 (by decide) ?_
                refine A_iret dX12_wrongOn_147 ?_
                refine ⟨_, rfl, ?_, hL3⟩
                unfold wrS
                rw [if_neg (fun q => q.elim c_24 c_32)]
                rw [if_neg (bz_0.mp c_45)]
                rw [if_neg (fun q => c_57 q.1)]
                rw [if_neg (fun q => by have h9 := (nI_le0 (a := d) (by omega)).mp c_77; omega)]
                rw [if_neg (bz_0.mp c_108)]
                rw [if_neg (fun q => c_120 q.1)]
              · refine A_iload3 dX12_wrongOn_123 ?_
                refine A_iload4 dX12_wrongOn_124 ?_
                refine A_icmp_ge (tgt := 146) dX12_wrongOn_126 (by decide) (fun c_126 => ?_) (fun c_126 => ?_)
                · refine A_iconst (v := 5) dX12_wrongOn_146 (by decide) ?_
                  refine A_iret dX12_wrongOn_147 ?_
                  refine ⟨_, rfl, ?_, hL3⟩
                  unfold wrS
                  rw [if_neg (fun q => q.elim c_24 c_32)]
                  rw [if_neg (bz_0.mp c_45)]
                  rw [if_neg (fun q => c_57 q.1)]
                  rw [if_neg (fun q => by have h9 := (nI_le0 (a := d) (by omega)).mp c_77; omega)]
                  rw [if_neg (bz_0.mp c_108)]
                  rw [if_neg (fun q => by have h8 := i_lt.mp q.2.1; have h9 := i_le.mp c_126; omega)]
                · refine A_aload0 dX12_wrongOn_129 ?_
                  refine A_iload1 dX12_wrongOn_130 ?_
                  refine A_iload4 dX12_wrongOn_131 ?_
                  refine A_iconst (v := 2) dX12_wrongOn_133 (by decide) ?_
                  refine A_iload3 dX12_wrongOn_134 ?_
                  refine A_imul dX12_wrongOn_135 ?_
                  refine A_vi3 lk_X12_392 yv_X12_fits dX12_wrongOn_136 (rfl) (rfl) (T_X12_fits hL3.1 hb) (by decide) (Nat.le_of_ble_eq_true rfl) (fun r_136 μ_136 h_136 => ?_)
                  obtain ⟨rfl, e_136⟩ := h_136
                  replace e_136 := e_136.symm
                  subst e_136
                  refine A_if_eq (tgt := 146) dX12_wrongOn_139 (by decide) (fun c_139 => ?_) (fun c_139 => ?_)
                  · refine A_iconst (v := 5) dX12_wrongOn_146 (by decide) ?_
                    refine A_iret dX12_wrongOn_147 ?_
                    refine ⟨_, rfl, ?_, hL3⟩
                    unfold wrS
                    rw [if_neg (fun q => q.elim c_24 c_32)]
                    rw [if_neg (bz_0.mp c_45)]
                    rw [if_neg (fun q => c_57 q.1)]
                    rw [if_neg (fun q => by have h9 := (nI_le0 (a := d) (by omega)).mp c_77; omega)]
                    rw [if_neg (bz_0.mp c_108)]
                    rw [if_neg (fun q => bz_0.mp c_139 q.2.2)]
                  · refine A_iconst (v := 4) dX12_wrongOn_142 (by decide) ?_
                    refine A_goto (tgt := 147) dX12_wrongOn_143 (by decide) ?_
                    refine A_iret dX12_wrongOn_147 ?_
                    refine ⟨_, rfl, ?_, hL3⟩
                    unfold wrS
                    rw [if_neg (fun q => q.elim c_24 c_32)]
                    rw [if_neg (bz_0.mp c_45)]
                    rw [if_neg (fun q => c_57 q.1)]
                    rw [if_neg (fun q => by have h9 := (nI_le0 (a := d) (by omega)).mp c_77; omega)]
                    rw [if_neg (bz_0.mp c_108)]
                    rw [if_pos ⟨c_120, i_nle c_126, Classical.not_not.mp (fun z => c_139 (bz_0.mpr z))⟩]
            · refine A_iconst (v := 3) dX12_wrongOn_111 (by decide) ?_
              refine A_iret dX12_wrongOn_112 ?_
              refine ⟨_, rfl, ?_, hL3⟩
              unfold wrS
              rw [if_neg (fun q => q.elim c_24 c_32)]
              rw [if_neg (bz_0.mp c_45)]
              rw [if_neg (fun q => c_57 q.1)]
              rw [if_neg (fun q => by have h9 := (nI_le0 (a := d) (by omega)).mp c_77; omega)]
              rw [if_pos (Classical.not_not.mp (fun z => c_108 (bz_0.mpr z)))]
          · have hd0 : 0 < d := by rcases Nat.eq_zero_or_pos d with q | q; exact absurd ((nI_le0 (by omega)).mpr q) c_77; exact q
            have ix : 60 * nI b + nI d - 1 = nI (60 * b + (d - 1)) := by rw [nI_60, show (1 : Int32) = nI 1 from rfl, pk_sub (by omega)]; congr 1; omega
            refine A_aload0 dX12_wrongOn_80 ?_
            refine A_getR gf_X12_103 rfl dX12_wrongOn_81 ?_
            refine A_bipush (v := 60) dX12_wrongOn_84 (by decide) ?_
            refine A_iload1 dX12_wrongOn_86 ?_
            refine A_imul dX12_wrongOn_87 ?_
            refine A_iload2 dX12_wrongOn_88 ?_
            refine A_iadd dX12_wrongOn_89 ?_
            refine A_iconst (v := 1) dX12_wrongOn_90 (by decide) ?_
            refine A_isub dX12_wrongOn_91 ?_
            refine A_iald (rfl) (by rw [ix]; exact vp_in_nI (by omega) (by omega)) dX12_wrongOn_92 ?_
            rw [ix, nI_c (by omega), hL2.2.2.1 _ (by omega)]
            refine A_val (y := rdN σ k b (d - 1)) rfl ?_
            refine A_iload3 dX12_wrongOn_93 ?_
            refine A_icmp_ne (tgt := 99) dX12_wrongOn_94 (by decide) (fun c_94 => ?_) (fun c_94 => ?_)
            · refine A_aload0 dX12_wrongOn_99 ?_
              refine A_iload1 dX12_wrongOn_100 ?_
              refine A_iload2 dX12_wrongOn_101 ?_
              refine A_iload4 dX12_wrongOn_102 ?_
              refine A_iload3 dX12_wrongOn_104 ?_
              refine A_vi4 lk_X12_403 yv_X12_isRow dX12_wrongOn_105 (rfl) (rfl) (T_X12_isRow hL2 hw hb hd) (by decide) (Nat.le_of_ble_eq_true rfl) (fun r_105 μ_105 h_105 => ?_)
              obtain ⟨rfl, hL3⟩ := h_105
              refine A_if_eq (tgt := 113) dX12_wrongOn_108 (by decide) (fun c_108 => ?_) (fun c_108 => ?_)
              · refine A_aload0 dX12_wrongOn_113 ?_
                refine A_getR gf_X12_33 rfl dX12_wrongOn_114 ?_
                refine A_iload1 dX12_wrongOn_117 ?_
                refine A_iald (rfl) (vp_in_nI hb (by omega)) dX12_wrongOn_118 ?_
                rw [nI_c (by omega), hL3.1.1 7 _ rfl]
                refine A_iconst (v := 2) dX12_wrongOn_119 (by decide) ?_
                refine A_icmp_ne (tgt := 146) dX12_wrongOn_120 (by decide) (fun c_120 => ?_) (fun c_120 => ?_)
                · refine A_iconst (v := 5) dX12_wrongOn_146 (by decide) ?_
                  refine A_iret dX12_wrongOn_147 ?_
                  refine ⟨_, rfl, ?_, hL3⟩
                  unfold wrS
                  rw [if_neg (fun q => q.elim c_24 c_32)]
                  rw [if_neg (bz_0.mp c_45)]
                  rw [if_neg (fun q => c_57 q.1)]
                  rw [if_neg (fun q => c_94 q.2)]
                  rw [if_neg (bz_0.mp c_108)]
                  rw [if_neg (fun q => c_120 q.1)]
                · refine A_iload3 dX12_wrongOn_123 ?_
                  refine A_iload4 dX12_wrongOn_124 ?_
                  refine A_icmp_ge (tgt := 146) dX12_wrongOn_126 (by decide) (fun c_126 => ?_) (fun c_126 => ?_)
                  · refine A_iconst (v := 5) dX12_wrongOn_146 (by decide) ?_
                    refine A_iret dX12_wrongOn_147 ?_
                    refine ⟨_, rfl, ?_, hL3⟩
                    unfold wrS
                    rw [if_neg (fun q => q.elim c_24 c_32)]
                    rw [if_neg (bz_0.mp c_45)]
                    rw [if_neg (fun q => c_57 q.1)]
                    rw [if_neg (fun q => c_94 q.2)]
                    rw [if_neg (bz_0.mp c_108)]
                    rw [if_neg (fun q => by have h8 := i_lt.mp q.2.1; have h9 := i_le.mp c_126; omega)]
                  · refine A_aload0 dX12_wrongOn_129 ?_
                    refine A_iload1 dX12_wrongOn_130 ?_
                    refine A_iload4 dX12_wrongOn_131 ?_
                    refine A_iconst (v := 2) dX12_wrongOn_133 (by decide) ?_
                    refine A_iload3 dX12_wrongOn_134 ?_
                    refine A_imul dX12_wrongOn_135 ?_
                    refine A_vi3 lk_X12_392 yv_X12_fits dX12_wrongOn_136 (rfl) (rfl) (T_X12_fits hL3.1 hb) (by decide) (Nat.le_of_ble_eq_true rfl) (fun r_136 μ_136 h_136 => ?_)
                    obtain ⟨rfl, e_136⟩ := h_136
                    replace e_136 := e_136.symm
                    subst e_136
                    refine A_if_eq (tgt := 146) dX12_wrongOn_139 (by decide) (fun c_139 => ?_) (fun c_139 => ?_)
                    · refine A_iconst (v := 5) dX12_wrongOn_146 (by decide) ?_
                      refine A_iret dX12_wrongOn_147 ?_
                      refine ⟨_, rfl, ?_, hL3⟩
                      unfold wrS
                      rw [if_neg (fun q => q.elim c_24 c_32)]
                      rw [if_neg (bz_0.mp c_45)]
                      rw [if_neg (fun q => c_57 q.1)]
                      rw [if_neg (fun q => c_94 q.2)]
                      rw [if_neg (bz_0.mp c_108)]
                      rw [if_neg (fun q => bz_0.mp c_139 q.2.2)]
                    · refine A_iconst (v := 4) dX12_wrongOn_142 (by decide) ?_
                      refine A_goto (tgt := 147) dX12_wrongOn_143 (by decide) ?_
                      refine A_iret dX12_wrongOn_147 ?_
                      refine ⟨_, rfl, ?_, hL3⟩
                      unfold wrS
                      rw [if_neg (fun q => q.elim c_24 c_32)]
                      rw [if_neg (bz_0.mp c_45)]
                      rw [if_neg (fun q => c_57 q.1)]
                      rw [if_neg (fun q => c_94 q.2)]
                      rw [if_neg (bz_0.mp c_108)]
                      rw [if_pos ⟨c_120, i_nle c_126, Classical.not_not.mp (fun z => c_139 (bz_0.mpr z))⟩]
              · refine A_iconst (v := 3) dX12_wrongOn_111 (by decide) ?_
                refine A_iret dX12_wrongOn_112 ?_
                refine ⟨_, rfl, ?_, hL3⟩
                unfold wrS
                rw [if_neg (fun q => q.elim c_24 c_32)]
                rw [if_neg (bz_0.mp c_45)]
                rw [if_neg (fun q => c_57 q.1)]
                rw [if_neg (fun q => c_94 q.2)]
                rw [if_pos (Classical.not_not.mp (fun z => c_108 (bz_0.mpr z)))]
            · refine A_iconst (v := 2) dX12_wrongOn_97 (by decide) ?_
              refine A_iret dX12_wrongOn_98 ?_
              refine ⟨_, rfl, ?_, hL2⟩
              unfold wrS
              rw [if_neg (fun q => q.elim c_24 c_32)]
              rw [if_neg (bz_0.mp c_45)]
              rw [if_neg (fun q => c_57 q.1)]
              rw [if_pos ⟨hd0, c_94⟩]
        · refine A_aload0 dX12_wrongOn_60 ?_
          refine A_iload1 dX12_wrongOn_61 ?_
          refine A_iload4 dX12_wrongOn_62 ?_
          refine A_iload3 dX12_wrongOn_64 ?_
          refine A_bipush (v := 8) dX12_wrongOn_65 (by decide) ?_
          refine A_iadd dX12_wrongOn_67 ?_
          refine A_vi3 lk_X12_392 yv_X12_fits dX12_wrongOn_68 (rfl) (rfl) (T_X12_fits hL2.1 hb) (by decide) (Nat.le_of_ble_eq_true rfl) (fun r_68 μ_68 h_68 => ?_)
          obtain ⟨rfl, e_68⟩ := h_68
          replace e_68 := e_68.symm
          subst e_68
          refine A_if_eq (tgt := 76) dX12_wrongOn_71 (by decide) (fun c_71 => ?_) (fun c_71 => ?_)
          · refine A_iload2 dX12_wrongOn_76 ?_
            refine A_if_le (tgt := 99) dX12_wrongOn_77 (by decide) (fun c_77 => ?_) (fun c_77 => ?_)
            · refine A_aload0 dX12_wrongOn_99 ?_
              refine A_iload1 dX12_wrongOn_100 ?_
              refine A_iload2 dX12_wrongOn_101 ?_
              refine A_iload4 dX12_wrongOn_102 ?_
              refine A_iload3 dX12_wrongOn_104 ?_
              refine A_vi4 lk_X12_403 yv_X12_isRow dX12_wrongOn_105 (rfl) (rfl) (T_X12_isRow hL2 hw hb hd) (by decide) (Nat.le_of_ble_eq_true rfl) (fun r_105 μ_105 h_105 => ?_)
              obtain ⟨rfl, hL3⟩ := h_105
              refine A_if_eq (tgt := 113) dX12_wrongOn_108 (by decide) (fun c_108 => ?_) (fun c_108 => ?_)
              · refine A_aload0 dX12_wrongOn_113 ?_
                refine A_getR gf_X12_33 rfl dX12_wrongOn_114 ?_
                refine A_iload1 dX12_wrongOn_117 ?_
                refine A_iald (rfl) (vp_in_nI hb (by omega)) dX12_wrongOn_118 ?_
                rw [nI_c (by omega), hL3.1.1 7 _ rfl]
                refine A_iconst (v := 2) dX12_wrongOn_119 (by decide) ?_
                refine A_icmp_ne (tgt := 146) dX12_wrongOn_120 (by decide) (fun c_120 => ?_) (fun c_120 => ?_)
                · refine A_iconst (v := 5) dX12_wrongOn_146 (by decide) ?_
                  refine A_iret dX12_wrongOn_147 ?_
                  refine ⟨_, rfl, ?_, hL3⟩
                  unfold wrS
                  rw [if_neg (fun q => q.elim c_24 c_32)]
                  rw [if_neg (bz_0.mp c_45)]
                  rw [if_neg (fun q => bz_0.mp c_71 q.2)]
                  rw [if_neg (fun q => by have h9 := (nI_le0 (a := d) (by omega)).mp c_77; omega)]
                  rw [if_neg (bz_0.mp c_108)]
                  rw [if_neg (fun q => c_120 q.1)]
                · refine A_iload3 dX12_wrongOn_123 ?_
                  refine A_iload4 dX12_wrongOn_124 ?_
                  refine A_icmp_ge (tgt := 146) dX12_wrongOn_126 (by decide) (fun c_126 => ?_) (fun c_126 => ?_)
                  · refine A_iconst (v := 5) dX12_wrongOn_146 (by decide) ?_
                    refine A_iret dX12_wrongOn_147 ?_
                    refine ⟨_, rfl, ?_, hL3⟩
                    unfold wrS
                    rw [if_neg (fun q => q.elim c_24 c_32)]
                    rw [if_neg (bz_0.mp c_45)]
                    rw [if_neg (fun q => bz_0.mp c_71 q.2)]
                    rw [if_neg (fun q => by have h9 := (nI_le0 (a := d) (by omega)).mp c_77; omega)]
                    rw [if_neg (bz_0.mp c_108)]
                    rw [if_neg (fun q => by have h8 := i_lt.mp q.2.1; have h9 := i_le.mp c_126; omega)]
                  · refine A_aload0 dX12_wrongOn_129 ?_
                    refine A_iload1 dX12_wrongOn_130 ?_
                    refine A_iload4 dX12_wrongOn_131 ?_
                    refine A_iconst (v := 2) dX12_wrongOn_133 (by decide) ?_
                    refine A_iload3 dX12_wrongOn_134 ?_
                    refine A_imul dX12_wrongOn_135 ?_
                    refine A_vi3 lk_X12_392 yv_X12_fits dX12_wrongOn_136 (rfl) (rfl) (T_X12_fits hL3.1 hb) (by decide) (Nat.le_of_ble_eq_true rfl) (fun r_136 μ_136 h_136 => ?_)
                    obtain ⟨rfl, e_136⟩ := h_136
                    replace e_136 := e_136.symm
                    subst e_136
                    refine A_if_eq (tgt := 146) dX12_wrongOn_139 (by decide) (fun c_139 => ?_) (fun c_139 => ?_)
                    · refine A_iconst (v := 5) dX12_wrongOn_146 (by decide) ?_
                      refine A_iret dX12_wrongOn_147 ?_
                      refine ⟨_, rfl, ?_, hL3⟩
                      unfold wrS
                      rw [if_neg (fun q => q.elim c_24 c_32)]
                      rw [if_neg (bz_0.mp c_45)]
                      rw [if_neg (fun q => bz_0.mp c_71 q.2)]
                      rw [if_neg (fun q => by have h9 := (nI_le0 (a := d) (by omega)).mp c_77; omega)]
                      rw [if_neg (bz_0.mp c_108)]
                      rw [if_neg (fun q => bz_0.mp c_139 q.2.2)]
                    · refine A_iconst (v := 4) dX12_wrongOn_142 (by decide) ?_
                      refine A_goto (tgt := 147) dX12_wrongOn_143 (by decide) ?_
                      refine A_iret dX12_wrongOn_147 ?_
                      refine ⟨_, rfl, ?_, hL3⟩
                      unfold wrS
                      rw [if_neg (fun q => q.elim c_24 c_32)]
                      rw [if_neg (bz_0.mp c_45)]
                      rw [if_neg (fun q => bz_0.mp c_71 q.2)]
                      rw [if_neg (fun q => by have h9 := (nI_le0 (a := d) (by omega)).mp c_77; omega)]
                      rw [if_neg (bz_0.mp c_108)]
                      rw [if_pos ⟨c_120, i_nle c_126, Classical.not_not.mp (fun z => c_139 (bz_0.mpr z))⟩]
              · refine A_iconst (v := 3) dX12_wrongOn_111 (by decide) ?_
                refine A_iret dX12_wrongOn_112 ?_
                refine ⟨_, rfl, ?_, hL3⟩
                unfold wrS
                rw [if_neg (fun q => q.elim c_24 c_32)]
                rw [if_neg (bz_0.mp c_45)]
                rw [if_neg (fun q => bz_0.mp c_71 q.2)]
                rw [if_neg (fun q => by have h9 := (nI_le0 (a := d) (by omega)).mp c_77; omega)]
                rw [if_pos (Classical.not_not.mp (fun z => c_108 (bz_0.mpr z)))]
            · have hd0 : 0 < d := by rcases Nat.eq_zero_or_pos d with q | q; exact absurd ((nI_le0 (by omega)).mpr q) c_77; exact q
              have ix : 60 * nI b + nI d - 1 = nI (60 * b + (d - 1)) := by rw [nI_60, show (1 : Int32) = nI 1 from rfl, pk_sub (by omega)]; congr 1; omega
              refine A_aload0 dX12_wrongOn_80 ?_
              refine A_getR gf_X12_103 rfl dX12_wrongOn_81 ?_
              refine A_bipush (v := 60) dX12_wrongOn_84 (by decide) ?_
              refine A_iload1 dX12_wrongOn_86 ?_
              refine A_imul dX12_wrongOn_87 ?_
              refine A_iload2 dX12_wrongOn_88 ?_
              refine A_iadd dX12_wrongOn_89 ?_
              refine A_iconst (v := 1) dX12_wrongOn_90 (by decide) ?_
              refine A_isub dX12_wrongOn_91 ?_
              refine A_iald (rfl) (by rw [ix]; exact vp_in_nI (by omega) (by omega)) dX12_wrongOn_92 ?_
              rw [ix, nI_c (by omega), hL2.2.2.1 _ (by omega)]
              refine A_val (y := rdN σ k b (d - 1)) rfl ?_
              refine A_iload3 dX12_wrongOn_93 ?_
              refine A_icmp_ne (tgt := 99) dX12_wrongOn_94 (by decide) (fun c_94 => ?_) (fun c_94 => ?_)
              · refine A_aload0 dX12_wrongOn_99 ?_
                refine A_iload1 dX12_wrongOn_100 ?_
                refine A_iload2 dX12_wrongOn_101 ?_
                refine A_iload4 dX12_wrongOn_102 ?_
                refine A_iload3 dX12_wrongOn_104 ?_
                refine A_vi4 lk_X12_403 yv_X12_isRow dX12_wrongOn_105 (rfl) (rfl) (T_X12_isRow hL2 hw hb hd) (by decide) (Nat.le_of_ble_eq_true rfl) (fun r_105 μ_105 h_105 => ?_)
                obtain ⟨rfl, hL3⟩ := h_105
                refine A_if_eq (tgt := 113) dX12_wrongOn_108 (by decide) (fun c_108 => ?_) (fun c_108 => ?_)
                · refine A_aload0 dX12_wrongOn_113 ?_
                  refine A_getR gf_X12_33 rfl dX12_wrongOn_114 ?_
                  refine A_iload1 dX12_wrongOn_117 ?_
                  refine A_iald (rfl) (vp_in_nI hb (by omega)) dX12_wrongOn_118 ?_
                  rw [nI_c (by omega), hL3.1.1 7 _ rfl]
                  refine A_iconst (v := 2) dX12_wrongOn_119 (by decide) ?_
                  refine A_icmp_ne (tgt := 146) dX12_wrongOn_120 (by decide) (fun c_120 => ?_) (fun c_120 => ?_)
                  · refine A_iconst (v := 5) dX12_wrongOn_146 (by decide) ?_
                    refine A_iret dX12_wrongOn_147 ?_
                    refine ⟨_, rfl, ?_, hL3⟩
                    unfold wrS
                    rw [if_neg (fun q => q.elim c_24 c_32)]
                    rw [if_neg (bz_0.mp c_45)]
                    rw [if_neg (fun q => bz_0.mp c_71 q.2)]
                    rw [if_neg (fun q => c_94 q.2)]
                    rw [if_neg (bz_0.mp c_108)]
                    rw [if_neg (fun q => c_120 q.1)]
                  · refine A_iload3 dX12_wrongOn_123 ?_
                    refine A_iload4 dX12_wrongOn_124 ?_
                    refine A_icmp_ge (tgt := 146) dX12_wrongOn_126 (by decide) (fun c_126 => ?_) (fun c_126 => ?_)
                    · refine A_iconst (v := 5) dX12_wrongOn_146 (by decide) ?_
                      refine A_iret dX12_wrongOn_147 ?_
                      refine ⟨_, rfl, ?_, hL3⟩
                      unfold wrS
                      rw [if_neg (fun q => q.elim c_24 c_32)]
                      rw [if_neg (bz_0.mp c_45)]
                      rw [if_neg (fun q => bz_0.mp c_71 q.2)]
                      rw [if_neg (fun q => c_94 q.2)]
                      rw [if_neg (bz_0.mp c_108)]
                      rw [if_neg (fun q => by have h8 := i_lt.mp q.2.1; have h9 := i_le.mp c_126; omega)]
                    · refine A_aload0 dX12_wrongOn_129 ?_
                      refine A_iload1 dX12_wrongOn_130 ?_
                      refine A_iload4 dX12_wrongOn_131 ?_
                      refine A_iconst (v := 2) dX12_wrongOn_133 (by decide) ?_
                      refine A_iload3 dX12_wrongOn_134 ?_
                      refine A_imul dX12_wrongOn_135 ?_
                      refine A_vi3 lk_X12_392 yv_X12_fits dX12_wrongOn_136 (rfl) (rfl) (T_X12_fits hL3.1 hb) (by decide) (Nat.le_of_ble_eq_true rfl) (fun r_136 μ_136 h_136 => ?_)
                      obtain ⟨rfl, e_136⟩ := h_136
                      replace e_136 := e_136.symm
                      subst e_136
                      refine A_if_eq (tgt := 146) dX12_wrongOn_139 (by decide) (fun c_139 => ?_) (fun c_139 => ?_)
                      · refine A_iconst (v := 5) dX12_wrongOn_146 (by decide) ?_
                        refine A_iret dX12_wrongOn_147 ?_
                        refine ⟨_, rfl, ?_, hL3⟩
                        unfold wrS
                        rw [if_neg (fun q => q.elim c_24 c_32)]
                        rw [if_neg (bz_0.mp c_45)]
                        rw [if_neg (fun q => bz_0.mp c_71 q.2)]
                        rw [if_neg (fun q => c_94 q.2)]
                        rw [if_neg (bz_0.mp c_108)]
                        rw [if_neg (fun q => bz_0.mp c_139 q.2.2)]
                      · refine A_iconst (v := 4) dX12_wrongOn_142 (by decide) ?_
                        refine A_goto (tgt := 147) dX12_wrongOn_143 (by decide) ?_
                        refine A_iret dX12_wrongOn_147 ?_
                        refine ⟨_, rfl, ?_, hL3⟩
                        unfold wrS
                        rw [if_neg (fun q => q.elim c_24 c_32)]
                        rw [if_neg (bz_0.mp c_45)]
                        rw [if_neg (fun q => bz_0.mp c_71 q.2)]
                        rw [if_neg (fun q => c_94 q.2)]
                        rw [if_neg (bz_0.mp c_108)]
                        rw [if_pos ⟨c_120, i_nle c_126, Classical.not_not.mp (fun z => c_139 (bz_0.mpr z))⟩]
                · refine A_iconst (v := 3) dX12_wrongOn_111 (by decide) ?_
                  refine A_iret dX12_wrongOn_112 ?_
                  refine ⟨_, rfl, ?_, hL3⟩
                  unfold wrS
                  rw [if_neg (fun q => q.elim c_24 c_32)]
                  rw [if_neg (bz_0.mp c_45)]
                  rw [if_neg (fun q => bz_0.mp c_71 q.2)]
                  rw [if_neg (fun q => c_94 q.2)]
                  rw [if_pos (Classical.not_not.mp (fun z => c_108 (bz_0.mpr z)))]
              · refine A_iconst (v := 2) dX12_wrongOn_97 (by decide) ?_
                refine A_iret dX12_wrongOn_98 ?_
                refine ⟨_, rfl, ?_, hL2⟩
                unfold wrS
                rw [if_neg (fun q => q.elim c_24 c_32)]
                rw [if_neg (bz_0.mp c_45)]
                rw [if_neg (fun q => bz_0.mp c_71 q.2)]
                rw [if_pos ⟨hd0, c_94⟩]
          · refine A_iconst (v := 1) dX12_wrongOn_74 (by decide) ?_
            refine A_iret dX12_wrongOn_75 ?_
            refine ⟨_, rfl, ?_, hL2⟩
            unfold wrS
            rw [if_neg (fun q => q.elim c_24 c_32)]
            rw [if_neg (bz_0.mp c_45)]
            rw [if_pos ⟨c_57, Classical.not_not.mp (fun z => c_71 (bz_0.mpr z))⟩]
      · refine A_iconst (v := 0) dX12_wrongOn_48 (by decide) ?_
        refine A_iret dX12_wrongOn_49 ?_
        refine ⟨_, rfl, ?_, hL2⟩
        unfold wrS
        rw [if_neg (fun q => q.elim c_24 c_32)]
        rw [if_pos (Classical.not_not.mp (fun z => c_45 (bz_0.mpr z)))]
    · refine A_iconst (v := -1) dX12_wrongOn_35 (by decide) ?_
      refine A_iret dX12_wrongOn_36 ?_
      refine ⟨_, rfl, ?_, hL2⟩
      unfold wrS
      rw [if_pos (Or.inr c_32)]
set_option maxHeartbeats 4000000 in
set_option maxRecDepth 100000 in
theorem T_X12_wrong {l : Launch} {G : Wd} {b d k : Int32} {μ : Mem} (hw : WF μ) : Mt l G KM yX12_wrong cX12_wrong 4 (some .int) 9 [.ref (gA G 0), .int b, .int d, .int k] μ (Qi (fun v μ' => v = sp_wrong μ b d k ∧ Pm μ μ')) := by
  refine Mt.of (own := RX12) (n := 0) (by decide) rfl [some (.ref (gA G 0)), some (.int b), some (.int d), some (.int k)] rfl (Nat.le_of_ble_eq_true rfl) ?_
  refine A_aload0 dX12_wrong_0 ?_
  refine A_iload1 dX12_wrong_1 ?_
  refine A_iload2 dX12_wrong_2 ?_
  refine A_vi2 lk_X12_357 yv_X12_isPlace dX12_wrong_3 (rfl) (rfl) (T_X12_isPlace) (by decide) (Nat.le_of_ble_eq_true rfl) (fun r_3 μ_3 h_3 => ?_)
  obtain ⟨rfl, e_3⟩ := h_3
  replace e_3 := e_3.symm
  subst e_3
  refine A_if_ne (tgt := 11) dX12_wrong_6 (by decide) (fun c_6 => ?_) (fun c_6 => ?_)
  · have hp : isPl μ b d := Classical.not_not.mp (fun z => c_6 (bz_0.mpr z))
    obtain ⟨bn, dn, rfl, rfl, hb5, hd6, hok, eb, ed, hbn⟩ := i_pl hw.2.2 hp
    refine A_aload0 dX12_wrong_11 ?_
    refine A_iload3 dX12_wrong_12 ?_
    refine A_vv1 lk_X12_354 yv_X12_layOut dX12_wrong_13 (rfl) (rfl) (T_X12_layOut hw.2.1) (by decide) (Nat.le_of_ble_eq_true rfl) (fun μ_13 h_13 => ?_)
    refine A_aload0 dX12_wrong_16 ?_
    refine A_iload1 dX12_wrong_17 ?_
    refine A_iload2 dX12_wrong_18 ?_
    refine A_vi2 lk_X12_407 yv_X12_wrongOn dX12_wrong_19 (rfl) (rfl) (T_X12_wrongOn h_13 hw.2.2 hb5 hd6 hok) (by decide) (Nat.le_of_ble_eq_true rfl) (fun r_19 μ_19 h_19 => ?_)
    obtain ⟨rfl, hL2⟩ := h_19
    refine A_iret dX12_wrong_22 ?_
    refine ⟨_, rfl, ?_, hL2.1⟩
    unfold sp_wrong
    rw [if_pos hp, eb, ed]
  · refine A_iconst (v := -1) dX12_wrong_9 (by decide) ?_
    refine A_iret dX12_wrong_10 ?_
    refine ⟨_, rfl, ?_, Pm.rf⟩
    unfold sp_wrong
    rw [if_neg (bz_0.mp c_6)]

/-! bounds learnt -/
def WFm (σ : Mem) : Prop := ∀ d, d < 60 → σ.1 19 d = 0 ∨ σ.1 19 d = 1
def gl (σ : Mem) (k : Int32) (b : Nat) (m : Int32) : Nat → List Nat
  | 0 => []
  | n + 1 => if cdP σ k b m n then gl σ k b m n ++ [n] else gl σ k b m n
theorem gl_n (σ : Mem) (k : Int32) (b : Nat) (m : Int32) : ∀ n, (gl σ k b m n).length = cdS σ k b m n := by
  intro n
  induction n with
  | zero => rfl
  | succ n ih =>
    unfold gl cdS
    split
    · rw [List.length_append, ih]; rfl
    · exact ih
theorem gl_m (σ : Mem) (k : Int32) (b : Nat) (m : Int32) : ∀ n d, d ∈ gl σ k b m n → d < n ∧ cdP σ k b m d := by
  intro n
  induction n with
  | zero => intro d h; cases h
  | succ n ih =>
    intro d h
    unfold gl at h
    split at h
    · rename_i q
      rcases List.mem_append.mp h with h | h
      · have := ih d h; exact ⟨by omega, this.2⟩
      · rw [List.mem_singleton.mp h]; exact ⟨by omega, q⟩
    · have := ih d h; exact ⟨by omega, this.2⟩
def htB (σ : Mem) (k : Int32) (b : Nat) (c way : Int32) (d : Nat) : Bool := decide (saysW c way (rdN σ k b d) ↔ wnS σ k d = 1)
theorem gl_c (σ : Mem) (k : Int32) (b : Nat) (c way m : Int32) : ∀ n, ((gl σ k b m n).filter (htB σ k b c way)).length = crS σ k b c way m n := by
  intro n
  induction n with
  | zero => rfl
  | succ n ih =>
    unfold gl crS
    by_cases q : cdP σ k b m n
    · rw [if_pos q, List.filter_append, List.length_append, ih]
      by_cases p : saysW c way (rdN σ k b n) ↔ wnS σ k n = 1
      · rw [if_pos ⟨q, p⟩, List.filter_cons_of_pos (by unfold htB; exact decide_eq_true p)]; rfl
      · rw [if_neg (fun z => p z.2), List.filter_cons_of_neg (by unfold htB; rw [decide_eq_false p]; decide)]; rfl
    · rw [if_neg q, if_neg (fun z => q z.1), ih]; rfl
def GaI (σ : Mem) (k : Int32) (b : Nat) (m : Int32) (n : Nat) (μ : Mem) : Prop := μ.1 80 9 = nI (gl σ k b m n).length ∧ ∀ (i d : Nat), (gl σ k b m n)[i]? = some d → μ.1 83 i = rdN σ k b d ∧ μ.1 84 i = wnV σ k d
theorem GaI.skip {σ μ : Mem} {k m : Int32} {b n : Nat} (h : GaI σ k b m n μ) (hn : ¬ cdP σ k b m n) : GaI σ k b m (n + 1) μ := by
  unfold GaI gl
  rw [if_neg hn]
  exact h
theorem GaI.add {σ μ : Mem} {k m : Int32} {b n : Nat} (h : GaI σ k b m n μ) (hn : cdP σ k b m n) : GaI σ k b m (n + 1) (wI (wI (wI μ 83 (gl σ k b m n).length (rdN σ k b n)) 84 (gl σ k b m n).length (wnV σ k n)) 80 9 (nI ((gl σ k b m n).length + 1))) := by
  unfold GaI
  rw [show gl σ k b m (n + 1) = gl σ k b m n ++ [n] from if_pos hn]
  refine ⟨by rw [wI_same, List.length_append]; rfl, fun i d hd => ?_⟩
  by_cases e : i < (gl σ k b m n).length
  · rw [List.getElem?_append_left e] at hd
    obtain ⟨a1, a2⟩ := h.2 i d hd
    exact ⟨((wI_ne (by omega)).trans ((wI_ne (by omega)).trans (wI_ne (by omega)))).trans a1, ((wI_ne (by omega)).trans ((wI_ne (by omega)).trans (wI_ne (by omega)))).trans a2⟩
  · have hi := (List.getElem?_eq_some_iff.mp hd).1
    rw [List.length_append] at hi
    have hi2 : i < (gl σ k b m n).length + 1 := hi
    obtain rfl : i = (gl σ k b m n).length := by omega
    rw [List.getElem?_append_right (Nat.le_refl _), Nat.sub_self] at hd
    have ed : n = d := Option.some.inj hd
    subst ed
    exact ⟨(wI_ne (by omega)).trans ((wI_ne (by omega)).trans wI_same), (wI_ne (by omega)).trans wI_same⟩
set_option maxHeartbeats 400000 in
set_option maxRecDepth 100000 in
theorem L_X10_gather_7 {l : Launch} {G : Wd} {k mm : Int32} {b : Nat} {σ M : Mem} (hM : Wk σ k M) (hbn : b < nbx σ) (hm : WFm σ) (m01 : mm = 0 ∨ mm = 1) : ∀ (q d : Nat) (m : Mem) (x4 x5 x6 : Option Value), q + d = 60 → GaI σ k b mm d m → St M m → AW l G KC RX10 cX10_gather 7 4 none (Qv (fun μ' => GaI σ k b mm 60 μ' ∧ St M μ')) 7 [some (.ref (gA G 80)), some (.int (nI b)), some (.int mm), some (.int (nI d)), x4, x5, x6] [] m := by
  intro q
  induction q with
  | zero =>
    intro d m x4 x5 x6 hq hI hF
    obtain rfl : d = 60 := by omega
    refine A_iload3 dX10_gather_7 ?_
    refine A_bipush (v := 60) dX10_gather_8 (by decide) ?_
    refine A_icmp_ge (tgt := 113) dX10_gather_10 (by decide) (fun c_10 => ?_) (fun c_10 => absurd c_10 (fun z => z (Int32.le_refl _)))
    refine A_vret dX10_gather_113 ?_
    exact ⟨rfl, hI, hF⟩
  | succ q ih =>
    intro d m x4 x5 x6 hq hI hF
    have hd : d < 60 := by omega
    have hWk := hF.wk hM
    have hL : RcL σ m := hWk.1.2.2.1.2.2.2
    obtain ⟨w1, w2⟩ := wn_i (σ := σ) (k := k) (d := d)
    have hmd := hL.2.2.1 d hd
    have h01 := hm d hd
    have hle := cdS_le σ k b mm d
    rw [← gl_n] at hle
    refine A_iload3 dX10_gather_7 ?_
    refine A_bipush (v := 60) dX10_gather_8 (by decide) ?_
    refine A_icmp_ge (tgt := 113) dX10_gather_10 (by decide) (fun c_10 => absurd c_10 (fun z => nI_ge (a := d) (b := 60) hd (by decide) z)) (fun c_10 => ?_)
    refine A_aload0 dX10_gather_13 ?_
    refine A_getR gf_X10_15 rfl dX10_gather_14 ?_
    refine A_iload1 dX10_gather_17 ?_
    refine A_iload3 dX10_gather_18 ?_
    refine A_vi2 lk_X10_113 yv_X4_number dX10_gather_19 (rfl) (rfl) (T_X4_number hWk.n5) (by decide) (Nat.le_of_ble_eq_true rfl) (fun r_19 μ_19 h_19 => ?_)
    obtain ⟨v_19, e_19⟩ := h_19
    replace v_19 := Eq.symm v_19
    subst v_19
    replace e_19 := e_19.symm
    subst e_19
    refine A_val (y := rdN σ k b d) (num_e hWk hbn hd) ?_
    refine A_istore4 dX10_gather_22 rfl (by decide) ?_
    refine A_aload0 dX10_gather_24 ?_
    refine A_getR gf_X10_15 rfl dX10_gather_25 ?_
    refine A_iconst (v := 2) dX10_gather_28 (by decide) ?_
    refine A_iload3 dX10_gather_29 ?_
    refine A_iconst (v := 1) dX10_gather_30 (by decide) ?_
    refine A_iadd dX10_gather_31 ?_
    refine A_vi2 lk_X10_64 yv_X4_distant dX10_gather_32 (rfl) (rfl) (T_X4_distant) (by decide) (Nat.le_of_ble_eq_true rfl) (fun r_32 μ_32 h_32 => ?_)
    obtain ⟨v_32, e_32⟩ := h_32
    replace v_32 := Eq.symm v_32
    subst v_32
    replace e_32 := e_32.symm
    subst e_32
    refine A_val (y := wnV σ k d) (wn_s hWk hd) ?_
    refine A_istore5 dX10_gather_35 rfl (by decide) ?_
    refine A_iload4 dX10_gather_37 ?_
    refine A_ldc dX10_gather_39 kc_X10_70 ?_
    refine A_icmp_eq (tgt := 55) dX10_gather_41 (by decide) (fun c_41 => ?_) (fun c_41 => ?_)
    · refine A_iconst (v := 0) dX10_gather_55 (by decide) ?_
      refine A_istore6 dX10_gather_56 rfl (by decide) ?_
      refine A_iload6 dX10_gather_58 ?_
      refine A_if_eq (tgt := 107) dX10_gather_60 (by decide) (fun c_60 => ?_) (fun c_60 => absurd c_60 (fun z => z rfl))
      refine A_iinc3 dX10_gather_107 rfl rfl (by decide) ?_
      refine A_goto (tgt := 7) dX10_gather_110 (by decide) ?_
      rw [show nI d + Int32.ofInt 1 = nI (d + 1) from nI_1 d]
      exact ih (d + 1) m _ _ _ (by omega) (hI.skip (fun z => z.2.1 c_41)) hF
    · refine A_iload5 dX10_gather_44 ?_
      refine A_ldc dX10_gather_46 kc_X10_70 ?_
      refine A_icmp_eq (tgt := 55) dX10_gather_48 (by decide) (fun c_48 => ?_) (fun c_48 => ?_)
      · refine A_iconst (v := 0) dX10_gather_55 (by decide) ?_
        refine A_istore6 dX10_gather_56 rfl (by decide) ?_
        refine A_iload6 dX10_gather_58 ?_
        refine A_if_eq (tgt := 107) dX10_gather_60 (by decide) (fun c_60 => ?_) (fun c_60 => absurd c_60 (fun z => z rfl))
        refine A_iinc3 dX10_gather_107 rfl rfl (by decide) ?_
        refine A_goto (tgt := 7) dX10_gather_110 (by decide) ?_
        rw [show nI d + Int32.ofInt 1 = nI (d + 1) from nI_1 d]
        exact ih (d + 1) m _ _ _ (by omega) (hI.skip (fun z => z.2.2 (w1.mpr c_48))) hF
      · refine A_iconst (v := 1) dX10_gather_51 (by decide) ?_
        refine A_goto (tgt := 56) dX10_gather_52 (by decide) ?_
        refine A_istore6 dX10_gather_56 rfl (by decide) ?_
        refine A_iload6 dX10_gather_58 ?_
        refine A_if_eq (tgt := 107) dX10_gather_60 (by decide) (fun c_60 => absurd c_60 (fun z => absurd z (by decide))) (fun c_60 => ?_)
        refine A_aload0 dX10_gather_63 ?_
        refine A_getR gf_X10_19 rfl dX10_gather_64 ?_
        refine A_iload3 dX10_gather_67 ?_
        refine A_vi1 lk_X10_71 yv_X2_isMade dX10_gather_68 (rfl) (rfl) (T_X2_isMade hL.1) (by decide) (Nat.le_of_ble_eq_true rfl) (fun r_68 μ_68 h_68 => ?_)
        obtain ⟨v_68, e_68⟩ := h_68
        replace e_68 := e_68.symm
        subst e_68
        have ev : r_68 = σ.1 19 d := by
          rcases v_68 with ⟨y, z⟩ | ⟨y, z⟩
          · rw [y]; exact (h01.resolve_left (hmd.mpr z)).symm
          · rw [y]; exact (Classical.not_not.mp (fun u => z (hmd.mp u))).symm
        refine A_iload2 dX10_gather_71 ?_
        refine A_icmp_ne (tgt := 107) dX10_gather_72 (by decide) (fun c_72 => ?_) (fun c_72 => ?_)
        · refine A_iinc3 dX10_gather_107 rfl rfl (by decide) ?_
          refine A_goto (tgt := 7) dX10_gather_110 (by decide) ?_
          rw [show nI d + Int32.ofInt 1 = nI (d + 1) from nI_1 d]
          exact ih (d + 1) m _ _ _ (by omega) (hI.skip (fun z => c_72 (ev.trans z.1))) hF
        · refine A_aload0 dX10_gather_75 ?_
          refine A_getR gf_X10_32 rfl dX10_gather_76 ?_
          refine A_aload0 dX10_gather_79 ?_
          refine A_getI gf_X10_107 rfl dX10_gather_80 ?_
          refine A_val (y := nI (gl σ k b mm d).length) (hI.1) ?_
          refine A_iload4 dX10_gather_83 ?_
          refine A_iast (rfl) (vp_in_nI (by omega) (by omega)) dX10_gather_85 ?_
          rw [nI_c (by omega)]
          refine A_aload0 dX10_gather_86 ?_
          refine A_getR gf_X10_35 rfl dX10_gather_87 ?_
          refine A_aload0 dX10_gather_90 ?_
          refine A_getI gf_X10_107 rfl dX10_gather_91 ?_
          refine A_val (y := nI (gl σ k b mm d).length) ((wI_ne (by omega)).trans hI.1) ?_
          refine A_iload5 dX10_gather_94 ?_
          refine A_iast (rfl) (vp_in_nI (by omega) (by omega)) dX10_gather_96 ?_
          rw [nI_c (by omega)]
          refine A_aload0 dX10_gather_97 ?_
          refine A_dup dX10_gather_98 rfl ?_
          refine A_getI gf_X10_107 rfl dX10_gather_99 ?_
          refine A_val (y := nI (gl σ k b mm d).length) ((wI_ne (by omega)).trans ((wI_ne (by omega)).trans hI.1)) ?_
          refine A_iconst (v := 1) dX10_gather_102 (by decide) ?_
          refine A_iadd dX10_gather_103 ?_
          rw [show nI (gl σ k b mm d).length + 1 = nI ((gl σ k b mm d).length + 1) from nI_1 _]
          refine A_putI gf_X10_107 rfl dX10_gather_104 ?_
          refine A_iinc3 dX10_gather_107 rfl rfl (by decide) ?_
          refine A_goto (tgt := 7) dX10_gather_110 (by decide) ?_
          rw [show nI d + Int32.ofInt 1 = nI (d + 1) from nI_1 d]
          exact ih (d + 1) _ _ _ _ (by omega) (hI.add ⟨ev.symm.trans c_72, c_41, fun z => c_48 (w1.mp z)⟩) (((hF.w (by decide)).w (by decide)).w (by decide))
set_option maxHeartbeats 100000 in
set_option maxRecDepth 100000 in
theorem T_X10_gather {l : Launch} {G : Wd} {k mm : Int32} {b : Nat} {σ M : Mem} (hM : Wk σ k M) (hbn : b < nbx σ) (hm : WFm σ) (m01 : mm = 0 ∨ mm = 1) : Mt l G KC yX10_gather cX10_gather 7 none 4 [.ref (gA G 80), .int (nI b), .int mm] M (Qv (fun μ' => GaI σ k b mm 60 μ' ∧ St M μ')) := by
  refine Mt.of (own := RX10) (n := 4) (by decide) rfl [some (.ref (gA G 80)), some (.int (nI b)), some (.int mm), none, none, none, none] rfl (Nat.le_of_ble_eq_true rfl) ?_
  refine A_aload0 dX10_gather_0 ?_
  refine A_iconst (v := 0) dX10_gather_1 (by decide) ?_
  refine A_putI gf_X10_107 rfl dX10_gather_2 ?_
  refine A_iconst (v := 0) dX10_gather_5 (by decide) ?_
  refine A_istore3 dX10_gather_6 rfl (by decide) ?_
  exact L_X10_gather_7 hM hbn hm m01 60 0 _ _ _ _ (by omega) ⟨wI_same, fun i d h => by cases h⟩ (St.rf.w (by decide))
set_option maxHeartbeats 400000 in
set_option maxRecDepth 100000 in
theorem L_X10_hitsBy_5 {l : Launch} {G : Wd} {k mm way c : Int32} {b : Nat} {σ μ : Mem} (hI : GaI σ k b mm 60 μ) : ∀ (R L : List Nat) (x5 : Option Value), L ++ R = gl σ k b mm 60 → AW l G KC RX10 cX10_hitsBy 6 1 (some .int) (Qi (fun v μ' => v = nI (crS σ k b c way mm 60) ∧ μ' = μ)) 5 [some (.ref (gA G 80)), some (.int way), some (.int c), some (.int (nI (L.filter (htB σ k b c way)).length)), some (.int (nI L.length)), x5] [] μ := by
  have hle := cdS_le σ k b mm 60
  rw [← gl_n] at hle
  intro R
  induction R with
  | nil =>
    intro L x5 hL
    have hL2 : L = gl σ k b mm 60 := by rw [← hL]; exact (List.append_nil L).symm
    refine A_iload4 dX10_hitsBy_5 ?_
    refine A_aload0 dX10_hitsBy_7 ?_
    refine A_getI gf_X10_107 rfl dX10_hitsBy_8 ?_
    rw [hI.1]
    refine A_icmp_ge (tgt := 89) dX10_hitsBy_11 (by decide) (fun c_11 => ?_) (fun c_11 => absurd c_11 (fun z => z (by rw [hL2]; exact Int32.le_refl _)))
    refine A_iload3 dX10_hitsBy_89 ?_
    refine A_iret dX10_hitsBy_90 ?_
    refine ⟨_, rfl, ?_, rfl⟩
    rw [hL2, gl_c]
  | cons d R ih =>
    intro L x5 hL
    have hx : (gl σ k b mm 60)[L.length]? = some d := by rw [← hL, List.getElem?_append_right (Nat.le_refl _), Nat.sub_self]; rfl
    have hLl := (List.getElem?_eq_some_iff.mp hx).1
    have hL3 : (L ++ [d]) ++ R = gl σ k b mm 60 := by rw [← hL, List.append_assoc]; rfl
    have hl3 : (L ++ [d]).length = L.length + 1 := by simp
    obtain ⟨g1, g2⟩ := gl_m σ k b mm 60 d (List.mem_of_getElem? hx)
    obtain ⟨w1, w2⟩ := wn_i (σ := σ) (k := k) (d := d)
    have w3 := w2 (fun z => g2.2.2 (w1.mpr z))
    obtain ⟨a1, a2⟩ := hI.2 _ _ hx
    have hh := fun x => ih (L ++ [d]) x hL3
    rw [hl3, List.filter_append, List.length_append] at hh
    refine A_iload4 dX10_hitsBy_5 ?_
    refine A_aload0 dX10_hitsBy_7 ?_
    refine A_getI gf_X10_107 rfl dX10_hitsBy_8 ?_
    rw [hI.1]
    refine A_icmp_ge (tgt := 89) dX10_hitsBy_11 (by decide) (fun c_11 => absurd c_11 (fun z => nI_ge (by omega) (by omega) z)) (fun c_11 => ?_)
    refine A_iload1 dX10_hitsBy_14 ?_
    refine A_if_ne (tgt := 37) dX10_hitsBy_15 (by decide) (fun c_15 => ?_) (fun c_15 => ?_)
    · refine A_aload0 dX10_hitsBy_37 ?_
      refine A_getR gf_X10_32 rfl dX10_hitsBy_38 ?_
      refine A_iload4 dX10_hitsBy_41 ?_
      refine A_iald (rfl) (vp_in_nI (by omega) (by omega)) dX10_hitsBy_43 ?_
      refine A_val (y := rdN σ k b d) (by rw [nI_c (by omega)]; exact a1) ?_
      refine A_iload2 dX10_hitsBy_44 ?_
      refine A_icmp_ge (tgt := 52) dX10_hitsBy_45 (by decide) (fun c_45 => ?_) (fun c_45 => ?_)
      · refine A_iconst (v := 0) dX10_hitsBy_52 (by decide) ?_
        refine A_istore5 dX10_hitsBy_53 rfl (by decide) ?_
        refine A_iload3 dX10_hitsBy_55 ?_
        refine A_iload5 dX10_hitsBy_56 ?_
        refine A_aload0 dX10_hitsBy_58 ?_
        refine A_getR gf_X10_35 rfl dX10_hitsBy_59 ?_
        refine A_iload4 dX10_hitsBy_62 ?_
        refine A_iald (rfl) (vp_in_nI (by omega) (by omega)) dX10_hitsBy_64 ?_
        refine A_val (y := wnV σ k d) (by rw [nI_c (by omega)]; exact a2) ?_
        refine A_if_le (tgt := 72) dX10_hitsBy_65 (by decide) (fun c_65 => ?_) (fun c_65 => ?_)
        · refine A_iconst (v := 0) dX10_hitsBy_72 (by decide) ?_
          refine A_icmp_ne (tgt := 80) dX10_hitsBy_73 (by decide) (fun c_73 => absurd c_73 (fun z => z rfl)) (fun c_73 => ?_)
          refine A_iconst (v := 1) dX10_hitsBy_76 (by decide) ?_
          refine A_goto (tgt := 81) dX10_hitsBy_77 (by decide) ?_
          refine A_iadd dX10_hitsBy_81 ?_
          refine A_istore3 dX10_hitsBy_82 rfl (by decide) ?_
          refine A_iinc4 dX10_hitsBy_83 rfl rfl (by decide) ?_
          refine A_goto (tgt := 5) dX10_hitsBy_86 (by decide) ?_
          rw [show nI L.length + Int32.ofInt 1 = nI (L.length + 1) from nI_1 _]
          have es : saysW c way (rdN σ k b d) ↔ rdN σ k b d < c := by show (if way = 0 then _ else _) ↔ _; rw [if_neg c_15]
          have eb : htB σ k b c way d = true := decide_eq_true ⟨fun z => absurd (es.mp z) (Int32.not_lt.mpr c_45), fun z => absurd z (fun z => w3.mp z c_65)⟩
          rw [List.filter_cons_of_pos eb] at hh
          rw [show nI (List.filter (htB σ k b c way) L).length + 1 = nI ((List.filter (htB σ k b c way) L).length + 1) from nI_1 _]
          exact hh _
        · refine A_iconst (v := 1) dX10_hitsBy_68 (by decide) ?_
          refine A_goto (tgt := 73) dX10_hitsBy_69 (by decide) ?_
          refine A_icmp_ne (tgt := 80) dX10_hitsBy_73 (by decide) (fun c_73 => ?_) (fun c_73 => absurd c_73 (by decide))
          refine A_iconst (v := 0) dX10_hitsBy_80 (by decide) ?_
          refine A_iadd dX10_hitsBy_81 ?_
          refine A_istore3 dX10_hitsBy_82 rfl (by decide) ?_
          refine A_iinc4 dX10_hitsBy_83 rfl rfl (by decide) ?_
          refine A_goto (tgt := 5) dX10_hitsBy_86 (by decide) ?_
          rw [show nI L.length + Int32.ofInt 1 = nI (L.length + 1) from nI_1 _]
          have es : saysW c way (rdN σ k b d) ↔ rdN σ k b d < c := by show (if way = 0 then _ else _) ↔ _; rw [if_neg c_15]
          have eb : htB σ k b c way d = false := decide_eq_false (fun z => (Int32.not_lt.mpr c_45) (es.mp (z.mpr (w3.mpr c_65))))
          rw [List.filter_cons_of_neg (by rw [eb]; decide)] at hh
          rw [show nI (List.filter (htB σ k b c way) L).length + 0 = nI ((List.filter (htB σ k b c way) L).length + 0) from Int32.add_zero _]
          exact hh _
      · refine A_iconst (v := 1) dX10_hitsBy_48 (by decide) ?_
        refine A_goto (tgt := 53) dX10_hitsBy_49 (by decide) ?_
        refine A_istore5 dX10_hitsBy_53 rfl (by decide) ?_
        refine A_iload3 dX10_hitsBy_55 ?_
        refine A_iload5 dX10_hitsBy_56 ?_
        refine A_aload0 dX10_hitsBy_58 ?_
        refine A_getR gf_X10_35 rfl dX10_hitsBy_59 ?_
        refine A_iload4 dX10_hitsBy_62 ?_
        refine A_iald (rfl) (vp_in_nI (by omega) (by omega)) dX10_hitsBy_64 ?_
        refine A_val (y := wnV σ k d) (by rw [nI_c (by omega)]; exact a2) ?_
        refine A_if_le (tgt := 72) dX10_hitsBy_65 (by decide) (fun c_65 => ?_) (fun c_65 => ?_)
        · refine A_iconst (v := 0) dX10_hitsBy_72 (by decide) ?_
          refine A_icmp_ne (tgt := 80) dX10_hitsBy_73 (by decide) (fun c_73 => ?_) (fun c_73 => absurd c_73 (by decide))
          refine A_iconst (v := 0) dX10_hitsBy_80 (by decide) ?_
          refine A_iadd dX10_hitsBy_81 ?_
          refine A_istore3 dX10_hitsBy_82 rfl (by decide) ?_
          refine A_iinc4 dX10_hitsBy_83 rfl rfl (by decide) ?_
          refine A_goto (tgt := 5) dX10_hitsBy_86 (by decide) ?_
          rw [show nI L.length + Int32.ofInt 1 = nI (L.length + 1) from nI_1 _]
          have es : saysW c way (rdN σ k b d) ↔ rdN σ k b d < c := by show (if way = 0 then _ else _) ↔ _; rw [if_neg c_15]
          have eb : htB σ k b c way d = false := decide_eq_false (fun z => (fun z => w3.mp z c_65) (z.mp (es.mpr (Int32.not_le.mp c_45))))
          rw [List.filter_cons_of_neg (by rw [eb]; decide)] at hh
          rw [show nI (List.filter (htB σ k b c way) L).length + 0 = nI ((List.filter (htB σ k b c way) L).length + 0) from Int32.add_zero _]
          exact hh _
        · refine A_iconst (v := 1) dX10_hitsBy_68 (by decide) ?_
          refine A_goto (tgt := 73) dX10_hitsBy_69 (by decide) ?_
          refine A_icmp_ne (tgt := 80) dX10_hitsBy_73 (by decide) (fun c_73 => absurd c_73 (fun z => z rfl)) (fun c_73 => ?_)
          refine A_iconst (v := 1) dX10_hitsBy_76 (by decide) ?_
          refine A_goto (tgt := 81) dX10_hitsBy_77 (by decide) ?_
          refine A_iadd dX10_hitsBy_81 ?_
          refine A_istore3 dX10_hitsBy_82 rfl (by decide) ?_
          refine A_iinc4 dX10_hitsBy_83 rfl rfl (by decide) ?_
          refine A_goto (tgt := 5) dX10_hitsBy_86 (by decide) ?_
          rw [show nI L.length + Int32.ofInt 1 = nI (L.length + 1) from nI_1 _]
          have es : saysW c way (rdN σ k b d) ↔ rdN σ k b d < c := by show (if way = 0 then _ else _) ↔ _; rw [if_neg c_15]
          have eb : htB σ k b c way d = true := decide_eq_true ⟨fun _ => w3.mpr c_65, fun _ => es.mpr (Int32.not_le.mp c_45)⟩
          rw [List.filter_cons_of_pos eb] at hh
          rw [show nI (List.filter (htB σ k b c way) L).length + 1 = nI ((List.filter (htB σ k b c way) L).length + 1) from nI_1 _]
          exact hh _
    · refine A_aload0 dX10_hitsBy_18 ?_
      refine A_getR gf_X10_32 rfl dX10_hitsBy_19 ?_
      refine A_iload4 dX10_hitsBy_22 ?_
      refine A_iald (rfl) (vp_in_nI (by omega) (by omega)) dX10_hitsBy_24 ?_
      refine A_val (y := rdN σ k b d) (by rw [nI_c (by omega)]; exact a1) ?_
      refine A_iload2 dX10_hitsBy_25 ?_
      refine A_icmp_le (tgt := 33) dX10_hitsBy_26 (by decide) (fun c_26 => ?_) (fun c_26 => ?_)
      · refine A_iconst (v := 0) dX10_hitsBy_33 (by decide) ?_
        refine A_goto (tgt := 53) dX10_hitsBy_34 (by decide) ?_
        refine A_istore5 dX10_hitsBy_53 rfl (by decide) ?_
        refine A_iload3 dX10_hitsBy_55 ?_
        refine A_iload5 dX10_hitsBy_56 ?_
        refine A_aload0 dX10_hitsBy_58 ?_
        refine A_getR gf_X10_35 rfl dX10_hitsBy_59 ?_
        refine A_iload4 dX10_hitsBy_62 ?_
        refine A_iald (rfl) (vp_in_nI (by omega) (by omega)) dX10_hitsBy_64 ?_
        refine A_val (y := wnV σ k d) (by rw [nI_c (by omega)]; exact a2) ?_
        refine A_if_le (tgt := 72) dX10_hitsBy_65 (by decide) (fun c_65 => ?_) (fun c_65 => ?_)
        · refine A_iconst (v := 0) dX10_hitsBy_72 (by decide) ?_
          refine A_icmp_ne (tgt := 80) dX10_hitsBy_73 (by decide) (fun c_73 => absurd c_73 (fun z => z rfl)) (fun c_73 => ?_)
          refine A_iconst (v := 1) dX10_hitsBy_76 (by decide) ?_
          refine A_goto (tgt := 81) dX10_hitsBy_77 (by decide) ?_
          refine A_iadd dX10_hitsBy_81 ?_
          refine A_istore3 dX10_hitsBy_82 rfl (by decide) ?_
          refine A_iinc4 dX10_hitsBy_83 rfl rfl (by decide) ?_
          refine A_goto (tgt := 5) dX10_hitsBy_86 (by decide) ?_
          rw [show nI L.length + Int32.ofInt 1 = nI (L.length + 1) from nI_1 _]
          have es : saysW c way (rdN σ k b d) ↔ c < rdN σ k b d := by show (if way = 0 then _ else _) ↔ _; rw [if_pos c_15]
          have eb : htB σ k b c way d = true := decide_eq_true ⟨fun z => absurd (es.mp z) (Int32.not_lt.mpr c_26), fun z => absurd z (fun z => w3.mp z c_65)⟩
          rw [List.filter_cons_of_pos eb] at hh
          rw [show nI (List.filter (htB σ k b c way) L).length + 1 = nI ((List.filter (htB σ k b c way) L).length + 1) from nI_1 _]
          exact hh _
        · refine A_iconst (v := 1) dX10_hitsBy_68 (by decide) ?_
          refine A_goto (tgt := 73) dX10_hitsBy_69 (by decide) ?_
          refine A_icmp_ne (tgt := 80) dX10_hitsBy_73 (by decide) (fun c_73 => ?_) (fun c_73 => absurd c_73 (by decide))
          refine A_iconst (v := 0) dX10_hitsBy_80 (by decide) ?_
          refine A_iadd dX10_hitsBy_81 ?_
          refine A_istore3 dX10_hitsBy_82 rfl (by decide) ?_
          refine A_iinc4 dX10_hitsBy_83 rfl rfl (by decide) ?_
          refine A_goto (tgt := 5) dX10_hitsBy_86 (by decide) ?_
          rw [show nI L.length + Int32.ofInt 1 = nI (L.length + 1) from nI_1 _]
          have es : saysW c way (rdN σ k b d) ↔ c < rdN σ k b d := by show (if way = 0 then _ else _) ↔ _; rw [if_pos c_15]
          have eb : htB σ k b c way d = false := decide_eq_false (fun z => (Int32.not_lt.mpr c_26) (es.mp (z.mpr (w3.mpr c_65))))
          rw [List.filter_cons_of_neg (by rw [eb]; decide)] at hh
          rw [show nI (List.filter (htB σ k b c way) L).length + 0 = nI ((List.filter (htB σ k b c way) L).length + 0) from Int32.add_zero _]
          exact hh _
      · refine A_iconst (v := 1) dX10_hitsBy_29 (by decide) ?_
        refine A_goto (tgt := 53) dX10_hitsBy_30 (by decide) ?_
        refine A_istore5 dX10_hitsBy_53 rfl (by decide) ?_
        refine A_iload3 dX10_hitsBy_55 ?_
        refine A_iload5 dX10_hitsBy_56 ?_
        refine A_aload0 dX10_hitsBy_58 ?_
        refine A_getR gf_X10_35 rfl dX10_hitsBy_59 ?_
        refine A_iload4 dX10_hitsBy_62 ?_
        refine A_iald (rfl) (vp_in_nI (by omega) (by omega)) dX10_hitsBy_64 ?_
        refine A_val (y := wnV σ k d) (by rw [nI_c (by omega)]; exact a2) ?_
        refine A_if_le (tgt := 72) dX10_hitsBy_65 (by decide) (fun c_65 => ?_) (fun c_65 => ?_)
        · refine A_iconst (v := 0) dX10_hitsBy_72 (by decide) ?_
          refine A_icmp_ne (tgt := 80) dX10_hitsBy_73 (by decide) (fun c_73 => ?_) (fun c_73 => absurd c_73 (by decide))
          refine A_iconst (v := 0) dX10_hitsBy_80 (by decide) ?_
          refine A_iadd dX10_hitsBy_81 ?_
          refine A_istore3 dX10_hitsBy_82 rfl (by decide) ?_
          refine A_iinc4 dX10_hitsBy_83 rfl rfl (by decide) ?_
          refine A_goto (tgt := 5) dX10_hitsBy_86 (by decide) ?_
          rw [show nI L.length + Int32.ofInt 1 = nI (L.length + 1) from nI_1 _]
          have es : saysW c way (rdN σ k b d) ↔ c < rdN σ k b d := by show (if way = 0 then _ else _) ↔ _; rw [if_pos c_15]
          have eb : htB σ k b c way d = false := decide_eq_false (fun z => (fun z => w3.mp z c_65) (z.mp (es.mpr (Int32.not_le.mp c_26))))
          rw [List.filter_cons_of_neg (by rw [eb]; decide)] at hh
          rw [show nI (List.filter (htB σ k b c way) L).length + 0 = nI ((List.filter (htB σ k b c way) L).length + 0) from Int32.add_zero _]
          exact hh _
        · refine A_iconst (v := 1) dX10_hitsBy_68 (by decide) ?_
          refine A_goto (tgt := 73) dX10_hitsBy_69 (by decide) ?_
          refine A_icmp_ne (tgt := 80) dX10_hitsBy_73 (by decide) (fun c_73 => absurd c_73 (fun z => z rfl)) (fun c_73 => ?_)
          refine A_iconst (v := 1) dX10_hitsBy_76 (by decide) ?_
          refine A_goto (tgt := 81) dX10_hitsBy_77 (by decide) ?_
          refine A_iadd dX10_hitsBy_81 ?_
          refine A_istore3 dX10_hitsBy_82 rfl (by decide) ?_
          refine A_iinc4 dX10_hitsBy_83 rfl rfl (by decide) ?_
          refine A_goto (tgt := 5) dX10_hitsBy_86 (by decide) ?_
          rw [show nI L.length + Int32.ofInt 1 = nI (L.length + 1) from nI_1 _]
          have es : saysW c way (rdN σ k b d) ↔ c < rdN σ k b d := by show (if way = 0 then _ else _) ↔ _; rw [if_pos c_15]
          have eb : htB σ k b c way d = true := decide_eq_true ⟨fun _ => w3.mpr c_65, fun _ => es.mpr (Int32.not_le.mp c_26)⟩
          rw [List.filter_cons_of_pos eb] at hh
          rw [show nI (List.filter (htB σ k b c way) L).length + 1 = nI ((List.filter (htB σ k b c way) L).length + 1) from nI_1 _]
          exact hh _
set_option maxHeartbeats 100000 in
set_option maxRecDepth 100000 in
theorem T_X10_hitsBy {l : Launch} {G : Wd} {k mm way c : Int32} {b : Nat} {σ μ : Mem} (hI : GaI σ k b mm 60 μ) : Mt l G KC yX10_hitsBy cX10_hitsBy 6 (some .int) 1 [.ref (gA G 80), .int way, .int c] μ (Qi (fun v μ' => v = nI (crS σ k b c way mm 60) ∧ μ' = μ)) := by
  refine Mt.of (own := RX10) (n := 3) (by decide) rfl [some (.ref (gA G 80)), some (.int way), some (.int c), none, none, none] rfl (Nat.le_of_ble_eq_true rfl) ?_
  refine A_iconst (v := 0) dX10_hitsBy_0 (by decide) ?_
  refine A_istore3 dX10_hitsBy_1 rfl (by decide) ?_
  refine A_iconst (v := 0) dX10_hitsBy_2 (by decide) ?_
  refine A_istore4 dX10_hitsBy_3 rfl (by decide) ?_
  exact L_X10_hitsBy_5 hI (gl σ k b mm 60) [] _ rfl
theorem crS_p {σ : Mem} {k : Int32} {b : Nat} {c way : Int32} : (-1 : Int32) < nI (crS σ k b c way 1 60) := by
  have := crS_le σ k b c way 1 60
  rw [i_lt, nI_i (by omega)]
  have e : (-1 : Int32).toInt = -1 := rfl
  omega
theorem lc_start {σ : Mem} {k : Int32} {b : Nat} : ∀ n, lcS σ k b 0 (-50, 0, -1) (n + 1) = lcS σ k b 0 (0, 0, -1) (n + 1) := by
  intro n
  induction n with
  | zero => rw [lcS, if_pos (by exact crS_p), lcS, if_pos (by exact crS_p)]
  | succ n ih => rw [lcS, ih]; rfl
def lrV (σ : Mem) (k : Int32) (b : Nat) (w : Int32) : Int32 := if cdS σ k b 1 60 = 0 then -100000 else if w = 0 then (lrS σ k b).1 else if w = 1 then (lrS σ k b).2.1 else if w = 2 then (lrS σ k b).2.2 else if w = 3 then nI (crS σ k b (lrS σ k b).1 (lrS σ k b).2.1 0 60) else nI (cdS σ k b 0 60)
theorem b_50 {n : Nat} (h : n ≤ 161) : (-50 + nI n : Int32).toInt = n - 50 := by
  have e : (-50 : Int32).toInt = -50 := rfl
  rw [i_add (by rw [e, nI_i (by omega)]; omega), e, nI_i (by omega)]
  omega
set_option maxHeartbeats 400000 in
set_option maxRecDepth 100000 in
theorem L_X10_learn_38 {l : Launch} {G : Wd} {k w way : Int32} {b : Nat} {σ M μ : Mem} {S0 : Ls} (hI : GaI σ k b 1 60 μ) (hk : ∀ x7 x8 : Option Value, AW l G KC RX10 cX10_learn 9 5 (some .int) (Qi (fun v μ' => v = lrV σ k b w ∧ St M μ')) 79 [some (.ref (gA G 80)), some (.int (nI b)), some (.int w), some (.int (lcS σ k b way S0 161).2.1), some (.int (lcS σ k b way S0 161).1), some (.int (lcS σ k b way S0 161).2.2), some (.int way), x7, x8] [] μ) : ∀ (q n : Nat) (x8 : Option Value), q + n = 161 → AW l G KC RX10 cX10_learn 9 5 (some .int) (Qi (fun v μ' => v = lrV σ k b w ∧ St M μ')) 38 [some (.ref (gA G 80)), some (.int (nI b)), some (.int w), some (.int (lcS σ k b way S0 n).2.1), some (.int (lcS σ k b way S0 n).1), some (.int (lcS σ k b way S0 n).2.2), some (.int way), some (.int (-50 + nI n)), x8] [] μ := by
  have e110 : (110 : Int32).toInt = 110 := rfl
  intro q
  induction q with
  | zero =>
    intro n x8 hq
    obtain rfl : n = 161 := by omega
    refine A_iload7 dX10_learn_38 ?_
    refine A_bipush (v := 110) dX10_learn_40 (by decide) ?_
    refine A_icmp_gt (tgt := 79) dX10_learn_42 (by decide) (fun c_42 => ?_) (fun c_42 => absurd c_42 (fun z => z (by rw [i_lt, b_50 (by omega), e110]; omega)))
    exact hk _ _
  | succ q ih =>
    intro n x8 hq
    have hh := fun x => ih (n + 1) x (by omega)
    rw [lcS] at hh
    refine A_iload7 dX10_learn_38 ?_
    refine A_bipush (v := 110) dX10_learn_40 (by decide) ?_
    refine A_icmp_gt (tgt := 79) dX10_learn_42 (by decide) (fun c_42 => absurd c_42 (by rw [i_lt, b_50 (by omega), e110]; omega)) (fun c_42 => ?_)
    refine A_aload0 dX10_learn_45 ?_
    refine A_iload6 dX10_learn_46 ?_
    refine A_iload7 dX10_learn_48 ?_
    refine A_vi2 lk_X10_110 yv_X10_hitsBy dX10_learn_50 (rfl) (rfl) (T_X10_hitsBy hI) (by decide) (Nat.le_of_ble_eq_true rfl) (fun r_50 μ_50 h_50 => ?_)
    obtain ⟨v_50, e_50⟩ := h_50
    replace v_50 := Eq.symm v_50
    subst v_50
    replace e_50 := e_50.symm
    subst e_50
    refine A_istore8 dX10_learn_53 rfl (by decide) ?_
    refine A_iload8 dX10_learn_55 ?_
    refine A_iload5 dX10_learn_57 ?_
    refine A_icmp_le (tgt := 73) dX10_learn_59 (by decide) (fun c_59 => ?_) (fun c_59 => ?_)
    · refine A_iinc7 dX10_learn_73 rfl rfl (by decide) ?_
      refine A_goto (tgt := 38) dX10_learn_76 (by decide) ?_
      rw [show (-50 + nI n : Int32) + Int32.ofInt 1 = -50 + nI (n + 1) by rw [Int32.add_assoc]; exact congrArg (fun z => (-50 : Int32) + z) (nI_1 n)]
      rw [if_neg (Int32.not_lt.mpr c_59)] at hh
      exact hh _
    · refine A_iload8 dX10_learn_62 ?_
      refine A_istore5 dX10_learn_64 rfl (by decide) ?_
      refine A_iload6 dX10_learn_66 ?_
      refine A_istore3 dX10_learn_68 rfl (by decide) ?_
      refine A_iload7 dX10_learn_69 ?_
      refine A_istore4 dX10_learn_71 rfl (by decide) ?_
      refine A_iinc7 dX10_learn_73 rfl rfl (by decide) ?_
      refine A_goto (tgt := 38) dX10_learn_76 (by decide) ?_
      rw [show (-50 + nI n : Int32) + Int32.ofInt 1 = -50 + nI (n + 1) by rw [Int32.add_assoc]; exact congrArg (fun z => (-50 : Int32) + z) (nI_1 n)]
      rw [if_pos (Int32.not_le.mp c_59)] at hh
      exact hh _
set_option maxHeartbeats 400000 in
set_option maxRecDepth 100000 in
theorem L_X10_learn_28 {l : Launch} {G : Wd} {k w way way' : Int32} {b : Nat} {σ M μ : Mem} {S0 : Ls} {x7 x8 : Option Value} (hI : GaI σ k b 1 60 μ) (h2 : ¬ 2 ≤ way) (hw : way + Int32.ofInt 1 = way') (hk : ∀ x7 x8 : Option Value, AW l G KC RX10 cX10_learn 9 5 (some .int) (Qi (fun v μ' => v = lrV σ k b w ∧ St M μ')) 28 [some (.ref (gA G 80)), some (.int (nI b)), some (.int w), some (.int (lcS σ k b way S0 161).2.1), some (.int (lcS σ k b way S0 161).1), some (.int (lcS σ k b way S0 161).2.2), some (.int way'), x7, x8] [] μ) : AW l G KC RX10 cX10_learn 9 5 (some .int) (Qi (fun v μ' => v = lrV σ k b w ∧ St M μ')) 28 [some (.ref (gA G 80)), some (.int (nI b)), some (.int w), some (.int S0.2.1), some (.int S0.1), some (.int S0.2.2), some (.int way), x7, x8] [] μ := by
  refine A_iload6 dX10_learn_28 ?_
  refine A_iconst (v := 2) dX10_learn_30 (by decide) ?_
  refine A_icmp_ge (tgt := 85) dX10_learn_31 (by decide) (fun c_31 => absurd c_31 (h2)) (fun c_31 => ?_)
  refine A_bipush (v := -50) dX10_learn_34 (by decide) ?_
  refine A_istore7 dX10_learn_36 rfl (by decide) ?_
  refine L_X10_learn_38 (S0 := S0) hI (fun y7 y8 => ?_) 161 0 _ (by omega)
  refine A_iinc6 dX10_learn_79 rfl rfl (by decide) ?_
  refine A_goto (tgt := 28) dX10_learn_82 (by decide) ?_
  rw [hw]
  exact hk _ _
set_option maxHeartbeats 400000 in
set_option maxRecDepth 100000 in
theorem L_X10_learn_85 {l : Launch} {G : Wd} {k w : Int32} {b : Nat} {σ M μ : Mem} {x6 x7 x8 : Option Value} (hM : Wk σ k μ) (hbn : b < nbx σ) (hm : WFm σ) (hF : St M μ) (h0 : 0 ≤ w.toInt) (hc : ¬ cdS σ k b 1 60 = 0) : AW l G KC RX10 cX10_learn 9 5 (some .int) (Qi (fun v μ' => v = lrV σ k b w ∧ St M μ')) 85 [some (.ref (gA G 80)), some (.int (nI b)), some (.int w), some (.int (lrS σ k b).2.1), some (.int (lrS σ k b).1), some (.int (lrS σ k b).2.2), x6, x7, x8] [] μ := by
  refine A_iload2 dX10_learn_85 ?_
  refine A_iconst (v := 2) dX10_learn_86 (by decide) ?_
  refine A_icmp_ge (tgt := 101) dX10_learn_87 (by decide) (fun c_87 => ?_) (fun c_87 => ?_)
  · refine A_iload2 dX10_learn_101 ?_
    refine A_iconst (v := 2) dX10_learn_102 (by decide) ?_
    refine A_icmp_ne (tgt := 109) dX10_learn_103 (by decide) (fun c_103 => ?_) (fun c_103 => ?_)
    · refine A_aload0 dX10_learn_109 ?_
      refine A_iload1 dX10_learn_110 ?_
      refine A_iconst (v := 0) dX10_learn_111 (by decide) ?_
      refine A_vv2 lk_X10_103 yv_X10_gather dX10_learn_112 (rfl) (rfl) (T_X10_gather (mm := 0) hM hbn hm (Or.inl rfl)) (by decide) (Nat.le_of_ble_eq_true rfl) (fun μ_112 h_112 => ?_)
      refine A_iload2 dX10_learn_115 ?_
      refine A_iconst (v := 3) dX10_learn_116 (by decide) ?_
      refine A_icmp_ne (tgt := 130) dX10_learn_117 (by decide) (fun c_117 => ?_) (fun c_117 => ?_)
      · refine A_aload0 dX10_learn_130 ?_
        refine A_getI gf_X10_107 rfl dX10_learn_131 ?_
        refine A_val (y := nI (cdS σ k b 0 60)) (by rw [← gl_n]; exact h_112.1.1) ?_
        refine A_iret dX10_learn_134 ?_
        refine ⟨_, rfl, ?_, hF.tr h_112.2⟩
        unfold lrV
        rw [if_neg hc, if_neg (fun z => by rw [z] at c_87; exact absurd c_87 (by decide)), if_neg (fun z => by rw [z] at c_87; exact absurd c_87 (by decide)), if_neg c_103, if_neg c_117]
      · refine A_aload0 dX10_learn_120 ?_
        refine A_iload3 dX10_learn_121 ?_
        refine A_iload4 dX10_learn_122 ?_
        refine A_vi2 lk_X10_110 yv_X10_hitsBy dX10_learn_124 (rfl) (rfl) (T_X10_hitsBy h_112.1) (by decide) (Nat.le_of_ble_eq_true rfl) (fun r_124 μ_124 h_124 => ?_)
        obtain ⟨v_124, e_124⟩ := h_124
        replace v_124 := Eq.symm v_124
        subst v_124
        replace e_124 := e_124.symm
        subst e_124
        refine A_goto (tgt := 134) dX10_learn_127 (by decide) ?_
        refine A_iret dX10_learn_134 ?_
        refine ⟨_, rfl, ?_, hF.tr h_112.2⟩
        unfold lrV
        rw [if_neg hc, if_neg (fun z => by rw [z] at c_87; exact absurd c_87 (by decide)), if_neg (fun z => by rw [z] at c_87; exact absurd c_87 (by decide)), if_neg c_103, if_pos c_117]
    · refine A_iload5 dX10_learn_106 ?_
      refine A_iret dX10_learn_108 ?_
      refine ⟨_, rfl, ?_, hF⟩
      unfold lrV
      rw [if_neg hc, if_neg (fun z => by rw [z] at c_87; exact absurd c_87 (by decide)), if_neg (fun z => by rw [z] at c_87; exact absurd c_87 (by decide)), if_pos c_103]
  · refine A_iload2 dX10_learn_90 ?_
    refine A_if_ne (tgt := 99) dX10_learn_91 (by decide) (fun c_91 => ?_) (fun c_91 => ?_)
    · refine A_iload3 dX10_learn_99 ?_
      refine A_iret dX10_learn_100 ?_
      refine ⟨_, rfl, ?_, hF⟩
      unfold lrV
      have w1 : w = 1 := by have i2 : w.toInt < 2 := (fun z => by rw [i_le] at c_87; have : (2 : Int32).toInt = 2 := rfl; omega) (); have j0 : ¬ w.toInt = 0 := fun z => c_91 (i_eq.mpr z); rw [i_eq]; show w.toInt = 1; omega
      rw [if_neg hc, if_neg c_91, if_pos w1]
    · refine A_iload4 dX10_learn_94 ?_
      refine A_goto (tgt := 100) dX10_learn_96 (by decide) ?_
      refine A_iret dX10_learn_100 ?_
      refine ⟨_, rfl, ?_, hF⟩
      unfold lrV
      rw [if_neg hc, if_pos c_91]
set_option maxHeartbeats 400000 in
set_option maxRecDepth 100000 in
theorem T_X10_learn {l : Launch} {G : Wd} {k w : Int32} {b : Nat} {σ M : Mem} (hM : Wk σ k M) (hbn : b < nbx σ) (hm : WFm σ) (h0 : 0 ≤ w.toInt) : Mt l G KC yX10_learn cX10_learn 9 (some .int) 5 [.ref (gA G 80), .int (nI b), .int w] M (Qi (fun v μ' => v = lrV σ k b w ∧ St M μ')) := by
  refine Mt.of (own := RX10) (n := 6) (by decide) rfl [some (.ref (gA G 80)), some (.int (nI b)), some (.int w), none, none, none, none, none, none] rfl (Nat.le_of_ble_eq_true rfl) ?_
  have hle := cdS_le σ k b 1 60
  refine A_aload0 dX10_learn_0 ?_
  refine A_iload1 dX10_learn_1 ?_
  refine A_iconst (v := 1) dX10_learn_2 (by decide) ?_
  refine A_vv2 lk_X10_103 yv_X10_gather dX10_learn_3 (rfl) (rfl) (T_X10_gather (mm := 1) hM hbn hm (Or.inr rfl)) (by decide) (Nat.le_of_ble_eq_true rfl) (fun μ_3 h_3 => ?_)
  obtain ⟨hI, hF⟩ := h_3
  refine A_aload0 dX10_learn_6 ?_
  refine A_getI gf_X10_107 rfl dX10_learn_7 ?_
  refine A_val (y := nI (cdS σ k b 1 60)) (by rw [← gl_n]; exact hI.1) ?_
  refine A_if_ne (tgt := 16) dX10_learn_10 (by decide) (fun c_10 => ?_) (fun c_10 => ?_)
  · have hc : ¬ cdS σ k b 1 60 = 0 := fun z => c_10 (by rw [z]; rfl)
    refine A_iconst (v := 0) dX10_learn_16 (by decide) ?_
    refine A_istore3 dX10_learn_17 rfl (by decide) ?_
    refine A_bipush (v := -50) dX10_learn_18 (by decide) ?_
    refine A_istore4 dX10_learn_20 rfl (by decide) ?_
    refine A_iconst (v := -1) dX10_learn_22 (by decide) ?_
    refine A_istore5 dX10_learn_23 rfl (by decide) ?_
    refine A_iconst (v := 0) dX10_learn_25 (by decide) ?_
    refine A_istore6 dX10_learn_26 rfl (by decide) ?_
    refine L_X10_learn_28 (S0 := (-50, 0, -1)) (way := 0) (way' := 1) hI (by decide) rfl (fun y7 y8 => ?_)
    refine L_X10_learn_28 (way := 1) (way' := 2) hI (by decide) rfl (fun y7 y8 => ?_)
    refine A_iload6 dX10_learn_28 ?_
    refine A_iconst (v := 2) dX10_learn_30 (by decide) ?_
    refine A_icmp_ge (tgt := 85) dX10_learn_31 (by decide) (fun c_31 => ?_) (fun c_31 => absurd c_31 (fun z => z (by decide)))
    rw [lc_start 160]
    exact L_X10_learn_85 (hF.wk hM) hbn hm hF h0 hc
  · refine A_ldc dX10_learn_13 kc_X10_70 ?_
    refine A_iret dX10_learn_15 ?_
    refine ⟨_, rfl, ?_, hF⟩
    unfold lrV
    rw [if_pos ((nI_eq (b := 0) (by omega) (by decide)).mp c_10)]
set_option maxHeartbeats 100000 in
set_option maxRecDepth 100000 in
theorem C_learnt {l : Launch} {G : Wd} {b w : Int32} {k : Int32} {n : Nat} {σ μ : Mem} (hm : WFm σ) (hR : Rc σ n μ) (hn : n + 1 ≤ 600) : Mt l G KC yX11_learnt cX11_learnt 4 (some .int) 9 [.ref (gA G 0), .int b, .int w, .int k] μ (Qi (fun v μ' => v = sp_learnt σ b w k ∧ Rc σ (n + 1) μ')) := by
  refine Mt.of (own := RX11) (n := 0) (by decide) rfl [some (.ref (gA G 0)), some (.int b), some (.int w), some (.int k)] rfl (Nat.le_of_ble_eq_true rfl) ?_
  refine A_aload0 dX11_learnt_0 ?_
  refine A_getR gf_X11_29 rfl dX11_learnt_1 ?_
  refine A_iload1 dX11_learnt_4 ?_
  refine A_vi1 lk_X11_296 yv_X2_has dX11_learnt_5 (rfl) (rfl) (T_X2_has) (by decide) (Nat.le_of_ble_eq_true rfl) (fun r_5 μ_5 h_5 => ?_)
  obtain ⟨v_5, e_5⟩ := h_5
  replace v_5 := Eq.symm v_5
  subst v_5
  replace e_5 := e_5.symm
  subst e_5
  refine A_if_eq (tgt := 20) dX11_learnt_8 (by decide) (fun c_8 => ?_) (fun c_8 => ?_)
  · refine A_ldc dX11_learnt_20 kc_X11_216 ?_
    refine A_iret dX11_learnt_22 ?_
    refine ⟨_, rfl, ?_, hR.up hn⟩
    unfold sp_learnt
    rw [if_neg (fun z => bz_0.mp c_8 ((bc_bx hR.1 b).mpr z.1))]
  · refine A_iload2 dX11_learnt_11 ?_
    refine A_if_lt (tgt := 20) dX11_learnt_12 (by decide) (fun c_12 => ?_) (fun c_12 => ?_)
    · refine A_ldc dX11_learnt_20 kc_X11_216 ?_
      refine A_iret dX11_learnt_22 ?_
      refine ⟨_, rfl, ?_, hR.up hn⟩
      unfold sp_learnt
      rw [if_neg (fun z => absurd z.2.1 (Int32.not_le.mpr c_12))]
    · refine A_iload2 dX11_learnt_15 ?_
      refine A_iconst (v := 4) dX11_learnt_16 (by decide) ?_
      refine A_icmp_le (tgt := 23) dX11_learnt_17 (by decide) (fun c_17 => ?_) (fun c_17 => ?_)
      · have hb1 : isBx σ b := (bc_bx hR.1 b).mp (bz_y c_8)
        obtain ⟨x, -, rfl, -, -, -, -, ex, -, hbn⟩ := i_pl hR.2.1.1.2.2 (⟨hb1, by decide, by decide⟩ : isPl σ b 0)
        have h0 : 0 ≤ w.toInt := by have := i_le.mp (Int32.not_lt.mp c_12); have e0 : (0 : Int32).toInt = 0 := rfl; omega
        refine A_aload0 dX11_learnt_23 ?_
        refine A_getR gf_X11_76 rfl dX11_learnt_24 ?_
        refine A_iload3 dX11_learnt_27 ?_
        refine A_vv1 lk_X11_201 yv_X4_at dX11_learnt_28 (rfl) (rfl) (T_at hR) (by decide) (Nat.le_of_ble_eq_true rfl) (fun μ_28 h_28 => ?_)
        have hC := hR.at h_28
        refine A_aload0 dX11_learnt_31 ?_
        refine A_getR gf_X11_110 rfl dX11_learnt_32 ?_
        refine A_iload1 dX11_learnt_35 ?_
        refine A_iload2 dX11_learnt_36 ?_
        refine A_vi2 lk_X11_299 yv_X10_learn dX11_learnt_37 (rfl) (rfl) (T_X10_learn hC.wk hbn hm h0) (by decide) (Nat.le_of_ble_eq_true rfl) (fun r_37 μ_37 h_37 => ?_)
        obtain ⟨v_37, hF⟩ := h_37
        refine A_iret dX11_learnt_40 ?_
        refine ⟨_, rfl, ?_, (hC.st hF).rc hR.2.1 hn⟩
        rw [v_37]
        unfold sp_learnt lrV
        rw [ex]
        by_cases q : cdS σ k x 1 60 = 0
        · rw [if_pos q, if_neg (fun z => z.2.2.2 q)]
        · have hcd : isBx σ (nI x) ∧ 0 ≤ w ∧ w ≤ 4 ∧ ¬ cdS σ k x 1 60 = 0 := ⟨hb1, Int32.not_lt.mp c_12, c_17, q⟩
          rw [if_neg q, if_pos hcd]
      · refine A_ldc dX11_learnt_20 kc_X11_216 ?_
        refine A_iret dX11_learnt_22 ?_
        refine ⟨_, rfl, ?_, hR.up hn⟩
        unfold sp_learnt
        rw [if_neg (fun z => c_17 z.2.2.1)]

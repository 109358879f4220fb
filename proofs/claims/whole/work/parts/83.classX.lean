/-! rules tried -/
def St (μ μ' : Mem) : Prop := μ'.2 = μ.2 ∧ ∀ i j, i ≠ 29 → i < 80 → μ'.1 i j = μ.1 i j
theorem St.rf {μ : Mem} : St μ μ := ⟨rfl, fun _ _ _ _ => rfl⟩
theorem St.tr {a b c : Mem} (h : St a b) (g : St b c) : St a c := ⟨g.1.trans h.1, fun i j q p => (g.2 i j q p).trans (h.2 i j q p)⟩
theorem St.w {a b : Mem} {i k : Nat} {v : Int32} (h : St a b) (hi : 80 ≤ i) : St a (wI b i k v) := ⟨h.1, fun x j q p => (wI_ne (by omega)).trans (h.2 x j q p)⟩
theorem S9.st {a b : Mem} (h : S9 a b) : St a b := ⟨h.1, fun i j q _ => h.2 i j q⟩
theorem St.k {a b : Mem} (h : St a b) : Kc a b := ⟨fun i j q => h.2 i j (by omega) (by omega), fun i j _ => by rw [h.1]⟩
theorem Ca.st {σ a c : Mem} {k : Int32} {n : Nat} (h : Ca σ k n a) (g : St a c) : Ca σ k n c := h.kp g.k (fun i j _ _ => g.2 i j (by omega) (by omega))
theorem St.wk {σ a c : Mem} {k : Int32} (g : St a c) (h : Wk σ k a) : Wk σ k c := h.keep g.k (fun i j _ _ => g.2 i j (by omega) (by omega))
def TrI (σ : Mem) (k : Int32) (n : Nat) (μ : Mem) : Prop := μ.1 80 3 = nI (trS σ k n).1 ∧ μ.1 80 4 = nI (trS σ k n).2.1 ∧ μ.1 80 5 = nI (trS σ k n).2.2.1 ∧ μ.1 80 6 = nI (trS σ k n).2.2.2 ∧ ∀ r, r < 6 → μ.1 81 r = nI (ruS σ k r n).1 ∧ μ.1 82 r = nI (ruS σ k r n).2
theorem TrI.skip {σ μ : Mem} {k : Int32} {n : Nat} (h : TrI σ k n μ) (hn : ¬ trP σ k n) : TrI σ k (n + 1) μ := by
  obtain ⟨h1, h2, h3, h4, h5⟩ := h
  unfold TrI
  rw [trS, if_neg hn]
  refine ⟨h1, h2, h3, h4, fun r hr => ?_⟩
  rw [ruS, if_neg (fun z => hn z.1)]
  exact h5 r hr
theorem TrI.s9 {σ a c : Mem} {k : Int32} {n : Nat} (h : TrI σ k n a) (g : S9 a c) : TrI σ k n c := by
  obtain ⟨h1, h2, h3, h4, h5⟩ := h
  exact ⟨(g.2 80 3 (by decide)).trans h1, (g.2 80 4 (by decide)).trans h2, (g.2 80 5 (by decide)).trans h3, (g.2 80 6 (by decide)).trans h4, fun r hr => ⟨(g.2 81 r (by decide)).trans (h5 r hr).1, (g.2 82 r (by decide)).trans (h5 r hr).2⟩⟩
theorem wn_s {σ μ : Mem} {k : Int32} {d : Nat} (h : Wk σ k μ) (hd : d < 60) : (if (0 : Int32) ≤ 2 ∧ (2 : Int32) < 4 ∧ 0 ≤ nI d + 1 ∧ nI d + 1 < 60 then μ.1 44 (60 * 2 + (nI d + 1)).toNatClampNeg else -100000) = wnV σ k d := by
  unfold wnV farN
  rw [show nI d + 1 = nI (d + 1) from nI_1 d]
  by_cases q : d + 1 < 60
  · rw [if_pos q, if_pos ⟨by decide, by decide, nI_pos' (by omega), nI_lt (b := 60) q (by decide)⟩, show (60 : Int32) * 2 = nI 120 from rfl, nI_add, nI_c (by omega)]
    exact h.2.1.1 _ (by omega)
  · rw [if_neg q, if_neg (fun z => absurd z.2.2.2 (fun y => by have := i_lt.mp y; rw [nI_i (by omega)] at this; have e6 : (60 : Int32).toInt = 60 := rfl; omega))]
theorem wn_i {σ : Mem} {k : Int32} {d : Nat} : (wnS σ k d < 0 ↔ wnV σ k d = -100000) ∧ (¬ wnV σ k d = -100000 → (wnS σ k d = 1 ↔ ¬ wnV σ k d ≤ 0)) := by
  unfold wnS
  by_cases q : wnV σ k d = -100000
  · rw [if_pos q]; exact ⟨⟨fun _ => q, fun _ => by decide⟩, fun z => absurd q z⟩
  · rw [if_neg q]
    by_cases p : wnV σ k d ≤ 0
    · rw [if_pos p]; exact ⟨⟨fun z => absurd z (by decide), fun z => absurd z q⟩, fun _ => ⟨fun z => absurd z (by decide), fun z => absurd p z⟩⟩
    · rw [if_neg p]; exact ⟨⟨fun z => absurd z (by decide), fun z => absurd z q⟩, fun _ => ⟨fun _ => p, fun _ => rfl⟩⟩
theorem TrI.add {σ m : Mem} {k hit : Int32} {d j : Nat} (h : TrI σ k d m) (hp : trP σ k d) (hj : ron σ k d = nI j) (hj6 : j < 6) (h01 : σ.1 49 j = 0 ∨ σ.1 49 j = 1) (hh : hit = if σ.1 49 j = bz (wnS σ k d = 1) then 1 else 0) : TrI σ k (d + 1) (wI (wI (wI (wI (wI (wI m 80 3 (nI ((trS σ k d).1 + 1))) 80 4 (nI (trS σ k d).2.1 + hit)) 80 5 (nI (trS σ k d).2.2.1 + bz (wnS σ k d = 1))) 80 6 (nI (trS σ k d).2.2.2 + σ.1 49 j)) 81 j (nI (ruS σ k j d).1 + 1)) 82 j (nI (ruS σ k j d).2 + hit)) := by
  obtain ⟨h1, h2, h3, h4, h5⟩ := h
  have ew : wetR σ (ron σ k d) = σ.1 49 j := by unfold wetR; rw [hj, nI_c (by omega)]
  have add1 : ∀ (a : Nat) (p : Prop) [Decidable p], nI a + (if p then (1 : Int32) else 0) = nI (a + if p then 1 else 0) := fun a p _ => by
    by_cases q : p
    · rw [if_pos q, if_pos q]; exact nI_1 a
    · rw [if_neg q, if_neg q]; exact Int32.add_zero _
  unfold TrI
  rw [trS, if_pos hp, ew]
  refine ⟨?_, ?_, ?_, ?_, fun r hr => ?_⟩
  · rw [wI_ne (by omega), wI_ne (by omega), wI_ne (by omega), wI_ne (by omega), wI_ne (by omega), wI_same]
  · rw [wI_ne (by omega), wI_ne (by omega), wI_ne (by omega), wI_ne (by omega), wI_same, hh]; exact add1 _ _
  · rw [wI_ne (by omega), wI_ne (by omega), wI_ne (by omega), wI_same]; exact add1 _ _
  · rw [wI_ne (by omega), wI_ne (by omega), wI_same]
    rcases h01 with z | z
    · rw [z]; exact Int32.add_zero _
    · rw [z]; exact nI_1 _
  · rw [ruS]
    by_cases e : r = j
    · subst e
      rw [if_pos ⟨hp, hj⟩]
      refine ⟨?_, ?_⟩
      · rw [wI_ne (by omega), wI_same]; exact nI_1 _
      · rw [wI_same, hh]; exact add1 _ _
    · rw [if_neg (fun z => e ((nI_eq (by omega) (by omega)).mp (z.2.symm.trans hj)))]
      rw [wI_ne (by omega), wI_ne (by omega), wI_ne (by omega), wI_ne (by omega), wI_ne (by omega), wI_ne (by omega), wI_ne (by omega), wI_ne (by omega), wI_ne (by omega), wI_ne (by omega), wI_ne (by omega), wI_ne (by omega)]
      exact h5 r hr
set_option maxHeartbeats 400000 in
set_option maxRecDepth 100000 in
theorem T_X10_tryDay {l : Launch} {G : Wd} {k : Int32} {d : Nat} {σ M : Mem} (hM : Wk σ k M) (hW : WFr σ) (hE : WFe σ) (hd : d < 60) (h0 : σ.1 19 d = 0) (h1 : ¬ wnS σ k d < 0) (hI : TrI σ k d M) : Mt l G KC yX10_tryDay cX10_tryDay 5 none 5 [.ref (gA G 80), .int (nI d), .int (bz (wnS σ k d = 1))] M (Qv (fun μ' => TrI σ k (d + 1) μ' ∧ St M μ')) := by
  refine Mt.of (own := RX10) (n := 2) (by decide) rfl [some (.ref (gA G 80)), some (.int (nI d)), some (.int (bz (wnS σ k d = 1))), none, none] rfl (Nat.le_of_ble_eq_true rfl) ?_
  have h6 := hW.1
  refine A_aload0 dX10_tryDay_0 ?_
  refine A_iload1 dX10_tryDay_1 ?_
  refine A_vi1 lk_X10_81 yv_X10_ruleFor dX10_tryDay_2 (rfl) (rfl) (T_X10_ruleFor hM hW hE hd) (by decide) (Nat.le_of_ble_eq_true rfl) (fun r_2 μ_2 h_2 => ?_)
  obtain ⟨v_2, hF2⟩ := h_2
  replace v_2 := Eq.symm v_2
  subst v_2
  refine A_istore3 dX10_tryDay_5 rfl (by decide) ?_
  refine A_iload3 dX10_tryDay_6 ?_
  refine A_iconst (v := -1) dX10_tryDay_7 (by decide) ?_
  refine A_icmp_ne (tgt := 12) dX10_tryDay_8 (by decide) (fun c_8 => ?_) (fun c_8 => ?_)
  · obtain ⟨j, j1, j2, j3, -⟩ := (ron_v (σ := σ) (k := k) (d := d) h6).resolve_left (fun z => c_8 z.1)
    have hI2 := hI.s9 hF2
    obtain ⟨i1, i2, i3, i4, i5⟩ := hI2
    have hI2 : TrI σ k d μ_2 := ⟨i1, i2, i3, i4, i5⟩
    have h01 := (hW.2.2 j j1).2.2.2.2.2.1
    have e26 : μ_2.1 26 j = σ.1 49 j := (hF2.2 26 j (by decide)).trans (hM.1.2.2.2.1.2.2.1 j j1).1
    obtain ⟨u1, u2⟩ := i5 j (by omega)
    refine A_aload0 dX10_tryDay_12 ?_
    refine A_getR gf_X10_9 rfl dX10_tryDay_13 ?_
    refine A_getR gf_X10_85 rfl dX10_tryDay_16 ?_
    refine A_iload3 dX10_tryDay_19 ?_
    refine A_iald (rfl) (by rw [j2]; exact vp_in_nI (by omega) (by omega)) dX10_tryDay_20 ?_
    refine A_val (y := σ.1 49 j) (by rw [j2, nI_c (by omega)]; exact e26) ?_
    refine A_iload2 dX10_tryDay_21 ?_
    refine A_icmp_ne (tgt := 29) dX10_tryDay_22 (by decide) (fun c_22 => ?_) (fun c_22 => ?_)
    · refine A_iconst (v := 0) dX10_tryDay_29 (by decide) ?_
      refine A_istore4 dX10_tryDay_30 rfl (by decide) ?_
      refine A_aload0 dX10_tryDay_32 ?_
      refine A_dup dX10_tryDay_33 rfl ?_
      refine A_getI gf_X10_46 rfl dX10_tryDay_34 ?_
      refine A_val (y := nI (trS σ k d).1) (i1) ?_
      refine A_iconst (v := 1) dX10_tryDay_37 (by decide) ?_
      refine A_iadd dX10_tryDay_38 ?_
      rw [show nI (trS σ k d).1 + 1 = nI ((trS σ k d).1 + 1) from nI_1 _]
      refine A_putI gf_X10_46 rfl dX10_tryDay_39 ?_
      refine A_aload0 dX10_tryDay_42 ?_
      refine A_dup dX10_tryDay_43 rfl ?_
      refine A_getI gf_X10_49 rfl dX10_tryDay_44 ?_
      refine A_val (y := nI (trS σ k d).2.1) ((wI_ne (by omega)).trans i2) ?_
      refine A_iload4 dX10_tryDay_47 ?_
      refine A_iadd dX10_tryDay_49 ?_
      refine A_putI gf_X10_49 rfl dX10_tryDay_50 ?_
      refine A_aload0 dX10_tryDay_53 ?_
      refine A_dup dX10_tryDay_54 rfl ?_
      refine A_getI gf_X10_52 rfl dX10_tryDay_55 ?_
      refine A_val (y := nI (trS σ k d).2.2.1) ((wI_ne (by omega)).trans ((wI_ne (by omega)).trans i3)) ?_
      refine A_iload2 dX10_tryDay_58 ?_
      refine A_iadd dX10_tryDay_59 ?_
      refine A_putI gf_X10_52 rfl dX10_tryDay_60 ?_
      refine A_aload0 dX10_tryDay_63 ?_
      refine A_dup dX10_tryDay_64 rfl ?_
      refine A_getI gf_X10_55 rfl dX10_tryDay_65 ?_
      refine A_val (y := nI (trS σ k d).2.2.2) ((wI_ne (by omega)).trans ((wI_ne (by omega)).trans ((wI_ne (by omega)).trans i4))) ?_
      refine A_aload0 dX10_tryDay_68 ?_
      refine A_getR gf_X10_9 rfl dX10_tryDay_69 ?_
      refine A_getR gf_X10_85 rfl dX10_tryDay_72 ?_
      refine A_iload3 dX10_tryDay_75 ?_
      refine A_iald (rfl) (by rw [j2]; exact vp_in_nI (by omega) (by omega)) dX10_tryDay_76 ?_
      refine A_val (y := σ.1 49 j) (by rw [j2, nI_c (by omega)]; exact (wI_ne (by omega)).trans ((wI_ne (by omega)).trans ((wI_ne (by omega)).trans e26))) ?_
      refine A_iadd dX10_tryDay_77 ?_
      refine A_putI gf_X10_55 rfl dX10_tryDay_78 ?_
      refine A_aload0 dX10_tryDay_81 ?_
      refine A_getR gf_X10_25 rfl dX10_tryDay_82 ?_
      refine A_iload3 dX10_tryDay_85 ?_
      refine A_dup2 dX10_tryDay_86 rfl rfl ?_
      refine A_iald (rfl) (by rw [j2]; exact vp_in_nI (by omega) (by omega)) dX10_tryDay_87 ?_
      refine A_val (y := nI (ruS σ k j d).1) (by rw [j2, nI_c (by omega)]; exact (wI_ne (by omega)).trans ((wI_ne (by omega)).trans ((wI_ne (by omega)).trans ((wI_ne (by omega)).trans u1)))) ?_
      refine A_iconst (v := 1) dX10_tryDay_88 (by decide) ?_
      refine A_iadd dX10_tryDay_89 ?_
      refine A_iast (rfl) (by rw [j2]; exact vp_in_nI (by omega) (by omega)) dX10_tryDay_90 ?_
      rw [show (ron σ k d).toNatClampNeg = j by rw [j2, nI_c (by omega)]]
      refine A_aload0 dX10_tryDay_91 ?_
      refine A_getR gf_X10_29 rfl dX10_tryDay_92 ?_
      refine A_iload3 dX10_tryDay_95 ?_
      refine A_dup2 dX10_tryDay_96 rfl rfl ?_
      refine A_iald (rfl) (by rw [j2]; exact vp_in_nI (by omega) (by omega)) dX10_tryDay_97 ?_
      refine A_val (y := nI (ruS σ k j d).2) (by rw [j2, nI_c (by omega)]; exact (wI_ne (by omega)).trans ((wI_ne (by omega)).trans ((wI_ne (by omega)).trans ((wI_ne (by omega)).trans ((wI_ne (by omega)).trans u2))))) ?_
      refine A_iload4 dX10_tryDay_98 ?_
      refine A_iadd dX10_tryDay_100 ?_
      refine A_iast (rfl) (by rw [j2]; exact vp_in_nI (by omega) (by omega)) dX10_tryDay_101 ?_
      rw [show (ron σ k d).toNatClampNeg = j by rw [j2, nI_c (by omega)]]
      refine A_vret dX10_tryDay_102 ?_
      refine ⟨rfl, ?_, ((((((hF2.st.w (by decide)).w (by decide)).w (by decide)).w (by decide)).w (by decide)).w (by decide))⟩
      exact hI2.add (hit := 0) ⟨h0, h1, j3⟩ j2 (by omega) h01 (if_neg c_22).symm
    · refine A_iconst (v := 1) dX10_tryDay_25 (by decide) ?_
      refine A_goto (tgt := 30) dX10_tryDay_26 (by decide) ?_
      refine A_istore4 dX10_tryDay_30 rfl (by decide) ?_
      refine A_aload0 dX10_tryDay_32 ?_
      refine A_dup dX10_tryDay_33 rfl ?_
      refine A_getI gf_X10_46 rfl dX10_tryDay_34 ?_
      refine A_val (y := nI (trS σ k d).1) (i1) ?_
      refine A_iconst (v := 1) dX10_tryDay_37 (by decide) ?_
      refine A_iadd dX10_tryDay_38 ?_
      rw [show nI (trS σ k d).1 + 1 = nI ((trS σ k d).1 + 1) from nI_1 _]
      refine A_putI gf_X10_46 rfl dX10_tryDay_39 ?_
      refine A_aload0 dX10_tryDay_42 ?_
      refine A_dup dX10_tryDay_43 rfl ?_
      refine A_getI gf_X10_49 rfl dX10_tryDay_44 ?_
      refine A_val (y := nI (trS σ k d).2.1) ((wI_ne (by omega)).trans i2) ?_
      refine A_iload4 dX10_tryDay_47 ?_
      refine A_iadd dX10_tryDay_49 ?_
      refine A_putI gf_X10_49 rfl dX10_tryDay_50 ?_
      refine A_aload0 dX10_tryDay_53 ?_
      refine A_dup dX10_tryDay_54 rfl ?_
      refine A_getI gf_X10_52 rfl dX10_tryDay_55 ?_
      refine A_val (y := nI (trS σ k d).2.2.1) ((wI_ne (by omega)).trans ((wI_ne (by omega)).trans i3)) ?_
      refine A_iload2 dX10_tryDay_58 ?_
      refine A_iadd dX10_tryDay_59 ?_
      refine A_putI gf_X10_52 rfl dX10_tryDay_60 ?_
      refine A_aload0 dX10_tryDay_63 ?_
      refine A_dup dX10_tryDay_64 rfl ?_
      refine A_getI gf_X10_55 rfl dX10_tryDay_65 ?_
      refine A_val (y := nI (trS σ k d).2.2.2) ((wI_ne (by omega)).trans ((wI_ne (by omega)).trans ((wI_ne (by omega)).trans i4))) ?_
      refine A_aload0 dX10_tryDay_68 ?_
      refine A_getR gf_X10_9 rfl dX10_tryDay_69 ?_
      refine A_getR gf_X10_85 rfl dX10_tryDay_72 ?_
      refine A_iload3 dX10_tryDay_75 ?_
      refine A_iald (rfl) (by rw [j2]; exact vp_in_nI (by omega) (by omega)) dX10_tryDay_76 ?_
      refine A_val (y := σ.1 49 j) (by rw [j2, nI_c (by omega)]; exact (wI_ne (by omega)).trans ((wI_ne (by omega)).trans ((wI_ne (by omega)).trans e26))) ?_
      refine A_iadd dX10_tryDay_77 ?_
      refine A_putI gf_X10_55 rfl dX10_tryDay_78 ?_
      refine A_aload0 dX10_tryDay_81 ?_
      refine A_getR gf_X10_25 rfl dX10_tryDay_82 ?_
      refine A_iload3 dX10_tryDay_85 ?_
      refine A_dup2 dX10_tryDay_86 rfl rfl ?_
      refine A_iald (rfl) (by rw [j2]; exact vp_in_nI (by omega) (by omega)) dX10_tryDay_87 ?_
      refine A_val (y := nI (ruS σ k j d).1) (by rw [j2, nI_c (by omega)]; exact (wI_ne (by omega)).trans ((wI_ne (by omega)).trans ((wI_ne (by omega)).trans ((wI_ne (by omega)).trans u1)))) ?_
      refine A_iconst (v := 1) dX10_tryDay_88 (by decide) ?_
      refine A_iadd dX10_tryDay_89 ?_
      refine A_iast (rfl) (by rw [j2]; exact vp_in_nI (by omega) (by omega)) dX10_tryDay_90 ?_
      rw [show (ron σ k d).toNatClampNeg = j by rw [j2, nI_c (by omega)]]
      refine A_aload0 dX10_tryDay_91 ?_
      refine A_getR gf_X10_29 rfl dX10_tryDay_92 ?_
      refine A_iload3 dX10_tryDay_95 ?_
      refine A_dup2 dX10_tryDay_96 rfl rfl ?_
      refine A_iald (rfl) (by rw [j2]; exact vp_in_nI (by omega) (by omega)) dX10_tryDay_97 ?_
      refine A_val (y := nI (ruS σ k j d).2) (by rw [j2, nI_c (by omega)]; exact (wI_ne (by omega)).trans ((wI_ne (by omega)).trans ((wI_ne (by omega)).trans ((wI_ne (by omega)).trans ((wI_ne (by omega)).trans u2))))) ?_
      refine A_iload4 dX10_tryDay_98 ?_
      refine A_iadd dX10_tryDay_100 ?_
      refine A_iast (rfl) (by rw [j2]; exact vp_in_nI (by omega) (by omega)) dX10_tryDay_101 ?_
      rw [show (ron σ k d).toNatClampNeg = j by rw [j2, nI_c (by omega)]]
      refine A_vret dX10_tryDay_102 ?_
      refine ⟨rfl, ?_, ((((((hF2.st.w (by decide)).w (by decide)).w (by decide)).w (by decide)).w (by decide)).w (by decide))⟩
      exact hI2.add (hit := 1) ⟨h0, h1, j3⟩ j2 (by omega) h01 (if_pos c_22).symm
  · refine A_vret dX10_tryDay_11 ?_
    exact ⟨rfl, (hI.s9 hF2).skip (fun z => z.2.2 (by rw [c_8]; decide)), hF2.st⟩
set_option maxHeartbeats 400000 in
set_option maxRecDepth 100000 in
theorem L_X10_run_38 {l : Launch} {G : Wd} {k : Int32} {σ M : Mem} (hM : Wk σ k M) (hW : WFr σ) (hE : WFe σ) : ∀ (q d : Nat) (m : Mem) (x2 : Option Value), q + d = 60 → TrI σ k d m → St M m → AW l G KC RX10 cX10_run 3 6 none (Qv (fun μ' => TrI σ k 60 μ' ∧ St M μ')) 38 [some (.ref (gA G 80)), some (.int (nI d)), x2] [] m := by
  intro q
  induction q with
  | zero =>
    intro d m x2 hq hI hF
    obtain rfl : d = 60 := by omega
    refine A_iload1 dX10_run_38 ?_
    refine A_bipush (v := 60) dX10_run_39 (by decide) ?_
    refine A_icmp_ge (tgt := 93) dX10_run_41 (by decide) (fun c_41 => ?_) (fun c_41 => absurd c_41 (fun z => z (Int32.le_refl _)))
    refine A_vret dX10_run_93 ?_
    exact ⟨rfl, hI, hF⟩
  | succ q ih =>
    intro d m x2 hq hI hF
    have hd : d < 60 := by omega
    have hWk := hF.wk hM
    have hL : RcL σ m := hWk.1.2.2.1.2.2.2
    obtain ⟨w1, w2⟩ := wn_i (σ := σ) (k := k) (d := d)
    have hmd := hL.2.2.1 d hd
    refine A_iload1 dX10_run_38 ?_
    refine A_bipush (v := 60) dX10_run_39 (by decide) ?_
    refine A_icmp_ge (tgt := 93) dX10_run_41 (by decide) (fun c_41 => absurd c_41 (fun z => nI_ge (a := d) (b := 60) hd (by decide) z)) (fun c_41 => ?_)
    refine A_aload0 dX10_run_44 ?_
    refine A_getR gf_X10_15 rfl dX10_run_45 ?_
    refine A_iconst (v := 2) dX10_run_48 (by decide) ?_
    refine A_iload1 dX10_run_49 ?_
    refine A_iconst (v := 1) dX10_run_50 (by decide) ?_
    refine A_iadd dX10_run_51 ?_
    refine A_vi2 lk_X10_64 yv_X4_distant dX10_run_52 (rfl) (rfl) (T_X4_distant) (by decide) (Nat.le_of_ble_eq_true rfl) (fun r_52 μ_52 h_52 => ?_)
    obtain ⟨v_52, e_52⟩ := h_52
    replace v_52 := Eq.symm v_52
    subst v_52
    replace e_52 := e_52.symm
    subst e_52
    refine A_val (y := wnV σ k d) (wn_s hWk hd) ?_
    refine A_istore2 dX10_run_55 rfl (by decide) ?_
    refine A_iload2 dX10_run_56 ?_
    refine A_ldc dX10_run_57 kc_X10_70 ?_
    refine A_icmp_eq (tgt := 87) dX10_run_59 (by decide) (fun c_59 => ?_) (fun c_59 => ?_)
    · refine A_iinc1 dX10_run_87 rfl rfl (by decide) ?_
      refine A_goto (tgt := 38) dX10_run_90 (by decide) ?_
      rw [show nI d + Int32.ofInt 1 = nI (d + 1) from nI_1 d]
      exact ih (d + 1) m _ (by omega) (hI.skip (fun z => z.2.1 (w1.mpr c_59))) hF
    · refine A_aload0 dX10_run_62 ?_
      refine A_getR gf_X10_19 rfl dX10_run_63 ?_
      refine A_iload1 dX10_run_66 ?_
      refine A_vi1 lk_X10_71 yv_X2_isMade dX10_run_67 (rfl) (rfl) (T_X2_isMade hL.1) (by decide) (Nat.le_of_ble_eq_true rfl) (fun r_67 μ_67 h_67 => ?_)
      obtain ⟨v_67, e_67⟩ := h_67
      replace e_67 := e_67.symm
      subst e_67
      refine A_if_ne (tgt := 87) dX10_run_70 (by decide) (fun c_70 => ?_) (fun c_70 => ?_)
      · have hmade := v_67.elim (fun z => z.2) (fun z => absurd z.1 c_70)
        refine A_iinc1 dX10_run_87 rfl rfl (by decide) ?_
        refine A_goto (tgt := 38) dX10_run_90 (by decide) ?_
        rw [show nI d + Int32.ofInt 1 = nI (d + 1) from nI_1 d]
        exact ih (d + 1) m _ (by omega) (hI.skip (fun z => hmd.mpr hmade z.1)) hF
      · have h19 : σ.1 19 d = 0 := Classical.not_not.mp (fun z => by rcases v_67 with ⟨y, -⟩ | ⟨-, y⟩; exact absurd (y.symm.trans c_70) (by decide); exact y (hmd.mp z))
        refine A_aload0 dX10_run_73 ?_
        refine A_iload1 dX10_run_74 ?_
        refine A_iload2 dX10_run_75 ?_
        refine A_if_le (tgt := 83) dX10_run_76 (by decide) (fun c_76 => ?_) (fun c_76 => ?_)
        · refine A_iconst (v := 0) dX10_run_83 (by decide) ?_
          refine A_val (y := bz (wnS σ k d = 1)) (bz_f (fun z => (w2 c_59).mp z c_76)).symm ?_
          refine A_vv2 lk_X10_77 yv_X10_tryDay dX10_run_84 (rfl) (rfl) (T_X10_tryDay hWk hW hE hd h19 (fun z => c_59 (w1.mp z)) hI) (by decide) (Nat.le_of_ble_eq_true rfl) (fun μ_84 h_84 => ?_)
          refine A_iinc1 dX10_run_87 rfl rfl (by decide) ?_
          refine A_goto (tgt := 38) dX10_run_90 (by decide) ?_
          rw [show nI d + Int32.ofInt 1 = nI (d + 1) from nI_1 d]
          exact ih (d + 1) _ _ (by omega) h_84.1 (hF.tr h_84.2)
        · refine A_iconst (v := 1) dX10_run_79 (by decide) ?_
          refine A_val (y := bz (wnS σ k d = 1)) (bz_t ((w2 c_59).mpr c_76)).symm ?_
          refine A_goto (tgt := 84) dX10_run_80 (by decide) ?_
          refine A_vv2 lk_X10_77 yv_X10_tryDay dX10_run_84 (rfl) (rfl) (T_X10_tryDay hWk hW hE hd h19 (fun z => c_59 (w1.mp z)) hI) (by decide) (Nat.le_of_ble_eq_true rfl) (fun μ_84 h_84 => ?_)
          refine A_iinc1 dX10_run_87 rfl rfl (by decide) ?_
          refine A_goto (tgt := 38) dX10_run_90 (by decide) ?_
          rw [show nI d + Int32.ofInt 1 = nI (d + 1) from nI_1 d]
          exact ih (d + 1) _ _ (by omega) h_84.1 (hF.tr h_84.2)
set_option maxHeartbeats 400000 in
set_option maxRecDepth 100000 in
theorem T_X10_run {l : Launch} {G : Wd} {k : Int32} {σ M : Mem} (hM : Wk σ k M) (hW : WFr σ) (hE : WFe σ) : Mt l G KC yX10_run cX10_run 3 none 6 [.ref (gA G 80)] M (Qv (fun μ' => TrI σ k 60 μ' ∧ St M μ')) := by
  refine Mt.of (own := RX10) (n := 2) (by decide) rfl [some (.ref (gA G 80)), none, none] rfl (Nat.le_of_ble_eq_true rfl) ?_
  refine A_aload0 dX10_run_0 ?_
  refine A_iconst (v := 0) dX10_run_1 (by decide) ?_
  refine A_putI gf_X10_46 rfl dX10_run_2 ?_
  refine A_aload0 dX10_run_5 ?_
  refine A_iconst (v := 0) dX10_run_6 (by decide) ?_
  refine A_putI gf_X10_49 rfl dX10_run_7 ?_
  refine A_aload0 dX10_run_10 ?_
  refine A_iconst (v := 0) dX10_run_11 (by decide) ?_
  refine A_putI gf_X10_52 rfl dX10_run_12 ?_
  refine A_aload0 dX10_run_15 ?_
  refine A_iconst (v := 0) dX10_run_16 (by decide) ?_
  refine A_putI gf_X10_55 rfl dX10_run_17 ?_
  refine A_aload0 dX10_run_20 ?_
  refine A_getR gf_X10_25 rfl dX10_run_21 ?_
  refine A_iconst (v := 0) dX10_run_24 (by decide) ?_
  refine A_sv2 lk_X10_58 ys_J7_fill_53178 dX10_run_25 (T_fill (n := 6) (by decide) rfl) (by decide) (Nat.le_of_ble_eq_true rfl) (fun μ_25 h_25 => ?_)
  replace h_25 := Eq.symm h_25
  subst h_25
  refine A_aload0 dX10_run_28 ?_
  refine A_getR gf_X10_29 rfl dX10_run_29 ?_
  refine A_iconst (v := 0) dX10_run_32 (by decide) ?_
  refine A_sv2 lk_X10_58 ys_J7_fill_53178 dX10_run_33 (T_fill (n := 6) (by decide) rfl) (by decide) (Nat.le_of_ble_eq_true rfl) (fun μ_33 h_33 => ?_)
  replace h_33 := Eq.symm h_33
  subst h_33
  refine A_iconst (v := 0) dX10_run_36 (by decide) ?_
  refine A_istore1 dX10_run_37 rfl (by decide) ?_
  refine L_X10_run_38 hM hW hE 60 0 _ _ (by omega) ⟨?_, ?_, ?_, ?_, fun r hr => ⟨?_, ?_⟩⟩ ⟨rfl, fun i j q p => (wRow_o (by omega)).trans ((wRow_o (by omega)).trans ((wI_ne (by omega)).trans ((wI_ne (by omega)).trans ((wI_ne (by omega)).trans (wI_ne (by omega))))))⟩
  · rw [wRow_o (by omega), wRow_o (by omega), wI_ne (by omega), wI_ne (by omega), wI_ne (by omega), wI_same]; rfl
  · rw [wRow_o (by omega), wRow_o (by omega), wI_ne (by omega), wI_ne (by omega), wI_same]; rfl
  · rw [wRow_o (by omega), wRow_o (by omega), wI_ne (by omega), wI_same]; rfl
  · rw [wRow_o (by omega), wRow_o (by omega), wI_same]; rfl
  · rw [wRow_o (by omega), wRow_i hr]; rfl
  · rw [wRow_i hr]; rfl
set_option maxHeartbeats 100000 in
set_option maxRecDepth 100000 in
theorem T_X10_worth {l : Launch} {G : Wd} {k : Int32} {σ μ : Mem} (hI : TrI σ k 60 μ) : Mt l G KC yX10_worth cX10_worth 1 (some .int) 2 [.ref (gA G 80)] μ (Qi (fun v μ' => v = nI (trS σ k 60).2.1 - imax (nI (trS σ k 60).2.2.1) (nI (trS σ k 60).1 - nI (trS σ k 60).2.2.1) ∧ μ' = μ)) := by
  refine Mt.of (own := RX10) (n := 0) (by decide) rfl [some (.ref (gA G 80))] rfl (Nat.le_of_ble_eq_true rfl) ?_
  refine A_aload0 dX10_worth_0 ?_
  refine A_getI gf_X10_49 rfl dX10_worth_1 ?_
  refine A_val (y := nI (trS σ k 60).2.1) (hI.2.1) ?_
  refine A_aload0 dX10_worth_4 ?_
  refine A_getI gf_X10_52 rfl dX10_worth_5 ?_
  refine A_val (y := nI (trS σ k 60).2.2.1) (hI.2.2.1) ?_
  refine A_aload0 dX10_worth_8 ?_
  refine A_getI gf_X10_46 rfl dX10_worth_9 ?_
  refine A_val (y := nI (trS σ k 60).1) (hI.1) ?_
  refine A_aload0 dX10_worth_12 ?_
  refine A_getI gf_X10_52 rfl dX10_worth_13 ?_
  refine A_val (y := nI (trS σ k 60).2.2.1) (hI.2.2.1) ?_
  refine A_isub dX10_worth_16 ?_
  refine A_si2 lk_X10_88 ys_J9_max_7cf53 dX10_worth_17 (T_max) (by decide) (Nat.le_of_ble_eq_true rfl) (fun r_17 μ_17 h_17 => ?_)
  obtain ⟨v_17, e_17⟩ := h_17
  replace v_17 := Eq.symm v_17
  subst v_17
  replace e_17 := e_17.symm
  subst e_17
  refine A_isub dX10_worth_20 ?_
  refine A_iret dX10_worth_21 ?_
  exact ⟨_, rfl, rfl, rfl⟩
theorem imax_c {x y : Int32} : imax x y = if x ≤ y then y else x := by
  rw [i_eq, imax_i]
  split <;> rename_i h <;> rw [i_le] at h <;> omega
set_option maxHeartbeats 100000 in
set_option maxRecDepth 100000 in
theorem C_tried {l : Launch} {G : Wd} {w : Int32} {k : Int32} {n : Nat} {σ μ : Mem} (hE : WFe σ) (hR : Rc σ n μ) (hn : n + 1 ≤ 600) : Mt l G KC yX11_tried cX11_tried 3 (some .int) 9 [.ref (gA G 0), .int w, .int k] μ (Qi (fun v μ' => v = sp_tried σ w k ∧ Rc σ (n + 1) μ')) := by
  refine Mt.of (own := RX11) (n := 0) (by decide) rfl [some (.ref (gA G 0)), some (.int w), some (.int k)] rfl (Nat.le_of_ble_eq_true rfl) ?_
  refine A_iload1 dX11_tried_0 ?_
  refine A_if_lt (tgt := 9) dX11_tried_1 (by decide) (fun c_1 => ?_) (fun c_1 => ?_)
  · refine A_ldc dX11_tried_9 kc_X11_216 ?_
    refine A_iret dX11_tried_11 ?_
    refine ⟨_, rfl, ?_, hR.up hn⟩
    unfold sp_tried
    rw [if_neg (fun z => absurd c_1 (by rw [z]; decide)), if_neg (fun z => absurd c_1 (by rw [z]; decide)), if_neg (fun z => absurd c_1 (by rw [z]; decide))]
  · refine A_iload1 dX11_tried_4 ?_
    refine A_iconst (v := 2) dX11_tried_5 (by decide) ?_
    refine A_icmp_le (tgt := 12) dX11_tried_6 (by decide) (fun c_6 => ?_) (fun c_6 => ?_)
    · refine A_aload0 dX11_tried_12 ?_
      refine A_getR gf_X11_76 rfl dX11_tried_13 ?_
      refine A_iload2 dX11_tried_16 ?_
      refine A_vv1 lk_X11_201 yv_X4_at dX11_tried_17 (rfl) (rfl) (T_at hR) (by decide) (Nat.le_of_ble_eq_true rfl) (fun μ_17 h_17 => ?_)
      have hC := hR.at h_17
      refine A_aload0 dX11_tried_20 ?_
      refine A_getR gf_X11_110 rfl dX11_tried_21 ?_
      refine A_vv0 lk_X11_278 yv_X10_run dX11_tried_24 (rfl) (rfl) (T_X10_run hC.wk hR.2.1.2 hE) (by decide) (Nat.le_of_ble_eq_true rfl) (fun μ_24 h_24 => ?_)
      obtain ⟨hI, hF⟩ := h_24
      have hC2 := hC.st hF
      refine A_iload1 dX11_tried_27 ?_
      refine A_iconst (v := 2) dX11_tried_28 (by decide) ?_
      refine A_icmp_ne (tgt := 40) dX11_tried_29 (by decide) (fun c_29 => ?_) (fun c_29 => ?_)
      · refine A_iload1 dX11_tried_40 ?_
        refine A_if_ne (tgt := 54) dX11_tried_41 (by decide) (fun c_41 => ?_) (fun c_41 => ?_)
        · refine A_aload0 dX11_tried_54 ?_
          refine A_getR gf_X11_110 rfl dX11_tried_55 ?_
          refine A_getI gf_X11_287 rfl dX11_tried_58 ?_
          refine A_val (y := nI (trS σ k 60).2.1) (hI.2.1) ?_
          refine A_iret dX11_tried_61 ?_
          refine ⟨_, rfl, ?_, hC2.rc hR.2.1 hn⟩
          have a0 : (0 : Int32).toInt = 0 := rfl
          have a1 : (1 : Int32).toInt = 1 := rfl
          have a2 : (2 : Int32).toInt = 2 := rfl
          have i0 : ¬ w.toInt < 0 := fun z => c_1 (i_lt.mpr (by omega))
          have i2 := i_le.mp c_6
          have j0 : ¬ w.toInt = 0 := fun z => c_41 (i_eq.mpr (z.trans a0.symm))
          have j2 : ¬ w.toInt = 2 := fun z => c_29 (i_eq.mpr (z.trans a2.symm))
          have w1 : w = 1 := by rw [i_eq]; omega
          unfold sp_tried
          rw [if_neg c_41, if_pos w1]
        · refine A_aload0 dX11_tried_44 ?_
          refine A_getR gf_X11_110 rfl dX11_tried_45 ?_
          refine A_getI gf_X11_284 rfl dX11_tried_48 ?_
          refine A_val (y := nI (trS σ k 60).1) (hI.1) ?_
          refine A_goto (tgt := 61) dX11_tried_51 (by decide) ?_
          refine A_iret dX11_tried_61 ?_
          refine ⟨_, rfl, ?_, hC2.rc hR.2.1 hn⟩
          unfold sp_tried
          rw [if_pos c_41]
      · refine A_aload0 dX11_tried_32 ?_
        refine A_getR gf_X11_110 rfl dX11_tried_33 ?_
        refine A_vi0 lk_X11_281 yv_X10_worth dX11_tried_36 (rfl) (rfl) (T_X10_worth hI) (by decide) (Nat.le_of_ble_eq_true rfl) (fun r_36 μ_36 h_36 => ?_)
        obtain ⟨v_36, e_36⟩ := h_36
        replace v_36 := Eq.symm v_36
        subst v_36
        replace e_36 := e_36.symm
        subst e_36
        refine A_iret dX11_tried_39 ?_
        refine ⟨_, rfl, ?_, hC2.rc hR.2.1 hn⟩
        have es : sp_tried σ w k = nI (trS σ k 60).2.1 - (if nI (trS σ k 60).2.2.1 ≤ nI (trS σ k 60).1 - nI (trS σ k 60).2.2.1 then nI (trS σ k 60).1 - nI (trS σ k 60).2.2.1 else nI (trS σ k 60).2.2.1) := by unfold sp_tried; rw [if_neg (by rw [c_29]; decide), if_neg (by rw [c_29]; decide), if_pos c_29]
        rw [es, imax_c]
    · refine A_ldc dX11_tried_9 kc_X11_216 ?_
      refine A_iret dX11_tried_11 ?_
      refine ⟨_, rfl, ?_, hR.up hn⟩
      unfold sp_tried
      rw [if_neg (fun z => absurd c_6 (by rw [z]; decide)), if_neg (fun z => absurd c_6 (by rw [z]; decide)), if_neg (fun z => absurd c_6 (by rw [z]; decide))]
set_option maxHeartbeats 100000 in
set_option maxRecDepth 100000 in
theorem C_rule {l : Launch} {G : Wd} {r w : Int32} {k : Int32} {n : Nat} {σ μ : Mem} (hE : WFe σ) (hR : Rc σ n μ) (hn : n + 1 ≤ 600) : Mt l G KC yX11_rule cX11_rule 4 (some .int) 9 [.ref (gA G 0), .int r, .int w, .int k] μ (Qi (fun v μ' => v = sp_rule σ r w k ∧ Rc σ (n + 1) μ')) := by
  refine Mt.of (own := RX11) (n := 0) (by decide) rfl [some (.ref (gA G 0)), some (.int r), some (.int w), some (.int k)] rfl (Nat.le_of_ble_eq_true rfl) ?_
  refine A_iload1 dX11_rule_0 ?_
  refine A_if_lt (tgt := 24) dX11_rule_1 (by decide) (fun c_1 => ?_) (fun c_1 => ?_)
  · refine A_iconst (v := -1) dX11_rule_24 (by decide) ?_
    refine A_iret dX11_rule_25 ?_
    refine ⟨_, rfl, ?_, hR.up hn⟩
    unfold sp_rule
    rw [if_neg (fun z => absurd z.1.1 (Int32.not_le.mpr c_1))]
  · refine A_iload1 dX11_rule_4 ?_
    refine A_aload0 dX11_rule_5 ?_
    refine A_getR gf_X11_48 rfl dX11_rule_6 ?_
    refine A_getI gf_X11_156 rfl dX11_rule_9 ?_
    refine A_val (y := σ.1 0 72) (hR.1.2.2.2.1.1) ?_
    refine A_icmp_ge (tgt := 24) dX11_rule_12 (by decide) (fun c_12 => ?_) (fun c_12 => ?_)
    · refine A_iconst (v := -1) dX11_rule_24 (by decide) ?_
      refine A_iret dX11_rule_25 ?_
      refine ⟨_, rfl, ?_, hR.up hn⟩
      unfold sp_rule
      rw [if_neg (fun z => absurd z.1.2 (Int32.not_lt.mpr c_12))]
    · refine A_iload2 dX11_rule_15 ?_
      refine A_if_lt (tgt := 24) dX11_rule_16 (by decide) (fun c_16 => ?_) (fun c_16 => ?_)
      · refine A_iconst (v := -1) dX11_rule_24 (by decide) ?_
        refine A_iret dX11_rule_25 ?_
        refine ⟨_, rfl, ?_, hR.up hn⟩
        unfold sp_rule
        rw [if_neg (fun z => absurd z.2.1 (Int32.not_le.mpr c_16))]
      · refine A_iload2 dX11_rule_19 ?_
        refine A_iconst (v := 1) dX11_rule_20 (by decide) ?_
        refine A_icmp_le (tgt := 26) dX11_rule_21 (by decide) (fun c_21 => ?_) (fun c_21 => ?_)
        · have h6 := hR.2.1.2.1
          obtain ⟨x, hx, rfl⟩ := nI_rng (n := rlN σ) (Int32.not_lt.mp c_1) (by rw [← hR.2.1.2.2.1]; exact Int32.not_le.mp c_12) (by omega)
          have ex : (nI x).toNatClampNeg = x := nI_c (by omega)
          refine A_aload0 dX11_rule_26 ?_
          refine A_getR gf_X11_76 rfl dX11_rule_27 ?_
          refine A_iload3 dX11_rule_30 ?_
          refine A_vv1 lk_X11_201 yv_X4_at dX11_rule_31 (rfl) (rfl) (T_at hR) (by decide) (Nat.le_of_ble_eq_true rfl) (fun μ_31 h_31 => ?_)
          have hC := hR.at h_31
          refine A_aload0 dX11_rule_34 ?_
          refine A_getR gf_X11_110 rfl dX11_rule_35 ?_
          refine A_vv0 lk_X11_278 yv_X10_run dX11_rule_38 (rfl) (rfl) (T_X10_run hC.wk hR.2.1.2 hE) (by decide) (Nat.le_of_ble_eq_true rfl) (fun μ_38 h_38 => ?_)
          obtain ⟨hI, hF⟩ := h_38
          have hC2 := hC.st hF
          refine A_iload2 dX11_rule_41 ?_
          refine A_if_ne (tgt := 57) dX11_rule_42 (by decide) (fun c_42 => ?_) (fun c_42 => ?_)
          · refine A_aload0 dX11_rule_57 ?_
            refine A_getR gf_X11_110 rfl dX11_rule_58 ?_
            refine A_getR gf_X11_305 rfl dX11_rule_61 ?_
            refine A_iload1 dX11_rule_64 ?_
            refine A_iald (rfl) (vp_in_nI (by omega) (by omega)) dX11_rule_65 ?_
            refine A_val (y := nI (ruS σ k x 60).2) (by rw [nI_c (by omega)]; exact (hI.2.2.2.2 x (by omega)).2) ?_
            refine A_iret dX11_rule_66 ?_
            refine ⟨_, rfl, ?_, hC2.rc hR.2.1 hn⟩
            have hcd : isRu σ (nI x) ∧ 0 ≤ w ∧ w ≤ 1 := ⟨⟨Int32.not_lt.mp c_1, Int32.not_le.mp c_12⟩, Int32.not_lt.mp c_16, c_21⟩
            unfold sp_rule
            rw [if_pos hcd, ex, if_neg c_42]
          · refine A_aload0 dX11_rule_45 ?_
            refine A_getR gf_X11_110 rfl dX11_rule_46 ?_
            refine A_getR gf_X11_302 rfl dX11_rule_49 ?_
            refine A_iload1 dX11_rule_52 ?_
            refine A_iald (rfl) (vp_in_nI (by omega) (by omega)) dX11_rule_53 ?_
            refine A_val (y := nI (ruS σ k x 60).1) (by rw [nI_c (by omega)]; exact (hI.2.2.2.2 x (by omega)).1) ?_
            refine A_goto (tgt := 66) dX11_rule_54 (by decide) ?_
            refine A_iret dX11_rule_66 ?_
            refine ⟨_, rfl, ?_, hC2.rc hR.2.1 hn⟩
            have hcd : isRu σ (nI x) ∧ 0 ≤ w ∧ w ≤ 1 := ⟨⟨Int32.not_lt.mp c_1, Int32.not_le.mp c_12⟩, Int32.not_lt.mp c_16, c_21⟩
            unfold sp_rule
            rw [if_pos hcd, ex, if_pos c_42]
        · refine A_iconst (v := -1) dX11_rule_24 (by decide) ?_
          refine A_iret dX11_rule_25 ?_
          refine ⟨_, rfl, ?_, hR.up hn⟩
          unfold sp_rule
          rw [if_neg (fun z => c_21 z.2.2)]

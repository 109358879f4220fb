/-! boxes by name; a range -/
def bxO (N : Nat → Int64) (w : Int64) : Nat → Int32
  | 0 => -1
  | k + 1 => if N k = w then nI k else bxO N w k
def nbN (μ : Mem) : Nat := (μ.1 0 29).toNatClampNeg
def WFn (μ : Mem) : Prop := ∃ t : Nat, t ≤ 5 ∧ μ.1 0 29 = nI t
theorem WFn.t {μ : Mem} (h : WFn μ) : nbN μ ≤ 5 ∧ μ.1 0 29 = nI (nbN μ) := by
  obtain ⟨t, h1, h2⟩ := h
  have e : nbN μ = t := by unfold nbN; rw [h2]; exact nI_c (by omega)
  rw [e]
  exact ⟨h1, h2⟩
def sp_boxOf (μ : Mem) (w : Int64) : Int32 := bxO (μ.2.1 2) w (nbN μ)
set_option maxHeartbeats 4000000 in
set_option maxRecDepth 100000 in
theorem L_X12_boxOf {l : Launch} {G : Wd} {μ : Mem} {w : Int64} (hn : nbN μ ≤ 5) (hb : μ.1 0 29 = nI (nbN μ)) : ∀ (q k : Nat) (x y : Int32), k + q = nbN μ → x = bxO (μ.2.1 2) w k → y = nI k → AW l G KM RX12 cX12_boxOf 5 1 (some .int) (Qi (fun v μ' => v = sp_boxOf μ w ∧ μ' = μ)) 5 [some (.ref (gA G 0)), some (.long w), none, some (.int x), some (.int y)] [] μ := by
  intro q
  induction q with
  | zero =>
    intro k x y hq hx hy
    obtain rfl : k = nbN μ := by omega
    subst hy
    refine A_iload4 dX12_boxOf_5 ?_
    refine A_aload0 dX12_boxOf_7 ?_
    refine A_getI gf_X12_275 rfl dX12_boxOf_8 ?_
    rw [hb]
    refine A_icmp_ge (tgt := 39) dX12_boxOf_11 (by decide) (fun c_11 => ?_) (fun c_11 => absurd c_11 (fun z => z (nI_le (Nat.le_refl _) (by omega))))
    refine A_iload3 dX12_boxOf_39 ?_
    refine A_iret dX12_boxOf_40 ?_
    exact ⟨_, rfl, hx, rfl⟩
  | succ q ih =>
    intro k x y hq hx hy
    subst hy
    refine A_iload4 dX12_boxOf_5 ?_
    refine A_aload0 dX12_boxOf_7 ?_
    refine A_getI gf_X12_275 rfl dX12_boxOf_8 ?_
    rw [hb]
    refine A_icmp_ge (tgt := 39) dX12_boxOf_11 (by decide) (fun c_11 => absurd c_11 (fun z => by have h9 := (nI_leI (by omega) (by omega)).mp z; omega)) (fun c_11 => ?_)
    refine A_aload0 dX12_boxOf_14 ?_
    refine A_getR gf_X12_17 rfl dX12_boxOf_15 ?_
    refine A_iload4 dX12_boxOf_18 ?_
    refine A_lald (rfl) (vp_in_nI (by omega) (by omega)) dX12_boxOf_20 ?_
    rw [nI_c (by omega)]
    refine A_lload1 dX12_boxOf_21 ?_
    refine A_lcmp dX12_boxOf_22 ?_
    refine A_if_ne (tgt := 31) dX12_boxOf_23 (by decide) (fun c_23 => ?_) (fun c_23 => ?_)
    · refine A_iload3 dX12_boxOf_31 ?_
      refine A_istore3 dX12_boxOf_32 rfl (by decide) ?_
      refine A_iinc4 dX12_boxOf_33 rfl rfl (by decide) ?_
      refine A_goto (tgt := 5) dX12_boxOf_36 (by decide) ?_
      refine ih (k + 1) _ _ (by omega) ?_ (nI_1 k)
      rw [bxO, if_neg (fun z => c_23 (lg_0.mpr z)), ← hx]
    · refine A_iload4 dX12_boxOf_26 ?_
      refine A_goto (tgt := 32) dX12_boxOf_28 (by decide) ?_
      refine A_istore3 dX12_boxOf_32 rfl (by decide) ?_
      refine A_iinc4 dX12_boxOf_33 rfl rfl (by decide) ?_
      refine A_goto (tgt := 5) dX12_boxOf_36 (by decide) ?_
      refine ih (k + 1) _ _ (by omega) ?_ (nI_1 k)
      rw [bxO, if_pos (lg_0.mp c_23)]
set_option maxHeartbeats 4000000 in
set_option maxRecDepth 100000 in
theorem T_X12_boxOf {l : Launch} {G : Wd} {w : Int64} {μ : Mem} (hw : WFn μ) : Mt l G KM yX12_boxOf cX12_boxOf 5 (some .int) 1 [.ref (gA G 0), .long w] μ (Qi (fun v μ' => v = sp_boxOf μ w ∧ μ' = μ)) := by
  refine Mt.of (own := RX12) (n := 2) (by decide) rfl [some (.ref (gA G 0)), some (.long w), none, none, none] rfl (Nat.le_of_ble_eq_true rfl) ?_
  refine A_iconst (v := -1) dX12_boxOf_0 (by decide) ?_
  refine A_istore3 dX12_boxOf_1 rfl (by decide) ?_
  refine A_iconst (v := 0) dX12_boxOf_2 (by decide) ?_
  refine A_istore4 dX12_boxOf_3 rfl (by decide) ?_
  exact L_X12_boxOf hw.t.1 hw.t.2 (nbN μ) 0 _ _ (by omega) rfl rfl
def rng (z : Int32) (μ : Mem) (a b : Int32) : Int32 × Mem := if z = 0 then sp_told μ a b else sp_signed μ a b
def sp_readRange (μ : Mem) (b q : Nat) (w : Int64) (lo hi z : Int32) : Mem := wI (wI (rng z (sp_want (rng z (sp_want μ w) lo hi).2 29807) (rng z (sp_want μ w) lo hi).1 hi).2 5 (8 * b + 2 * q) (rng z (sp_want μ w) lo hi).1) 5 (8 * b + 2 * q + 1) (rng z (sp_want (rng z (sp_want μ w) lo hi).2 29807) (rng z (sp_want μ w) lo hi).1 hi).1
theorem WFx.rn {μ : Mem} {z a b : Int32} (h : WFx μ) : WFx (rng z μ a b).2 := by
  unfold rng
  split
  · exact h.told
  · exact h.signed
theorem WFx.rg {μ m : Mem} {z a b v : Int32} (h : WFx μ) (e : rng z μ a b = (v, m)) : WFx m := by
  have h1 := h.rn (z := z) (a := a) (b := b)
  rw [e] at h1
  exact h1
theorem ix8 (b q : Nat) : (8 : Int32) * nI b + 2 * nI q = nI (8 * b + 2 * q) := by
  rw [show (8 : Int32) = nI 8 from rfl, show (2 : Int32) = nI 2 from rfl, pk_mul, pk_mul, nI_add]
/-! what reading leaves as it was -/
abbrev rdK (i j : Nat) : Prop := i = 0 ∧ 2 ≤ j ∧ j ≤ 8 ∧ j ≠ 5
def Rd (μ μ' : Mem) : Prop := (∀ i j, ¬ rdK i j → μ'.1 i j = μ.1 i j) ∧ (∀ i j, ¬ (i = 0 ∧ j = 9) → μ'.2.1 i j = μ.2.1 i j) ∧ μ'.2.2 = μ.2.2
theorem Rd.rf {μ : Mem} : Rd μ μ := ⟨fun _ _ _ => rfl, fun _ _ _ => rfl, rfl⟩
theorem Rd.tr {a b c : Mem} (h : Rd a b) (g : Rd b c) : Rd a c := ⟨fun i j q => (g.1 i j q).trans (h.1 i j q), fun i j q => (g.2.1 i j q).trans (h.2.1 i j q), g.2.2.trans h.2.2⟩
theorem Rd.wI {a b : Mem} {k : Nat} {v : Int32} (h : Rd a b) (hk : 2 ≤ k ∧ k ≤ 8 ∧ k ≠ 5) : Rd a (wI b 0 k v) := ⟨fun i j q => (wI_ne (by unfold rdK at q; omega)).trans (h.1 i j q), h.2.1, h.2.2⟩
theorem Rd.wL {a b : Mem} {v : Int64} (h : Rd a b) : Rd a (wL b 0 9 v) := ⟨h.1, fun i j q => (w2_ne (by omega)).trans (h.2.1 i j q), h.2.2⟩
theorem Rd.tB {a b : Mem} {p : Nat} {t : Nat × Int32 × Int64 × Int32} (h : Rd a b) : Rd a (tkB b p t) := by
  unfold tkB
  exact Rd.wI (Rd.wI (Rd.wL (Rd.wI (Rd.wI h (by decide)) (by decide))) (by decide)) (by decide)
theorem Rd.tk {a b : Mem} (h : Rd a b) : Rd a (tkn b) := by
  unfold tkn sp_token tkM
  split
  · exact h.tB
  · exact Rd.wI h.tB (by decide)
theorem Rd.sp {a b : Mem} {w : Int32} (h : Rd a b) : Rd a (sp_spoil b w) := by
  unfold sp_spoil
  split
  · exact h
  · exact Rd.wI (Rd.wI h (by decide)) (by decide)
theorem Rd.wa {a b : Mem} {w : Int64} (h : Rd a b) : Rd a (sp_want b w) := by
  unfold sp_want
  split
  · exact h
  · split
    · exact h.tk
    · exact h.sp
theorem Rd.td {a b : Mem} {x y : Int32} (h : Rd a b) : Rd a (sp_told b x y).2 := by
  have hA : Rd a (tdA b x y) := by
    unfold tdA
    split
    · split
      · exact h.sp
      · exact h
    · exact h.sp
  unfold sp_told
  split
  · exact h
  · show Rd a (if _ then _ else _)
    split
    · exact hA.tk
    · exact hA
theorem Rd.sg {a b : Mem} {x y : Int32} (h : Rd a b) : Rd a (sp_signed b x y).2 := by
  have hA : Rd a (sgM b) := by
    unfold sgM
    split
    · exact h.tk
    · exact h
  unfold sp_signed
  split
  · exact h
  · split
    · show Rd a (if _ then _ else _)
      split
      · exact Rd.wI (Rd.wI hA (by decide)) (by decide)
      · exact hA.tk
    · exact hA.sp
theorem Rd.rg {a b : Mem} {z x y : Int32} (h : Rd a b) : Rd a (rng z b x y).2 := by
  unfold rng
  split
  · exact h.td
  · exact h.sg
theorem Rd.n {a b : Mem} (h : Rd a b) (hw : WFn a) : WFn b := by
  obtain ⟨t, h1, h2⟩ := hw
  exact ⟨t, h1, (h.1 0 29 (by unfold rdK; omega)).trans h2⟩
set_option maxHeartbeats 4000000 in
set_option maxRecDepth 100000 in
theorem T_X12_readRange {l : Launch} {G : Wd} {b q : Nat} {w : Int64} {lo hi z : Int32} {μ : Mem} (hw : WFx μ) (hb : b < 5) (hq : q < 4) : Mt l G KM yX12_readRange cX12_readRange 10 none 4 [.ref (gA G 0), .int (nI b), .int (nI q), .long w, .int lo, .int hi, .int z] μ (Qv (fun μ' => μ' = sp_readRange μ b q w lo hi z)) := by
  refine Mt.of (own := RX12) (n := 2) (by decide) rfl [some (.ref (gA G 0)), some (.int (nI b)), some (.int (nI q)), some (.long w), none, some (.int lo), some (.int hi), some (.int z), none, none] rfl (Nat.le_of_ble_eq_true rfl) ?_
  refine A_aload0 dX12_readRange_0 ?_
  refine A_lload3 dX12_readRange_1 ?_
  refine A_vv1 lk_X12_278 yv_X12_want dX12_readRange_2 (rfl) (rfl) (T_X12_want hw) (by decide) (Nat.le_of_ble_eq_true rfl) (fun μ_2 h_2 => ?_)
  subst h_2
  refine A_iload7 dX12_readRange_5 ?_
  refine A_if_eq (tgt := 21) dX12_readRange_7 (by decide) (fun c_7 => ?_) (fun c_7 => ?_)
  · refine A_aload0 dX12_readRange_21 ?_
    refine A_iload5 dX12_readRange_22 ?_
    refine A_iload6 dX12_readRange_24 ?_
    refine A_vi2 lk_X12_286 yv_X12_told dX12_readRange_26 (rfl) (rfl) (T_X12_told hw.want) (by decide) (Nat.le_of_ble_eq_true rfl) (fun r_26 μ_26 h_26 => ?_)
    have e1 : rng z (sp_want μ w) lo hi = (r_26, μ_26) := (if_pos c_7).trans h_26
    have hw2 := (hw.want (w := w)).rg e1
    refine A_istore8 dX12_readRange_29 rfl (by decide) ?_
    refine A_aload0 dX12_readRange_31 ?_
    refine A_ldc2 dX12_readRange_32 kc_X12_228 ?_
    refine A_vv1 lk_X12_278 yv_X12_want dX12_readRange_35 (rfl) (rfl) (T_X12_want hw2) (by decide) (Nat.le_of_ble_eq_true rfl) (fun μ_35 h_35 => ?_)
    subst h_35
    refine A_iload7 dX12_readRange_38 ?_
    refine A_if_eq (tgt := 54) dX12_readRange_40 (by decide) (fun c_40 => ?_) (fun c_40 => absurd c_40 (fun q => q c_7))
    refine A_aload0 dX12_readRange_54 ?_
    refine A_iload8 dX12_readRange_55 ?_
    refine A_iload6 dX12_readRange_57 ?_
    refine A_vi2 lk_X12_286 yv_X12_told dX12_readRange_59 (rfl) (rfl) (T_X12_told hw2.want) (by decide) (Nat.le_of_ble_eq_true rfl) (fun r_59 μ_59 h_59 => ?_)
    refine A_istore9 dX12_readRange_62 rfl (by decide) ?_
    refine A_aload0 dX12_readRange_64 ?_
    refine A_getR gf_X12_27 rfl dX12_readRange_65 ?_
    refine A_bipush (v := 8) dX12_readRange_68 (by decide) ?_
    refine A_iload1 dX12_readRange_70 ?_
    refine A_imul dX12_readRange_71 ?_
    refine A_iconst (v := 2) dX12_readRange_72 (by decide) ?_
    refine A_iload2 dX12_readRange_73 ?_
    refine A_imul dX12_readRange_74 ?_
    refine A_iadd dX12_readRange_75 ?_
    rw [ix8]
    refine A_iload8 dX12_readRange_76 ?_
    refine A_iast (rfl) (vp_in_nI (by omega) (by omega)) dX12_readRange_78 ?_
    rw [nI_c (by omega)]
    refine A_aload0 dX12_readRange_79 ?_
    refine A_getR gf_X12_27 rfl dX12_readRange_80 ?_
    refine A_bipush (v := 8) dX12_readRange_83 (by decide) ?_
    refine A_iload1 dX12_readRange_85 ?_
    refine A_imul dX12_readRange_86 ?_
    refine A_iconst (v := 2) dX12_readRange_87 (by decide) ?_
    refine A_iload2 dX12_readRange_88 ?_
    refine A_imul dX12_readRange_89 ?_
    refine A_iadd dX12_readRange_90 ?_
    rw [ix8]
    refine A_iconst (v := 1) dX12_readRange_91 (by decide) ?_
    refine A_iadd dX12_readRange_92 ?_
    rw [nI_1]
    refine A_iload9 dX12_readRange_93 ?_
    refine A_iast (rfl) (vp_in_nI (by omega) (by omega)) dX12_readRange_95 ?_
    rw [nI_c (by omega)]
    refine A_vret dX12_readRange_96 ?_
    have e2 : rng z (sp_want μ_26 29807) r_26 hi = (r_59, μ_59) := (if_pos c_7).trans h_59
    exact ⟨rfl, by simp only [sp_readRange, e1, e2]⟩
  · refine A_aload0 dX12_readRange_10 ?_
    refine A_iload5 dX12_readRange_11 ?_
    refine A_iload6 dX12_readRange_13 ?_
    refine A_vi2 lk_X12_282 yv_X12_signed dX12_readRange_15 (rfl) (rfl) (T_X12_signed hw.want) (by decide) (Nat.le_of_ble_eq_true rfl) (fun r_15 μ_15 h_15 => ?_)
    have e1 : rng z (sp_want μ w) lo hi = (r_15, μ_15) := (if_neg c_7).trans h_15
    have hw2 := (hw.want (w := w)).rg e1
    refine A_goto (tgt := 29) dX12_readRange_18 (by decide) ?_
    refine A_istore8 dX12_readRange_29 rfl (by decide) ?_
    refine A_aload0 dX12_readRange_31 ?_
    refine A_ldc2 dX12_readRange_32 kc_X12_228 ?_
    refine A_vv1 lk_X12_278 yv_X12_want dX12_readRange_35 (rfl) (rfl) (T_X12_want hw2) (by decide) (Nat.le_of_ble_eq_true rfl) (fun μ_35 h_35 => ?_)
    subst h_35
    refine A_iload7 dX12_readRange_38 ?_
    refine A_if_eq (tgt := 54) dX12_readRange_40 (by decide) (fun c_40 => absurd c_40 (c_7)) (fun c_40 => ?_)
    refine A_aload0 dX12_readRange_43 ?_
    refine A_iload8 dX12_readRange_44 ?_
    refine A_iload6 dX12_readRange_46 ?_
    refine A_vi2 lk_X12_282 yv_X12_signed dX12_readRange_48 (rfl) (rfl) (T_X12_signed hw2.want) (by decide) (Nat.le_of_ble_eq_true rfl) (fun r_48 μ_48 h_48 => ?_)
    refine A_goto (tgt := 62) dX12_readRange_51 (by decide) ?_
    refine A_istore9 dX12_readRange_62 rfl (by decide) ?_
    refine A_aload0 dX12_readRange_64 ?_
    refine A_getR gf_X12_27 rfl dX12_readRange_65 ?_
    refine A_bipush (v := 8) dX12_readRange_68 (by decide) ?_
    refine A_iload1 dX12_readRange_70 ?_
    refine A_imul dX12_readRange_71 ?_
    refine A_iconst (v := 2) dX12_readRange_72 (by decide) ?_
    refine A_iload2 dX12_readRange_73 ?_
    refine A_imul dX12_readRange_74 ?_
    refine A_iadd dX12_readRange_75 ?_
    rw [ix8]
    refine A_iload8 dX12_readRange_76 ?_
    refine A_iast (rfl) (vp_in_nI (by omega) (by omega)) dX12_readRange_78 ?_
    rw [nI_c (by omega)]
    refine A_aload0 dX12_readRange_79 ?_
    refine A_getR gf_X12_27 rfl dX12_readRange_80 ?_
    refine A_bipush (v := 8) dX12_readRange_83 (by decide) ?_
    refine A_iload1 dX12_readRange_85 ?_
    refine A_imul dX12_readRange_86 ?_
    refine A_iconst (v := 2) dX12_readRange_87 (by decide) ?_
    refine A_iload2 dX12_readRange_88 ?_
    refine A_imul dX12_readRange_89 ?_
    refine A_iadd dX12_readRange_90 ?_
    rw [ix8]
    refine A_iconst (v := 1) dX12_readRange_91 (by decide) ?_
    refine A_iadd dX12_readRange_92 ?_
    rw [nI_1]
    refine A_iload9 dX12_readRange_93 ?_
    refine A_iast (rfl) (vp_in_nI (by omega) (by omega)) dX12_readRange_95 ?_
    rw [nI_c (by omega)]
    refine A_vret dX12_readRange_96 ?_
    have e2 : rng z (sp_want μ_15 29807) r_15 hi = (r_48, μ_48) := (if_neg c_7).trans h_48
    exact ⟨rfl, by simp only [sp_readRange, e1, e2]⟩

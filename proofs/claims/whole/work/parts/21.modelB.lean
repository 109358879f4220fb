/-! what counts as known at k: the reference's layOut -/
abbrev kn (σ : Mem) (k : Int32) (f : Nat) : Prop := ¬ (k < σ.1 24 f ∨ (0 ≤ σ.1 25 f ∧ σ.1 25 f ≤ k))
def ps (σ : Mem) (f : Nat) : Nat := (60 * σ.1 20 f + σ.1 21 f).toNatClampNeg
abbrev cnt (σ : Mem) (k : Int32) (f : Nat) : Prop := kn σ k f ∧ σ.1 26 f = 0 ∧ σ.1 18 (σ.1 21 f).toNatClampNeg = 0 ∧ σ.1 17 (ps σ f) = 0 ∧ σ.1 28 (σ.1 22 f).toNatClampNeg = 0
def layF (σ : Mem) (k : Int32) : Nat → Nat → Int32
  | 0, _ => -100000
  | n + 1, j => if kn σ k n ∧ ¬ σ.1 26 n = 0 ∧ ps σ n = j then σ.1 23 n else layF σ k n j
def layR (σ : Mem) (k : Int32) : Nat → Nat → Int32
  | 0, _ => -100000
  | n + 1, j => if cnt σ k n ∧ ps σ n = j then σ.1 23 n else layR σ k n j
def layW (σ : Mem) (k : Int32) : Nat → Nat → Int32
  | 0, _ => 0
  | n + 1, j => if cnt σ k n ∧ ps σ n = j then σ.1 22 n else layW σ k n j
/-- a fact as it can be: (far or not), kind, day, reader, number, untold -/
def okFt (σ : Mem) (f : Nat) : Prop := (σ.1 26 f = 0 ∨ σ.1 26 f = 1) ∧ (∃ q d r : Nat, σ.1 20 f = nI q ∧ σ.1 21 f = nI d ∧ σ.1 22 f = nI r ∧ q < 5 ∧ (σ.1 26 f = 1 → q < 4) ∧ (σ.1 26 f = 0 → nI q < σ.1 0 31) ∧ d < 60 ∧ r < 10) ∧ (-999 ≤ σ.1 23 f ∧ σ.1 23 f ≤ 999) ∧ (σ.1 25 f = -1 ∨ 0 ≤ σ.1 25 f)
def WFf (σ : Mem) : Prop := WFc σ ∧ ∀ f, f < nfc σ → okFt σ f
theorem okFt_ps {σ : Mem} {f : Nat} (h : okFt σ f) : 60 * σ.1 20 f + σ.1 21 f = nI (ps σ f) ∧ ps σ f < 300 ∧ (σ.1 26 f = 1 → ps σ f < 240) := by
  obtain ⟨-, ⟨q, d, r, h1, h2, -, h4, h5, -, h6, -⟩, -⟩ := h
  have e : 60 * σ.1 20 f + σ.1 21 f = nI (60 * q + d) := by
    rw [h1, h2, show (60 : Int32) = nI 60 from rfl, pk_mul, nI_add]
  have e2 : ps σ f = 60 * q + d := by unfold ps; rw [e, nI_c (by omega)]
  rw [e2]
  exact ⟨e, by omega, fun z => by have := h5 z; omega⟩
theorem kn_a {σ : Mem} {k : Int32} {f : Nat} (h : ¬ k < σ.1 24 f) (h2 : σ.1 25 f < 0) : kn σ k f := by
  rintro (q | ⟨q, -⟩)
  · exact h q
  · rw [i_lt] at h2; rw [i_le] at q; omega
theorem kn_b {σ : Mem} {k : Int32} {f : Nat} (h : ¬ k < σ.1 24 f) (h2 : k < σ.1 25 f) : kn σ k f := by
  rintro (q | ⟨-, q⟩)
  · exact h q
  · rw [i_lt] at h2; rw [i_le] at q; omega
theorem nkn_a {σ : Mem} {k : Int32} {f : Nat} (h : k < σ.1 24 f) : ¬ kn σ k f := fun z => z (Or.inl h)
theorem nkn_b {σ : Mem} {k : Int32} {f : Nat} (h : ¬ σ.1 25 f < 0) (h2 : ¬ k < σ.1 25 f) : ¬ kn σ k f := fun z => z (Or.inr ⟨i_nlt h, i_nlt h2⟩)
/-- scratch that callers keep while they ask further -/
def frI (i j : Nat) : Bool := match i with
  | 0 => j == 56 || j == 57 || j == 76 || j == 77 || j == 78 || j == 79
  | 36 => true | 37 => true | 38 => true | 39 => true
  | _ => false
def Fr (F μ : Mem) : Prop := ∀ i j, frI i j = true → μ.1 i j = F.1 i j
theorem Fr.rf {μ : Mem} : Fr μ μ := fun _ _ _ => rfl
theorem Fr.w {F μ : Mem} {i k : Nat} {v : Int32} (h : Fr F μ) (hp : frI i k = false) : Fr F (wI μ i k v) := by
  intro x y hxy
  rw [wI_ne]
  · exact h x y hxy
  · by_cases e : x = i
    · subst e
      right
      intro e2
      subst e2
      rw [hp] at hxy
      cases hxy
    · exact Or.inl e
def LayI (F σ : Mem) (k : Int32) (n : Nat) (μ : Mem) : Prop := Pm σ μ ∧ (∀ j, j < 240 → μ.1 29 j = layF σ k n j) ∧ (∀ j, j < 300 → μ.1 30 j = layR σ k n j) ∧ (∀ j, j < 300 → layR σ k n j ≠ -100000 → μ.1 31 j = layW σ k n j) ∧ Fr F μ
abbrev Lay (F σ : Mem) (k : Int32) (μ : Mem) : Prop := LayI F σ k (nfc σ) μ
theorem Lay.self {F σ μ : Mem} {k : Int32} (h : Lay F σ k μ) : Lay μ σ k μ := ⟨h.1, h.2.1, h.2.2.1, h.2.2.2.1, Fr.rf⟩
theorem LayI.skip {F : Mem} {σ : Mem} {k : Int32} {n : Nat} {μ : Mem} (h : LayI F σ k n μ) (h1 : ¬ kn σ k n) : LayI F σ k (n + 1) μ := by
  obtain ⟨a, b, c, d, fr⟩ := h
  refine ⟨a, fun j hj => ?_, fun j hj => ?_, fun j hj => ?_, fr⟩
  · rw [layF, if_neg (fun z => h1 z.1)]; exact b j hj
  · rw [layR, if_neg (fun z => h1 z.1.1)]; exact c j hj
  · rw [layR, layW, if_neg (fun z => h1 z.1.1), if_neg (fun z => h1 z.1.1)]; exact d j hj
theorem LayI.far {F : Mem} {σ : Mem} {k : Int32} {n : Nat} {μ : Mem} (h : LayI F σ k n μ) (h1 : kn σ k n) (h2 : ¬ σ.1 26 n = 0) : LayI F σ k (n + 1) (wI μ 29 (ps σ n) (σ.1 23 n)) := by
  obtain ⟨a, b, c, d, fr⟩ := h
  refine ⟨a.w rfl, fun j hj => ?_, fun j hj => ?_, fun j hj => ?_, fr.w rfl⟩
  · rw [layF, wI_at]
    by_cases e : ps σ n = j
    · rw [if_pos ⟨rfl, e.symm⟩, if_pos ⟨h1, h2, e⟩]
    · rw [if_neg (fun z => e z.2.symm), if_neg (fun z => e z.2.2)]; exact b j hj
  · rw [layR, if_neg (fun z => h2 z.1.2.1), wI_ne (Or.inl (by decide))]; exact c j hj
  · rw [layR, layW, if_neg (fun z => h2 z.1.2.1), if_neg (fun z => h2 z.1.2.1), wI_ne (Or.inl (by decide))]; exact d j hj
theorem LayI.not {F : Mem} {σ : Mem} {k : Int32} {n : Nat} {μ : Mem} (h : LayI F σ k n μ) (h1 : ¬ cnt σ k n) (h2 : σ.1 26 n = 0) : LayI F σ k (n + 1) μ := by
  obtain ⟨a, b, c, d, fr⟩ := h
  refine ⟨a, fun j hj => ?_, fun j hj => ?_, fun j hj => ?_, fr⟩
  · rw [layF, if_neg (fun z => z.2.1 h2)]; exact b j hj
  · rw [layR, if_neg (fun z => h1 z.1)]; exact c j hj
  · rw [layR, layW, if_neg (fun z => h1 z.1), if_neg (fun z => h1 z.1)]; exact d j hj
theorem LayI.read {F : Mem} {σ : Mem} {k : Int32} {n : Nat} {μ : Mem} (h : LayI F σ k n μ) (h1 : cnt σ k n) : LayI F σ k (n + 1) (wI (wI μ 30 (ps σ n) (σ.1 23 n)) 31 (ps σ n) (σ.1 22 n)) := by
  obtain ⟨a, b, c, d, fr⟩ := h
  refine ⟨(a.w rfl).w rfl, fun j hj => ?_, fun j hj => ?_, fun j hj => ?_, (fr.w rfl).w rfl⟩
  · rw [layF, if_neg (fun z => z.2.1 h1.2.1), wI_ne (Or.inl (by decide)), wI_ne (Or.inl (by decide))]; exact b j hj
  · rw [layR, wI_ne (Or.inl (by decide)), wI_at]
    by_cases e : ps σ n = j
    · rw [if_pos ⟨rfl, e.symm⟩, if_pos ⟨h1, e⟩]
    · rw [if_neg (fun z => e z.2.symm), if_neg (fun z => e z.2)]; exact c j hj
  · rw [layR, layW, wI_at]
    by_cases e : ps σ n = j
    · rw [if_pos ⟨h1, e⟩, if_pos ⟨rfl, e.symm⟩, if_pos ⟨h1, e⟩]; exact fun _ => rfl
    · rw [if_neg (fun z => e z.2), if_neg (fun z => e z.2.symm), if_neg (fun z => e z.2), wI_ne (Or.inl (by decide))]; exact d j hj
set_option maxHeartbeats 4000000 in
set_option maxRecDepth 100000 in
theorem L_X12_layOut_2 {l : Launch} {G : Wd} {k : Int32} {μ0 : Mem} {x3 : Option Value} {Q : Option Value → Mem → Prop} : ∀ (q j : Nat) (x : Int32) (μ : Mem), j + q = 240 + 1 → j ≤ 240 → x = nI j → μ = wRow μ0 29 j (-100000) → AW l G KM RX12 cX12_layOut 4 1 none Q 24 [some (.ref (gA G 0)), some (.int k), some (.int 240), x3] [] (wRow μ0 29 240 (-100000)) → AW l G KM RX12 cX12_layOut 4 1 none Q 2 [some (.ref (gA G 0)), some (.int k), some (.int x), x3] [] μ := by
  intro q
  induction q with
  | zero => intro j x μ h1 h2; omega
  | succ q ih =>
    intro j x μ h1 h2 hx hm hk
    subst hx
    refine A_iload2 dX12_layOut_2 ?_
    refine A_sipush (v := 240) dX12_layOut_3 (by decide) ?_
    refine A_icmp_ge (tgt := 24) dX12_layOut_6 (by decide) (fun c_6 => ?_) (fun c_6 => ?_)
    · have e : j = 240 := by rw [show (240 : Int32) = nI 240 from rfl] at c_6; have := (nI_leI (a := 240) (b := j) (by omega) (by omega)).mp c_6; omega
      subst e
      subst hm
      exact hk
    · have hj : j < 240 := by rw [show (240 : Int32) = nI 240 from rfl] at c_6; rcases Nat.lt_or_ge j 240 with q | q; exact q; exact absurd (nI_le q (by omega)) c_6
      refine A_aload0 dX12_layOut_9 ?_
      refine A_getR gf_X12_100 rfl dX12_layOut_10 ?_
      refine A_iload2 dX12_layOut_13 ?_
      refine A_ldcw dX12_layOut_14 kc_X12_353 ?_
      refine A_iast (rfl) (vp_in_nI hj (by omega)) dX12_layOut_17 ?_
      refine A_iinc2 dX12_layOut_18 rfl rfl (by decide) ?_
      refine A_goto (tgt := 2) dX12_layOut_21 (by decide) ?_
      refine ih (j + 1) _ _ (by omega) (by omega) (nI_1 j) ?_ hk
      rw [hm, nI_c (by omega)]
      exact wRow_s _ _ _ _
set_option maxHeartbeats 4000000 in
set_option maxRecDepth 100000 in
theorem L_X12_layOut_26 {l : Launch} {G : Wd} {k : Int32} {μ0 : Mem} {x3 : Option Value} {Q : Option Value → Mem → Prop} : ∀ (q j : Nat) (x : Int32) (μ : Mem), j + q = 300 + 1 → j ≤ 300 → x = nI j → μ = wRow μ0 30 j (-100000) → AW l G KM RX12 cX12_layOut 4 1 none Q 48 [some (.ref (gA G 0)), some (.int k), some (.int 300), x3] [] (wRow μ0 30 300 (-100000)) → AW l G KM RX12 cX12_layOut 4 1 none Q 26 [some (.ref (gA G 0)), some (.int k), some (.int x), x3] [] μ := by
  intro q
  induction q with
  | zero => intro j x μ h1 h2; omega
  | succ q ih =>
    intro j x μ h1 h2 hx hm hk
    subst hx
    refine A_iload2 dX12_layOut_26 ?_
    refine A_sipush (v := 300) dX12_layOut_27 (by decide) ?_
    refine A_icmp_ge (tgt := 48) dX12_layOut_30 (by decide) (fun c_30 => ?_) (fun c_30 => ?_)
    · have e : j = 300 := by rw [show (300 : Int32) = nI 300 from rfl] at c_30; have := (nI_leI (a := 300) (b := j) (by omega) (by omega)).mp c_30; omega
      subst e
      subst hm
      exact hk
    · have hj : j < 300 := by rw [show (300 : Int32) = nI 300 from rfl] at c_30; rcases Nat.lt_or_ge j 300 with q | q; exact q; exact absurd (nI_le q (by omega)) c_30
      refine A_aload0 dX12_layOut_33 ?_
      refine A_getR gf_X12_103 rfl dX12_layOut_34 ?_
      refine A_iload2 dX12_layOut_37 ?_
      refine A_ldcw dX12_layOut_38 kc_X12_353 ?_
      refine A_iast (rfl) (vp_in_nI hj (by omega)) dX12_layOut_41 ?_
      refine A_iinc2 dX12_layOut_42 rfl rfl (by decide) ?_
      refine A_goto (tgt := 26) dX12_layOut_45 (by decide) ?_
      refine ih (j + 1) _ _ (by omega) (by omega) (nI_1 j) ?_ hk
      rw [hm, nI_c (by omega)]
      exact wRow_s _ _ _ _
set_option maxHeartbeats 4000000 in
set_option maxRecDepth 100000 in
theorem L_X12_layOut_50 {F : Mem} {l : Launch} {G : Wd} {k : Int32} {σ : Mem} {Q : Option Value → Mem → Prop} (hw : WFf σ) (hk : ∀ (μ : Mem) (x : Int32) (x3 : Option Value), Lay F σ k μ → AW l G KM RX12 cX12_layOut 4 1 none Q 207 [some (.ref (gA G 0)), some (.int k), some (.int x), x3] [] μ) : ∀ (q n : Nat) (x : Int32) (x3 : Option Value) (μ : Mem), n + q = nfc σ + 1 → n ≤ nfc σ → x = nI n → LayI F σ k n μ → AW l G KM RX12 cX12_layOut 4 1 none Q 50 [some (.ref (gA G 0)), some (.int k), some (.int x), x3] [] μ := by
  obtain ⟨hf3, hnf⟩ := hw.1.t
  intro q
  induction q with
  | zero => intro n x x3 μ h1 h2; omega
  | succ q ih =>
    intro n x x3 μ h1 h2 hx hL
    subst hx
    refine A_iload2 dX12_layOut_50 ?_
    refine A_aload0 dX12_layOut_51 ?_
    refine A_getI gf_X12_327 rfl dX12_layOut_52 ?_
    refine A_val (hL.1.1 0 42 rfl) ?_
    refine A_icmp_ge (tgt := 207) dX12_layOut_55 (by decide) (fun c_55 => ?_) (fun c_55 => ?_)
    · have e : n = nfc σ := by rw [hnf] at c_55; have := (nI_leI (a := nfc σ) (b := n) (by omega) (by omega)).mp c_55; omega
      subst e
      exact hk _ _ _ hL
    · have hn : n < nfc σ := by rw [hnf] at c_55; rcases Nat.lt_or_ge n (nfc σ) with q | q; exact q; exact absurd (nI_le q (by omega)) c_55
      have hok := hw.2 n hn
      obtain ⟨ep, ep1, ep2⟩ := okFt_ps hok
      obtain ⟨hz, ⟨q0, d0, r0, eq0, ed0, er0, -, -, -, hd0, hr0⟩, -, -⟩ := hok
      refine A_aload0 dX12_layOut_58 ?_
      refine A_getR gf_X12_85 rfl dX12_layOut_59 ?_
      refine A_iload2 dX12_layOut_62 ?_
      refine A_iald (rfl) (vp_in_nI (by omega) (by omega)) dX12_layOut_63 ?_
      rw [nI_c (n := n) (by omega), hL.1.1 24 n rfl]
      refine A_iload1 dX12_layOut_64 ?_
      refine A_icmp_gt (tgt := 201) dX12_layOut_65 (by decide) (fun c_65 => ?_) (fun c_65 => ?_)
      · refine A_iinc2 dX12_layOut_201 rfl rfl (by decide) ?_
        refine A_goto (tgt := 50) dX12_layOut_204 (by decide) ?_
        refine ih (n + 1) _ _ _ (by omega) (by omega) (nI_1 n) ?_
        first | exact hL.skip (nkn_a c_65) | exact hL.skip (nkn_b c_74 c_84) | exact hL.not (fun z => c_148 z.2.2.1) c_113 | exact hL.not (fun z => c_157 z.2.2.2.1) c_113 | exact hL.not (fun z => c_171 z.2.2.2.2) c_113 | exact hL.read ⟨hkn, c_113, c_148, c_157, c_171⟩ | exact hL.far hkn c_113
      · refine A_aload0 dX12_layOut_68 ?_
        refine A_getR gf_X12_88 rfl dX12_layOut_69 ?_
        refine A_iload2 dX12_layOut_72 ?_
        refine A_iald (rfl) (vp_in_nI (by omega) (by omega)) dX12_layOut_73 ?_
        rw [nI_c (n := n) (by omega), hL.1.1 25 n rfl]
        refine A_if_lt (tgt := 90) dX12_layOut_74 (by decide) (fun c_74 => ?_) (fun c_74 => ?_)
        · have hkn : kn σ k n := by first | exact kn_a c_65 c_74 | exact kn_b c_65 c_84
          refine A_bipush (v := 60) dX12_layOut_90 (by decide) ?_
          refine A_aload0 dX12_layOut_92 ?_
          refine A_getR gf_X12_73 rfl dX12_layOut_93 ?_
          refine A_iload2 dX12_layOut_96 ?_
          refine A_iald (rfl) (vp_in_nI (by omega) (by omega)) dX12_layOut_97 ?_
          rw [nI_c (n := n) (by omega), hL.1.1 20 n rfl]
          refine A_imul dX12_layOut_98 ?_
          refine A_aload0 dX12_layOut_99 ?_
          refine A_getR gf_X12_76 rfl dX12_layOut_100 ?_
          refine A_iload2 dX12_layOut_103 ?_
          refine A_iald (rfl) (vp_in_nI (by omega) (by omega)) dX12_layOut_104 ?_
          rw [nI_c (n := n) (by omega), hL.1.1 21 n rfl]
          refine A_iadd dX12_layOut_105 ?_
          rw [ep]
          refine A_istore3 dX12_layOut_106 rfl (by decide) ?_
          refine A_aload0 dX12_layOut_107 ?_
          refine A_getR gf_X12_91 rfl dX12_layOut_108 ?_
          refine A_iload2 dX12_layOut_111 ?_
          refine A_zald (rfl) (vp_in_nI (by omega) (by omega)) dX12_layOut_112 ?_
          rw [nI_c (n := n) (by omega), hL.1.1 26 n rfl]
          refine A_if_eq (tgt := 128) dX12_layOut_113 (by decide) (fun c_113 => ?_) (fun c_113 => ?_)
          · refine A_aload0 dX12_layOut_128 ?_
            refine A_getR gf_X12_91 rfl dX12_layOut_129 ?_
            refine A_iload2 dX12_layOut_132 ?_
            refine A_zald (rfl) (vp_in_nI (by omega) (by omega)) dX12_layOut_133 ?_
            rw [nI_c (n := n) (by omega)]
            refine A_val (y := σ.1 26 n) (hL.1.1 26 n rfl) ?_
            refine A_if_ne (tgt := 201) dX12_layOut_134 (by decide) (fun c_134 => absurd c_134 (fun h => h c_113)) (fun c_134 => ?_)
            refine A_aload0 dX12_layOut_137 ?_
            refine A_getR gf_X12_67 rfl dX12_layOut_138 ?_
            refine A_aload0 dX12_layOut_141 ?_
            refine A_getR gf_X12_76 rfl dX12_layOut_142 ?_
            refine A_iload2 dX12_layOut_145 ?_
            refine A_iald (rfl) (vp_in_nI (by omega) (by omega)) dX12_layOut_146 ?_
            rw [nI_c (n := n) (by omega), hL.1.1 21 n rfl]
            refine A_zald (rfl) (by rw [ed0]; exact vp_in_nI hd0 (by omega)) dX12_layOut_147 ?_
            refine A_val (hL.1.1 18 _ rfl) ?_
            refine A_if_ne (tgt := 201) dX12_layOut_148 (by decide) (fun c_148 => ?_) (fun c_148 => ?_)
            · refine A_iinc2 dX12_layOut_201 rfl rfl (by decide) ?_
              refine A_goto (tgt := 50) dX12_layOut_204 (by decide) ?_
              refine ih (n + 1) _ _ _ (by omega) (by omega) (nI_1 n) ?_
              first | exact hL.skip (nkn_a c_65) | exact hL.skip (nkn_b c_74 c_84) | exact hL.not (fun z => c_148 z.2.2.1) c_113 | exact hL.not (fun z => c_157 z.2.2.2.1) c_113 | exact hL.not (fun z => c_171 z.2.2.2.2) c_113 | exact hL.read ⟨hkn, c_113, c_148, c_157, c_171⟩ | exact hL.far hkn c_113
            · refine A_aload0 dX12_layOut_151 ?_
              refine A_getR gf_X12_64 rfl dX12_layOut_152 ?_
              refine A_iload3 dX12_layOut_155 ?_
              refine A_zald (rfl) (vp_in_nI ep1 (by omega)) dX12_layOut_156 ?_
              rw [nI_c (n := ps σ n) (by omega), hL.1.1 17 _ rfl]
              refine A_if_ne (tgt := 201) dX12_layOut_157 (by decide) (fun c_157 => ?_) (fun c_157 => ?_)
              · refine A_iinc2 dX12_layOut_201 rfl rfl (by decide) ?_
                refine A_goto (tgt := 50) dX12_layOut_204 (by decide) ?_
                refine ih (n + 1) _ _ _ (by omega) (by omega) (nI_1 n) ?_
                first | exact hL.skip (nkn_a c_65) | exact hL.skip (nkn_b c_74 c_84) | exact hL.not (fun z => c_148 z.2.2.1) c_113 | exact hL.not (fun z => c_157 z.2.2.2.1) c_113 | exact hL.not (fun z => c_171 z.2.2.2.2) c_113 | exact hL.read ⟨hkn, c_113, c_148, c_157, c_171⟩ | exact hL.far hkn c_113
              · refine A_aload0 dX12_layOut_160 ?_
                refine A_getR gf_X12_97 rfl dX12_layOut_161 ?_
                refine A_aload0 dX12_layOut_164 ?_
                refine A_getR gf_X12_79 rfl dX12_layOut_165 ?_
                refine A_iload2 dX12_layOut_168 ?_
                refine A_iald (rfl) (vp_in_nI (by omega) (by omega)) dX12_layOut_169 ?_
                rw [nI_c (n := n) (by omega), hL.1.1 22 n rfl]
                refine A_zald (rfl) (by rw [er0]; exact vp_in_nI hr0 (by omega)) dX12_layOut_170 ?_
                refine A_val (hL.1.1 28 _ rfl) ?_
                refine A_if_eq (tgt := 177) dX12_layOut_171 (by decide) (fun c_171 => ?_) (fun c_171 => ?_)
                · refine A_aload0 dX12_layOut_177 ?_
                  refine A_getR gf_X12_103 rfl dX12_layOut_178 ?_
                  refine A_iload3 dX12_layOut_181 ?_
                  refine A_aload0 dX12_layOut_182 ?_
                  refine A_getR gf_X12_82 rfl dX12_layOut_183 ?_
                  refine A_iload2 dX12_layOut_186 ?_
                  refine A_iald (rfl) (vp_in_nI (by omega) (by omega)) dX12_layOut_187 ?_
                  rw [nI_c (n := n) (by omega), hL.1.1 23 n rfl]
                  refine A_iast (rfl) (vp_in_nI ep1 (by omega)) dX12_layOut_188 ?_
                  rw [nI_c (n := ps σ n) (by omega)]
                  refine A_aload0 dX12_layOut_189 ?_
                  refine A_getR gf_X12_106 rfl dX12_layOut_190 ?_
                  refine A_iload3 dX12_layOut_193 ?_
                  refine A_aload0 dX12_layOut_194 ?_
                  refine A_getR gf_X12_79 rfl dX12_layOut_195 ?_
                  refine A_iload2 dX12_layOut_198 ?_
                  refine A_iald (rfl) (vp_in_nI (by omega) (by omega)) dX12_layOut_199 ?_
                  rw [nI_c (n := n) (by omega)]
                  refine A_val (y := σ.1 22 n) (hL.1.1 22 n rfl) ?_
                  refine A_iast (rfl) (vp_in_nI ep1 (by omega)) dX12_layOut_200 ?_
                  rw [nI_c (n := ps σ n) (by omega)]
                  refine A_iinc2 dX12_layOut_201 rfl rfl (by decide) ?_
                  refine A_goto (tgt := 50) dX12_layOut_204 (by decide) ?_
                  refine ih (n + 1) _ _ _ (by omega) (by omega) (nI_1 n) ?_
                  first | exact hL.skip (nkn_a c_65) | exact hL.skip (nkn_b c_74 c_84) | exact hL.not (fun z => c_148 z.2.2.1) c_113 | exact hL.not (fun z => c_157 z.2.2.2.1) c_113 | exact hL.not (fun z => c_171 z.2.2.2.2) c_113 | exact hL.read ⟨hkn, c_113, c_148, c_157, c_171⟩ | exact hL.far hkn c_113
                · refine A_goto (tgt := 201) dX12_layOut_174 (by decide) ?_
                  refine A_iinc2 dX12_layOut_201 rfl rfl (by decide) ?_
                  refine A_goto (tgt := 50) dX12_layOut_204 (by decide) ?_
                  refine ih (n + 1) _ _ _ (by omega) (by omega) (nI_1 n) ?_
                  first | exact hL.skip (nkn_a c_65) | exact hL.skip (nkn_b c_74 c_84) | exact hL.not (fun z => c_148 z.2.2.1) c_113 | exact hL.not (fun z => c_157 z.2.2.2.1) c_113 | exact hL.not (fun z => c_171 z.2.2.2.2) c_113 | exact hL.read ⟨hkn, c_113, c_148, c_157, c_171⟩ | exact hL.far hkn c_113
          · refine A_aload0 dX12_layOut_116 ?_
            refine A_getR gf_X12_100 rfl dX12_layOut_117 ?_
            refine A_iload3 dX12_layOut_120 ?_
            refine A_aload0 dX12_layOut_121 ?_
            refine A_getR gf_X12_82 rfl dX12_layOut_122 ?_
            refine A_iload2 dX12_layOut_125 ?_
            refine A_iald (rfl) (vp_in_nI (by omega) (by omega)) dX12_layOut_126 ?_
            rw [nI_c (n := n) (by omega), hL.1.1 23 n rfl]
            refine A_iast (rfl) (vp_in_nI (ep2 (by rcases hz with h | h; exact absurd h c_113; exact h)) (by omega)) dX12_layOut_127 ?_
            rw [nI_c (n := ps σ n) (by omega)]
            refine A_aload0 dX12_layOut_128 ?_
            refine A_getR gf_X12_91 rfl dX12_layOut_129 ?_
            refine A_iload2 dX12_layOut_132 ?_
            refine A_zald (rfl) (vp_in_nI (by omega) (by omega)) dX12_layOut_133 ?_
            rw [nI_c (n := n) (by omega)]
            refine A_val (y := σ.1 26 n) (hL.1.1 26 n rfl) ?_
            refine A_if_ne (tgt := 201) dX12_layOut_134 (by decide) (fun c_134 => ?_) (fun c_134 => absurd c_134 (c_113))
            refine A_iinc2 dX12_layOut_201 rfl rfl (by decide) ?_
            refine A_goto (tgt := 50) dX12_layOut_204 (by decide) ?_
            refine ih (n + 1) _ _ _ (by omega) (by omega) (nI_1 n) ?_
            first | exact hL.skip (nkn_a c_65) | exact hL.skip (nkn_b c_74 c_84) | exact hL.not (fun z => c_148 z.2.2.1) c_113 | exact hL.not (fun z => c_157 z.2.2.2.1) c_113 | exact hL.not (fun z => c_171 z.2.2.2.2) c_113 | exact hL.read ⟨hkn, c_113, c_148, c_157, c_171⟩ | exact hL.far hkn c_113
        · refine A_aload0 dX12_layOut_77 ?_
          refine A_getR gf_X12_88 rfl dX12_layOut_78 ?_
          refine A_iload2 dX12_layOut_81 ?_
          refine A_iald (rfl) (vp_in_nI (by omega) (by omega)) dX12_layOut_82 ?_
          rw [nI_c (n := n) (by omega), hL.1.1 25 n rfl]
          refine A_iload1 dX12_layOut_83 ?_
          refine A_icmp_gt (tgt := 90) dX12_layOut_84 (by decide) (fun c_84 => ?_) (fun c_84 => ?_)
          · have hkn : kn σ k n := by first | exact kn_a c_65 c_74 | exact kn_b c_65 c_84
            refine A_bipush (v := 60) dX12_layOut_90 (by decide) ?_
            refine A_aload0 dX12_layOut_92 ?_
            refine A_getR gf_X12_73 rfl dX12_layOut_93 ?_
            refine A_iload2 dX12_layOut_96 ?_
            refine A_iald (rfl) (vp_in_nI (by omega) (by omega)) dX12_layOut_97 ?_
            rw [nI_c (n := n) (by omega), hL.1.1 20 n rfl]
            refine A_imul dX12_layOut_98 ?_
            refine A_aload0 dX12_layOut_99 ?_
            refine A_getR gf_X12_76 rfl dX12_layOut_100 ?_
            refine A_iload2 dX12_layOut_103 ?_
            refine A_iald (rfl) (vp_in_nI (by omega) (by omega)) dX12_layOut_104 ?_
            rw [nI_c (n := n) (by omega), hL.1.1 21 n rfl]
            refine A_iadd dX12_layOut_105 ?_
            rw [ep]
            refine A_istore3 dX12_layOut_106 rfl (by decide) ?_
            refine A_aload0 dX12_layOut_107 ?_
            refine A_getR gf_X12_91 rfl dX12_layOut_108 ?_
            refine A_iload2 dX12_layOut_111 ?_
            refine A_zald (rfl) (vp_in_nI (by omega) (by omega)) dX12_layOut_112 ?_
            rw [nI_c (n := n) (by omega), hL.1.1 26 n rfl]
            refine A_if_eq (tgt := 128) dX12_layOut_113 (by decide) (fun c_113 => ?_) (fun c_113 => ?_)
            · refine A_aload0 dX12_layOut_128 ?_
              refine A_getR gf_X12_91 rfl dX12_layOut_129 ?_
              refine A_iload2 dX12_layOut_132 ?_
              refine A_zald (rfl) (vp_in_nI (by omega) (by omega)) dX12_layOut_133 ?_
              rw [nI_c (n := n) (by omega)]
              refine A_val (y := σ.1 26 n) (hL.1.1 26 n rfl) ?_
              refine A_if_ne (tgt := 201) dX12_layOut_134 (by decide) (fun c_134 => absurd c_134 (fun h => h c_113)) (fun c_134 => ?_)
              refine A_aload0 dX12_layOut_137 ?_
              refine A_getR gf_X12_67 rfl dX12_layOut_138 ?_
              refine A_aload0 dX12_layOut_141 ?_
              refine A_getR gf_X12_76 rfl dX12_layOut_142 ?_
              refine A_iload2 dX12_layOut_145 ?_
              refine A_iald (rfl) (vp_in_nI (by omega) (by omega)) dX12_layOut_146 ?_
              rw [nI_c (n := n) (by omega), hL.1.1 21 n rfl]
              refine A_zald (rfl) (by rw [ed0]; exact vp_in_nI hd0 (by omega)) dX12_layOut_147 ?_
              refine A_val (hL.1.1 18 _ rfl) ?_
              refine A_if_ne (tgt := 201) dX12_layOut_148 (by decide) (fun c_148 => ?_) (fun c_148 => ?_)
              · refine A_iinc2 dX12_layOut_201 rfl rfl (by decide) ?_
                refine A_goto (tgt := 50) dX12_layOut_204 (by decide) ?_
                refine ih (n + 1) _ _ _ (by omega) (by omega) (nI_1 n) ?_
                first | exact hL.skip (nkn_a c_65) | exact hL.skip (nkn_b c_74 c_84) | exact hL.not (fun z => c_148 z.2.2.1) c_113 | exact hL.not (fun z => c_157 z.2.2.2.1) c_113 | exact hL.not (fun z => c_171 z.2.2.2.2) c_113 | exact hL.read ⟨hkn, c_113, c_148, c_157, c_171⟩ | exact hL.far hkn c_113
              · refine A_aload0 dX12_layOut_151 ?_
                refine A_getR gf_X12_64 rfl dX12_layOut_152 ?_
                refine A_iload3 dX12_layOut_155 ?_
                refine A_zald (rfl) (vp_in_nI ep1 (by omega)) dX12_layOut_156 ?_
                rw [nI_c (n := ps σ n) (by omega), hL.1.1 17 _ rfl]
                refine A_if_ne (tgt := 201) dX12_layOut_157 (by decide) (fun c_157 => ?_) (fun c_157 => ?_)
                · refine A_iinc2 dX12_layOut_201 rfl rfl (by decide) ?_
                  refine A_goto (tgt := 50) dX12_layOut_204 (by decide) ?_
                  refine ih (n + 1) _ _ _ (by omega) (by omega) (nI_1 n) ?_
                  first | exact hL.skip (nkn_a c_65) | exact hL.skip (nkn_b c_74 c_84) | exact hL.not (fun z => c_148 z.2.2.1) c_113 | exact hL.not (fun z => c_157 z.2.2.2.1) c_113 | exact hL.not (fun z => c_171 z.2.2.2.2) c_113 | exact hL.read ⟨hkn, c_113, c_148, c_157, c_171⟩ | exact hL.far hkn c_113
                · refine A_aload0 dX12_layOut_160 ?_
                  refine A_getR gf_X12_97 rfl dX12_layOut_161 ?_
                  refine A_aload0 dX12_layOut_164 ?_
                  refine A_getR gf_X12_79 rfl dX12_layOut_165 ?_
                  refine A_iload2 dX12_layOut_168 ?_
                  refine A_iald (rfl) (vp_in_nI (by omega) (by omega)) dX12_layOut_169 ?_
                  rw [nI_c (n := n) (by omega), hL.1.1 22 n rfl]
                  refine A_zald (rfl) (by rw [er0]; exact vp_in_nI hr0 (by omega)) dX12_layOut_170 ?_
                  refine A_val (hL.1.1 28 _ rfl) ?_
                  refine A_if_eq (tgt := 177) dX12_layOut_171 (by decide) (fun c_171 => ?_) (fun c_171 => ?_)
                  · refine A_aload0 dX12_layOut_177 ?_
                    refine A_getR gf_X12_103 rfl dX12_layOut_178 ?_
                    refine A_iload3 dX12_layOut_181 ?_
                    refine A_aload0 dX12_layOut_182 ?_
                    refine A_getR gf_X12_82 rfl dX12_layOut_183 ?_
                    refine A_iload2 dX12_layOut_186 ?_
                    refine A_iald (rfl) (vp_in_nI (by omega) (by omega)) dX12_layOut_187 ?_
                    rw [nI_c (n := n) (by omega), hL.1.1 23 n rfl]
                    refine A_iast (rfl) (vp_in_nI ep1 (by omega)) dX12_layOut_188 ?_
                    rw [nI_c (n := ps σ n) (by omega)]
                    refine A_aload0 dX12_layOut_189 ?_
                    refine A_getR gf_X12_106 rfl dX12_layOut_190 ?_
                    refine A_iload3 dX12_layOut_193 ?_
                    refine A_aload0 dX12_layOut_194 ?_
                    refine A_getR gf_X12_79 rfl dX12_layOut_195 ?_
                    refine A_iload2 dX12_layOut_198 ?_
                    refine A_iald (rfl) (vp_in_nI (by omega) (by omega)) dX12_layOut_199 ?_
                    rw [nI_c (n := n) (by omega)]
                    refine A_val (y := σ.1 22 n) (hL.1.1 22 n rfl) ?_
                    refine A_iast (rfl) (vp_in_nI ep1 (by omega)) dX12_layOut_200 ?_
                    rw [nI_c (n := ps σ n) (by omega)]
                    refine A_iinc2 dX12_layOut_201 rfl rfl (by decide) ?_
                    refine A_goto (tgt := 50) dX12_layOut_204 (by decide) ?_
                    refine ih (n + 1) _ _ _ (by omega) (by omega) (nI_1 n) ?_
                    first | exact hL.skip (nkn_a c_65) | exact hL.skip (nkn_b c_74 c_84) | exact hL.not (fun z => c_148 z.2.2.1) c_113 | exact hL.not (fun z => c_157 z.2.2.2.1) c_113 | exact hL.not (fun z => c_171 z.2.2.2.2) c_113 | exact hL.read ⟨hkn, c_113, c_148, c_157, c_171⟩ | exact hL.far hkn c_113
                  · refine A_goto (tgt := 201) dX12_layOut_174 (by decide) ?_
                    refine A_iinc2 dX12_layOut_201 rfl rfl (by decide) ?_
                    refine A_goto (tgt := 50) dX12_layOut_204 (by decide) ?_
                    refine ih (n + 1) _ _ _ (by omega) (by omega) (nI_1 n) ?_
                    first | exact hL.skip (nkn_a c_65) | exact hL.skip (nkn_b c_74 c_84) | exact hL.not (fun z => c_148 z.2.2.1) c_113 | exact hL.not (fun z => c_157 z.2.2.2.1) c_113 | exact hL.not (fun z => c_171 z.2.2.2.2) c_113 | exact hL.read ⟨hkn, c_113, c_148, c_157, c_171⟩ | exact hL.far hkn c_113
            · refine A_aload0 dX12_layOut_116 ?_
              refine A_getR gf_X12_100 rfl dX12_layOut_117 ?_
              refine A_iload3 dX12_layOut_120 ?_
              refine A_aload0 dX12_layOut_121 ?_
              refine A_getR gf_X12_82 rfl dX12_layOut_122 ?_
              refine A_iload2 dX12_layOut_125 ?_
              refine A_iald (rfl) (vp_in_nI (by omega) (by omega)) dX12_layOut_126 ?_
              rw [nI_c (n := n) (by omega), hL.1.1 23 n rfl]
              refine A_iast (rfl) (vp_in_nI (ep2 (by rcases hz with h | h; exact absurd h c_113; exact h)) (by omega)) dX12_layOut_127 ?_
              rw [nI_c (n := ps σ n) (by omega)]
              refine A_aload0 dX12_layOut_128 ?_
              refine A_getR gf_X12_91 rfl dX12_layOut_129 ?_
              refine A_iload2 dX12_layOut_132 ?_
              refine A_zald (rfl) (vp_in_nI (by omega) (by omega)) dX12_layOut_133 ?_
              rw [nI_c (n := n) (by omega)]
              refine A_val (y := σ.1 26 n) (hL.1.1 26 n rfl) ?_
              refine A_if_ne (tgt := 201) dX12_layOut_134 (by decide) (fun c_134 => ?_) (fun c_134 => absurd c_134 (c_113))
              refine A_iinc2 dX12_layOut_201 rfl rfl (by decide) ?_
              refine A_goto (tgt := 50) dX12_layOut_204 (by decide) ?_
              refine ih (n + 1) _ _ _ (by omega) (by omega) (nI_1 n) ?_
              first | exact hL.skip (nkn_a c_65) | exact hL.skip (nkn_b c_74 c_84) | exact hL.not (fun z => c_148 z.2.2.1) c_113 | exact hL.not (fun z => c_157 z.2.2.2.1) c_113 | exact hL.not (fun z => c_171 z.2.2.2.2) c_113 | exact hL.read ⟨hkn, c_113, c_148, c_157, c_171⟩ | exact hL.far hkn c_113
          · refine A_goto (tgt := 201) dX12_layOut_87 (by decide) ?_
            refine A_iinc2 dX12_layOut_201 rfl rfl (by decide) ?_
            refine A_goto (tgt := 50) dX12_layOut_204 (by decide) ?_
            refine ih (n + 1) _ _ _ (by omega) (by omega) (nI_1 n) ?_
            first | exact hL.skip (nkn_a c_65) | exact hL.skip (nkn_b c_74 c_84) | exact hL.not (fun z => c_148 z.2.2.1) c_113 | exact hL.not (fun z => c_157 z.2.2.2.1) c_113 | exact hL.not (fun z => c_171 z.2.2.2.2) c_113 | exact hL.read ⟨hkn, c_113, c_148, c_157, c_171⟩ | exact hL.far hkn c_113
theorem LayI.start {μ : Mem} {k : Int32} : LayI μ μ k 0 (wRow (wRow μ 29 240 (-100000)) 30 300 (-100000)) := by
  refine ⟨⟨fun i j h => ?_, fun _ => rfl⟩, fun j hj => ?_, fun j hj => ?_, fun j hj h => absurd rfl h, fun i j h => ?_⟩
  · have h1 : i ≠ 29 := by rintro rfl; cases h
    have h2 : i ≠ 30 := by rintro rfl; cases h
    simp [wRow, h1, h2]
  · simp [wRow, layF, hj]
  · simp [wRow, layR, hj]
  · have h1 : i ≠ 29 := by rintro rfl; cases h
    have h2 : i ≠ 30 := by rintro rfl; cases h
    simp [wRow, h1, h2]
set_option maxHeartbeats 4000000 in
set_option maxRecDepth 100000 in
theorem T_X12_layOut {l : Launch} {G : Wd} {k : Int32} {μ : Mem} (hw : WFf μ) : Mt l G KM yX12_layOut cX12_layOut 4 none 1 [.ref (gA G 0), .int k] μ (Qv (fun μ' => Lay μ μ k μ')) := by
  refine Mt.of (own := RX12) (n := 2) (by decide) rfl [some (.ref (gA G 0)), some (.int k), none, none] rfl (Nat.le_of_ble_eq_true rfl) ?_
  refine A_iconst (v := 0) dX12_layOut_0 (by decide) ?_
  refine A_istore2 dX12_layOut_1 rfl (by decide) ?_
  refine L_X12_layOut_2 241 0 _ _ (by omega) (by omega) rfl (wRow_0 _ _ _).symm ?_
  refine A_iconst (v := 0) dX12_layOut_24 (by decide) ?_
  refine A_istore2 dX12_layOut_25 rfl (by decide) ?_
  refine L_X12_layOut_26 301 0 _ _ (by omega) (by omega) rfl (wRow_0 _ _ _).symm ?_
  refine A_iconst (v := 0) dX12_layOut_48 (by decide) ?_
  refine A_istore2 dX12_layOut_49 rfl (by decide) ?_
  refine L_X12_layOut_50 hw (fun μ9 x9 x3 hL => ?_) (nfc μ + 1) 0 _ _ _ (by omega) (by omega) rfl LayI.start
  refine A_vret dX12_layOut_207 ?_
  exact ⟨rfl, hL⟩
theorem i_cell {x y : Int32} {m : Nat} (hx : 0 ≤ x ∧ x.toInt < m) (hy : isDy y) (hm : m ≤ 5) : ∃ q d : Nat, q < m ∧ d < 60 ∧ x = nI q ∧ y = nI d ∧ 60 * x + y = nI (60 * q + d) ∧ (60 * x + y).toNatClampNeg = 60 * q + d := by
  obtain ⟨q, -, rfl, e1, -⟩ := i_nat hx.1
  obtain ⟨d, -, rfl, e2, -⟩ := i_nat hy.1
  have h1 := hx.2
  have h2 := i_lt.mp hy.2
  have h3 : (60 : Int32).toInt = 60 := by decide
  have hq : q < m := by omega
  have hd : d < 60 := by omega
  have e : 60 * nI q + nI d = nI (60 * q + d) := by rw [show (60 : Int32) = nI 60 from rfl, pk_mul, nI_add]
  exact ⟨q, d, hq, hd, rfl, rfl, e, by rw [e, nI_c (by omega)]⟩
def farS (σ : Mem) (k : Int32) (q d : Int32) : Int32 := layF σ k (nfc σ) (60 * q + d).toNatClampNeg
def rdS (σ : Mem) (k : Int32) (b d : Int32) : Int32 := layR σ k (nfc σ) (60 * b + d).toNatClampNeg
def sp_farOf (σ : Mem) (q d k : Int32) : Int32 := if isQt q ∧ isDy d then farS σ k q d else -100000
abbrev isPl (σ : Mem) (b d : Int32) : Prop := isBx σ b ∧ isDy d
def sp_reading (σ : Mem) (b d k : Int32) : Int32 := if isPl σ b d then rdS σ k b d else -100000
theorem i_qt {q : Int32} (h : isQt q) : 0 ≤ q ∧ q.toInt < (4 : Nat) := by
  have h1 := i_le.mp h.2
  have e : (3 : Int32).toInt = 3 := by decide
  exact ⟨h.1, by omega⟩
theorem i_bx2 {σ : Mem} {b : Int32} (hb : WFb σ) (h : isBx σ b) : 0 ≤ b ∧ b.toInt < (5 : Nat) := ⟨h.1, (vp_in_iff.mp (i_bx hb h)).2⟩
set_option maxHeartbeats 4000000 in
set_option maxRecDepth 100000 in
theorem T_X12_farOf {l : Launch} {G : Wd} {q d k : Int32} {μ : Mem} (hw : WFf μ) : Mt l G KM yX12_farOf cX12_farOf 4 (some .int) 2 [.ref (gA G 0), .int q, .int d, .int k] μ (Qi (fun v μ' => v = sp_farOf μ q d k ∧ Pm μ μ')) := by
  refine Mt.of (own := RX12) (n := 0) (by decide) rfl [some (.ref (gA G 0)), some (.int q), some (.int d), some (.int k)] rfl (Nat.le_of_ble_eq_true rfl) ?_
  refine A_iload1 dX12_farOf_0 ?_
  refine A_if_lt (tgt := 16) dX12_farOf_1 (by decide) (fun c_1 => ?_) (fun c_1 => ?_)
  · refine A_ldcw dX12_farOf_16 kc_X12_353 ?_
    refine A_iret dX12_farOf_19 ?_
    refine ⟨_, rfl, ?_, ?_⟩
    · unfold sp_farOf; rw [if_neg]; simp_all [i_lt, i_le, bz_0]; try (intros; omega)
    · exact Pm.rf
  · refine A_iload1 dX12_farOf_4 ?_
    refine A_iconst (v := 3) dX12_farOf_5 (by decide) ?_
    refine A_icmp_gt (tgt := 16) dX12_farOf_6 (by decide) (fun c_6 => ?_) (fun c_6 => ?_)
    · refine A_ldcw dX12_farOf_16 kc_X12_353 ?_
      refine A_iret dX12_farOf_19 ?_
      refine ⟨_, rfl, ?_, ?_⟩
      · unfold sp_farOf; rw [if_neg]; simp_all [i_lt, i_le, bz_0]; try (intros; omega)
      · exact Pm.rf
    · refine A_iload2 dX12_farOf_9 ?_
      refine A_si1 lk_X12_333 ys_X12_isDay dX12_farOf_10 (T_X12_isDay) (by decide) (Nat.le_of_ble_eq_true rfl) (fun r_10 μ_10 h_10 => ?_)
      obtain ⟨rfl, e_10⟩ := h_10
      replace e_10 := e_10.symm
      subst e_10
      refine A_if_ne (tgt := 20) dX12_farOf_13 (by decide) (fun c_13 => ?_) (fun c_13 => ?_)
      · refine A_aload0 dX12_farOf_20 ?_
        refine A_iload3 dX12_farOf_21 ?_
        refine A_vv1 lk_X12_354 yv_X12_layOut dX12_farOf_22 (rfl) (rfl) (T_X12_layOut hw) (by decide) (Nat.le_of_ble_eq_true rfl) (fun μ_22 h_22 => ?_)
        have hq : isQt q := ⟨i_nlt c_1, i_nlt c_6⟩
        have hd : isDy d := by simpa [bz_0] using c_13
        obtain ⟨qn, dn, h1, h2, e1, e2, e3, e4⟩ := i_cell (i_qt hq) hd (by omega)
        refine A_aload0 dX12_farOf_25 ?_
        refine A_getR gf_X12_100 rfl dX12_farOf_26 ?_
        refine A_bipush (v := 60) dX12_farOf_29 (by decide) ?_
        refine A_iload1 dX12_farOf_31 ?_
        refine A_imul dX12_farOf_32 ?_
        refine A_iload2 dX12_farOf_33 ?_
        refine A_iadd dX12_farOf_34 ?_
        refine A_iald (rfl) (by rw [e3]; exact vp_in_nI (by omega) (by omega)) dX12_farOf_35 ?_
        rw [e4, h_22.2.1 _ (by omega)]
        refine A_iret dX12_farOf_36 ?_
        refine ⟨_, rfl, ?_, ?_⟩
        · unfold sp_farOf farS; rw [if_pos ⟨hq, hd⟩, e4]
        · exact h_22.1
      · refine A_ldcw dX12_farOf_16 kc_X12_353 ?_
        refine A_iret dX12_farOf_19 ?_
        refine ⟨_, rfl, ?_, ?_⟩
        · unfold sp_farOf; rw [if_neg]; simp_all [i_lt, i_le, bz_0]; try (intros; omega)
        · exact Pm.rf
set_option maxHeartbeats 4000000 in
set_option maxRecDepth 100000 in
theorem T_X12_isPlace {l : Launch} {G : Wd} {b d : Int32} {μ : Mem}  : Mt l G KM yX12_isPlace cX12_isPlace 3 (some .boolean) 2 [.ref (gA G 0), .int b, .int d] μ (Qi (fun v μ' => v = bz (isPl μ b d) ∧ μ' = μ)) := by
  refine Mt.of (own := RX12) (n := 0) (by decide) rfl [some (.ref (gA G 0)), some (.int b), some (.int d)] rfl (Nat.le_of_ble_eq_true rfl) ?_
  refine A_aload0 dX12_isPlace_0 ?_
  refine A_iload1 dX12_isPlace_1 ?_
  refine A_vi1 lk_X12_349 yv_X12_isBox dX12_isPlace_2 (rfl) (rfl) (T_X12_isBox) (by decide) (Nat.le_of_ble_eq_true rfl) (fun r_2 μ_2 h_2 => ?_)
  obtain ⟨rfl, e_2⟩ := h_2
  replace e_2 := e_2.symm
  subst e_2
  refine A_if_eq (tgt := 19) dX12_isPlace_5 (by decide) (fun c_5 => ?_) (fun c_5 => ?_)
  · refine A_iconst (v := 0) dX12_isPlace_19 (by decide) ?_
    refine A_zret dX12_isPlace_20 (by decide) ?_
    refine ⟨_, rfl, ?_, rfl⟩
    unfold bz at *
    simp_all [i_lt, i_le]
    try (intros; omega)
  · refine A_iload2 dX12_isPlace_8 ?_
    refine A_si1 lk_X12_333 ys_X12_isDay dX12_isPlace_9 (T_X12_isDay) (by decide) (Nat.le_of_ble_eq_true rfl) (fun r_9 μ_9 h_9 => ?_)
    obtain ⟨rfl, e_9⟩ := h_9
    replace e_9 := e_9.symm
    subst e_9
    refine A_if_eq (tgt := 19) dX12_isPlace_12 (by decide) (fun c_12 => ?_) (fun c_12 => ?_)
    · refine A_iconst (v := 0) dX12_isPlace_19 (by decide) ?_
      refine A_zret dX12_isPlace_20 (by decide) ?_
      refine ⟨_, rfl, ?_, rfl⟩
      unfold bz at *
      simp_all [i_lt, i_le]
      try (intros; omega)
    · refine A_iconst (v := 1) dX12_isPlace_15 (by decide) ?_
      refine A_goto (tgt := 20) dX12_isPlace_16 (by decide) ?_
      refine A_zret dX12_isPlace_20 (by decide) ?_
      refine ⟨_, rfl, ?_, rfl⟩
      unfold bz at *
      simp_all [i_lt, i_le]
      try (intros; omega)
set_option maxHeartbeats 4000000 in
set_option maxRecDepth 100000 in
theorem T_X12_reading {l : Launch} {G : Wd} {b d k : Int32} {μ : Mem} (hw : WFf μ) (hb : WFb μ) : Mt l G KM yX12_reading cX12_reading 4 (some .int) 3 [.ref (gA G 0), .int b, .int d, .int k] μ (Qi (fun v μ' => v = sp_reading μ b d k ∧ Pm μ μ')) := by
  refine Mt.of (own := RX12) (n := 0) (by decide) rfl [some (.ref (gA G 0)), some (.int b), some (.int d), some (.int k)] rfl (Nat.le_of_ble_eq_true rfl) ?_
  refine A_aload0 dX12_reading_0 ?_
  refine A_iload1 dX12_reading_1 ?_
  refine A_iload2 dX12_reading_2 ?_
  refine A_vi2 lk_X12_357 yv_X12_isPlace dX12_reading_3 (rfl) (rfl) (T_X12_isPlace) (by decide) (Nat.le_of_ble_eq_true rfl) (fun r_3 μ_3 h_3 => ?_)
  obtain ⟨rfl, e_3⟩ := h_3
  replace e_3 := e_3.symm
  subst e_3
  refine A_if_ne (tgt := 13) dX12_reading_6 (by decide) (fun c_6 => ?_) (fun c_6 => ?_)
  · refine A_aload0 dX12_reading_13 ?_
    refine A_iload3 dX12_reading_14 ?_
    refine A_vv1 lk_X12_354 yv_X12_layOut dX12_reading_15 (rfl) (rfl) (T_X12_layOut hw) (by decide) (Nat.le_of_ble_eq_true rfl) (fun μ_15 h_15 => ?_)
    have hp : isPl μ b d := Classical.not_not.mp (fun z => c_6 (bz_0.mpr z))
    obtain ⟨qn, dn, h1, h2, e1, e2, e3, e4⟩ := i_cell (i_bx2 hb hp.1) hp.2 (by omega)
    refine A_aload0 dX12_reading_18 ?_
    refine A_getR gf_X12_103 rfl dX12_reading_19 ?_
    refine A_bipush (v := 60) dX12_reading_22 (by decide) ?_
    refine A_iload1 dX12_reading_24 ?_
    refine A_imul dX12_reading_25 ?_
    refine A_iload2 dX12_reading_26 ?_
    refine A_iadd dX12_reading_27 ?_
    refine A_iald (rfl) (by rw [e3]; exact vp_in_nI (by omega) (by omega)) dX12_reading_28 ?_
    rw [e4, h_15.2.2.1 _ (by omega)]
    refine A_iret dX12_reading_29 ?_
    refine ⟨_, rfl, ?_, ?_⟩
    · unfold sp_reading rdS; rw [if_pos hp, e4]
    · exact h_15.1
  · refine A_ldcw dX12_reading_9 kc_X12_353 ?_
    refine A_iret dX12_reading_12 ?_
    refine ⟨_, rfl, ?_, ?_⟩
    · unfold sp_reading; rw [if_neg (bz_0.mp c_6)]
    · exact Pm.rf

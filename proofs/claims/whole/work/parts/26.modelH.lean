/-! by whose habit -/
def how (σ : Mem) (k : Int32) (p : Nat) : Int32 := wrS σ k (p / 60) (p % 60)
def rdr (σ : Mem) (k : Int32) (p : Nat) : Nat := (layW σ k (nfc σ) p).toNatClampNeg
def hbA (σ : Mem) (k : Int32) : Nat → Nat → Nat
  | 0, _ => 0
  | p + 1, r => hbA σ k p r + (if 0 ≤ how σ k p ∧ rdr σ k p = r then 1 else 0)
def hbW (σ : Mem) (k : Int32) : Nat → Nat → Nat
  | 0, _ => 0
  | p + 1, r => hbW σ k p r + (if 0 < how σ k p ∧ rdr σ k p = r then 1 else 0)
theorem hbA_le (σ : Mem) (k : Int32) : ∀ p r, hbA σ k p r ≤ p := by
  intro p r
  induction p with
  | zero => exact Nat.le_refl _
  | succ p ih => unfold hbA; split <;> omega
theorem hbW_le (σ : Mem) (k : Int32) : ∀ p r, hbW σ k p r ≤ p := by
  intro p r
  induction p with
  | zero => exact Nat.le_refl _
  | succ p ih => unfold hbW; split <;> omega
def hbI (σ : Mem) (k : Int32) (p : Nat) (μ : Mem) : Prop := ∀ r, r < 10 → μ.1 36 r = nI (hbA σ k p r) ∧ μ.1 37 r = nI (hbW σ k p r)
theorem layW_r {σ : Mem} {k : Int32} (h : ∀ f, f < nfc σ → okFt σ f) : ∀ n j, n ≤ nfc σ → layR σ k n j ≠ -100000 → ∃ r : Nat, r < 10 ∧ layW σ k n j = nI r := by
  intro n j
  induction n with
  | zero => intro _ h; exact absurd rfl h
  | succ n ih =>
    intro hn hr
    unfold layR at hr
    unfold layW
    split
    · obtain ⟨-, ⟨q, d, r, -, -, h3, -, -, -, -, h4⟩, -⟩ := h n (by omega)
      exact ⟨r, h4, h3⟩
    · rename_i hc
      rw [if_neg hc] at hr
      exact ih (by omega) hr
theorem wrS_rd {σ : Mem} {k : Int32} {b d : Nat} (h : 0 ≤ wrS σ k b d) : ¬ rdN σ k b d = -100000 := by
  intro q
  unfold wrS at h
  rw [if_pos (Or.inl q)] at h
  exact absurd h (by decide)
def btr (A W : Nat → Nat) (n : Nat) (x : Option Nat) : Bool := match x with
  | none => true
  | some j => decide (W j * A n < W n * A j)
def bst (A W : Nat → Nat) : Nat → Option Nat
  | 0 => none
  | n + 1 => if 0 < A n ∧ btr A W n (bst A W n) = true then some n else bst A W n
theorem bst_lt (A W : Nat → Nat) : ∀ n j, bst A W n = some j → j < n := by
  intro n
  induction n with
  | zero => intro j h; cases h
  | succ n ih =>
    intro j h
    unfold bst at h
    split at h
    · cases h; omega
    · have := ih j h; omega
def oI (x : Option Nat) : Int32 := match x with
  | none => -1
  | some j => nI j
def hbB (σ : Mem) (k : Int32) : Option Nat := bst (hbA σ k (60 * nbx σ)) (hbW σ k (60 * nbx σ)) 10
def sp_habit (σ : Mem) (w k : Int32) : Int32 := if w = 0 then oI (hbB σ k) else if w = 1 then (match hbB σ k with | none => -1 | some j => nI (hbW σ k (60 * nbx σ) j)) else -1
theorem div60 {b d : Nat} (hd : d < 60) : (60 * b + d) / 60 = b ∧ (60 * b + d) % 60 = d := by omega
theorem how_e {σ : Mem} {k : Int32} {b d : Nat} (hd : d < 60) : how σ k (60 * b + d) = wrS σ k b d := by unfold how; rw [(div60 hd).1, (div60 hd).2]
theorem Lay.w3 {F σ μ : Mem} {k : Int32} {i j : Nat} {v : Int32} (h : Lay F σ k μ) (h1 : prI i j = false) (h2 : i ≠ 29 ∧ i ≠ 30 ∧ i ≠ 31) : Lay (wI μ i j v) σ k (wI μ i j v) := by
  obtain ⟨a, b, c, d, -⟩ := h
  refine ⟨a.w h1, fun x hx => ?_, fun x hx => ?_, fun x hx => ?_, Fr.rf⟩
  · rw [wI_ne (Or.inl (fun q => h2.1 q.symm))]; exact b x hx
  · rw [wI_ne (Or.inl (fun q => h2.2.1 q.symm))]; exact c x hx
  · rw [wI_ne (Or.inl (fun q => h2.2.2 q.symm))]; exact d x hx
def z2 (μ : Mem) : Nat → Mem
  | 0 => μ
  | n + 1 => wI (wI (z2 μ n) 36 n 0) 37 n 0
theorem z2_Lay {F σ μ : Mem} {k : Int32} (h : Lay F σ k μ) : ∀ n, Lay (z2 μ n) σ k (z2 μ n) := by
  intro n
  induction n with
  | zero => exact h.self
  | succ n ih => exact Lay.w3 (Lay.w3 ih rfl ⟨by decide, by decide, by decide⟩) rfl ⟨by decide, by decide, by decide⟩
theorem z2_0 (μ : Mem) : ∀ n r, r < n → (z2 μ n).1 36 r = 0 ∧ (z2 μ n).1 37 r = 0 := by
  intro n
  induction n with
  | zero => intro r h; omega
  | succ n ih =>
    intro r h
    unfold z2
    by_cases e : r = n
    · subst e; simp [wI_at]
    · have := ih r (by omega); simp [wI_at, e, this]
set_option maxHeartbeats 800000 in
set_option maxRecDepth 100000 in
theorem L_X12_habit_18 {l : Launch} {G : Wd} {w k : Int32} {μ0 : Mem} {x4 x5 : Option Value} {Q : Option Value → Mem → Prop} : ∀ (q j : Nat) (x : Int32) (μ : Mem), j + q = 10 + 1 → j ≤ 10 → x = nI j → μ = z2 μ0 j → AW l G KM RX12 cX12_habit 6 9 (some .int) Q 44 [some (.ref (gA G 0)), some (.int w), some (.int k), some (.int 10), x4, x5] [] (z2 μ0 10) → AW l G KM RX12 cX12_habit 6 9 (some .int) Q 18 [some (.ref (gA G 0)), some (.int w), some (.int k), some (.int x), x4, x5] [] μ := by
  intro q
  induction q with
  | zero => intro j x μ h1 h2; omega
  | succ q ih =>
    intro j x μ h1 h2 hx hm hk
    subst hx
    refine A_iload3 dX12_habit_18 ?_
    refine A_bipush (v := 10) dX12_habit_19 (by decide) ?_
    refine A_icmp_ge (tgt := 44) dX12_habit_21 (by decide) (fun c_21 => ?_) (fun c_21 => ?_)
    · have e : j = 10 := by rw [show (10 : Int32) = nI 10 from rfl] at c_21; have := (nI_leI (a := 10) (b := j) (by omega) (by omega)).mp c_21; omega
      subst e
      subst hm
      exact hk
    · have hj : j < 10 := by rw [show (10 : Int32) = nI 10 from rfl] at c_21; rcases Nat.lt_or_ge j 10 with q | q; exact q; exact absurd (nI_le q (by omega)) c_21
      refine A_aload0 dX12_habit_24 ?_
      refine A_getR gf_X12_121 rfl dX12_habit_25 ?_
      refine A_iload3 dX12_habit_28 ?_
      refine A_iconst (v := 0) dX12_habit_29 (by decide) ?_
      refine A_iast (rfl) (vp_in_nI hj (by omega)) dX12_habit_30 ?_
      refine A_aload0 dX12_habit_31 ?_
      refine A_getR gf_X12_124 rfl dX12_habit_32 ?_
      refine A_iload3 dX12_habit_35 ?_
      refine A_iconst (v := 0) dX12_habit_36 (by decide) ?_
      refine A_iast (rfl) (vp_in_nI hj (by omega)) dX12_habit_37 ?_
      refine A_iinc3 dX12_habit_38 rfl rfl (by decide) ?_
      refine A_goto (tgt := 18) dX12_habit_41 (by decide) ?_
      refine ih (j + 1) _ _ (by omega) (by omega) (nI_1 j) ?_ hk
      rw [hm, nI_c (by omega)]
      rfl
theorem hbI_n {σ μ : Mem} {k : Int32} {p : Nat} (h : hbI σ k p μ) (hn : ¬ 0 ≤ how σ k p) : hbI σ k (p + 1) μ := by
  intro r hr
  have h1 := h r hr
  rw [hbA, hbW]
  rw [if_neg (fun q => hn q.1), if_neg (fun q => hn (by rw [i_le]; have := i_lt.mp q.1; omega))]
  exact h1
theorem hbI_y {σ μ : Mem} {k : Int32} {p a : Nat} {v : Int32} (h : hbI σ k p μ) (hy : 0 ≤ how σ k p) (ha : rdr σ k p = a) (h10 : a < 10) (hv : v = nI (hbW σ k p a + (if 0 < how σ k p then 1 else 0))) : hbI σ k (p + 1) (wI (wI μ 36 a (nI (hbA σ k p a + 1))) 37 a v) := by
  intro r hr
  have h1 := h r hr
  rw [hbA, hbW]
  by_cases e : r = a
  · subst e
    rw [if_pos ⟨hy, ha⟩, wI_ne (Or.inl (by decide)), wI_same, wI_same, hv]
    refine ⟨rfl, ?_⟩
    by_cases c : 0 < how σ k p
    · rw [if_pos c, if_pos ⟨c, ha⟩]
    · rw [if_neg c, if_neg (fun q => c q.1)]
  · rw [if_neg (fun q => e (q.2.symm.trans ha)), if_neg (fun q => e (q.2.symm.trans ha)), wI_ne (Or.inl (by decide)), wI_ne (Or.inr e), wI_ne (Or.inr e)]
    exact h1
set_option maxHeartbeats 800000 in
set_option maxRecDepth 100000 in
theorem L_X12_habit_57 {l : Launch} {G : Wd} {w k : Int32} {σ : Mem} {b : Nat} {Q : Option Value → Mem → Prop} (hw : WF σ) (hb : b < nbx σ) : ∀ (q d : Nat) (x : Int32) (x5 : Option Value) (μ : Mem), d + q = 60 + 1 → d ≤ 60 → x = nI d → hbI σ k (60 * b + d) μ → Lay μ σ k μ → (∀ (x4 x5 : Option Value) (μ : Mem), hbI σ k (60 * b + 60) μ → Lay μ σ k μ → AW l G KM RX12 cX12_habit 6 9 (some .int) Q 160 [some (.ref (gA G 0)), some (.int w), some (.int k), some (.int (nI b)), x4, x5] [] μ) → AW l G KM RX12 cX12_habit 6 9 (some .int) Q 57 [some (.ref (gA G 0)), some (.int w), some (.int k), some (.int (nI b)), some (.int x), x5] [] μ := by
  have hn5 := (hw.2.2.1.t).1
  intro q
  induction q with
  | zero => intro d x x5 μ h1 h2; omega
  | succ q ih =>
    intro d x x5 μ h1 h2 hx hI hL hk
    subst hx
    refine A_iload4 dX12_habit_57 ?_
    refine A_bipush (v := 60) dX12_habit_59 (by decide) ?_
    refine A_icmp_ge (tgt := 160) dX12_habit_61 (by decide) (fun c_61 => ?_) (fun c_61 => ?_)
    · have e : d = 60 := by rw [show (60 : Int32) = nI 60 from rfl] at c_61; have := (nI_leI (a := 60) (b := d) (by omega) (by omega)).mp c_61; omega
      subst e
      exact hk _ _ _ hI hL
    · have hd : d < 60 := by rw [show (60 : Int32) = nI 60 from rfl] at c_61; rcases Nat.lt_or_ge d 60 with q | q; exact q; exact absurd (nI_le q (by omega)) c_61
      refine A_aload0 dX12_habit_64 ?_
      refine A_getR gf_X12_103 rfl dX12_habit_65 ?_
      refine A_bipush (v := 60) dX12_habit_68 (by decide) ?_
      refine A_iload3 dX12_habit_70 ?_
      refine A_imul dX12_habit_71 ?_
      refine A_iload4 dX12_habit_72 ?_
      refine A_iadd dX12_habit_74 ?_
      refine A_iald (rfl) (by rw [nI_60]; exact vp_in_nI (by omega) (by omega)) dX12_habit_75 ?_
      rw [nI_60, nI_c (by omega), hL.2.2.1 _ (by omega)]
      refine A_val (y := rdN σ k b d) rfl ?_
      refine A_ldcw dX12_habit_76 kc_X12_353 ?_
      refine A_icmp_ne (tgt := 86) dX12_habit_79 (by decide) (fun c_79 => ?_) (fun c_79 => ?_)
      · refine A_aload0 dX12_habit_86 ?_
        refine A_iload3 dX12_habit_87 ?_
        refine A_iload4 dX12_habit_88 ?_
        refine A_vi2 lk_X12_407 yv_X12_wrongOn dX12_habit_90 (rfl) (rfl) (T_X12_wrongOn hL hw.2.2 (by omega) hd (hw.2.2.2 b hb)) (by decide) (Nat.le_of_ble_eq_true rfl) (fun r_90 μ_90 h_90 => ?_)
        obtain ⟨rfl, hL2⟩ := h_90
        have hI2 : hbI σ k (60 * b + d) μ_90 := fun r hr => ⟨(hL2.2.2.2.2 36 r rfl).trans (hI r hr).1, (hL2.2.2.2.2 37 r rfl).trans (hI r hr).2⟩
        refine A_istore5 dX12_habit_93 rfl (by decide) ?_
        refine A_iload5 dX12_habit_95 ?_
        refine A_if_ge (tgt := 103) dX12_habit_97 (by decide) (fun c_97 => ?_) (fun c_97 => ?_)
        · have hrd := wrS_rd c_97
          obtain ⟨a, ha, e9⟩ := layW_r (k := k) hw.2.1.2 (nfc σ) (60 * b + d) (Nat.le_refl _) hrd
          have ea : rdr σ k (60 * b + d) = a := by unfold rdr; rw [e9, nI_c (by omega)]
          have hA := hbA_le σ k (60 * b + d) a
          have hWl := hbW_le σ k (60 * b + d) a
          refine A_aload0 dX12_habit_103 ?_
          refine A_getR gf_X12_121 rfl dX12_habit_104 ?_
          refine A_aload0 dX12_habit_107 ?_
          refine A_getR gf_X12_106 rfl dX12_habit_108 ?_
          refine A_bipush (v := 60) dX12_habit_111 (by decide) ?_
          refine A_iload3 dX12_habit_113 ?_
          refine A_imul dX12_habit_114 ?_
          refine A_iload4 dX12_habit_115 ?_
          refine A_iadd dX12_habit_117 ?_
          refine A_iald (rfl) (by rw [nI_60]; exact vp_in_nI (by omega) (by omega)) dX12_habit_118 ?_
          rw [nI_60, nI_c (by omega)]
          refine A_val (y := nI a) ((hL2.2.2.2.1 _ (by omega) hrd).trans e9) ?_
          refine A_dup2 dX12_habit_119 rfl rfl ?_
          refine A_iald (rfl) (vp_in_nI ha (by omega)) dX12_habit_120 ?_
          rw [nI_c (by omega), (hI2 a ha).1]
          refine A_iconst (v := 1) dX12_habit_121 (by decide) ?_
          refine A_iadd dX12_habit_122 ?_
          rw [nI_1]
          refine A_iast (rfl) (vp_in_nI ha (by omega)) dX12_habit_123 ?_
          rw [nI_c (by omega)]
          refine A_aload0 dX12_habit_124 ?_
          refine A_getR gf_X12_124 rfl dX12_habit_125 ?_
          refine A_aload0 dX12_habit_128 ?_
          refine A_getR gf_X12_106 rfl dX12_habit_129 ?_
          refine A_bipush (v := 60) dX12_habit_132 (by decide) ?_
          refine A_iload3 dX12_habit_134 ?_
          refine A_imul dX12_habit_135 ?_
          refine A_iload4 dX12_habit_136 ?_
          refine A_iadd dX12_habit_138 ?_
          refine A_iald (rfl) (by rw [nI_60]; exact vp_in_nI (by omega) (by omega)) dX12_habit_139 ?_
          rw [nI_60, nI_c (by omega)]
          refine A_val (y := nI a) (((wI_ne (Or.inl (by decide))).trans (hL2.2.2.2.1 _ (by omega) hrd)).trans e9) ?_
          refine A_dup2 dX12_habit_140 rfl rfl ?_
          refine A_iald (rfl) (vp_in_nI ha (by omega)) dX12_habit_141 ?_
          rw [nI_c (by omega)]
          refine A_val (y := nI (hbW σ k (60 * b + d) a)) ((wI_ne (Or.inl (by decide))).trans (hI2 a ha).2) ?_
          refine A_iload5 dX12_habit_142 ?_
          refine A_if_le (tgt := 151) dX12_habit_144 (by decide) (fun c_144 => ?_) (fun c_144 => ?_)
          · refine A_iconst (v := 0) dX12_habit_151 (by decide) ?_
            refine A_iadd dX12_habit_152 ?_
            refine A_iast (rfl) (vp_in_nI ha (by omega)) dX12_habit_153 ?_
            rw [nI_c (by omega)]
            refine A_iinc4 dX12_habit_154 rfl rfl (by decide) ?_
            refine A_goto (tgt := 57) dX12_habit_157 (by decide) ?_
            refine ih (d + 1) _ _ _ (by omega) (by omega) (nI_1 d) ?_ ?_ hk
            · refine hbI_y (p := 60 * b + d) hI2 (by rw [how_e hd]; exact c_97) ea ha ?_
              rw [how_e hd]
              rw [if_neg (fun q => by have h8 := i_lt.mp q; have h9 := i_le.mp c_144; omega)]; rw [Int32.add_zero, Nat.add_zero]
            · exact Lay.w3 (Lay.w3 hL2 rfl ⟨by decide, by decide, by decide⟩) rfl ⟨by decide, by decide, by decide⟩
          · refine A_iconst (v := 1) dX12_habit_147 (by decide) ?_
            refine A_goto (tgt := 152) dX12_habit_148 (by decide) ?_
            refine A_iadd dX12_habit_152 ?_
            refine A_iast (rfl) (vp_in_nI ha (by omega)) dX12_habit_153 ?_
            rw [nI_c (by omega)]
            refine A_iinc4 dX12_habit_154 rfl rfl (by decide) ?_
            refine A_goto (tgt := 57) dX12_habit_157 (by decide) ?_
            refine ih (d + 1) _ _ _ (by omega) (by omega) (nI_1 d) ?_ ?_ hk
            · refine hbI_y (p := 60 * b + d) hI2 (by rw [how_e hd]; exact c_97) ea ha ?_
              rw [how_e hd]
              rw [if_pos (i_nle c_144), ← nI_1]
            · exact Lay.w3 (Lay.w3 hL2 rfl ⟨by decide, by decide, by decide⟩) rfl ⟨by decide, by decide, by decide⟩
        · refine A_goto (tgt := 154) dX12_habit_100 (by decide) ?_
          refine A_iinc4 dX12_habit_154 rfl rfl (by decide) ?_
          refine A_goto (tgt := 57) dX12_habit_157 (by decide) ?_
          refine ih (d + 1) _ _ _ (by omega) (by omega) (nI_1 d) ?_ hL2.self hk
          refine hbI_n (p := 60 * b + d) hI2 ?_
          show ¬ 0 ≤ how σ k (60 * b + d)
          rw [how_e hd]
          exact c_97
      · refine A_iconst (v := -1) dX12_habit_82 (by decide) ?_
        refine A_goto (tgt := 93) dX12_habit_83 (by decide) ?_
        refine A_istore5 dX12_habit_93 rfl (by decide) ?_
        refine A_iload5 dX12_habit_95 ?_
        refine A_if_ge (tgt := 103) dX12_habit_97 (by decide) (fun c_97 => absurd c_97 (by decide)) (fun c_97 => ?_)
        refine A_goto (tgt := 154) dX12_habit_100 (by decide) ?_
        refine A_iinc4 dX12_habit_154 rfl rfl (by decide) ?_
        refine A_goto (tgt := 57) dX12_habit_157 (by decide) ?_
        refine ih (d + 1) _ _ _ (by omega) (by omega) (nI_1 d) ?_ hL hk
        refine hbI_n (p := 60 * b + d) hI ?_
        show ¬ 0 ≤ how σ k (60 * b + d)
        rw [how_e hd]
        unfold wrS
        rw [if_pos (Or.inl c_79)]
        decide
set_option maxHeartbeats 800000 in
set_option maxRecDepth 100000 in
theorem L_X12_habit_46 {l : Launch} {G : Wd} {w k : Int32} {σ : Mem} {Q : Option Value → Mem → Prop} (hw : WF σ) : ∀ (q b : Nat) (x : Int32) (x4 x5 : Option Value) (μ : Mem), b + q = nbx σ + 1 → b ≤ nbx σ → x = nI b → hbI σ k (60 * b) μ → Lay μ σ k μ → (∀ (x : Int32) (x4 x5 : Option Value) (μ : Mem), hbI σ k (60 * nbx σ) μ → Lay μ σ k μ → AW l G KM RX12 cX12_habit 6 9 (some .int) Q 166 [some (.ref (gA G 0)), some (.int w), some (.int k), some (.int x), x4, x5] [] μ) → AW l G KM RX12 cX12_habit 6 9 (some .int) Q 46 [some (.ref (gA G 0)), some (.int w), some (.int k), some (.int x), x4, x5] [] μ := by
  have hn5 := (hw.2.2.1.t).1
  intro q
  induction q with
  | zero => intro b x x4 x5 μ h1 h2; omega
  | succ q ih =>
    intro b x x4 x5 μ h1 h2 hx hI hL hk
    subst hx
    refine A_iload3 dX12_habit_46 ?_
    refine A_aload0 dX12_habit_47 ?_
    refine A_getI gf_X12_321 rfl dX12_habit_48 ?_
    rw [hL.1.1 0 31 rfl, (hw.2.2.1.t).2]
    refine A_icmp_ge (tgt := 166) dX12_habit_51 (by decide) (fun c_51 => ?_) (fun c_51 => ?_)
    · have e : b = nbx σ := by have := (nI_leI (a := nbx σ) (b := b) (by omega) (by omega)).mp c_51; omega
      subst e
      exact hk _ _ _ _ hI hL
    · have hb : b < nbx σ := by rcases Nat.lt_or_ge b (nbx σ) with q | q; exact q; exact absurd (nI_le q (by omega)) c_51
      refine A_iconst (v := 0) dX12_habit_54 (by decide) ?_
      refine A_istore4 dX12_habit_55 rfl (by decide) ?_
      refine L_X12_habit_57 (σ := σ) hw hb 61 0 _ _ _ (by omega) (by omega) rfl hI hL (fun x4 x5 μ2 hI2 hL2 => ?_)
      refine A_iinc3 dX12_habit_160 rfl rfl (by decide) ?_
      refine A_goto (tgt := 46) dX12_habit_163 (by decide) ?_
      exact ih (b + 1) _ _ _ _ (by omega) (by omega) (nI_1 b) hI2 hL2 hk
theorem i01 {w : Int32} (h : 0 ≤ w) (h1 : w ≤ 1) : w = 0 ∨ w = 1 := by
  have h8 := i_le.mp h
  have h9 := i_le.mp h1
  rw [i_eq, i_eq]
  have e0 : (0 : Int32).toInt = 0 := by decide
  have e1 : (1 : Int32).toInt = 1 := by decide
  omega
theorem oI_n {x : Option Nat} (h : oI x < 0) (hx : ∀ j, x = some j → j < 10) : x = none := by
  cases x with
  | none => rfl
  | some j => exact absurd h (nI_pos (by have := hx j rfl; omega))
theorem oI_s {x : Option Nat} (h : ¬ oI x < 0) : ∃ j, x = some j := by
  cases x with
  | none => exact absurd (by decide) h
  | some j => exact ⟨j, rfl⟩
set_option maxHeartbeats 800000 in
set_option maxRecDepth 100000 in
theorem L_X12_habit_171 {l : Launch} {G : Wd} {w k : Int32} {σ μ : Mem} {x5 : Option Value} {Q : Option Value → Mem → Prop} (hw : WF σ) (hI : hbI σ k (60 * nbx σ) μ) : ∀ (q n : Nat) (bs x : Int32), n + q = 10 + 1 → n ≤ 10 → x = nI n → bs = oI (bst (hbA σ k (60 * nbx σ)) (hbW σ k (60 * nbx σ)) n) → (∀ x4 : Option Value, AW l G KM RX12 cX12_habit 6 9 (some .int) Q 232 [some (.ref (gA G 0)), some (.int w), some (.int k), some (.int (oI (hbB σ k))), x4, x5] [] μ) → AW l G KM RX12 cX12_habit 6 9 (some .int) Q 171 [some (.ref (gA G 0)), some (.int w), some (.int k), some (.int bs), some (.int x), x5] [] μ := by
  have hn5 := (hw.2.2.1.t).1
  intro q
  induction q with
  | zero => intro n bs x h1 h2; omega
  | succ q ih =>
    intro n bs x h1 h2 hx hbs hk
    have hblt : ∀ j, bst (hbA σ k (60 * nbx σ)) (hbW σ k (60 * nbx σ)) n = some j → j < 10 := fun j h => by have := bst_lt _ _ n j h; omega
    subst hx
    refine A_iload4 dX12_habit_171 ?_
    refine A_bipush (v := 10) dX12_habit_173 (by decide) ?_
    refine A_icmp_ge (tgt := 232) dX12_habit_175 (by decide) (fun c_175 => ?_) (fun c_175 => ?_)
    · have e : n = 10 := by rw [show (10 : Int32) = nI 10 from rfl] at c_175; have := (nI_leI (a := 10) (b := n) (by omega) (by omega)).mp c_175; omega
      subst e
      subst hbs
      exact hk _
    · have hn : n < 10 := by rw [show (10 : Int32) = nI 10 from rfl] at c_175; rcases Nat.lt_or_ge n 10 with q | q; exact q; exact absurd (nI_le q (by omega)) c_175
      have hAn := hbA_le σ k (60 * nbx σ) n
      have hWn := hbW_le σ k (60 * nbx σ) n
      refine A_aload0 dX12_habit_178 ?_
      refine A_getR gf_X12_121 rfl dX12_habit_179 ?_
      refine A_iload4 dX12_habit_182 ?_
      refine A_iald (rfl) (vp_in_nI hn (by omega)) dX12_habit_184 ?_
      rw [nI_c (by omega), (hI n hn).1]
      refine A_if_le (tgt := 226) dX12_habit_185 (by decide) (fun c_185 => ?_) (fun c_185 => ?_)
      · refine A_iinc4 dX12_habit_226 rfl rfl (by decide) ?_
        refine A_goto (tgt := 171) dX12_habit_229 (by decide) ?_
        refine ih (n + 1) _ _ (by omega) (by omega) (nI_1 n) ?_ hk
        rw [hbs, bst, if_neg (fun q => by have h9 := (nI_le0 (a := hbA σ k (60 * nbx σ) n) (by omega)).mp c_185; omega)]
      · refine A_iload3 dX12_habit_188 ?_
        refine A_if_lt (tgt := 223) dX12_habit_189 (by decide) (fun c_189 => ?_) (fun c_189 => ?_)
        · refine A_iload4 dX12_habit_223 ?_
          refine A_istore3 dX12_habit_225 rfl (by decide) ?_
          refine A_iinc4 dX12_habit_226 rfl rfl (by decide) ?_
          refine A_goto (tgt := 171) dX12_habit_229 (by decide) ?_
          refine ih (n + 1) _ _ (by omega) (by omega) (nI_1 n) ?_ hk
          have hc : btr (hbA σ k (60 * nbx σ)) (hbW σ k (60 * nbx σ)) n (bst (hbA σ k (60 * nbx σ)) (hbW σ k (60 * nbx σ)) n) = true := by rw [oI_n (by rw [← hbs]; exact c_189) hblt]; rfl
          rw [bst, if_pos ⟨by rcases Nat.eq_zero_or_pos (hbA σ k (60 * nbx σ) n) with q | q; exact absurd ((nI_le0 (by omega)).mpr q) c_185; exact q, hc⟩]
          rfl
        · obtain ⟨j, ej⟩ := oI_s (x := bst (hbA σ k (60 * nbx σ)) (hbW σ k (60 * nbx σ)) n) (by rw [← hbs]; exact c_189)
          have hj := hblt j ej
          have hAj := hbA_le σ k (60 * nbx σ) j
          have hWj := hbW_le σ k (60 * nbx σ) j
          have m1 : hbW σ k (60 * nbx σ) n * hbA σ k (60 * nbx σ) j ≤ 300 * 300 := Nat.mul_le_mul (by omega) (by omega)
          have m2 : hbW σ k (60 * nbx σ) j * hbA σ k (60 * nbx σ) n ≤ 300 * 300 := Nat.mul_le_mul (by omega) (by omega)
          have hbs2 : bs = nI j := by rw [hbs, ej]; rfl
          rw [hbs2]
          refine A_aload0 dX12_habit_192 ?_
          refine A_getR gf_X12_124 rfl dX12_habit_193 ?_
          refine A_iload4 dX12_habit_196 ?_
          refine A_iald (rfl) (vp_in_nI hn (by omega)) dX12_habit_198 ?_
          rw [nI_c (by omega), (hI n hn).2]
          refine A_aload0 dX12_habit_199 ?_
          refine A_getR gf_X12_121 rfl dX12_habit_200 ?_
          refine A_iload3 dX12_habit_203 ?_
          refine A_iald (rfl) (vp_in_nI (by omega) (by omega)) dX12_habit_204 ?_
          rw [nI_c (by omega), (hI j (by omega)).1]
          refine A_imul dX12_habit_205 ?_
          rw [pk_mul]
          refine A_aload0 dX12_habit_206 ?_
          refine A_getR gf_X12_124 rfl dX12_habit_207 ?_
          refine A_iload3 dX12_habit_210 ?_
          refine A_iald (rfl) (vp_in_nI (by omega) (by omega)) dX12_habit_211 ?_
          rw [nI_c (by omega), (hI j (by omega)).2]
          refine A_aload0 dX12_habit_212 ?_
          refine A_getR gf_X12_121 rfl dX12_habit_213 ?_
          refine A_iload4 dX12_habit_216 ?_
          refine A_iald (rfl) (vp_in_nI hn (by omega)) dX12_habit_218 ?_
          rw [nI_c (by omega), (hI n hn).1]
          refine A_imul dX12_habit_219 ?_
          rw [pk_mul]
          refine A_icmp_le (tgt := 226) dX12_habit_220 (by decide) (fun c_220 => ?_) (fun c_220 => ?_)
          · refine A_iinc4 dX12_habit_226 rfl rfl (by decide) ?_
            refine A_goto (tgt := 171) dX12_habit_229 (by decide) ?_
            refine ih (n + 1) _ _ (by omega) (by omega) (nI_1 n) ?_ hk
            rw [← hbs2, hbs, bst, if_neg (fun q => ?_)]
            have q2 := q.2
            rw [ej] at q2
            have q3 := of_decide_eq_true q2
            have h9 := (nI_leI (by omega) (by omega)).mp c_220
            omega
          · refine A_iload4 dX12_habit_223 ?_
            refine A_istore3 dX12_habit_225 rfl (by decide) ?_
            refine A_iinc4 dX12_habit_226 rfl rfl (by decide) ?_
            refine A_goto (tgt := 171) dX12_habit_229 (by decide) ?_
            refine ih (n + 1) _ _ (by omega) (by omega) (nI_1 n) ?_ hk
            have hc : btr (hbA σ k (60 * nbx σ)) (hbW σ k (60 * nbx σ)) n (bst (hbA σ k (60 * nbx σ)) (hbW σ k (60 * nbx σ)) n) = true := by rw [ej]; exact decide_eq_true ((nI_ltI (by omega) (by omega)).mp (i_nle c_220))
            rw [bst, if_pos ⟨by rcases Nat.eq_zero_or_pos (hbA σ k (60 * nbx σ) n) with q | q; exact absurd ((nI_le0 (by omega)).mpr q) c_185; exact q, hc⟩]
            rfl
set_option maxHeartbeats 4000000 in
set_option maxRecDepth 100000 in
theorem T_X12_habit {l : Launch} {G : Wd} {w k : Int32} {μ : Mem} (hw : WF μ) : Mt l G KM yX12_habit cX12_habit 6 (some .int) 9 [.ref (gA G 0), .int w, .int k] μ (Qi (fun v μ' => v = sp_habit μ w k ∧ Pm μ μ')) := by
  refine Mt.of (own := RX12) (n := 3) (by decide) rfl [some (.ref (gA G 0)), some (.int w), some (.int k), none, none, none] rfl (Nat.le_of_ble_eq_true rfl) ?_
  refine A_iload1 dX12_habit_0 ?_
  refine A_if_lt (tgt := 9) dX12_habit_1 (by decide) (fun c_1 => ?_) (fun c_1 => ?_)
  · refine A_iconst (v := -1) dX12_habit_9 (by decide) ?_
    refine A_iret dX12_habit_10 ?_
    refine ⟨_, rfl, ?_, Pm.rf⟩
    unfold sp_habit
    rw [if_neg (by rintro rfl; simp_all [i_lt, i_le]), if_neg (by rintro rfl; simp_all [i_lt, i_le])]
  · refine A_iload1 dX12_habit_4 ?_
    refine A_iconst (v := 1) dX12_habit_5 (by decide) ?_
    refine A_icmp_le (tgt := 11) dX12_habit_6 (by decide) (fun c_6 => ?_) (fun c_6 => ?_)
    · refine A_aload0 dX12_habit_11 ?_
      refine A_iload2 dX12_habit_12 ?_
      refine A_vv1 lk_X12_354 yv_X12_layOut dX12_habit_13 (rfl) (rfl) (T_X12_layOut hw.2.1) (by decide) (Nat.le_of_ble_eq_true rfl) (fun μ_13 h_13 => ?_)
      refine A_iconst (v := 0) dX12_habit_16 (by decide) ?_
      refine A_istore3 dX12_habit_17 rfl (by decide) ?_
      refine L_X12_habit_18 11 0 _ _ (by omega) (by omega) rfl rfl ?_
      refine A_iconst (v := 0) dX12_habit_44 (by decide) ?_
      refine A_istore3 dX12_habit_45 rfl (by decide) ?_
      refine L_X12_habit_46 (σ := μ) (k := k) hw (nbx μ + 1) 0 _ _ _ _ (by omega) (by omega) rfl (fun r hr => ?_) (z2_Lay h_13 10) (fun x3 x4 x5 μ2 hI hL2 => ?_)
      · exact ⟨(z2_0 _ 10 r hr).1, (z2_0 _ 10 r hr).2⟩
      refine A_iconst (v := -1) dX12_habit_166 (by decide) ?_
      refine A_istore3 dX12_habit_167 rfl (by decide) ?_
      refine A_iconst (v := 0) dX12_habit_168 (by decide) ?_
      refine A_istore4 dX12_habit_169 rfl (by decide) ?_
      refine L_X12_habit_171 (σ := μ) (k := k) hw hI 11 0 _ _ (by omega) (by omega) rfl rfl (fun x4 => ?_)
      have hw1 : w = 0 ∨ w = 1 := i01 (i_nlt c_1) c_6
      refine A_iload3 dX12_habit_232 ?_
      refine A_if_ge (tgt := 240) dX12_habit_233 (by decide) (fun c_233 => ?_) (fun c_233 => ?_)
      · obtain ⟨j, ej⟩ := oI_s (x := hbB μ k) (fun z => by have h8 := i_lt.mp z; have h9 := i_le.mp c_233; omega)
        have hj : j < 10 := bst_lt _ _ 10 j ej
        refine A_iload1 dX12_habit_240 ?_
        refine A_if_ne (tgt := 248) dX12_habit_241 (by decide) (fun c_241 => ?_) (fun c_241 => ?_)
        · rw [ej]
          refine A_aload0 dX12_habit_248 ?_
          refine A_getR gf_X12_124 rfl dX12_habit_249 ?_
          refine A_iload3 dX12_habit_252 ?_
          refine A_iald (rfl) (by exact vp_in_nI hj (by omega)) dX12_habit_253 ?_
          rw [show oI (some j) = nI j from rfl, nI_c (by omega), (hI j hj).2]
          refine A_iret dX12_habit_254 ?_
          refine ⟨_, rfl, ?_, hL2.1⟩
          unfold sp_habit
          rw [if_neg c_241, if_pos (hw1.resolve_left c_241), ej]
        · refine A_iload3 dX12_habit_244 ?_
          refine A_goto (tgt := 254) dX12_habit_245 (by decide) ?_
          refine A_iret dX12_habit_254 ?_
          refine ⟨_, rfl, ?_, hL2.1⟩
          unfold sp_habit
          rw [if_pos c_241]
      · refine A_iconst (v := -1) dX12_habit_236 (by decide) ?_
        refine A_goto (tgt := 254) dX12_habit_237 (by decide) ?_
        refine A_iret dX12_habit_254 ?_
        refine ⟨_, rfl, ?_, hL2.1⟩
        unfold sp_habit
        have e0 : hbB μ k = none := oI_n (i_nle c_233) (fun j h => bst_lt _ _ 10 j h)
        rw [e0]
        by_cases h0 : w = 0
        · rw [if_pos h0]; rfl
        · rw [if_neg h0, if_pos (hw1.resolve_left h0)]
    · refine A_iconst (v := -1) dX12_habit_9 (by decide) ?_
      refine A_iret dX12_habit_10 ?_
      refine ⟨_, rfl, ?_, Pm.rf⟩
      unfold sp_habit
      rw [if_neg (by rintro rfl; simp_all [i_lt, i_le]), if_neg (by rintro rfl; simp_all [i_lt, i_le])]

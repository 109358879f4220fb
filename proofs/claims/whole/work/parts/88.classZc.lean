/-! the class's reader over a text T of n bytes -/
def F2 (μ μ' : Mem) : Prop := (∀ i j, ¬ (i = 2 ∧ 4 ≤ j ∧ j ≤ 7) → μ'.1 i j = μ.1 i j) ∧ (∀ i j, ¬ (i = 2 ∧ j = 8) → μ'.2.1 i j = μ.2.1 i j) ∧ μ'.2.2 = μ.2.2
theorem F2.rf {μ : Mem} : F2 μ μ := ⟨fun _ _ _ => rfl, fun _ _ _ => rfl, rfl⟩
theorem F2.tr {a b c : Mem} (h : F2 a b) (g : F2 b c) : F2 a c := ⟨fun i j q => (g.1 i j q).trans (h.1 i j q), fun i j q => (g.2.1 i j q).trans (h.2.1 i j q), g.2.2.trans h.2.2⟩
theorem F2.w {a b : Mem} {k : Nat} {v : Int32} (h : F2 a b) (hk : 4 ≤ k ∧ k ≤ 7) : F2 a (wI b 2 k v) := ⟨fun i j q => (wI_ne (by omega)).trans (h.1 i j q), h.2.1, h.2.2⟩
theorem F2.l {a b : Mem} {v : Int64} (h : F2 a b) : F2 a (wL b 2 8 v) := ⟨h.1, fun i j q => (w2_ne (by omega)).trans (h.2.1 i j q), h.2.2⟩
def CX (G : Wd) (T : Nat → Int32) (n a : Nat) (z : Fin 2) (μ : Mem) : Prop := (∀ j, j < 800 → μ.1 1 j = vp_nar .byte (T j) ∧ 0 ≤ (T j).toInt ∧ (T j).toInt ≤ 255) ∧ n ≤ 800 ∧ a ≤ 800 ∧ μ.1 2 2 = nI n ∧ μ.1 2 4 = nI a ∧ μ.2.2 = gA G (104 + z.val) ∧ ∀ w, w < 26 → μ.2.1 3 w = e27 (wdK.getD w [])
theorem CX.tx {G : Wd} {T : Nat → Int32} {n a : Nat} {z : Fin 2} {μ : Mem} (h : CX G T n a z μ) {j : Nat} (hj : j < 800) : μ.1 1 j = vp_nar .byte (T j) := (h.1 j hj).1
theorem CX.of {G : Wd} {T : Nat → Int32} {n a : Nat} {z : Fin 2} {μ : Mem} (h : CX G T n a z μ) {j : Nat} (hj : j < 800) : ∃ c : Fin 256, T j = nI c.val := by_of (h.1 j hj).2.1 (h.1 j hj).2.2
theorem CX.n8 {G : Wd} {T : Nat → Int32} {n a : Nat} {z : Fin 2} {μ : Mem} (h : CX G T n a z μ) : n ≤ 800 := h.2.1
theorem CX.a8 {G : Wd} {T : Nat → Int32} {n a : Nat} {z : Fin 2} {μ : Mem} (h : CX G T n a z μ) : a ≤ 800 := h.2.2.1
theorem CX.sz {G : Wd} {T : Nat → Int32} {n a : Nat} {z : Fin 2} {μ : Mem} (h : CX G T n a z μ) : μ.1 2 2 = nI n := h.2.2.2.1
theorem CX.pl {G : Wd} {T : Nat → Int32} {n a : Nat} {z : Fin 2} {μ : Mem} (h : CX G T n a z μ) : μ.1 2 4 = nI a := h.2.2.2.2.1
theorem CX.st {G : Wd} {T : Nat → Int32} {n a : Nat} {z : Fin 2} {μ : Mem} (h : CX G T n a z μ) : μ.2.2 = gA G (104 + z.val) := h.2.2.2.2.2.1
theorem CX.ky {G : Wd} {T : Nat → Int32} {n a : Nat} {z : Fin 2} {μ : Mem} (h : CX G T n a z μ) {w : Nat} (hw : w < 26) : μ.2.1 3 w = e27 (wdK.getD w []) := h.2.2.2.2.2.2 w hw
theorem CX.f {G : Wd} {T : Nat → Int32} {n a b : Nat} {z : Fin 2} {μ μ' : Mem} (h : CX G T n a z μ) (g : F2 μ μ') (hb : b ≤ 800) (e : μ'.1 2 4 = nI b) : CX G T n b z μ' :=
  ⟨fun j hj => by rw [g.1 1 j (by omega)]; exact h.1 j hj, h.n8, hb, (g.1 2 2 (by omega)).trans h.sz, e, g.2.2.trans h.st, fun w hw => (g.2.1 3 w (by omega)).trans (h.ky hw)⟩
theorem CX.up {G : Wd} {T : Nat → Int32} {n a b : Nat} {z : Fin 2} {μ : Mem} (h : CX G T n a z μ) (hb : b ≤ 800) : CX G T n b z (wI μ 2 4 (nI b)) := h.f (F2.rf.w (by omega)) hb wI_same
theorem CX.w {G : Wd} {T : Nat → Int32} {n a k : Nat} {z : Fin 2} {v : Int32} {μ : Mem} (h : CX G T n a z μ) (hk : 5 ≤ k ∧ k ≤ 7) : CX G T n a z (wI μ 2 k v) := h.f (F2.rf.w (by omega)) h.a8 ((wI_ne (by omega)).trans h.pl)
theorem CX.l {G : Wd} {T : Nat → Int32} {n a : Nat} {z : Fin 2} {v : Int64} {μ : Mem} (h : CX G T n a z μ) : CX G T n a z (wL μ 2 8 v) := h.f F2.rf.l h.a8 h.pl
theorem cA_i {T : Nat → Int32} {n i : Nat} (h : i < n) : cA T n i = T i := if_pos h
theorem by_sp {c : Fin 256} : vp_nar .byte (nI c.val) = 32 ↔ nI c.val = 32 := (by_T c).1.1
theorem by_nl {c : Fin 256} : vp_nar .byte (nI c.val) = 10 ↔ nI c.val = 10 := (by_T c).1.2
theorem by_lt {c : Fin 256} : (97 ≤ vp_nar .byte (nI c.val) ∧ vp_nar .byte (nI c.val) ≤ 122) ↔ isLt (nI c.val) := (by_T c).2.1
theorem by_dg {c : Fin 256} : (48 ≤ vp_nar .byte (nI c.val) ∧ vp_nar .byte (nI c.val) ≤ 57) ↔ isDg (nI c.val) := (by_T c).2.2.1
set_option maxHeartbeats 400000 in
set_option maxRecDepth 100000 in
theorem L_X9_step_0 {l : Launch} {G : Wd} {T : Nat → Int32} {n : Nat} {z : Fin 2} {M : Mem} {Q : Option Value → Mem → Prop} : ∀ (q a : Nat) (μ : Mem), q = n - a → CX G T n a z μ → F2 M μ → (∀ μ', CX G T n (spQ T n q a) z μ' → F2 M μ' → AW l G KC RX9 cX9_step 2 5 none Q 52 [some (.ref (gA G 2)), none] [] μ') → AW l G KC RX9 cX9_step 2 5 none Q 0 [some (.ref (gA G 2)), none] [] μ := by
  intro q
  induction q with
  | zero =>
    intro a μ hq hx hf hk
    have ha8 := hx.a8
    have hn8 := hx.n8
    refine A_aload0 dX9_step_0 ?_
    refine A_getI gf_X9_50 rfl dX9_step_1 ?_
    rw [hx.pl]
    refine A_aload0 dX9_step_4 ?_
    refine A_getI gf_X9_47 rfl dX9_step_5 ?_
    rw [hx.sz]
    refine A_icmp_ge (tgt := 52) dX9_step_8 (by decide) (fun c_8 => ?_) (fun c_8 => absurd c_8 (not_not_intro (nI_le (by omega) (by omega))))
    exact hk μ hx hf
  | succ q ih =>
    intro a μ hq hx hf hk
    have ha8 := hx.a8
    have hn8 := hx.n8
    obtain ⟨c, hc⟩ := hx.of (j := a) (by omega)
    have hcA : cA T n a = nI c.val := (cA_i (by omega)).trans hc
    have e1 : (nI c.val = 32 ∨ nI c.val = 10) → spQ T n (q + 1) a = spQ T n q (a + 1) := fun y => if_pos (by rw [hcA]; exact y)
    have e0 : ¬ (nI c.val = 32 ∨ nI c.val = 10) → spQ T n (q + 1) a = a := fun y => if_neg (by rw [hcA]; exact y)
    refine A_aload0 dX9_step_0 ?_
    refine A_getI gf_X9_50 rfl dX9_step_1 ?_
    rw [hx.pl]
    refine A_aload0 dX9_step_4 ?_
    refine A_getI gf_X9_47 rfl dX9_step_5 ?_
    rw [hx.sz]
    refine A_icmp_ge (tgt := 52) dX9_step_8 (by decide) (fun c_8 => absurd c_8 (nI_ge (by omega) (by omega))) (fun c_8 => ?_)
    refine A_aload0 dX9_step_11 ?_
    refine A_getR gf_X9_7 rfl dX9_step_12 ?_
    refine A_aload0 dX9_step_15 ?_
    refine A_getI gf_X9_50 rfl dX9_step_16 ?_
    rw [hx.pl]
    refine A_bald (rfl) (vp_in_nI (by omega) (by omega)) dX9_step_19 ?_
    rw [nI_c (by omega), hx.tx (by omega)]
    rw [hc]
    refine A_bipush (v := 32) dX9_step_20 (by decide) ?_
    refine A_icmp_eq (tgt := 39) dX9_step_22 (by decide) (fun c_22 => ?_) (fun c_22 => ?_)
    · refine A_aload0 dX9_step_39 ?_
      refine A_dup dX9_step_40 rfl ?_
      refine A_getI gf_X9_50 rfl dX9_step_41 ?_
      rw [hx.pl]
      refine A_iconst (v := 1) dX9_step_44 (by decide) ?_
      refine A_iadd dX9_step_45 ?_
      rw [nI_1]
      refine A_putI gf_X9_50 rfl dX9_step_46 ?_
      refine A_goto (tgt := 0) dX9_step_49 (by decide) ?_
      have ee := e1 (Or.inl (by_sp.mp c_22))
      exact ih (a + 1) _ (by omega) (hx.up (by omega)) (hf.w (by omega)) (fun m1 g1 g2 => hk m1 (by rw [ee]; exact g1) g2)
    · refine A_aload0 dX9_step_25 ?_
      refine A_getR gf_X9_7 rfl dX9_step_26 ?_
      refine A_aload0 dX9_step_29 ?_
      refine A_getI gf_X9_50 rfl dX9_step_30 ?_
      rw [hx.pl]
      refine A_bald (rfl) (vp_in_nI (by omega) (by omega)) dX9_step_33 ?_
      rw [nI_c (by omega), hx.tx (by omega)]
      rw [hc]
      refine A_bipush (v := 10) dX9_step_34 (by decide) ?_
      refine A_icmp_ne (tgt := 52) dX9_step_36 (by decide) (fun c_36 => ?_) (fun c_36 => ?_)
      · have ee := e0 (fun y => y.elim (fun y => c_22 (by_sp.mpr y)) (fun y => c_36 (by_nl.mpr y)))
        exact hk μ (by rw [ee]; exact hx) hf
      · refine A_aload0 dX9_step_39 ?_
        refine A_dup dX9_step_40 rfl ?_
        refine A_getI gf_X9_50 rfl dX9_step_41 ?_
        rw [hx.pl]
        refine A_iconst (v := 1) dX9_step_44 (by decide) ?_
        refine A_iadd dX9_step_45 ?_
        rw [nI_1]
        refine A_putI gf_X9_50 rfl dX9_step_46 ?_
        refine A_goto (tgt := 0) dX9_step_49 (by decide) ?_
        have ee := e1 (Or.inr (by_nl.mp c_36))
        exact ih (a + 1) _ (by omega) (hx.up (by omega)) (hf.w (by omega)) (fun m1 g1 g2 => hk m1 (by rw [ee]; exact g1) g2)
set_option maxHeartbeats 100000 in
set_option maxRecDepth 100000 in
theorem T_X9_longer {l : Launch} {G : Wd} {x : Int64} {y : Int32} {μ : Mem}  : Mt l G KC yX9_longer cX9_longer 3 (some .long) 1 [.long x, .int y] μ (Ql (fun v μ' => v = x * 27 + (y - 97 + 1).toInt64 ∧ μ' = μ)) := by
  refine Mt.of (own := RX9) (n := 0) (by decide) rfl [some (.long x), none, some (.int y)] rfl (Nat.le_of_ble_eq_true rfl) ?_
  refine A_lload0 dX9_longer_0 ?_
  refine A_ldc2 dX9_longer_1 kc_X9_39 ?_
  refine A_lmul dX9_longer_4 ?_
  refine A_iload2 dX9_longer_5 ?_
  refine A_bipush (v := 97) dX9_longer_6 (by decide) ?_
  refine A_isub dX9_longer_8 ?_
  refine A_iconst (v := 1) dX9_longer_9 (by decide) ?_
  refine A_iadd dX9_longer_10 ?_
  refine A_i2l dX9_longer_11 ?_
  refine A_ladd dX9_longer_12 ?_
  refine A_lret dX9_longer_13 ?_
  exact ⟨_, rfl, rfl, rfl⟩
set_option maxHeartbeats 400000 in
set_option maxRecDepth 100000 in
theorem L_X9_kind {l : Launch} {G : Wd} {l0 : List Nat} {μ : Mem} (hg : GL l0) (hy : μ.2.1 2 8 = e27 l0) (hw : ∀ w, w < 26 → μ.2.1 3 w = e27 (wdK.getD w [])) : ∀ (q i : Nat) (x : Int32), q + i = 26 → x = nI i → (∀ j, j < i → ¬ wdK.getD j [] = l0) → AW l G KC RX9 cX9_kindOfWord 2 1 (some .int) (Qi (fun v μ' => KW l0 v ∧ μ' = μ)) 2 [some (.ref (gA G 2)), some (.int x)] [] μ := by
  intro q
  induction q with
  | zero =>
    intro i x hq hx hno
    subst hx
    have ei : i = 26 := by omega
    rw [ei]
    refine A_iload1 dX9_kindOfWord_2 ?_
    refine A_bipush (v := 26) dX9_kindOfWord_3 (by decide) ?_
    refine A_icmp_ge (tgt := 34) dX9_kindOfWord_5 (by decide) (fun c_5 => ?_) (fun c_5 => absurd c_5 (fun y => y (Int32.le_refl _)))
    refine A_iconst (v := 3) dX9_kindOfWord_34 (by decide) ?_
    refine A_iret dX9_kindOfWord_35 ?_
    exact ⟨_, rfl, Or.inr ⟨fun j hj => hno j (by omega), rfl⟩, rfl⟩
  | succ q ih =>
    intro i x hq hx hno
    subst hx
    refine A_iload1 dX9_kindOfWord_2 ?_
    refine A_bipush (v := 26) dX9_kindOfWord_3 (by decide) ?_
    refine A_icmp_ge (tgt := 34) dX9_kindOfWord_5 (by decide) (fun c_5 => absurd c_5 (nI_ge (a := i) (b := 26) (by omega) (by decide))) (fun c_5 => ?_)
    refine A_aload0 dX9_kindOfWord_8 ?_
    refine A_getR gf_X9_19 rfl dX9_kindOfWord_9 ?_
    refine A_iload1 dX9_kindOfWord_12 ?_
    refine A_lald (rfl) (vp_in_nI (by omega) (by omega)) dX9_kindOfWord_13 ?_
    rw [nI_c (by omega), hw i (by omega)]
    refine A_aload0 dX9_kindOfWord_14 ?_
    refine A_getL gf_X9_80 rfl dX9_kindOfWord_15 ?_
    rw [hy]
    refine A_lcmp dX9_kindOfWord_18 ?_
    refine A_if_ne (tgt := 28) dX9_kindOfWord_19 (by decide) (fun c_19 => ?_) (fun c_19 => ?_)
    · refine A_iinc1 dX9_kindOfWord_28 rfl rfl (by decide) ?_
      rw [show nI i + Int32.ofInt 1 = nI (i + 1) from nI_1 i]
      refine A_goto (tgt := 2) dX9_kindOfWord_31 (by decide) ?_
      refine ih (i + 1) _ (by omega) rfl (fun j hj => ?_)
      rcases Nat.lt_or_ge j i with hj1 | hj1
      · exact hno j hj1
      · have ej : j = i := by omega
        rw [ej]
        exact fun y => c_19 (lg_0.mpr (by rw [y]))
    · refine A_sipush (v := 128) dX9_kindOfWord_22 (by decide) ?_
      refine A_iload1 dX9_kindOfWord_25 ?_
      refine A_iadd dX9_kindOfWord_26 ?_
      rw [show (128 : Int32) = nI 128 from rfl, nI_add]
      refine A_iret dX9_kindOfWord_27 ?_
      exact ⟨_, rfl, Or.inl ⟨i, by omega, (e27_i (wd_G (by omega)) hg).mp (lg_0.mp c_19), rfl⟩, rfl⟩
set_option maxHeartbeats 100000 in
set_option maxRecDepth 100000 in
theorem T_X9_kindOfWord {l : Launch} {G : Wd} {l0 : List Nat} {μ : Mem} (hg : GL l0) (hy : μ.2.1 2 8 = e27 l0) (hw : ∀ w, w < 26 → μ.2.1 3 w = e27 (wdK.getD w [])) : Mt l G KC yX9_kindOfWord cX9_kindOfWord 2 (some .int) 1 [.ref (gA G 2)] μ (Qi (fun v μ' => KW l0 v ∧ μ' = μ)) := by
  refine Mt.of (own := RX9) (n := 1) (by decide) rfl [some (.ref (gA G 2)), none] rfl (Nat.le_of_ble_eq_true rfl) ?_
  refine A_iconst (v := 0) dX9_kindOfWord_0 (by decide) ?_
  refine A_istore1 dX9_kindOfWord_1 rfl (by decide) ?_
  exact L_X9_kind hg hy hw 26 0 _ (by omega) rfl (fun j hj => absurd hj (by omega))
def lts (T : Nat → Int32) (p : Nat) : Nat → List Nat
  | 0 => []
  | k + 1 => ((T (p + k)).toInt.toNat - 96) :: lts T p k
theorem lts_len (T : Nat → Int32) (p : Nat) : ∀ k, (lts T p k).length = k := by
  intro k
  induction k with
  | zero => rfl
  | succ k ih => show (lts T p k).length + 1 = k + 1; rw [ih]
theorem lrQ_l (T : Nat → Int32) (n : Nat) : ∀ q a j, j < lrQ T n q a → isLt (cA T n (a + j)) := by
  intro q
  induction q with
  | zero => intro a j h; exact absurd h (Nat.not_lt_zero _)
  | succ q ih =>
    intro a j h
    by_cases hl : isLt (cA T n a)
    · rw [show lrQ T n (q + 1) a = lrQ T n q (a + 1) + 1 from if_pos hl] at h
      cases j with
      | zero => exact hl
      | succ j =>
        have h2 := ih (a + 1) j (by omega)
        rw [show a + (j + 1) = a + 1 + j by omega]
        exact h2
    · rw [show lrQ T n (q + 1) a = 0 from if_neg hl] at h
      exact absurd h (Nat.not_lt_zero _)
theorem dgQ_l (T : Nat → Int32) (n : Nat) : ∀ q a j, j < dgQ T n q a → isDg (cA T n (a + j)) := by
  intro q
  induction q with
  | zero => intro a j h; exact absurd h (Nat.not_lt_zero _)
  | succ q ih =>
    intro a j h
    by_cases hl : isDg (cA T n a)
    · rw [show dgQ T n (q + 1) a = dgQ T n q (a + 1) + 1 from if_pos hl] at h
      cases j with
      | zero => exact hl
      | succ j =>
        have h2 := ih (a + 1) j (by omega)
        rw [show a + (j + 1) = a + 1 + j by omega]
        exact h2
    · rw [show dgQ T n (q + 1) a = 0 from if_neg hl] at h
      exact absurd h (Nat.not_lt_zero _)
theorem lt_in {T : Nat → Int32} {n i : Nat} (h : isLt (cA T n i)) : i < n := by
  rcases Nat.lt_or_ge i n with q | q
  · exact q
  · rw [cA_out q] at h; exact absurd h.1 (by decide)
theorem dg_in {T : Nat → Int32} {n i : Nat} (h : isDg (cA T n i)) : i < n := by
  rcases Nat.lt_or_ge i n with q | q
  · exact q
  · rw [cA_out q] at h; exact absurd h.1 (by decide)
theorem lt_hd {c : Fin 256} {x : Int32} (hx : x = nI c.val) (h : isLt (nI c.val)) : x.toInt.toNat - 96 = c.val - 96 ∧ 1 ≤ x.toInt.toNat - 96 ∧ x.toInt.toNat - 96 ≤ 26 := by
  obtain ⟨-, h2, h3, -⟩ := (by_E c).1 h
  have hc := c.isLt
  rw [hx, nI_i (by omega)]
  omega
/-- letters read so far, on both sides -/
theorem lts_w {T : Nat → Int32} {n p : Nat} (ht : ∀ j, j < 800 → 0 ≤ (T j).toInt ∧ (T j).toInt ≤ 255) (hn : n ≤ 800) : ∀ k, (∀ j, j < k → isLt (cA T n (p + j))) → e256 (lts T p k) = wdF T n p k ∧ ∀ c, c ∈ lts T p k → 1 ≤ c ∧ c ≤ 26 := by
  intro k
  induction k with
  | zero => intro _; exact ⟨rfl, fun c hc => absurd hc List.not_mem_nil⟩
  | succ k ih =>
    intro hl
    obtain ⟨i1, i2⟩ := ih (fun j hj => hl j (by omega))
    have h1 := hl k (by omega)
    have hin := lt_in h1
    rw [cA_i hin] at h1
    obtain ⟨c, hc⟩ := by_of (ht (p + k) (by omega)).1 (ht (p + k) (by omega)).2
    have h1c := h1
    rw [hc] at h1c
    obtain ⟨h2, h3, h4⟩ := lt_hd hc h1c
    constructor
    · show e256 (lts T p k) <<< 8 ||| lN (96 + ((T (p + k)).toInt.toNat - 96)) = wdF T n p k <<< 8 ||| (cA T n (p + k)).toInt64
      rw [i1, h2, cA_i hin, hc, ((by_E c).1 h1c).2.2.2.2]
    · intro x hx
      rcases List.mem_cons.mp hx with e | e
      · rw [e]; exact ⟨h3, h4⟩
      · exact i2 x e
theorem lts_GL {T : Nat → Int32} {n p k : Nat} (ht : ∀ j, j < 800 → 0 ≤ (T j).toInt ∧ (T j).toInt ≤ 255) (hn : n ≤ 800) (hl : ∀ j, j < k → isLt (cA T n (p + j))) (h1 : 1 ≤ k) (h8 : k ≤ 8) : GL (lts T p k) := ⟨by rw [lts_len]; exact h1, by rw [lts_len]; exact h8, (lts_w ht hn k hl).2⟩
theorem CX.rg {G : Wd} {T : Nat → Int32} {n a : Nat} {z : Fin 2} {μ : Mem} (h : CX G T n a z μ) : ∀ j, j < 800 → 0 ≤ (T j).toInt ∧ (T j).toInt ≤ 255 := fun j hj => (h.1 j hj).2
set_option maxHeartbeats 400000 in
set_option maxRecDepth 100000 in
theorem L_X9_word {l : Launch} {G : Wd} {T : Nat → Int32} {n p : Nat} {z : Fin 2} {M : Mem} {Q : Option Value → Mem → Prop} : ∀ (q k : Nat) (μ : Mem), q = n - (p + k) → CX G T n (p + k) z μ → μ.1 2 6 = nI p → μ.2.1 2 8 = e27 (lts T p k) → F2 M μ → (∀ (r : Nat) (μ' : Mem), r = k + lrQ T n q (p + k) → CX G T n (p + r) z μ' → μ'.1 2 6 = nI p → μ'.2.1 2 8 = e27 (lts T p r) → F2 M μ' → AW l G KC RX9 cX9_takeWord 1 2 none Q 77 [some (.ref (gA G 2))] [] μ') → AW l G KC RX9 cX9_takeWord 1 2 none Q 5 [some (.ref (gA G 2))] [] μ := by
  intro q
  induction q with
  | zero =>
    intro k μ hq hx hp hy hf hk
    have ha8 := hx.a8
    have hn8 := hx.n8
    refine A_aload0 dX9_takeWord_5 ?_
    refine A_getI gf_X9_50 rfl dX9_takeWord_6 ?_
    rw [hx.pl]
    refine A_aload0 dX9_takeWord_9 ?_
    refine A_getI gf_X9_47 rfl dX9_takeWord_10 ?_
    rw [hx.sz]
    refine A_icmp_ge (tgt := 77) dX9_takeWord_13 (by decide) (fun c_13 => ?_) (fun c_13 => absurd c_13 (not_not_intro (nI_le (by omega) (by omega))))
    exact hk k μ rfl hx hp hy hf
  | succ q ih =>
    intro k μ hq hx hp hy hf hk
    have ha8 := hx.a8
    have hn8 := hx.n8
    obtain ⟨c, hc⟩ := hx.of (j := p + k) (by omega)
    have hcA : cA T n (p + k) = nI c.val := (cA_i (by omega)).trans hc
    have e1 : isLt (nI c.val) → lrQ T n (q + 1) (p + k) = lrQ T n q (p + (k + 1)) + 1 := fun y => if_pos (by rw [hcA]; exact y)
    have e0 : ¬ isLt (nI c.val) → lrQ T n (q + 1) (p + k) = 0 := fun y => if_neg (by rw [hcA]; exact y)
    refine A_aload0 dX9_takeWord_5 ?_
    refine A_getI gf_X9_50 rfl dX9_takeWord_6 ?_
    rw [hx.pl]
    refine A_aload0 dX9_takeWord_9 ?_
    refine A_getI gf_X9_47 rfl dX9_takeWord_10 ?_
    rw [hx.sz]
    refine A_icmp_ge (tgt := 77) dX9_takeWord_13 (by decide) (fun c_13 => absurd c_13 (nI_ge (by omega) (by omega))) (fun c_13 => ?_)
    refine A_aload0 dX9_takeWord_16 ?_
    refine A_getR gf_X9_7 rfl dX9_takeWord_17 ?_
    refine A_aload0 dX9_takeWord_20 ?_
    refine A_getI gf_X9_50 rfl dX9_takeWord_21 ?_
    rw [hx.pl]
    refine A_bald (rfl) (vp_in_nI (by omega) (by omega)) dX9_takeWord_24 ?_
    rw [nI_c (by omega), hx.tx (by omega)]
    rw [hc]
    refine A_bipush (v := 97) dX9_takeWord_25 (by decide) ?_
    refine A_icmp_lt (tgt := 77) dX9_takeWord_27 (by decide) (fun c_27 => ?_) (fun c_27 => ?_)
    · have ee := e0 (fun y => absurd (by_lt.mpr y).1 (Int32.not_le.mpr c_27))
      exact hk k μ (by rw [ee]; rfl) hx hp hy hf
    · refine A_aload0 dX9_takeWord_30 ?_
      refine A_getR gf_X9_7 rfl dX9_takeWord_31 ?_
      refine A_aload0 dX9_takeWord_34 ?_
      refine A_getI gf_X9_50 rfl dX9_takeWord_35 ?_
      rw [hx.pl]
      refine A_bald (rfl) (vp_in_nI (by omega) (by omega)) dX9_takeWord_38 ?_
      rw [nI_c (by omega), hx.tx (by omega)]
      rw [hc]
      refine A_bipush (v := 122) dX9_takeWord_39 (by decide) ?_
      refine A_icmp_gt (tgt := 77) dX9_takeWord_41 (by decide) (fun c_41 => ?_) (fun c_41 => ?_)
      · have ee := e0 (fun y => absurd (by_lt.mpr y).2 (Int32.not_le.mpr c_41))
        exact hk k μ (by rw [ee]; rfl) hx hp hy hf
      · refine A_aload0 dX9_takeWord_44 ?_
        refine A_aload0 dX9_takeWord_45 ?_
        refine A_getL gf_X9_80 rfl dX9_takeWord_46 ?_
        rw [hy]
        refine A_aload0 dX9_takeWord_49 ?_
        refine A_getR gf_X9_7 rfl dX9_takeWord_50 ?_
        refine A_aload0 dX9_takeWord_53 ?_
        refine A_getI gf_X9_50 rfl dX9_takeWord_54 ?_
        rw [hx.pl]
        refine A_bald (rfl) (vp_in_nI (by omega) (by omega)) dX9_takeWord_57 ?_
        rw [nI_c (by omega), hx.tx (by omega)]
        rw [hc]
        refine A_sl2 lk_X9_35 ys_X9_longer dX9_takeWord_58 (T_X9_longer) (by decide) (Nat.le_of_ble_eq_true rfl) (fun r_58 μ_58 h_58 => ?_)
        obtain ⟨v_58, e_58⟩ := h_58
        subst e_58
        have hl : isLt (nI c.val) := by_lt.mp ⟨Int32.not_lt.mp c_27, Int32.not_lt.mp c_41⟩
        have ev : r_58 = e27 (lts T p (k + 1)) := by
          rw [v_58, ((by_E c).1 hl).1, ((by_E c).1 hl).2.2.2.1]
          show _ = e27 (lts T p k) * 27 + lN ((T (p + k)).toInt.toNat - 96)
          rw [(lt_hd hc hl).1]
        refine A_putL gf_X9_80 rfl dX9_takeWord_61 ?_
        refine A_aload0 dX9_takeWord_64 ?_
        refine A_dup dX9_takeWord_65 rfl ?_
        refine A_getI gf_X9_50 rfl dX9_takeWord_66 ?_
        refine A_val (y := nI (p + k)) hx.pl ?_
        refine A_iconst (v := 1) dX9_takeWord_69 (by decide) ?_
        refine A_iadd dX9_takeWord_70 ?_
        rw [nI_1]
        refine A_putI gf_X9_50 rfl dX9_takeWord_71 ?_
        refine A_goto (tgt := 5) dX9_takeWord_74 (by decide) ?_
        have ee := e1 hl
        exact ih (k + 1) _ (by omega) (hx.l.up (b := p + (k + 1)) (by omega)) ((wI_ne (by omega)).trans hp) (by show w2 μ_58.2.1 2 8 r_58 2 8 = _; rw [w2_same]; exact ev) (hf.l.w (by omega)) (fun r m1 g1 g2 g3 g4 g5 => hk r m1 (by rw [ee]; omega) g2 g3 g4 g5)
theorem pl_sub (a b : Nat) : nI (a + b) - nI a = nI b := by
  rw [← nI_add, Int32.add_comm, Int32.add_sub_cancel]
set_option maxHeartbeats 400000 in
set_option maxRecDepth 100000 in
theorem T_X9_takeWord {l : Launch} {G : Wd} {T : Nat → Int32} {n p : Nat} {z : Fin 2} {μ : Mem} (hx : CX G T n p z μ) (hp : μ.1 2 6 = nI p) (hr : 1 ≤ lrQ T n (n - p) p) : Mt l G KC yX9_takeWord cX9_takeWord 1 none 2 [.ref (gA G 2)] μ (Qv (fun μ' => F2 μ μ' ∧ μ'.1 2 6 = nI p ∧ μ'.1 2 4 = nI (p + lrQ T n (n - p) p) ∧ (8 < lrQ T n (n - p) p → μ'.1 2 5 = 1) ∧ (¬ 8 < lrQ T n (n - p) p → KW (lts T p (lrQ T n (n - p) p)) (μ'.1 2 5) ∧ μ'.2.1 2 8 = e27 (lts T p (lrQ T n (n - p) p))))) := by
  refine Mt.of (own := RX9) (n := 0) (by decide) rfl [some (.ref (gA G 2))] rfl (Nat.le_of_ble_eq_true rfl) ?_
  refine A_aload0 dX9_takeWord_0 ?_
  refine A_lconst (v := 0) dX9_takeWord_1 (by decide) ?_
  refine A_putL gf_X9_80 rfl dX9_takeWord_2 ?_
  refine L_X9_word (n - p) 0 _ rfl hx.l hp (by show w2 μ.2.1 2 8 0 2 8 = _; rw [w2_same]; rfl) F2.rf.l (fun r m1 g1 g2 g3 g4 g5 => ?_)
  rw [Nat.zero_add, Nat.add_zero] at g1
  have hr8 := g2.a8
  have hl1 : ∀ j, j < r → isLt (cA T n (p + j)) := fun j hj => lrQ_l T n (n - p) p j (by rw [← g1]; exact hj)
  have hr1 : 1 ≤ r := by rw [g1]; exact hr
  rw [← g1]
  refine A_aload0 dX9_takeWord_77 ?_
  refine A_aload0 dX9_takeWord_78 ?_
  refine A_getI gf_X9_50 rfl dX9_takeWord_79 ?_
  rw [g2.pl]
  refine A_aload0 dX9_takeWord_82 ?_
  refine A_getI gf_X9_64 rfl dX9_takeWord_83 ?_
  rw [g3]
  refine A_isub dX9_takeWord_86 ?_
  rw [pl_sub p r]
  refine A_bipush (v := 8) dX9_takeWord_87 (by decide) ?_
  refine A_icmp_le (tgt := 96) dX9_takeWord_89 (by decide) (fun c_89 => ?_) (fun c_89 => ?_)
  · have h8 : r ≤ 8 := (nI_leI (by omega) (by decide)).mp c_89
    refine A_aload0 dX9_takeWord_96 ?_
    refine A_vi0 lk_X9_84 yv_X9_kindOfWord dX9_takeWord_97 (rfl) (rfl) (T_X9_kindOfWord (lts_GL hx.rg hx.n8 hl1 hr1 h8) g4 (fun w hw => g2.ky hw)) (by decide) (Nat.le_of_ble_eq_true rfl) (fun r_97 μ_97 h_97 => ?_)
    obtain ⟨hkw, e_97⟩ := h_97
    subst e_97
    refine A_putI gf_X9_67 rfl dX9_takeWord_100 ?_
    refine A_vret dX9_takeWord_103 ?_
    exact ⟨rfl, g5.w (by omega), (wI_ne (by omega)).trans g3, (wI_ne (by omega)).trans g2.pl, fun y => absurd h8 (Nat.not_le.mpr y), fun _ => ⟨by rw [wI_same]; exact hkw, g4⟩⟩
  · have h8 : 8 < r := Nat.not_le.mp (fun y => c_89 (nI_le (a := r) (b := 8) y (by decide)))
    refine A_iconst (v := 1) dX9_takeWord_92 (by decide) ?_
    refine A_goto (tgt := 100) dX9_takeWord_93 (by decide) ?_
    refine A_putI gf_X9_67 rfl dX9_takeWord_100 ?_
    refine A_vret dX9_takeWord_103 ?_
    exact ⟨rfl, g5.w (by omega), (wI_ne (by omega)).trans g3, (wI_ne (by omega)).trans g2.pl, fun _ => wI_same, fun y => absurd h8 y⟩

/-! numbers, and one step of the class's reader -/
def nvf (T : Nat → Int32) (p : Nat) : Nat → Int32
  | 0 => 0
  | k + 1 => nvf T p k * 10 + (T (p + k) - 48)
theorem nvf_e (T : Nat → Int32) (n p : Nat) : ∀ k, p + k ≤ n → nvf T p k = nmF T n p k := by
  intro k
  induction k with
  | zero => intro _; rfl
  | succ k ih =>
    intro hk
    show nvf T p k * 10 + (T (p + k) - 48) = 10 * nmF T n p k + cA T n (p + k) - 48
    rw [ih (by omega), cA_i (by omega), Int32.mul_comm, Int32.sub_eq_add_neg, Int32.sub_eq_add_neg, Int32.add_assoc]
set_option maxHeartbeats 400000 in
set_option maxRecDepth 100000 in
theorem L_X9_num {l : Launch} {G : Wd} {T : Nat → Int32} {n p : Nat} {z : Fin 2} {M : Mem} {Q : Option Value → Mem → Prop} : ∀ (q k : Nat) (μ : Mem), q = n - (p + k) → CX G T n (p + k) z μ → μ.1 2 6 = nI p → μ.1 2 7 = nvf T p k → F2 M μ → (∀ (r : Nat) (μ' : Mem), r = k + dgQ T n q (p + k) → CX G T n (p + r) z μ' → μ'.1 2 6 = nI p → μ'.1 2 7 = nvf T p r → F2 M μ' → AW l G KC RX9 cX9_takeNumber 2 2 none Q 81 [some (.ref (gA G 2)), none] [] μ') → AW l G KC RX9 cX9_takeNumber 2 2 none Q 5 [some (.ref (gA G 2)), none] [] μ := by
  intro q
  induction q with
  | zero =>
    intro k μ hq hx hp hy hf hk
    have ha8 := hx.a8
    have hn8 := hx.n8
    refine A_aload0 dX9_takeNumber_5 ?_
    refine A_getI gf_X9_50 rfl dX9_takeNumber_6 ?_
    rw [hx.pl]
    refine A_aload0 dX9_takeNumber_9 ?_
    refine A_getI gf_X9_47 rfl dX9_takeNumber_10 ?_
    rw [hx.sz]
    refine A_icmp_ge (tgt := 81) dX9_takeNumber_13 (by decide) (fun c_13 => ?_) (fun c_13 => absurd c_13 (not_not_intro (nI_le (by omega) (by omega))))
    exact hk k μ rfl hx hp hy hf
  | succ q ih =>
    intro k μ hq hx hp hy hf hk
    have ha8 := hx.a8
    have hn8 := hx.n8
    obtain ⟨c, hc⟩ := hx.of (j := p + k) (by omega)
    have hcA : cA T n (p + k) = nI c.val := (cA_i (by omega)).trans hc
    have e1 : isDg (nI c.val) → dgQ T n (q + 1) (p + k) = dgQ T n q (p + (k + 1)) + 1 := fun y => if_pos (by rw [hcA]; exact y)
    have e0 : ¬ isDg (nI c.val) → dgQ T n (q + 1) (p + k) = 0 := fun y => if_neg (by rw [hcA]; exact y)
    refine A_aload0 dX9_takeNumber_5 ?_
    refine A_getI gf_X9_50 rfl dX9_takeNumber_6 ?_
    rw [hx.pl]
    refine A_aload0 dX9_takeNumber_9 ?_
    refine A_getI gf_X9_47 rfl dX9_takeNumber_10 ?_
    rw [hx.sz]
    refine A_icmp_ge (tgt := 81) dX9_takeNumber_13 (by decide) (fun c_13 => absurd c_13 (nI_ge (by omega) (by omega))) (fun c_13 => ?_)
    refine A_aload0 dX9_takeNumber_16 ?_
    refine A_getR gf_X9_7 rfl dX9_takeNumber_17 ?_
    refine A_aload0 dX9_takeNumber_20 ?_
    refine A_getI gf_X9_50 rfl dX9_takeNumber_21 ?_
    rw [hx.pl]
    refine A_bald (rfl) (vp_in_nI (by omega) (by omega)) dX9_takeNumber_24 ?_
    rw [nI_c (by omega), hx.tx (by omega)]
    rw [hc]
    refine A_bipush (v := 48) dX9_takeNumber_25 (by decide) ?_
    refine A_icmp_lt (tgt := 81) dX9_takeNumber_27 (by decide) (fun c_27 => ?_) (fun c_27 => ?_)
    · have ee := e0 (fun y => absurd (by_dg.mpr y).1 (Int32.not_le.mpr c_27))
      exact hk k μ (by rw [ee]; rfl) hx hp hy hf
    · refine A_aload0 dX9_takeNumber_30 ?_
      refine A_getR gf_X9_7 rfl dX9_takeNumber_31 ?_
      refine A_aload0 dX9_takeNumber_34 ?_
      refine A_getI gf_X9_50 rfl dX9_takeNumber_35 ?_
      rw [hx.pl]
      refine A_bald (rfl) (vp_in_nI (by omega) (by omega)) dX9_takeNumber_38 ?_
      rw [nI_c (by omega), hx.tx (by omega)]
      rw [hc]
      refine A_bipush (v := 57) dX9_takeNumber_39 (by decide) ?_
      refine A_icmp_gt (tgt := 81) dX9_takeNumber_41 (by decide) (fun c_41 => ?_) (fun c_41 => ?_)
      · have ee := e0 (fun y => absurd (by_dg.mpr y).2 (Int32.not_le.mpr c_41))
        exact hk k μ (by rw [ee]; rfl) hx hp hy hf
      · refine A_aload0 dX9_takeNumber_44 ?_
        refine A_aload0 dX9_takeNumber_45 ?_
        refine A_getI gf_X9_87 rfl dX9_takeNumber_46 ?_
        rw [hy]
        refine A_bipush (v := 10) dX9_takeNumber_49 (by decide) ?_
        refine A_imul dX9_takeNumber_51 ?_
        refine A_aload0 dX9_takeNumber_52 ?_
        refine A_getR gf_X9_7 rfl dX9_takeNumber_53 ?_
        refine A_aload0 dX9_takeNumber_56 ?_
        refine A_getI gf_X9_50 rfl dX9_takeNumber_57 ?_
        rw [hx.pl]
        refine A_bald (rfl) (vp_in_nI (by omega) (by omega)) dX9_takeNumber_60 ?_
        rw [nI_c (by omega), hx.tx (by omega)]
        rw [hc]
        refine A_bipush (v := 48) dX9_takeNumber_61 (by decide) ?_
        refine A_isub dX9_takeNumber_63 ?_
        refine A_iadd dX9_takeNumber_64 ?_
        have hl : isDg (nI c.val) := by_dg.mp ⟨Int32.not_lt.mp c_27, Int32.not_lt.mp c_41⟩
        refine A_val (y := nvf T p (k + 1)) (by rw [(by_E c).2.1 hl, ← hc]; rfl) ?_
        refine A_putI gf_X9_87 rfl dX9_takeNumber_65 ?_
        refine A_aload0 dX9_takeNumber_68 ?_
        refine A_dup dX9_takeNumber_69 rfl ?_
        refine A_getI gf_X9_50 rfl dX9_takeNumber_70 ?_
        refine A_val (y := nI (p + k)) ((wI_ne (by omega)).trans hx.pl) ?_
        refine A_iconst (v := 1) dX9_takeNumber_73 (by decide) ?_
        refine A_iadd dX9_takeNumber_74 ?_
        rw [nI_1]
        refine A_putI gf_X9_50 rfl dX9_takeNumber_75 ?_
        refine A_goto (tgt := 5) dX9_takeNumber_78 (by decide) ?_
        have ee := e1 hl
        exact ih (k + 1) _ (by omega) ((hx.w (k := 7) (by omega)).up (b := p + (k + 1)) (by omega)) ((wI_ne (by omega)).trans ((wI_ne (by omega)).trans hp)) ((wI_ne (by omega)).trans wI_same) ((hf.w (by omega)).w (by omega)) (fun r m1 g1 g2 g3 g4 g5 => hk r m1 (by rw [ee]; omega) g2 g3 g4 g5)
set_option maxHeartbeats 400000 in
set_option maxRecDepth 100000 in
theorem L_X9_num_125 {l : Launch} {G : Wd} {T : Nat → Int32} {n p r : Nat} {z : Fin 2} {μ m : Mem} {x : Int32} (g1 : r = dgQ T n (n - p) p) (g2 : CX G T n (p + r) z m) (g3 : m.1 2 6 = nI p) (g4 : m.1 2 7 = nvf T p r) (g5 : F2 μ m) (hv : (isLt (cA T n (p + r)) ∧ x = 1) ∨ (¬ isLt (cA T n (p + r)) ∧ x = 0)) : AW l G KC RX9 cX9_takeNumber 2 2 none (Qv (fun μ' => F2 μ μ' ∧ μ'.1 2 6 = nI p ∧ μ'.1 2 4 = nI (p + dgQ T n (n - p) p) ∧ μ'.1 2 7 = nvf T p (dgQ T n (n - p) p) ∧ μ'.1 2 5 = if 4 < dgQ T n (n - p) p ∨ isLt (cA T n (p + dgQ T n (n - p) p)) then 1 else 2)) 125 [some (.ref (gA G 2)), none] [.int x] m := by
  have ha8 := g2.a8
  rw [← g1]
  refine A_istore1 dX9_takeNumber_125 rfl (by decide) ?_
  refine A_aload0 dX9_takeNumber_126 ?_
  refine A_aload0 dX9_takeNumber_127 ?_
  refine A_getI gf_X9_50 rfl dX9_takeNumber_128 ?_
  rw [g2.pl]
  refine A_aload0 dX9_takeNumber_131 ?_
  refine A_getI gf_X9_64 rfl dX9_takeNumber_132 ?_
  rw [g3]
  refine A_isub dX9_takeNumber_135 ?_
  rw [pl_sub p r]
  refine A_iconst (v := 4) dX9_takeNumber_136 (by decide) ?_
  refine A_icmp_gt (tgt := 144) dX9_takeNumber_137 (by decide) (fun c_137 => ?_) (fun c_137 => ?_)
  · refine A_iconst (v := 1) dX9_takeNumber_144 (by decide) ?_
    refine A_goto (tgt := 149) dX9_takeNumber_145 (by decide) ?_
    refine A_putI gf_X9_67 rfl dX9_takeNumber_149 ?_
    refine A_vret dX9_takeNumber_152 ?_
    exact ⟨rfl, g5.w (by omega), (wI_ne (by omega)).trans g3, (wI_ne (by omega)).trans g2.pl, (wI_ne (by omega)).trans g4, wI_same.trans (if_pos (Or.inl ((nI_ltI (a := 4) (by decide) (by omega)).mp c_137))).symm⟩
  · refine A_iload1 dX9_takeNumber_140 ?_
    refine A_if_eq (tgt := 148) dX9_takeNumber_141 (by decide) (fun c_141 => ?_) (fun c_141 => ?_)
    · refine A_iconst (v := 2) dX9_takeNumber_148 (by decide) ?_
      refine A_putI gf_X9_67 rfl dX9_takeNumber_149 ?_
      refine A_vret dX9_takeNumber_152 ?_
      exact ⟨rfl, g5.w (by omega), (wI_ne (by omega)).trans g3, (wI_ne (by omega)).trans g2.pl, (wI_ne (by omega)).trans g4, wI_same.trans (if_neg (fun y => y.elim (fun y => c_137 (nI_lt (a := 4) y (by omega))) (fun y => hv.elim (fun w => absurd (w.2.symm.trans c_141) (by decide)) (fun w => w.1 y)))).symm⟩
    · refine A_iconst (v := 1) dX9_takeNumber_144 (by decide) ?_
      refine A_goto (tgt := 149) dX9_takeNumber_145 (by decide) ?_
      refine A_putI gf_X9_67 rfl dX9_takeNumber_149 ?_
      refine A_vret dX9_takeNumber_152 ?_
      exact ⟨rfl, g5.w (by omega), (wI_ne (by omega)).trans g3, (wI_ne (by omega)).trans g2.pl, (wI_ne (by omega)).trans g4, wI_same.trans (if_pos (Or.inr (hv.elim (fun y => y.1) (fun y => absurd y.2 c_141)))).symm⟩
set_option maxHeartbeats 400000 in
set_option maxRecDepth 100000 in
theorem T_X9_takeNumber {l : Launch} {G : Wd} {T : Nat → Int32} {n p : Nat} {z : Fin 2} {μ : Mem} (hx : CX G T n p z μ) (hp : μ.1 2 6 = nI p) : Mt l G KC yX9_takeNumber cX9_takeNumber 2 none 2 [.ref (gA G 2)] μ (Qv (fun μ' => F2 μ μ' ∧ μ'.1 2 6 = nI p ∧ μ'.1 2 4 = nI (p + dgQ T n (n - p) p) ∧ μ'.1 2 7 = nvf T p (dgQ T n (n - p) p) ∧ μ'.1 2 5 = if 4 < dgQ T n (n - p) p ∨ isLt (cA T n (p + dgQ T n (n - p) p)) then 1 else 2)) := by
  refine Mt.of (own := RX9) (n := 1) (by decide) rfl [some (.ref (gA G 2)), none] rfl (Nat.le_of_ble_eq_true rfl) ?_
  refine A_aload0 dX9_takeNumber_0 ?_
  refine A_iconst (v := 0) dX9_takeNumber_1 (by decide) ?_
  refine A_putI gf_X9_87 rfl dX9_takeNumber_2 ?_
  refine L_X9_num (n - p) 0 _ rfl (hx.w (k := 7) (by omega)) ((wI_ne (by omega)).trans hp) (by rw [wI_same]; rfl) (F2.rf.w (by omega)) (fun r m1 g1 g2 g3 g4 g5 => ?_)
  rw [Nat.zero_add, Nat.add_zero] at g1
  have hr8 := g2.a8
  have hn8 := hx.n8
  refine A_aload0 dX9_takeNumber_81 ?_
  refine A_getI gf_X9_50 rfl dX9_takeNumber_82 ?_
  rw [g2.pl]
  refine A_aload0 dX9_takeNumber_85 ?_
  refine A_getI gf_X9_47 rfl dX9_takeNumber_86 ?_
  rw [g2.sz]
  refine A_icmp_ge (tgt := 124) dX9_takeNumber_89 (by decide) (fun c_89 => ?_) (fun c_89 => ?_)
  · refine A_iconst (v := 0) dX9_takeNumber_124 (by decide) ?_
    exact L_X9_num_125 g1 g2 g3 g4 g5 (Or.inr ⟨fun y => absurd (lt_in y) (Nat.not_lt.mpr ((nI_leI (by omega) (by omega)).mp c_89)), rfl⟩)
  · have hin : p + r < n := Nat.not_le.mp (fun y => c_89 (nI_le y (by omega)))
    obtain ⟨c, hc⟩ := g2.of (j := p + r) (by omega)
    have hcA : cA T n (p + r) = nI c.val := (cA_i hin).trans hc
    refine A_aload0 dX9_takeNumber_92 ?_
    refine A_getR gf_X9_7 rfl dX9_takeNumber_93 ?_
    refine A_aload0 dX9_takeNumber_96 ?_
    refine A_getI gf_X9_50 rfl dX9_takeNumber_97 ?_
    rw [g2.pl]
    refine A_bald (rfl) (vp_in_nI (by omega) (by omega)) dX9_takeNumber_100 ?_
    rw [nI_c (by omega), g2.tx (by omega), hc]
    refine A_bipush (v := 97) dX9_takeNumber_101 (by decide) ?_
    refine A_icmp_lt (tgt := 124) dX9_takeNumber_103 (by decide) (fun c_103 => ?_) (fun c_103 => ?_)
    · refine A_iconst (v := 0) dX9_takeNumber_124 (by decide) ?_
      exact L_X9_num_125 g1 g2 g3 g4 g5 (Or.inr ⟨fun y => absurd (by_lt.mpr (by rw [hcA] at y; exact y)).1 (Int32.not_le.mpr c_103), rfl⟩)
    · refine A_aload0 dX9_takeNumber_106 ?_
      refine A_getR gf_X9_7 rfl dX9_takeNumber_107 ?_
      refine A_aload0 dX9_takeNumber_110 ?_
      refine A_getI gf_X9_50 rfl dX9_takeNumber_111 ?_
      rw [g2.pl]
      refine A_bald (rfl) (vp_in_nI (by omega) (by omega)) dX9_takeNumber_114 ?_
      rw [nI_c (by omega), g2.tx (by omega), hc]
      refine A_bipush (v := 122) dX9_takeNumber_115 (by decide) ?_
      refine A_icmp_gt (tgt := 124) dX9_takeNumber_117 (by decide) (fun c_117 => ?_) (fun c_117 => ?_)
      · refine A_iconst (v := 0) dX9_takeNumber_124 (by decide) ?_
        exact L_X9_num_125 g1 g2 g3 g4 g5 (Or.inr ⟨fun y => absurd (by_lt.mpr (by rw [hcA] at y; exact y)).2 (Int32.not_le.mpr c_117), rfl⟩)
      · refine A_iconst (v := 1) dX9_takeNumber_120 (by decide) ?_
        refine A_goto (tgt := 125) dX9_takeNumber_121 (by decide) ?_
        exact L_X9_num_125 g1 g2 g3 g4 g5 (Or.inl ⟨by rw [hcA]; exact by_lt.mp ⟨Int32.not_lt.mp c_103, Int32.not_lt.mp c_117⟩, rfl⟩)
theorem tk_end {T : Nat → Int32} {n p : Nat} {r : Int32} (h : n ≤ p) : tk T n r p = (0, 0, 0, 0) := if_pos (by rw [cA_out h]; decide)
theorem tk_c {T : Nat → Int32} {n p : Nat} {r : Int32} {c : Fin 256} (h : cA T n p = nI c.val) : tk T n r p = if isLt (nI c.val) then (lrQ T n (n - p) p, if 8 < lrQ T n (n - p) p then 3 else 1, wdF T n p (min (lrQ T n (n - p) p) 8), 0) else if isDg (nI c.val) then (dgQ T n (n - p) p, if 4 < dgQ T n (n - p) p ∨ isLt (cA T n (p + dgQ T n (n - p) p)) then 3 else 2, 0, nmF T n p (min (dgQ T n (n - p) p) 4)) else (1, if isSg r (nI c.val) then nI c.val else 3, 0, 0) := by
  unfold tk
  rw [if_neg (by rw [h]; exact (by_E c).2.2.2.1), h]
/-- what one step leaves -/
def StQ (T : Nat → Int32) (n : Nat) (z : Fin 2) (p : Nat) (μ μ' : Mem) : Prop := F2 μ μ' ∧ μ'.1 2 6 = nI p ∧ μ'.1 2 4 = nI (p + (tk T n (nI z.val) p).1) ∧ KR (nI z.val) (tk T n (nI z.val) p).2.1 (tk T n (nI z.val) p).2.2.2 (tk T n (nI z.val) p).2.2.1 (μ'.1 2 5) (μ'.1 2 7) (μ'.2.1 2 8)
theorem StQ.wd {T : Nat → Int32} {n p : Nat} {z : Fin 2} {μ m μ' : Mem} {c : Fin 256} (ht : ∀ j, j < 800 → 0 ≤ (T j).toInt ∧ (T j).toInt ≤ 255) (hn : n ≤ 800) (hf : F2 μ m) (hc : cA T n p = nI c.val) (hl : isLt (nI c.val)) (h1 : F2 m μ') (h2 : μ'.1 2 6 = nI p) (h3 : μ'.1 2 4 = nI (p + lrQ T n (n - p) p)) (h4 : 8 < lrQ T n (n - p) p → μ'.1 2 5 = 1) (h5 : ¬ 8 < lrQ T n (n - p) p → KW (lts T p (lrQ T n (n - p) p)) (μ'.1 2 5) ∧ μ'.2.1 2 8 = e27 (lts T p (lrQ T n (n - p) p))) (hr : 1 ≤ lrQ T n (n - p) p) : StQ T n z p μ μ' := by
  have et := (tk_c (r := nI z.val) hc).trans (if_pos hl)
  unfold StQ
  rw [et]
  refine ⟨hf.tr h1, h2, h3, ?_⟩
  by_cases h8 : 8 < lrQ T n (n - p) p
  · exact Or.inr (Or.inl ⟨if_pos h8, h4 h8⟩)
  · have hw := lts_w (T := T) (n := n) (p := p) ht hn (lrQ T n (n - p) p) (fun j hj => lrQ_l T n (n - p) p j hj)
    refine Or.inr (Or.inr (Or.inr (Or.inl ⟨if_neg h8, lts T p (lrQ T n (n - p) p), lts_GL ht hn (fun j hj => lrQ_l T n (n - p) p j hj) hr (by omega), ?_, (h5 h8).2, (h5 h8).1⟩)))
    show wdF T n p (min (lrQ T n (n - p) p) 8) = _
    rw [Nat.min_eq_left (by omega)]
    exact hw.1.symm
theorem StQ.nu {T : Nat → Int32} {n p : Nat} {z : Fin 2} {μ m μ' : Mem} {c : Fin 256} (hp : p ≤ n) (hf : F2 μ m) (hc : cA T n p = nI c.val) (hl : ¬ isLt (nI c.val)) (hd : isDg (nI c.val)) (h1 : F2 m μ') (h2 : μ'.1 2 6 = nI p) (h3 : μ'.1 2 4 = nI (p + dgQ T n (n - p) p)) (h4 : μ'.1 2 7 = nvf T p (dgQ T n (n - p) p)) (h5 : μ'.1 2 5 = if 4 < dgQ T n (n - p) p ∨ isLt (cA T n (p + dgQ T n (n - p) p)) then 1 else 2) : StQ T n z p μ μ' := by
  have et := (tk_c (r := nI z.val) hc).trans ((if_neg hl).trans (if_pos hd))
  unfold StQ
  rw [et]
  refine ⟨hf.tr h1, h2, h3, ?_⟩
  by_cases h8 : 4 < dgQ T n (n - p) p ∨ isLt (cA T n (p + dgQ T n (n - p) p))
  · exact Or.inr (Or.inl ⟨if_pos h8, h5.trans (if_pos h8)⟩)
  · refine Or.inr (Or.inr (Or.inl ⟨if_neg h8, h5.trans (if_neg h8), ?_⟩))
    show _ = nmF T n p (min (dgQ T n (n - p) p) 4)
    have hb := dgQ_b T n (n - p) p
    rw [Nat.min_eq_left (by have := fun y => h8 (Or.inl y); omega), h4]
    exact nvf_e T n p _ (by omega)
theorem StQ.sg {T : Nat → Int32} {n p : Nat} {z : Fin 2} {μ μ' : Mem} {c : Fin 256} {x : Int32} (hf : F2 μ μ') (hc : cA T n p = nI c.val) (hl : ¬ isLt (nI c.val)) (hd : ¬ isDg (nI c.val)) (h2 : μ'.1 2 6 = nI p) (h3 : μ'.1 2 4 = nI (p + 1)) (hx : 0 ≤ x ↔ (sgB z.val).any (fun w => w == (nI c.val).toInt8.toInt32) = true) (h5 : μ'.1 2 5 = if 0 ≤ x then nI c.val else 1) : StQ T n z p μ μ' := by
  have et := (tk_c (r := nI z.val) hc).trans ((if_neg hl).trans (if_neg hd))
  unfold StQ
  rw [et]
  refine ⟨hf, h2, h3, ?_⟩
  rw [sg_T] at hx
  by_cases h8 : isSg (nI z.val) (nI c.val)
  · refine Or.inr (Or.inr (Or.inr (Or.inr ?_)))
    rw [show (if isSg (nI z.val) (nI c.val) then nI c.val else 3) = nI c.val from if_pos h8]
    exact ⟨h8, h5.trans (if_pos (hx.mpr h8))⟩
  · exact Or.inr (Or.inl ⟨if_neg h8, h5.trans (if_neg (fun y => h8 (hx.mp y)))⟩)
set_option maxHeartbeats 1000000 in
set_option maxRecDepth 100000 in
theorem T_X9_step {l : Launch} {G : Wd} {T : Nat → Int32} {n a : Nat} {z : Fin 2} {μ : Mem} (hS : okS G) (hx : CX G T n a z μ) : Mt l G KC yX9_step cX9_step 2 none 5 [.ref (gA G 2)] μ (Qv (fun μ' => StQ T n z (spN T n a) μ μ')) := by
  refine Mt.of (own := RX9) (n := 1) (by decide) rfl [some (.ref (gA G 2)), none] rfl (Nat.le_of_ble_eq_true rfl) ?_
  refine L_X9_step_0 (n - a) a μ rfl hx F2.rf (fun μ1 g1 g2 => ?_)
  have hp0 : spN T n a = spQ T n (n - a) a := rfl
  rw [← hp0] at g1
  clear hp0
  generalize spN T n a = p at g1 ⊢
  have hp8 := g1.a8
  have hn8 := g1.n8
  refine A_aload0 dX9_step_52 ?_
  refine A_aload0 dX9_step_53 ?_
  refine A_getI gf_X9_50 rfl dX9_step_54 ?_
  rw [g1.pl]
  refine A_putI gf_X9_64 rfl dX9_step_57 ?_
  have hx2 := g1.w (k := 6) (v := nI p) (by omega)
  refine A_aload0 dX9_step_60 ?_
  refine A_getI gf_X9_50 rfl dX9_step_61 ?_
  rw [hx2.pl]
  refine A_aload0 dX9_step_64 ?_
  refine A_getI gf_X9_47 rfl dX9_step_65 ?_
  rw [hx2.sz]
  refine A_icmp_lt (tgt := 77) dX9_step_68 (by decide) (fun c_68 => ?_) (fun c_68 => ?_)
  · have hpn : p < n := (nI_ltI (by omega) (by omega)).mp c_68
    obtain ⟨c, hc⟩ := g1.of (j := p) (by omega)
    have hcA : cA T n p = nI c.val := (cA_i hpn).trans hc
    refine A_aload0 dX9_step_77 ?_
    refine A_getR gf_X9_7 rfl dX9_step_78 ?_
    refine A_aload0 dX9_step_81 ?_
    refine A_getI gf_X9_50 rfl dX9_step_82 ?_
    rw [hx2.pl]
    refine A_bald (rfl) (vp_in_nI (by omega) (by omega)) dX9_step_85 ?_
    rw [nI_c (by omega), hx2.tx (by omega), hc]
    refine A_sipush (v := 255) dX9_step_86 (by decide) ?_
    refine A_iand dX9_step_89 ?_
    rw [(by_T c).2.2.2]
    refine A_istore1 dX9_step_90 rfl (by decide) ?_
    refine A_iload1 dX9_step_91 ?_
    refine A_bipush (v := 97) dX9_step_92 (by decide) ?_
    refine A_icmp_lt (tgt := 110) dX9_step_94 (by decide) (fun c_94 => ?_) (fun c_94 => ?_)
    · have hl : ¬ isLt (nI c.val) := fun y => absurd y.1 (Int32.not_le.mpr c_94)
      refine A_iload1 dX9_step_110 ?_
      refine A_bipush (v := 48) dX9_step_111 (by decide) ?_
      refine A_icmp_lt (tgt := 129) dX9_step_113 (by decide) (fun c_113 => ?_) (fun c_113 => ?_)
      · have hd : ¬ isDg (nI c.val) := fun y => absurd y.1 (Int32.not_le.mpr c_113)
        refine A_aload0 dX9_step_129 ?_
        refine A_aload0 dX9_step_130 ?_
        refine A_getT gf_X9_15 rfl dX9_step_131 ?_
        refine A_sets (st' := [.ref (gA G (104 + z.val)), .ref (gA G 2)]) (by rw [hx2.st]) ?_
        refine A_iload1 dX9_step_134 ?_
        refine A_i2c dX9_step_135 ?_
        rw [(by_E c).2.2.1]
        refine A_ti1 (hS.o z) lk_X9_76 yv_J0_indexOf_0f7a4 dX9_step_136 (T_indexOf hS) (by decide) (Nat.le_of_ble_eq_true rfl) (fun r_136 μ_136 h_136 => ?_)
        obtain ⟨k1, k2⟩ := h_136
        subst k2
        refine A_if_lt (tgt := 146) dX9_step_139 (by decide) (fun c_139 => ?_) (fun c_139 => ?_)
        · refine A_iconst (v := 1) dX9_step_146 (by decide) ?_
          refine A_putI gf_X9_67 rfl dX9_step_147 ?_
          refine A_aload0 dX9_step_150 ?_
          refine A_dup dX9_step_151 rfl ?_
          refine A_getI gf_X9_50 rfl dX9_step_152 ?_
          refine A_val (y := nI p) ((wI_ne (by omega)).trans hx2.pl) ?_
          refine A_iconst (v := 1) dX9_step_155 (by decide) ?_
          refine A_iadd dX9_step_156 ?_
          rw [nI_1]
          refine A_putI gf_X9_50 rfl dX9_step_157 ?_
          have hfin : StQ T n z p μ (wI (wI (wI μ1 2 6 (nI p)) 2 5 1) 2 4 (nI (p + 1))) := StQ.sg (((g2.w (by omega)).w (by omega)).w (by omega)) hcA hl hd ((wI_ne (by omega)).trans ((wI_ne (by omega)).trans wI_same)) wI_same k1 ((wI_ne (by omega)).trans (wI_same.trans (if_neg (Int32.not_le.mpr c_139)).symm))
          refine A_vret dX9_step_160 ?_
          exact ⟨rfl, hfin⟩
        · refine A_iload1 dX9_step_142 ?_
          refine A_goto (tgt := 147) dX9_step_143 (by decide) ?_
          refine A_putI gf_X9_67 rfl dX9_step_147 ?_
          refine A_aload0 dX9_step_150 ?_
          refine A_dup dX9_step_151 rfl ?_
          refine A_getI gf_X9_50 rfl dX9_step_152 ?_
          refine A_val (y := nI p) ((wI_ne (by omega)).trans hx2.pl) ?_
          refine A_iconst (v := 1) dX9_step_155 (by decide) ?_
          refine A_iadd dX9_step_156 ?_
          rw [nI_1]
          refine A_putI gf_X9_50 rfl dX9_step_157 ?_
          have hfin : StQ T n z p μ (wI (wI (wI μ1 2 6 (nI p)) 2 5 (nI c.val)) 2 4 (nI (p + 1))) := StQ.sg (((g2.w (by omega)).w (by omega)).w (by omega)) hcA hl hd ((wI_ne (by omega)).trans ((wI_ne (by omega)).trans wI_same)) wI_same k1 ((wI_ne (by omega)).trans (wI_same.trans (if_pos (Int32.not_lt.mp c_139)).symm))
          refine A_vret dX9_step_160 ?_
          exact ⟨rfl, hfin⟩
      · refine A_iload1 dX9_step_116 ?_
        refine A_bipush (v := 57) dX9_step_117 (by decide) ?_
        refine A_icmp_gt (tgt := 129) dX9_step_119 (by decide) (fun c_119 => ?_) (fun c_119 => ?_)
        · have hd : ¬ isDg (nI c.val) := fun y => absurd y.2 (Int32.not_le.mpr c_119)
          refine A_aload0 dX9_step_129 ?_
          refine A_aload0 dX9_step_130 ?_
          refine A_getT gf_X9_15 rfl dX9_step_131 ?_
          refine A_sets (st' := [.ref (gA G (104 + z.val)), .ref (gA G 2)]) (by rw [hx2.st]) ?_
          refine A_iload1 dX9_step_134 ?_
          refine A_i2c dX9_step_135 ?_
          rw [(by_E c).2.2.1]
          refine A_ti1 (hS.o z) lk_X9_76 yv_J0_indexOf_0f7a4 dX9_step_136 (T_indexOf hS) (by decide) (Nat.le_of_ble_eq_true rfl) (fun r_136 μ_136 h_136 => ?_)
          obtain ⟨k1, k2⟩ := h_136
          subst k2
          refine A_if_lt (tgt := 146) dX9_step_139 (by decide) (fun c_139 => ?_) (fun c_139 => ?_)
          · refine A_iconst (v := 1) dX9_step_146 (by decide) ?_
            refine A_putI gf_X9_67 rfl dX9_step_147 ?_
            refine A_aload0 dX9_step_150 ?_
            refine A_dup dX9_step_151 rfl ?_
            refine A_getI gf_X9_50 rfl dX9_step_152 ?_
            refine A_val (y := nI p) ((wI_ne (by omega)).trans hx2.pl) ?_
            refine A_iconst (v := 1) dX9_step_155 (by decide) ?_
            refine A_iadd dX9_step_156 ?_
            rw [nI_1]
            refine A_putI gf_X9_50 rfl dX9_step_157 ?_
            have hfin : StQ T n z p μ (wI (wI (wI μ1 2 6 (nI p)) 2 5 1) 2 4 (nI (p + 1))) := StQ.sg (((g2.w (by omega)).w (by omega)).w (by omega)) hcA hl hd ((wI_ne (by omega)).trans ((wI_ne (by omega)).trans wI_same)) wI_same k1 ((wI_ne (by omega)).trans (wI_same.trans (if_neg (Int32.not_le.mpr c_139)).symm))
            refine A_vret dX9_step_160 ?_
            exact ⟨rfl, hfin⟩
          · refine A_iload1 dX9_step_142 ?_
            refine A_goto (tgt := 147) dX9_step_143 (by decide) ?_
            refine A_putI gf_X9_67 rfl dX9_step_147 ?_
            refine A_aload0 dX9_step_150 ?_
            refine A_dup dX9_step_151 rfl ?_
            refine A_getI gf_X9_50 rfl dX9_step_152 ?_
            refine A_val (y := nI p) ((wI_ne (by omega)).trans hx2.pl) ?_
            refine A_iconst (v := 1) dX9_step_155 (by decide) ?_
            refine A_iadd dX9_step_156 ?_
            rw [nI_1]
            refine A_putI gf_X9_50 rfl dX9_step_157 ?_
            have hfin : StQ T n z p μ (wI (wI (wI μ1 2 6 (nI p)) 2 5 (nI c.val)) 2 4 (nI (p + 1))) := StQ.sg (((g2.w (by omega)).w (by omega)).w (by omega)) hcA hl hd ((wI_ne (by omega)).trans ((wI_ne (by omega)).trans wI_same)) wI_same k1 ((wI_ne (by omega)).trans (wI_same.trans (if_pos (Int32.not_lt.mp c_139)).symm))
            refine A_vret dX9_step_160 ?_
            exact ⟨rfl, hfin⟩
        · have hd : isDg (nI c.val) := ⟨Int32.not_lt.mp c_113, Int32.not_lt.mp c_119⟩
          refine A_aload0 dX9_step_122 ?_
          refine A_vv0 lk_X9_73 yv_X9_takeNumber dX9_step_123 (rfl) (rfl) (T_X9_takeNumber hx2 wI_same) (by decide) (Nat.le_of_ble_eq_true rfl) (fun μ_123 h_123 => ?_)
          obtain ⟨k1, k2, k3, k4, k5⟩ := h_123
          have hfin := StQ.nu (z := z) (by omega) (g2.w (k := 6) (v := nI p) (by omega)) hcA hl hd k1 k2 k3 k4 k5
          refine A_goto (tgt := 160) dX9_step_126 (by decide) ?_
          refine A_vret dX9_step_160 ?_
          exact ⟨rfl, hfin⟩
    · refine A_iload1 dX9_step_97 ?_
      refine A_bipush (v := 122) dX9_step_98 (by decide) ?_
      refine A_icmp_gt (tgt := 110) dX9_step_100 (by decide) (fun c_100 => ?_) (fun c_100 => ?_)
      · have hl : ¬ isLt (nI c.val) := fun y => absurd y.2 (Int32.not_le.mpr c_100)
        refine A_iload1 dX9_step_110 ?_
        refine A_bipush (v := 48) dX9_step_111 (by decide) ?_
        refine A_icmp_lt (tgt := 129) dX9_step_113 (by decide) (fun c_113 => ?_) (fun c_113 => ?_)
        · have hd : ¬ isDg (nI c.val) := fun y => absurd y.1 (Int32.not_le.mpr c_113)
          refine A_aload0 dX9_step_129 ?_
          refine A_aload0 dX9_step_130 ?_
          refine A_getT gf_X9_15 rfl dX9_step_131 ?_
          refine A_sets (st' := [.ref (gA G (104 + z.val)), .ref (gA G 2)]) (by rw [hx2.st]) ?_
          refine A_iload1 dX9_step_134 ?_
          refine A_i2c dX9_step_135 ?_
          rw [(by_E c).2.2.1]
          refine A_ti1 (hS.o z) lk_X9_76 yv_J0_indexOf_0f7a4 dX9_step_136 (T_indexOf hS) (by decide) (Nat.le_of_ble_eq_true rfl) (fun r_136 μ_136 h_136 => ?_)
          obtain ⟨k1, k2⟩ := h_136
          subst k2
          refine A_if_lt (tgt := 146) dX9_step_139 (by decide) (fun c_139 => ?_) (fun c_139 => ?_)
          · refine A_iconst (v := 1) dX9_step_146 (by decide) ?_
            refine A_putI gf_X9_67 rfl dX9_step_147 ?_
            refine A_aload0 dX9_step_150 ?_
            refine A_dup dX9_step_151 rfl ?_
            refine A_getI gf_X9_50 rfl dX9_step_152 ?_
            refine A_val (y := nI p) ((wI_ne (by omega)).trans hx2.pl) ?_
            refine A_iconst (v := 1) dX9_step_155 (by decide) ?_
            refine A_iadd dX9_step_156 ?_
            rw [nI_1]
            refine A_putI gf_X9_50 rfl dX9_step_157 ?_
            have hfin : StQ T n z p μ (wI (wI (wI μ1 2 6 (nI p)) 2 5 1) 2 4 (nI (p + 1))) := StQ.sg (((g2.w (by omega)).w (by omega)).w (by omega)) hcA hl hd ((wI_ne (by omega)).trans ((wI_ne (by omega)).trans wI_same)) wI_same k1 ((wI_ne (by omega)).trans (wI_same.trans (if_neg (Int32.not_le.mpr c_139)).symm))
            refine A_vret dX9_step_160 ?_
            exact ⟨rfl, hfin⟩
          · refine A_iload1 dX9_step_142 ?_
            refine A_goto (tgt := 147) dX9_step_143 (by decide) ?_
            refine A_putI gf_X9_67 rfl dX9_step_147 ?_
            refine A_aload0 dX9_step_150 ?_
            refine A_dup dX9_step_151 rfl ?_
            refine A_getI gf_X9_50 rfl dX9_step_152 ?_
            refine A_val (y := nI p) ((wI_ne (by omega)).trans hx2.pl) ?_
            refine A_iconst (v := 1) dX9_step_155 (by decide) ?_
            refine A_iadd dX9_step_156 ?_
            rw [nI_1]
            refine A_putI gf_X9_50 rfl dX9_step_157 ?_
            have hfin : StQ T n z p μ (wI (wI (wI μ1 2 6 (nI p)) 2 5 (nI c.val)) 2 4 (nI (p + 1))) := StQ.sg (((g2.w (by omega)).w (by omega)).w (by omega)) hcA hl hd ((wI_ne (by omega)).trans ((wI_ne (by omega)).trans wI_same)) wI_same k1 ((wI_ne (by omega)).trans (wI_same.trans (if_pos (Int32.not_lt.mp c_139)).symm))
            refine A_vret dX9_step_160 ?_
            exact ⟨rfl, hfin⟩
        · refine A_iload1 dX9_step_116 ?_
          refine A_bipush (v := 57) dX9_step_117 (by decide) ?_
          refine A_icmp_gt (tgt := 129) dX9_step_119 (by decide) (fun c_119 => ?_) (fun c_119 => ?_)
          · have hd : ¬ isDg (nI c.val) := fun y => absurd y.2 (Int32.not_le.mpr c_119)
            refine A_aload0 dX9_step_129 ?_
            refine A_aload0 dX9_step_130 ?_
            refine A_getT gf_X9_15 rfl dX9_step_131 ?_
            refine A_sets (st' := [.ref (gA G (104 + z.val)), .ref (gA G 2)]) (by rw [hx2.st]) ?_
            refine A_iload1 dX9_step_134 ?_
            refine A_i2c dX9_step_135 ?_
            rw [(by_E c).2.2.1]
            refine A_ti1 (hS.o z) lk_X9_76 yv_J0_indexOf_0f7a4 dX9_step_136 (T_indexOf hS) (by decide) (Nat.le_of_ble_eq_true rfl) (fun r_136 μ_136 h_136 => ?_)
            obtain ⟨k1, k2⟩ := h_136
            subst k2
            refine A_if_lt (tgt := 146) dX9_step_139 (by decide) (fun c_139 => ?_) (fun c_139 => ?_)
            · refine A_iconst (v := 1) dX9_step_146 (by decide) ?_
              refine A_putI gf_X9_67 rfl dX9_step_147 ?_
              refine A_aload0 dX9_step_150 ?_
              refine A_dup dX9_step_151 rfl ?_
              refine A_getI gf_X9_50 rfl dX9_step_152 ?_
              refine A_val (y := nI p) ((wI_ne (by omega)).trans hx2.pl) ?_
              refine A_iconst (v := 1) dX9_step_155 (by decide) ?_
              refine A_iadd dX9_step_156 ?_
              rw [nI_1]
              refine A_putI gf_X9_50 rfl dX9_step_157 ?_
              have hfin : StQ T n z p μ (wI (wI (wI μ1 2 6 (nI p)) 2 5 1) 2 4 (nI (p + 1))) := StQ.sg (((g2.w (by omega)).w (by omega)).w (by omega)) hcA hl hd ((wI_ne (by omega)).trans ((wI_ne (by omega)).trans wI_same)) wI_same k1 ((wI_ne (by omega)).trans (wI_same.trans (if_neg (Int32.not_le.mpr c_139)).symm))
              refine A_vret dX9_step_160 ?_
              exact ⟨rfl, hfin⟩
            · refine A_iload1 dX9_step_142 ?_
              refine A_goto (tgt := 147) dX9_step_143 (by decide) ?_
              refine A_putI gf_X9_67 rfl dX9_step_147 ?_
              refine A_aload0 dX9_step_150 ?_
              refine A_dup dX9_step_151 rfl ?_
              refine A_getI gf_X9_50 rfl dX9_step_152 ?_
              refine A_val (y := nI p) ((wI_ne (by omega)).trans hx2.pl) ?_
              refine A_iconst (v := 1) dX9_step_155 (by decide) ?_
              refine A_iadd dX9_step_156 ?_
              rw [nI_1]
              refine A_putI gf_X9_50 rfl dX9_step_157 ?_
              have hfin : StQ T n z p μ (wI (wI (wI μ1 2 6 (nI p)) 2 5 (nI c.val)) 2 4 (nI (p + 1))) := StQ.sg (((g2.w (by omega)).w (by omega)).w (by omega)) hcA hl hd ((wI_ne (by omega)).trans ((wI_ne (by omega)).trans wI_same)) wI_same k1 ((wI_ne (by omega)).trans (wI_same.trans (if_pos (Int32.not_lt.mp c_139)).symm))
              refine A_vret dX9_step_160 ?_
              exact ⟨rfl, hfin⟩
          · have hd : isDg (nI c.val) := ⟨Int32.not_lt.mp c_113, Int32.not_lt.mp c_119⟩
            refine A_aload0 dX9_step_122 ?_
            refine A_vv0 lk_X9_73 yv_X9_takeNumber dX9_step_123 (rfl) (rfl) (T_X9_takeNumber hx2 wI_same) (by decide) (Nat.le_of_ble_eq_true rfl) (fun μ_123 h_123 => ?_)
            obtain ⟨k1, k2, k3, k4, k5⟩ := h_123
            have hfin := StQ.nu (z := z) (by omega) (g2.w (k := 6) (v := nI p) (by omega)) hcA hl hd k1 k2 k3 k4 k5
            refine A_goto (tgt := 160) dX9_step_126 (by decide) ?_
            refine A_vret dX9_step_160 ?_
            exact ⟨rfl, hfin⟩
      · have hl : isLt (nI c.val) := ⟨Int32.not_lt.mp c_94, Int32.not_lt.mp c_100⟩
        have hr : 1 ≤ lrQ T n (n - p) p := by
          rw [show n - p = (n - p - 1) + 1 by omega, show lrQ T n ((n - p - 1) + 1) p = lrQ T n (n - p - 1) (p + 1) + 1 from if_pos (by rw [hcA]; exact hl)]
          omega
        refine A_aload0 dX9_step_103 ?_
        refine A_vv0 lk_X9_70 yv_X9_takeWord dX9_step_104 (rfl) (rfl) (T_X9_takeWord hx2 wI_same hr) (by decide) (Nat.le_of_ble_eq_true rfl) (fun μ_104 h_104 => ?_)
        obtain ⟨k1, k2, k3, k4, k5⟩ := h_104
        have hfin := StQ.wd (z := z) g1.rg g1.n8 (g2.w (k := 6) (v := nI p) (by omega)) hcA hl k1 k2 k3 k4 k5 hr
        refine A_goto (tgt := 160) dX9_step_107 (by decide) ?_
        refine A_vret dX9_step_160 ?_
        exact ⟨rfl, hfin⟩
  · have ete : tk T n (nI z.val) p = (0, 0, 0, 0) := tk_end (Nat.not_lt.mp (fun y => c_68 (nI_lt y (by omega))))
    refine A_aload0 dX9_step_71 ?_
    refine A_iconst (v := 0) dX9_step_72 (by decide) ?_
    refine A_putI gf_X9_67 rfl dX9_step_73 ?_
    refine A_vret dX9_step_76 ?_
    refine ⟨rfl, (g2.w (by omega)).w (by omega), (wI_ne (by omega)).trans wI_same, ?_, ?_⟩
    · rw [ete]; exact (wI_ne (by omega)).trans ((wI_ne (by omega)).trans g1.pl)
    · rw [ete]; exact Or.inl ⟨rfl, wI_same⟩
def flM (μ : Mem) (k w : Int32) : Mem := wI (if μ.1 2 9 = 0 then wI (wI μ 2 9 k) 2 10 w else μ) 2 5 0
set_option maxHeartbeats 100000 in
set_option maxRecDepth 100000 in
theorem T_X9_fail {l : Launch} {G : Wd} {x y : Int32} {μ : Mem}  : Mt l G KC yX9_fail cX9_fail 3 none 1 [.ref (gA G 2), .int x, .int y] μ (Qv (fun μ' => μ' = flM μ x y)) := by
  refine Mt.of (own := RX9) (n := 0) (by decide) rfl [some (.ref (gA G 2)), some (.int x), some (.int y)] rfl (Nat.le_of_ble_eq_true rfl) ?_
  refine A_aload0 dX9_fail_0 ?_
  refine A_getI gf_X9_53 rfl dX9_fail_1 ?_
  refine A_if_ne (tgt := 17) dX9_fail_4 (by decide) (fun c_4 => ?_) (fun c_4 => ?_)
  · refine A_aload0 dX9_fail_17 ?_
    refine A_iconst (v := 0) dX9_fail_18 (by decide) ?_
    refine A_putI gf_X9_67 rfl dX9_fail_19 ?_
    refine A_vret dX9_fail_22 ?_
    exact ⟨rfl, by unfold flM; rw [if_neg c_4]⟩
  · refine A_aload0 dX9_fail_7 ?_
    refine A_iload1 dX9_fail_8 ?_
    refine A_putI gf_X9_53 rfl dX9_fail_9 ?_
    refine A_aload0 dX9_fail_12 ?_
    refine A_iload2 dX9_fail_13 ?_
    refine A_putI gf_X9_58 rfl dX9_fail_14 ?_
    refine A_aload0 dX9_fail_17 ?_
    refine A_iconst (v := 0) dX9_fail_18 (by decide) ?_
    refine A_putI gf_X9_67 rfl dX9_fail_19 ?_
    refine A_vret dX9_fail_22 ?_
    exact ⟨rfl, by unfold flM; rw [if_pos c_4]⟩
set_option maxHeartbeats 100000 in
set_option maxRecDepth 100000 in
theorem T_X9_refuse {l : Launch} {G : Wd} {μ : Mem}  : Mt l G KC yX9_refuse cX9_refuse 1 none 2 [.ref (gA G 2)] μ (Qv (fun μ' => μ' = flM μ (if μ.1 2 5 = 1 then 1 else 2) (μ.1 2 6))) := by
  refine Mt.of (own := RX9) (n := 0) (by decide) rfl [some (.ref (gA G 2))] rfl (Nat.le_of_ble_eq_true rfl) ?_
  refine A_aload0 dX9_refuse_0 ?_
  refine A_aload0 dX9_refuse_1 ?_
  refine A_getI gf_X9_67 rfl dX9_refuse_2 ?_
  refine A_iconst (v := 1) dX9_refuse_5 (by decide) ?_
  refine A_icmp_ne (tgt := 13) dX9_refuse_6 (by decide) (fun c_6 => ?_) (fun c_6 => ?_)
  · refine A_iconst (v := 2) dX9_refuse_13 (by decide) ?_
    refine A_aload0 dX9_refuse_14 ?_
    refine A_getI gf_X9_64 rfl dX9_refuse_15 ?_
    refine A_vv2 lk_X9_93 yv_X9_fail dX9_refuse_18 (rfl) (rfl) (T_X9_fail) (by decide) (Nat.le_of_ble_eq_true rfl) (fun μ_18 h_18 => ?_)
    refine A_vret dX9_refuse_21 ?_
    exact ⟨rfl, h_18.trans (by rw [if_neg c_6])⟩
  · refine A_iconst (v := 1) dX9_refuse_9 (by decide) ?_
    refine A_goto (tgt := 14) dX9_refuse_10 (by decide) ?_
    refine A_aload0 dX9_refuse_14 ?_
    refine A_getI gf_X9_64 rfl dX9_refuse_15 ?_
    refine A_vv2 lk_X9_93 yv_X9_fail dX9_refuse_18 (rfl) (rfl) (T_X9_fail) (by decide) (Nat.le_of_ble_eq_true rfl) (fun μ_18 h_18 => ?_)
    refine A_vret dX9_refuse_21 ?_
    exact ⟨rfl, h_18.trans (by rw [if_pos c_6])⟩

/-! the constructors of the reader of tokens, of the class, of the reference -/
/-- the keys as they are being laid -/
def kst (x : Int32) (z : Nat × List Int64) : Nat × List Int64 := if x = 32 then (z.1 + 1, z.2) else if z.1 < 26 then (z.1, z.2.set z.1 (z.2.getD z.1 0 * 27 + (x - 97 + 1).toInt64)) else z
def kfl (l : List Int32) (z : Nat × List Int64) : Nat × List Int64 := l.foldl (fun z x => kst x z) z
def kmem (μ : Mem) (ks : List Int64) : Mem := (μ.1, fun i j => if i = 3 then ks.getD j 0 else μ.2.1 i j, μ.2.2)
set_option maxRecDepth 100000 in
theorem kfl_all : (kfl wdB (0, List.replicate 26 0)).2 = wdK.map e27 := by decide +kernel
theorem kfl_cons {x : Int32} {l : List Int32} {z : Nat × List Int64} : kfl (x :: l) z = kfl l (kst x z) := rfl
set_option maxHeartbeats 200000 in
theorem kmem_wL {μ : Mem} {ks : List Int64} {w : Nat} {v : Int64} (hw : w < ks.length) : wL (kmem μ ks) 3 w v = kmem μ (ks.set w v) := by
  have h : (wL (kmem μ ks) 3 w v).2.1 = (kmem μ (ks.set w v)).2.1 := by
    funext i j
    show (if i = 3 ∧ j = w then v else if i = 3 then ks.getD j 0 else μ.2.1 i j) = if i = 3 then (ks.set w v).getD j 0 else μ.2.1 i j
    by_cases e1 : i = 3
    · rw [if_pos e1, if_pos e1]
      by_cases e2 : j = w
      · rw [if_pos ⟨e1, e2⟩, e2, List.getD_eq_getElem?_getD, List.getElem?_set_self hw]
        rfl
      · rw [if_neg (fun q => e2 q.2), List.getD_eq_getElem?_getD, List.getD_eq_getElem?_getD, List.getElem?_set_ne (fun q => e2 q.symm)]
    · rw [if_neg (fun q => e1 q.1), if_neg e1, if_neg e1]
  show ((kmem μ ks).1, (wL (kmem μ ks) 3 w v).2.1, μ.2.2) = (μ.1, (kmem μ (ks.set w v)).2.1, μ.2.2)
  rw [h]
  rfl
set_option maxHeartbeats 200000 in
theorem kmem_at {μ : Mem} {ks : List Int64} {w : Nat} : (kmem μ ks).2.1 3 w = ks.getD w 0 := by
  show (if (3 : Nat) = 3 then ks.getD w 0 else μ.2.1 3 w) = ks.getD w 0
  exact if_pos rfl
set_option maxHeartbeats 200000 in
theorem kmem_0 {μ : Mem} (h : ∀ k, μ.2.1 3 k = 0) : μ = kmem μ (List.replicate 26 0) := by
  have h1 : μ.2.1 = (kmem μ (List.replicate 26 0)).2.1 := by
    funext i j
    show μ.2.1 i j = if i = 3 then (List.replicate 26 (0 : Int64)).getD j 0 else μ.2.1 i j
    by_cases e1 : i = 3
    · rw [if_pos e1, e1, h j, List.getD_eq_getElem?_getD, List.getElem?_replicate]
      split <;> rfl
    · rw [if_neg e1]
  show (μ.1, μ.2.1, μ.2.2) = (μ.1, (kmem μ (List.replicate 26 0)).2.1, μ.2.2)
  rw [← h1]
set_option maxHeartbeats 200000 in
theorem wdB_drop {j : Nat} (h : j < 121) : wdB.drop j = wdB.getD j 0 :: wdB.drop (j + 1) := by
  have hl : j < wdB.length := h
  rw [List.drop_eq_getElem_cons hl, List.getD_eq_getElem?_getD, List.getElem?_eq_getElem hl]
  rfl

set_option maxHeartbeats 1000000 in
set_option maxRecDepth 100000 in
theorem L_tokens {l : Launch} {G : Wd} {μ : Mem} {L : Lp} {kf : List Int64} (hO : okB G) (hW : okWd G) (hL : (2, 1) ∈ L) : ∀ (q j w : Nat) (ks : List Int64) (c4 : Option Value), q + j = 121 → w ≤ j → ks.length = 26 → (kfl (wdB.drop j) (w, ks)).2 = kf → NWk l G KC RX9 cX9_init 5 4 none "<init>" 1 26 (Qk none (kmem μ kf) L 4) 1 26 L 4 27 [some (.ref (gA G 2)), some (.ref (gA G 1)), some (.int (nI w)), some (.int (nI j)), c4] [] (kmem μ ks) := by
  intro q
  induction q with
  | zero =>
    intro j w ks c4 hq hw hk hf
    have ej : j = 121 := by omega
    subst ej
    have ek : ks = kf := hf
    subst ek
    refine B_iload3 dX9_init_27 ?_
    refine B_ldcS (okWd_k hW) dX9_init_28 ?_
    refine B_cT0 hO (okWd_o hW) (N_length hO hW) lk_X9_25 yv_J0_length_8abf5 (by decide) (by decide) (by decide) (Nat.le_of_ble_eq_true rfl) dX9_init_30 ?_
    refine B_icmp_ge (tgt := 86) dX9_init_33 (by decide) (fun _ => ?_) (fun c => absurd (Int32.le_refl _) c)
    exact B_vret hO (by decide) (by decide) dX9_init_86 ⟨rfl, rfl, rfl, rfl⟩
  | succ q ih =>
    intro j w ks c4 hq hw hk hf
    have hj : j < 121 := by omega
    rw [wdB_drop hj, kfl_cons] at hf
    have nx : ∀ (w' : Nat) (ks' : List Int64), w' ≤ j + 1 → ks'.length = 26 → (kfl (wdB.drop (j + 1)) (w', ks')).2 = kf → NWk l G KC RX9 cX9_init 5 4 none "<init>" 1 26 (Qk none (kmem μ kf) L 4) 1 26 L 4 80 [some (.ref (gA G 2)), some (.ref (gA G 1)), some (.int (nI w')), some (.int (nI j)), some (.int (wdB.getD j 0))] [] (kmem μ ks') := by
      intro w' ks' h1 h2 h3
      refine B_iinc3 (v := nI (j + 1)) dX9_init_80 (nI_1 j) rfl (by decide) ?_
      refine B_goto (tgt := 27) dX9_init_83 (by decide) ?_
      exact ih (j + 1) w' ks' _ (by omega) h1 h2 h3
    refine B_iload3 dX9_init_27 ?_
    refine B_ldcS (okWd_k hW) dX9_init_28 ?_
    refine B_cT0 hO (okWd_o hW) (N_length hO hW) lk_X9_25 yv_J0_length_8abf5 (by decide) (by decide) (by decide) (Nat.le_of_ble_eq_true rfl) dX9_init_30 ?_
    refine B_icmp_ge (tgt := 86) dX9_init_33 (by decide) (fun c => absurd c (nI_ge hj (by decide))) (fun _ => ?_)
    refine B_ldcS (okWd_k hW) dX9_init_36 ?_
    refine B_iload3 dX9_init_38 ?_
    refine B_cT1 hO (okWd_o hW) (N_charAt hO hW hj) lk_X9_31 yv_J0_charAt_5068e (by decide) (by decide) (by decide) (Nat.le_of_ble_eq_true rfl) dX9_init_39 ?_
    refine B_istore4 dX9_init_42 rfl (by decide) ?_
    refine B_iload4 dX9_init_44 ?_
    refine B_bipush (v := 32) dX9_init_46 (by decide) ?_
    refine B_icmp_ne (tgt := 57) dX9_init_48 (by decide) (fun c => ?_) (fun c => ?_)
    · have ek : kst (wdB.getD j 0) (w, ks) = if w < 26 then (w, ks.set w (ks.getD w 0 * 27 + (wdB.getD j 0 - 97 + 1).toInt64)) else (w, ks) := if_neg c
      rw [ek] at hf
      refine B_iload2 dX9_init_57 ?_
      refine B_bipush (v := nI 26) dX9_init_58 (by decide) ?_
      refine B_icmp_ge (tgt := 80) dX9_init_60 (by decide) (fun g => ?_) (fun g => ?_)
      · have hw2 : ¬ w < 26 := fun y => absurd g (nI_ge y (by decide))
        rw [if_neg hw2] at hf
        exact nx w ks (by omega) hk hf
      · have hw2 : w < 26 := Nat.not_le.mp (fun y => g (nI_le y (by omega)))
        rw [if_pos hw2] at hf
        refine B_aload0 dX9_init_63 ?_
        refine B_getR gf_X9_19 rfl (by decide) hL dX9_init_64 ?_
        refine B_iload2 dX9_init_67 ?_
        refine B_aload0 dX9_init_68 ?_
        refine B_getR gf_X9_19 rfl (by decide) hL dX9_init_69 ?_
        refine B_iload2 dX9_init_72 ?_
        refine B_lald (N := 26) rfl (by decide) (vp_in_nI hw2 (by decide)) dX9_init_73 ?_
        refine B_vall (y := ks.getD w 0) ((congrArg (fun z => (kmem μ ks).2.1 3 z) (nI_c (by omega))).trans kmem_at) ?_
        refine B_iload4 dX9_init_74 ?_
        refine B_cS2 hO (N_longer hO) lk_X9_35 ys_X9_longer (by decide) (by decide) (by decide) (Nat.le_of_ble_eq_true rfl) dX9_init_76 ?_
        refine B_last (N := 26) rfl (by decide) (vp_in_nI hw2 (by decide)) dX9_init_79 ?_
        refine B_mem (μ' := kmem μ (ks.set w (ks.getD w 0 * 27 + (wdB.getD j 0 - 97 + 1).toInt64))) ((congrArg (fun z => wL (kmem μ ks) 3 z (ks.getD w 0 * 27 + (wdB.getD j 0 - 97 + 1).toInt64)) (nI_c (by omega))).trans (kmem_wL (by omega))) ?_
        exact nx w _ (by omega) (by rw [List.length_set]; exact hk) hf
    · have ek : kst (wdB.getD j 0) (w, ks) = (w + 1, ks) := if_pos c
      rw [ek] at hf
      refine B_iinc2 (v := nI (w + 1)) dX9_init_51 (nI_1 w) rfl (by decide) ?_
      refine B_goto (tgt := 80) dX9_init_54 (by decide) ?_
      exact nx (w + 1) ks (by omega) hk hf
set_option maxHeartbeats 400000 in
set_option maxRecDepth 100000 in
theorem M_X9_2 {l : Launch} {G : Wd} {μ : Mem} {L : Lp} (hO : okB G) (hW : okWd G) (hg : μ.2.2 = gA G 110) (hz : ∀ k, μ.2.1 3 k = 0) : Mb l G KC yX9_init cX9_init 5 none 4 1 26 [.ref (gA G 2), .ref (gA G 1)] μ L 3 (Qk none (kmem μ (wdK.map e27)) ((2, 1) :: (2, 3) :: (2, 0) :: L) 4) := by
  refine Mb.of (own := RX9) (nm := "<init>") (n := 3) (by decide +kernel) rfl rfl [some (.ref (gA G 2)), some (.ref (gA G 1)), none, none, none] rfl (Nat.le_of_ble_eq_true rfl) ?_
  refine B_aload0 dX9_init_0 ?_
  refine B_obj ol_X9 (by decide) dX9_init_1 ?_
  refine B_aload0 dX9_init_4 ?_
  refine B_aload1 dX9_init_5 ?_
  refine B_putR gf_X9_7 (fun _ _ _ h => by cases h; rfl) (fun _ => rfl) rfl (by decide) rfl rfl dX9_init_6 ?_
  refine B_aload0 dX9_init_9 ?_
  refine B_ldcS (okWd_g hW) dX9_init_10 ?_
  rw [← hg]
  refine B_putT gf_X9_15 (fun _ _ _ h => by cases h; rfl) (fun _ => rfl) rfl (by decide) rfl rfl dX9_init_12 ?_
  refine B_aload0 dX9_init_15 ?_
  refine B_bipush (v := 26) dX9_init_16 (by decide) ?_
  refine B_newl (N := 26) (n' := 4) (kc' := 1) (sl' := 26) hO ac_long rfl (by decide) (by decide) (by decide) rfl rfl rfl (by decide) (by decide) dX9_init_18 ?_
  refine B_putR gf_X9_19 (fun _ _ _ h => by cases h; rfl) (fun _ => rfl) rfl (by decide) rfl rfl dX9_init_20 ?_
  refine B_iconst (v := nI 0) dX9_init_23 (by decide) ?_
  refine B_istore2 dX9_init_24 rfl (by decide) ?_
  refine B_iconst (v := nI 0) dX9_init_25 (by decide) ?_
  refine B_istore3 dX9_init_26 rfl (by decide) ?_
  refine B_mem (kmem_0 hz) ?_
  exact L_tokens hO hW List.mem_cons_self 121 0 0 _ none rfl (Nat.le_refl 0) (by decide) kfl_all
def LC11 : Lp := (0, 16) :: (80, 11) :: (80, 10) :: (80, 8) :: (80, 7) :: (80, 2) :: (80, 1) :: (80, 0) :: (0, 15) :: (76, 5) :: (76, 4) :: (76, 3) :: (76, 2) :: (76, 1) :: (76, 0) :: (0, 14) :: (73, 4) :: (73, 3) :: (73, 2) :: (73, 1) :: (73, 0) :: (47, 4) :: (68, 11) :: (68, 10) :: (68, 8) :: (68, 7) :: (68, 2) :: (68, 1) :: (68, 0) :: (47, 3) :: (63, 11) :: (63, 10) :: (63, 8) :: (63, 7) :: (63, 2) :: (63, 1) :: (63, 0) :: (47, 2) :: (58, 11) :: (58, 10) :: (58, 8) :: (58, 7) :: (58, 2) :: (58, 1) :: (58, 0) :: (47, 1) :: (53, 11) :: (53, 10) :: (53, 8) :: (53, 7) :: (53, 2) :: (53, 1) :: (53, 0) :: (47, 0) :: (48, 11) :: (48, 10) :: (48, 8) :: (48, 7) :: (48, 2) :: (48, 1) :: (48, 0) :: (0, 13) :: (0, 12) :: (43, 4) :: (43, 3) :: (43, 2) :: (43, 1) :: (43, 0) :: (0, 11) :: (36, 10) :: (36, 9) :: (36, 8) :: (36, 7) :: (36, 6) :: (36, 5) :: (0, 10) :: (35, 2) :: (35, 1) :: (35, 0) :: (0, 9) :: (30, 5) :: (30, 4) :: (30, 2) :: (30, 1) :: (0, 8) :: (25, 5) :: (25, 4) :: (25, 2) :: (25, 1) :: (0, 7) :: (24, 1) :: (24, 0) :: (0, 6) :: (14, 10) :: (14, 9) :: (14, 8) :: (14, 7) :: (14, 6) :: (14, 5) :: (14, 4) :: (14, 3) :: (14, 2) :: (0, 5) :: (4, 10) :: (4, 9) :: (4, 8) :: (4, 7) :: (4, 6) :: (4, 5) :: (4, 4) :: (4, 3) :: (4, 2) :: (0, 4) :: (2, 1) :: (2, 3) :: (2, 0) :: (0, 0) :: []
set_option maxHeartbeats 4000000 in
set_option maxRecDepth 100000 in
theorem M_X11 {l : Launch} {G : Wd} {μ : Mem} (hO : okB G) (hW : okWd G) (hg : μ.2.2 = gA G 110) (hz : ∀ k, μ.2.1 3 k = 0) : Mb l G KC yX11_init cX11_init 2 none 5 84 12795 [.ref (gA G 0)] μ [] 1 (Qk none (wI (wI (wI (wI (wI (kmem (wI μ 0 3 (-1)) (wdK.map e27)) 48 3 0) 53 3 1) 58 3 2) 63 3 3) 68 3 4) LC11 85) := by
  refine Mb.of (own := RX11) (nm := "<init>") (n := 1) (by decide +kernel) rfl rfl [some (.ref (gA G 0)), none] rfl (Nat.le_of_ble_eq_true rfl) ?_
  refine B_aload0 dX11_init_0 ?_
  refine B_obj ol_X11 (by decide) dX11_init_1 ?_
  refine B_aload0 dX11_init_4 ?_
  refine B_sipush (v := 800) dX11_init_5 (by decide) ?_
  refine B_newb (N := 800) (n' := 2) (kc' := 1) (sl' := 800) hO ac_byte rfl (by decide) (by decide) (by decide) rfl rfl rfl (by decide) (by decide) dX11_init_8 ?_
  refine B_putR gf_X11_9 (fun _ _ _ h => by cases h; rfl) (fun _ => rfl) rfl (by decide) rfl rfl dX11_init_10 ?_
  refine B_aload0 dX11_init_13 ?_
  refine B_iconst (v := -1) dX11_init_14 (by decide) ?_
  refine B_putI gf_X11_13 (fun _ _ _ h => by cases h; rfl) (fun _ => rfl) rfl (by decide) dX11_init_15 ?_
  refine B_aload0 dX11_init_18 ?_
  refine B_new (n' := 3) (kc' := 2) (sl' := 811) hO (cn_X9 rfl) rfl rfl rfl rfl (by decide) (by decide) dX11_init_19 ?_
  refine B_dup dX11_init_22 rfl ?_
  refine B_aload0 dX11_init_23 ?_
  refine B_getR gf_X11_9 rfl (by decide) (by decide) dX11_init_24 ?_
  refine B_cI1 (kc' := 3) (sl' := 837) hO (M_X9_2 hO hW hg hz) lk_X11_19 yi_X9 (by decide) rfl rfl (by decide) (by decide) rfl (Nat.le_of_ble_eq_true rfl) dX11_init_27 ?_
  refine B_putR gf_X11_22 (fun _ _ _ h => by cases h; rfl) (fun _ => rfl) rfl (by decide) rfl rfl dX11_init_30 ?_
  refine B_aload0 dX11_init_33 ?_
  refine B_new (n' := 5) (kc' := 4) (sl' := 848) hO (cn_X2 rfl) rfl rfl rfl rfl (by decide) (by decide) dX11_init_34 ?_
  refine B_dup dX11_init_37 rfl ?_
  refine B_cI0 (kc' := 13) (sl' := 967) hO (M_X2_4 hO) lk_X11_28 yi_X2 (by decide) rfl rfl (by decide) (by decide) rfl (Nat.le_of_ble_eq_true rfl) dX11_init_38 ?_
  refine B_putR gf_X11_29 (fun _ _ _ h => by cases h; rfl) (fun _ => rfl) rfl (by decide) rfl rfl dX11_init_41 ?_
  refine B_aload0 dX11_init_44 ?_
  refine B_new (n' := 15) (kc' := 14) (sl' := 978) hO (cn_X2 rfl) rfl rfl rfl rfl (by decide) (by decide) dX11_init_45 ?_
  refine B_dup dX11_init_48 rfl ?_
  refine B_cI0 (kc' := 23) (sl' := 1097) hO (M_X2_14 hO) lk_X11_28 yi_X2 (by decide) rfl rfl (by decide) (by decide) rfl (Nat.le_of_ble_eq_true rfl) dX11_init_49 ?_
  refine B_putR gf_X11_33 (fun _ _ _ h => by cases h; rfl) (fun _ => rfl) rfl (by decide) rfl rfl dX11_init_52 ?_
  refine B_aload0 dX11_init_55 ?_
  refine B_new (n' := 25) (kc' := 24) (sl' := 1099) hO (cn_X3 rfl) rfl rfl rfl rfl (by decide) (by decide) dX11_init_56 ?_
  refine B_dup dX11_init_59 rfl ?_
  refine B_aload0 dX11_init_60 ?_
  refine B_getR gf_X11_22 rfl (by decide) (by decide) dX11_init_61 ?_
  refine B_aload0 dX11_init_64 ?_
  refine B_getR gf_X11_33 rfl (by decide) (by decide) dX11_init_65 ?_
  refine B_cI2 (kc' := 24) (sl' := 1099) hO (M_X3_24 hO) lk_X11_38 yi_X3 (by decide) rfl rfl (by decide) (by decide) rfl (Nat.le_of_ble_eq_true rfl) dX11_init_68 ?_
  refine B_putR gf_X11_41 (fun _ _ _ h => by cases h; rfl) (fun _ => rfl) rfl (by decide) rfl rfl dX11_init_71 ?_
  refine B_aload0 dX11_init_74 ?_
  refine B_new (n' := 26) (kc' := 25) (sl' := 1105) hO (cn_X6 rfl) rfl rfl rfl rfl (by decide) (by decide) dX11_init_75 ?_
  refine B_dup dX11_init_78 rfl ?_
  refine B_cI0 (kc' := 29) (sl' := 1677) hO (M_X6_25 hO) lk_X11_47 yi_X6 (by decide) rfl rfl (by decide) (by decide) rfl (Nat.le_of_ble_eq_true rfl) dX11_init_79 ?_
  refine B_putR gf_X11_48 (fun _ _ _ h => by cases h; rfl) (fun _ => rfl) rfl (by decide) rfl rfl dX11_init_82 ?_
  refine B_aload0 dX11_init_85 ?_
  refine B_new (n' := 31) (kc' := 30) (sl' := 1683) hO (cn_X6 rfl) rfl rfl rfl rfl (by decide) (by decide) dX11_init_86 ?_
  refine B_dup dX11_init_89 rfl ?_
  refine B_cI0 (kc' := 34) (sl' := 2255) hO (M_X6_30 hO) lk_X11_47 yi_X6 (by decide) rfl rfl (by decide) (by decide) rfl (Nat.le_of_ble_eq_true rfl) dX11_init_90 ?_
  refine B_putR gf_X11_52 (fun _ _ _ h => by cases h; rfl) (fun _ => rfl) rfl (by decide) rfl rfl dX11_init_93 ?_
  refine B_aload0 dX11_init_96 ?_
  refine B_new (n' := 36) (kc' := 35) (sl' := 2259) hO (cn_X7 rfl) rfl rfl rfl rfl (by decide) (by decide) dX11_init_97 ?_
  refine B_dup dX11_init_100 rfl ?_
  refine B_aload0 dX11_init_101 ?_
  refine B_getR gf_X11_22 rfl (by decide) (by decide) dX11_init_102 ?_
  refine B_aload0 dX11_init_105 ?_
  refine B_getR gf_X11_29 rfl (by decide) (by decide) dX11_init_106 ?_
  refine B_aload0 dX11_init_109 ?_
  refine B_getR gf_X11_52 rfl (by decide) (by decide) dX11_init_110 ?_
  refine B_cI3 (kc' := 35) (sl' := 2259) hO (M_X7_35 hO) lk_X11_57 yi_X7 (by decide) rfl rfl (by decide) (by decide) rfl (Nat.le_of_ble_eq_true rfl) dX11_init_113 ?_
  refine B_putR gf_X11_60 (fun _ _ _ h => by cases h; rfl) (fun _ => rfl) rfl (by decide) rfl rfl dX11_init_116 ?_
  refine B_aload0 dX11_init_119 ?_
  refine B_new (n' := 37) (kc' := 36) (sl' := 2270) hO (cn_X1 rfl) rfl rfl rfl rfl (by decide) (by decide) dX11_init_120 ?_
  refine B_dup dX11_init_123 rfl ?_
  refine B_cI0 (kc' := 42) (sl' := 4070) hO (M_X1_36 hO) lk_X11_66 yi_X1 (by decide) rfl rfl (by decide) (by decide) rfl (Nat.le_of_ble_eq_true rfl) dX11_init_124 ?_
  refine B_putR gf_X11_67 (fun _ _ _ h => by cases h; rfl) (fun _ => rfl) rfl (by decide) rfl rfl dX11_init_127 ?_
  refine B_aload0 dX11_init_130 ?_
  refine B_new (n' := 44) (kc' := 43) (sl' := 4078) hO (cn_X4 rfl) rfl rfl rfl rfl (by decide) (by decide) dX11_init_131 ?_
  refine B_dup dX11_init_134 rfl ?_
  refine B_aload0 dX11_init_135 ?_
  refine B_getR gf_X11_67 rfl (by decide) (by decide) dX11_init_136 ?_
  refine B_aload0 dX11_init_139 ?_
  refine B_getR gf_X11_29 rfl (by decide) (by decide) dX11_init_140 ?_
  refine B_cI2 (kc' := 46) (sl' := 4918) hO (M_X4_43 hO) lk_X11_73 yi_X4 (by decide) rfl rfl (by decide) (by decide) rfl (Nat.le_of_ble_eq_true rfl) dX11_init_143 ?_
  refine B_putR gf_X11_76 (fun _ _ _ h => by cases h; rfl) (fun _ => rfl) rfl (by decide) rfl rfl dX11_init_146 ?_
  refine B_aload0 dX11_init_149 ?_
  refine B_iconst (v := 5) dX11_init_150 (by decide) ?_
  refine B_newq (N := 5) (n' := 48) (kc' := 47) (sl' := 4923) hO (okWd_a hW) cl_X5 rfl (by decide) (by decide) (by decide) rfl rfl rfl (by decide) (by decide) dX11_init_151 ?_
  refine B_putR gf_X11_82 (fun _ _ _ h => by cases h; rfl) (fun _ => rfl) rfl (by decide) rfl rfl dX11_init_154 ?_
  refine B_iconst (v := 0) dX11_init_157 (by decide) ?_
  refine B_istore1 dX11_init_158 rfl (by decide) ?_
  refine B_iload1 dX11_init_159 ?_
  refine B_iconst (v := 5) dX11_init_160 (by decide) ?_
  refine B_icmp_ge (tgt := 196) dX11_init_161 (by decide) (fun c => absurd c (by decide)) (fun _ => ?_)
  refine B_aload0 dX11_init_164 ?_
  refine B_getR gf_X11_82 rfl (by decide) (by decide) dX11_init_165 ?_
  refine B_iload1 dX11_init_168 ?_
  refine B_new (n' := 49) (kc' := 48) (sl' := 4938) hO (cn_X5 rfl) rfl rfl rfl rfl (by decide) (by decide) dX11_init_169 ?_
  refine B_dup dX11_init_172 rfl ?_
  refine B_aload0 dX11_init_173 ?_
  refine B_getR gf_X11_67 rfl (by decide) (by decide) dX11_init_174 ?_
  refine B_aload0 dX11_init_177 ?_
  refine B_getR gf_X11_76 rfl (by decide) (by decide) dX11_init_178 ?_
  refine B_aload0 dX11_init_181 ?_
  refine B_getR gf_X11_29 rfl (by decide) (by decide) dX11_init_182 ?_
  refine B_iload1 dX11_init_185 ?_
  refine B_cI4 (kc' := 52) (sl' := 6378) hO (M_X5_48 hO) lk_X11_86 yi_X5 (by decide) rfl rfl (by decide) (by decide) rfl (Nat.le_of_ble_eq_true rfl) dX11_init_186 ?_
  refine B_astq (N := 5) (j := 0) rfl rfl (by decide) rfl (by decide) (by decide) (by unfold vp_in; decide) dX11_init_189 ?_
  refine B_iinc1 (v := 1) dX11_init_190 (by decide) rfl (by decide) ?_
  refine B_goto (tgt := 159) dX11_init_193 (by decide) ?_
  refine B_iload1 dX11_init_159 ?_
  refine B_iconst (v := 5) dX11_init_160 (by decide) ?_
  refine B_icmp_ge (tgt := 196) dX11_init_161 (by decide) (fun c => absurd c (by decide)) (fun _ => ?_)
  refine B_aload0 dX11_init_164 ?_
  refine B_getR gf_X11_82 rfl (by decide) (by decide) dX11_init_165 ?_
  refine B_iload1 dX11_init_168 ?_
  refine B_new (n' := 54) (kc' := 53) (sl' := 6393) hO (cn_X5 rfl) rfl rfl rfl rfl (by decide) (by decide) dX11_init_169 ?_
  refine B_dup dX11_init_172 rfl ?_
  refine B_aload0 dX11_init_173 ?_
  refine B_getR gf_X11_67 rfl (by decide) (by decide) dX11_init_174 ?_
  refine B_aload0 dX11_init_177 ?_
  refine B_getR gf_X11_76 rfl (by decide) (by decide) dX11_init_178 ?_
  refine B_aload0 dX11_init_181 ?_
  refine B_getR gf_X11_29 rfl (by decide) (by decide) dX11_init_182 ?_
  refine B_iload1 dX11_init_185 ?_
  refine B_cI4 (kc' := 57) (sl' := 7833) hO (M_X5_53 hO) lk_X11_86 yi_X5 (by decide) rfl rfl (by decide) (by decide) rfl (Nat.le_of_ble_eq_true rfl) dX11_init_186 ?_
  refine B_astq (N := 5) (j := 1) rfl rfl (by decide) rfl (by decide) (by decide) (by unfold vp_in; decide) dX11_init_189 ?_
  refine B_iinc1 (v := 2) dX11_init_190 (by decide) rfl (by decide) ?_
  refine B_goto (tgt := 159) dX11_init_193 (by decide) ?_
  refine B_iload1 dX11_init_159 ?_
  refine B_iconst (v := 5) dX11_init_160 (by decide) ?_
  refine B_icmp_ge (tgt := 196) dX11_init_161 (by decide) (fun c => absurd c (by decide)) (fun _ => ?_)
  refine B_aload0 dX11_init_164 ?_
  refine B_getR gf_X11_82 rfl (by decide) (by decide) dX11_init_165 ?_
  refine B_iload1 dX11_init_168 ?_
  refine B_new (n' := 59) (kc' := 58) (sl' := 7848) hO (cn_X5 rfl) rfl rfl rfl rfl (by decide) (by decide) dX11_init_169 ?_
  refine B_dup dX11_init_172 rfl ?_
  refine B_aload0 dX11_init_173 ?_
  refine B_getR gf_X11_67 rfl (by decide) (by decide) dX11_init_174 ?_
  refine B_aload0 dX11_init_177 ?_
  refine B_getR gf_X11_76 rfl (by decide) (by decide) dX11_init_178 ?_
  refine B_aload0 dX11_init_181 ?_
  refine B_getR gf_X11_29 rfl (by decide) (by decide) dX11_init_182 ?_
  refine B_iload1 dX11_init_185 ?_
  refine B_cI4 (kc' := 62) (sl' := 9288) hO (M_X5_58 hO) lk_X11_86 yi_X5 (by decide) rfl rfl (by decide) (by decide) rfl (Nat.le_of_ble_eq_true rfl) dX11_init_186 ?_
  refine B_astq (N := 5) (j := 2) rfl rfl (by decide) rfl (by decide) (by decide) (by unfold vp_in; decide) dX11_init_189 ?_
  refine B_iinc1 (v := 3) dX11_init_190 (by decide) rfl (by decide) ?_
  refine B_goto (tgt := 159) dX11_init_193 (by decide) ?_
  refine B_iload1 dX11_init_159 ?_
  refine B_iconst (v := 5) dX11_init_160 (by decide) ?_
  refine B_icmp_ge (tgt := 196) dX11_init_161 (by decide) (fun c => absurd c (by decide)) (fun _ => ?_)
  refine B_aload0 dX11_init_164 ?_
  refine B_getR gf_X11_82 rfl (by decide) (by decide) dX11_init_165 ?_
  refine B_iload1 dX11_init_168 ?_
  refine B_new (n' := 64) (kc' := 63) (sl' := 9303) hO (cn_X5 rfl) rfl rfl rfl rfl (by decide) (by decide) dX11_init_169 ?_
  refine B_dup dX11_init_172 rfl ?_
  refine B_aload0 dX11_init_173 ?_
  refine B_getR gf_X11_67 rfl (by decide) (by decide) dX11_init_174 ?_
  refine B_aload0 dX11_init_177 ?_
  refine B_getR gf_X11_76 rfl (by decide) (by decide) dX11_init_178 ?_
  refine B_aload0 dX11_init_181 ?_
  refine B_getR gf_X11_29 rfl (by decide) (by decide) dX11_init_182 ?_
  refine B_iload1 dX11_init_185 ?_
  refine B_cI4 (kc' := 67) (sl' := 10743) hO (M_X5_63 hO) lk_X11_86 yi_X5 (by decide) rfl rfl (by decide) (by decide) rfl (Nat.le_of_ble_eq_true rfl) dX11_init_186 ?_
  refine B_astq (N := 5) (j := 3) rfl rfl (by decide) rfl (by decide) (by decide) (by unfold vp_in; decide) dX11_init_189 ?_
  refine B_iinc1 (v := 4) dX11_init_190 (by decide) rfl (by decide) ?_
  refine B_goto (tgt := 159) dX11_init_193 (by decide) ?_
  refine B_iload1 dX11_init_159 ?_
  refine B_iconst (v := 5) dX11_init_160 (by decide) ?_
  refine B_icmp_ge (tgt := 196) dX11_init_161 (by decide) (fun c => absurd c (by decide)) (fun _ => ?_)
  refine B_aload0 dX11_init_164 ?_
  refine B_getR gf_X11_82 rfl (by decide) (by decide) dX11_init_165 ?_
  refine B_iload1 dX11_init_168 ?_
  refine B_new (n' := 69) (kc' := 68) (sl' := 10758) hO (cn_X5 rfl) rfl rfl rfl rfl (by decide) (by decide) dX11_init_169 ?_
  refine B_dup dX11_init_172 rfl ?_
  refine B_aload0 dX11_init_173 ?_
  refine B_getR gf_X11_67 rfl (by decide) (by decide) dX11_init_174 ?_
  refine B_aload0 dX11_init_177 ?_
  refine B_getR gf_X11_76 rfl (by decide) (by decide) dX11_init_178 ?_
  refine B_aload0 dX11_init_181 ?_
  refine B_getR gf_X11_29 rfl (by decide) (by decide) dX11_init_182 ?_
  refine B_iload1 dX11_init_185 ?_
  refine B_cI4 (kc' := 72) (sl' := 12198) hO (M_X5_68 hO) lk_X11_86 yi_X5 (by decide) rfl rfl (by decide) (by decide) rfl (Nat.le_of_ble_eq_true rfl) dX11_init_186 ?_
  refine B_astq (N := 5) (j := 4) rfl rfl (by decide) rfl (by decide) (by decide) (by unfold vp_in; decide) dX11_init_189 ?_
  refine B_iinc1 (v := 5) dX11_init_190 (by decide) rfl (by decide) ?_
  refine B_goto (tgt := 159) dX11_init_193 (by decide) ?_
  refine B_iload1 dX11_init_159 ?_
  refine B_iconst (v := 5) dX11_init_160 (by decide) ?_
  refine B_icmp_ge (tgt := 196) dX11_init_161 (by decide) (fun _ => ?_) (fun c => absurd (by decide) c)
  refine B_aload0 dX11_init_196 ?_
  refine B_new (n' := 74) (kc' := 73) (sl' := 12205) hO (cn_X8 rfl) rfl rfl rfl rfl (by decide) (by decide) dX11_init_197 ?_
  refine B_dup dX11_init_200 rfl ?_
  refine B_aload0 dX11_init_201 ?_
  refine B_getR gf_X11_82 rfl (by decide) (by decide) dX11_init_202 ?_
  refine B_aload0 dX11_init_205 ?_
  refine B_getR gf_X11_76 rfl (by decide) (by decide) dX11_init_206 ?_
  refine B_aload0 dX11_init_209 ?_
  refine B_getR gf_X11_29 rfl (by decide) (by decide) dX11_init_210 ?_
  refine B_cI3 (kc' := 75) (sl' := 12325) hO (M_X8_73 hO) lk_X11_91 yi_X8 (by decide) rfl rfl (by decide) (by decide) rfl (Nat.le_of_ble_eq_true rfl) dX11_init_213 ?_
  refine B_putR gf_X11_94 (fun _ _ _ h => by cases h; rfl) (fun _ => rfl) rfl (by decide) rfl rfl dX11_init_216 ?_
  refine B_aload0 dX11_init_219 ?_
  refine B_new (n' := 77) (kc' := 76) (sl' := 12331) hO (cn_X0 rfl) rfl rfl rfl rfl (by decide) (by decide) dX11_init_220 ?_
  refine B_dup dX11_init_223 rfl ?_
  refine B_aload0 dX11_init_224 ?_
  refine B_getR gf_X11_82 rfl (by decide) (by decide) dX11_init_225 ?_
  refine B_aload0 dX11_init_228 ?_
  refine B_getR gf_X11_76 rfl (by decide) (by decide) dX11_init_229 ?_
  refine B_aload0 dX11_init_232 ?_
  refine B_getR gf_X11_29 rfl (by decide) (by decide) dX11_init_233 ?_
  refine B_cI3 (kc' := 79) (sl' := 12651) hO (M_X0_76 hO) lk_X11_100 yi_X0 (by decide) rfl rfl (by decide) (by decide) rfl (Nat.le_of_ble_eq_true rfl) dX11_init_236 ?_
  refine B_putR gf_X11_101 (fun _ _ _ h => by cases h; rfl) (fun _ => rfl) rfl (by decide) rfl rfl dX11_init_239 ?_
  refine B_aload0 dX11_init_242 ?_
  refine B_new (n' := 81) (kc' := 80) (sl' := 12663) hO (cn_X10 rfl) rfl rfl rfl rfl (by decide) (by decide) dX11_init_243 ?_
  refine B_dup dX11_init_246 rfl ?_
  refine B_aload0 dX11_init_247 ?_
  refine B_getR gf_X11_48 rfl (by decide) (by decide) dX11_init_248 ?_
  refine B_aload0 dX11_init_251 ?_
  refine B_getR gf_X11_76 rfl (by decide) (by decide) dX11_init_252 ?_
  refine B_aload0 dX11_init_255 ?_
  refine B_getR gf_X11_29 rfl (by decide) (by decide) dX11_init_256 ?_
  refine B_cI3 (kc' := 84) (sl' := 12795) hO (M_X10_80 hO) lk_X11_107 yi_X10 (by decide) rfl rfl (by decide) (by decide) rfl (Nat.le_of_ble_eq_true rfl) dX11_init_259 ?_
  refine B_putR gf_X11_110 (fun _ _ _ h => by cases h; rfl) (fun _ => rfl) rfl (by decide) rfl rfl dX11_init_262 ?_
  exact B_vret hO (by decide) (by decide) dX11_init_265 ⟨rfl, rfl, rfl, rfl⟩
set_option maxRecDepth 100000 in
theorem LC11_all : bAll KC LC11 = true := by decide +kernel
def LC12 : Lp := (0, 80) :: (0, 69) :: (0, 68) :: (0, 67) :: (0, 66) :: (0, 65) :: (0, 64) :: (0, 63) :: (0, 62) :: (0, 61) :: (0, 60) :: (0, 59) :: (0, 58) :: (0, 55) :: (0, 54) :: (0, 50) :: (0, 49) :: (0, 48) :: (0, 47) :: (0, 46) :: (0, 45) :: (0, 44) :: (0, 41) :: (0, 40) :: (0, 39) :: (0, 38) :: (0, 37) :: (0, 36) :: (0, 35) :: (0, 34) :: (0, 33) :: (0, 28) :: (0, 27) :: (0, 26) :: (0, 25) :: (0, 24) :: (0, 23) :: (0, 22) :: (0, 21) :: (0, 20) :: (0, 19) :: (0, 18) :: (0, 17) :: (0, 16) :: (0, 15) :: (0, 14) :: (0, 13) :: (0, 12) :: (0, 11) :: (0, 0) :: []
set_option maxHeartbeats 4000000 in
set_option maxRecDepth 100000 in
theorem M_X12 {l : Launch} {G : Wd} {μ : Mem} (hO : okB G) : Mb l G KM yX12_init cX12_init 1 none 1 50 15596 [.ref (gA G 0)] μ [] 1 (Qk none (wI μ 0 3 (-1)) LC12 51) := by
  refine Mb.of (own := RX12) (nm := "<init>") (n := 0) (by decide +kernel) rfl rfl [some (.ref (gA G 0))] rfl (Nat.le_of_ble_eq_true rfl) ?_
  refine B_aload0 dX12_init_0 ?_
  refine B_obj ol_X12 (by decide) dX12_init_1 ?_
  refine B_aload0 dX12_init_4 ?_
  refine B_sipush (v := 800) dX12_init_5 (by decide) ?_
  refine B_newi (N := 800) (n' := 2) (kc' := 1) (sl' := 800) hO ac_int rfl (by decide) (by decide) (by decide) rfl rfl rfl (by decide) (by decide) dX12_init_8 ?_
  refine B_putR gf_X12_7 (fun _ _ _ h => by cases h; rfl) (fun _ => rfl) rfl (by decide) rfl rfl dX12_init_10 ?_
  refine B_aload0 dX12_init_13 ?_
  refine B_iconst (v := -1) dX12_init_14 (by decide) ?_
  refine B_putI gf_X12_13 (fun _ _ _ h => by cases h; rfl) (fun _ => rfl) rfl (by decide) dX12_init_15 ?_
  refine B_aload0 dX12_init_18 ?_
  refine B_iconst (v := 5) dX12_init_19 (by decide) ?_
  refine B_newl (N := 5) (n' := 3) (kc' := 2) (sl' := 805) hO ac_long rfl (by decide) (by decide) (by decide) rfl rfl rfl (by decide) (by decide) dX12_init_20 ?_
  refine B_putR gf_X12_17 (fun _ _ _ h => by cases h; rfl) (fun _ => rfl) rfl (by decide) rfl rfl dX12_init_22 ?_
  refine B_aload0 dX12_init_25 ?_
  refine B_iconst (v := 5) dX12_init_26 (by decide) ?_
  refine B_newl (N := 5) (n' := 4) (kc' := 3) (sl' := 810) hO ac_long rfl (by decide) (by decide) (by decide) rfl rfl rfl (by decide) (by decide) dX12_init_27 ?_
  refine B_putR gf_X12_21 (fun _ _ _ h => by cases h; rfl) (fun _ => rfl) rfl (by decide) rfl rfl dX12_init_29 ?_
  refine B_aload0 dX12_init_32 ?_
  refine B_iconst (v := 5) dX12_init_33 (by decide) ?_
  refine B_newi (N := 5) (n' := 5) (kc' := 4) (sl' := 815) hO ac_int rfl (by decide) (by decide) (by decide) rfl rfl rfl (by decide) (by decide) dX12_init_34 ?_
  refine B_putR gf_X12_24 (fun _ _ _ h => by cases h; rfl) (fun _ => rfl) rfl (by decide) rfl rfl dX12_init_36 ?_
  refine B_aload0 dX12_init_39 ?_
  refine B_bipush (v := 40) dX12_init_40 (by decide) ?_
  refine B_newi (N := 40) (n' := 6) (kc' := 5) (sl' := 855) hO ac_int rfl (by decide) (by decide) (by decide) rfl rfl rfl (by decide) (by decide) dX12_init_42 ?_
  refine B_putR gf_X12_27 (fun _ _ _ h => by cases h; rfl) (fun _ => rfl) rfl (by decide) rfl rfl dX12_init_44 ?_
  refine B_aload0 dX12_init_47 ?_
  refine B_iconst (v := 5) dX12_init_48 (by decide) ?_
  refine B_newi (N := 5) (n' := 7) (kc' := 6) (sl' := 860) hO ac_int rfl (by decide) (by decide) (by decide) rfl rfl rfl (by decide) (by decide) dX12_init_49 ?_
  refine B_putR gf_X12_30 (fun _ _ _ h => by cases h; rfl) (fun _ => rfl) rfl (by decide) rfl rfl dX12_init_51 ?_
  refine B_aload0 dX12_init_54 ?_
  refine B_iconst (v := 5) dX12_init_55 (by decide) ?_
  refine B_newi (N := 5) (n' := 8) (kc' := 7) (sl' := 865) hO ac_int rfl (by decide) (by decide) (by decide) rfl rfl rfl (by decide) (by decide) dX12_init_56 ?_
  refine B_putR gf_X12_33 (fun _ _ _ h => by cases h; rfl) (fun _ => rfl) rfl (by decide) rfl rfl dX12_init_58 ?_
  refine B_aload0 dX12_init_61 ?_
  refine B_bipush (v := 40) dX12_init_62 (by decide) ?_
  refine B_newi (N := 40) (n' := 9) (kc' := 8) (sl' := 905) hO ac_int rfl (by decide) (by decide) (by decide) rfl rfl rfl (by decide) (by decide) dX12_init_64 ?_
  refine B_putR gf_X12_36 (fun _ _ _ h => by cases h; rfl) (fun _ => rfl) rfl (by decide) rfl rfl dX12_init_66 ?_
  refine B_aload0 dX12_init_69 ?_
  refine B_iconst (v := 5) dX12_init_70 (by decide) ?_
  refine B_newi (N := 5) (n' := 10) (kc' := 9) (sl' := 910) hO ac_int rfl (by decide) (by decide) (by decide) rfl rfl rfl (by decide) (by decide) dX12_init_71 ?_
  refine B_putR gf_X12_39 (fun _ _ _ h => by cases h; rfl) (fun _ => rfl) rfl (by decide) rfl rfl dX12_init_73 ?_
  refine B_aload0 dX12_init_76 ?_
  refine B_sipush (v := 300) dX12_init_77 (by decide) ?_
  refine B_newz (N := 300) (n' := 11) (kc' := 10) (sl' := 1210) hO ac_boolean rfl (by decide) (by decide) (by decide) rfl rfl rfl (by decide) (by decide) dX12_init_80 ?_
  refine B_putR gf_X12_42 (fun _ _ _ h => by cases h; rfl) (fun _ => rfl) rfl (by decide) rfl rfl dX12_init_82 ?_
  refine B_aload0 dX12_init_85 ?_
  refine B_sipush (v := 300) dX12_init_86 (by decide) ?_
  refine B_newz (N := 300) (n' := 12) (kc' := 11) (sl' := 1510) hO ac_boolean rfl (by decide) (by decide) (by decide) rfl rfl rfl (by decide) (by decide) dX12_init_89 ?_
  refine B_putR gf_X12_46 (fun _ _ _ h => by cases h; rfl) (fun _ => rfl) rfl (by decide) rfl rfl dX12_init_91 ?_
  refine B_aload0 dX12_init_94 ?_
  refine B_sipush (v := 300) dX12_init_95 (by decide) ?_
  refine B_newz (N := 300) (n' := 13) (kc' := 12) (sl' := 1810) hO ac_boolean rfl (by decide) (by decide) (by decide) rfl rfl rfl (by decide) (by decide) dX12_init_98 ?_
  refine B_putR gf_X12_49 (fun _ _ _ h => by cases h; rfl) (fun _ => rfl) rfl (by decide) rfl rfl dX12_init_100 ?_
  refine B_aload0 dX12_init_103 ?_
  refine B_bipush (v := 60) dX12_init_104 (by decide) ?_
  refine B_newz (N := 60) (n' := 14) (kc' := 13) (sl' := 1870) hO ac_boolean rfl (by decide) (by decide) (by decide) rfl rfl rfl (by decide) (by decide) dX12_init_106 ?_
  refine B_putR gf_X12_52 (fun _ _ _ h => by cases h; rfl) (fun _ => rfl) rfl (by decide) rfl rfl dX12_init_108 ?_
  refine B_aload0 dX12_init_111 ?_
  refine B_bipush (v := 60) dX12_init_112 (by decide) ?_
  refine B_newz (N := 60) (n' := 15) (kc' := 14) (sl' := 1930) hO ac_boolean rfl (by decide) (by decide) (by decide) rfl rfl rfl (by decide) (by decide) dX12_init_114 ?_
  refine B_putR gf_X12_55 (fun _ _ _ h => by cases h; rfl) (fun _ => rfl) rfl (by decide) rfl rfl dX12_init_116 ?_
  refine B_aload0 dX12_init_119 ?_
  refine B_sipush (v := 300) dX12_init_120 (by decide) ?_
  refine B_newz (N := 300) (n' := 16) (kc' := 15) (sl' := 2230) hO ac_boolean rfl (by decide) (by decide) (by decide) rfl rfl rfl (by decide) (by decide) dX12_init_123 ?_
  refine B_putR gf_X12_58 (fun _ _ _ h => by cases h; rfl) (fun _ => rfl) rfl (by decide) rfl rfl dX12_init_125 ?_
  refine B_aload0 dX12_init_128 ?_
  refine B_sipush (v := 300) dX12_init_129 (by decide) ?_
  refine B_newz (N := 300) (n' := 17) (kc' := 16) (sl' := 2530) hO ac_boolean rfl (by decide) (by decide) (by decide) rfl rfl rfl (by decide) (by decide) dX12_init_132 ?_
  refine B_putR gf_X12_61 (fun _ _ _ h => by cases h; rfl) (fun _ => rfl) rfl (by decide) rfl rfl dX12_init_134 ?_
  refine B_aload0 dX12_init_137 ?_
  refine B_sipush (v := 300) dX12_init_138 (by decide) ?_
  refine B_newz (N := 300) (n' := 18) (kc' := 17) (sl' := 2830) hO ac_boolean rfl (by decide) (by decide) (by decide) rfl rfl rfl (by decide) (by decide) dX12_init_141 ?_
  refine B_putR gf_X12_64 (fun _ _ _ h => by cases h; rfl) (fun _ => rfl) rfl (by decide) rfl rfl dX12_init_143 ?_
  refine B_aload0 dX12_init_146 ?_
  refine B_bipush (v := 60) dX12_init_147 (by decide) ?_
  refine B_newz (N := 60) (n' := 19) (kc' := 18) (sl' := 2890) hO ac_boolean rfl (by decide) (by decide) (by decide) rfl rfl rfl (by decide) (by decide) dX12_init_149 ?_
  refine B_putR gf_X12_67 (fun _ _ _ h => by cases h; rfl) (fun _ => rfl) rfl (by decide) rfl rfl dX12_init_151 ?_
  refine B_aload0 dX12_init_154 ?_
  refine B_bipush (v := 60) dX12_init_155 (by decide) ?_
  refine B_newz (N := 60) (n' := 20) (kc' := 19) (sl' := 2950) hO ac_boolean rfl (by decide) (by decide) (by decide) rfl rfl rfl (by decide) (by decide) dX12_init_157 ?_
  refine B_putR gf_X12_70 (fun _ _ _ h => by cases h; rfl) (fun _ => rfl) rfl (by decide) rfl rfl dX12_init_159 ?_
  refine B_aload0 dX12_init_162 ?_
  refine B_sipush (v := 300) dX12_init_163 (by decide) ?_
  refine B_newi (N := 300) (n' := 21) (kc' := 20) (sl' := 3250) hO ac_int rfl (by decide) (by decide) (by decide) rfl rfl rfl (by decide) (by decide) dX12_init_166 ?_
  refine B_putR gf_X12_73 (fun _ _ _ h => by cases h; rfl) (fun _ => rfl) rfl (by decide) rfl rfl dX12_init_168 ?_
  refine B_aload0 dX12_init_171 ?_
  refine B_sipush (v := 300) dX12_init_172 (by decide) ?_
  refine B_newi (N := 300) (n' := 22) (kc' := 21) (sl' := 3550) hO ac_int rfl (by decide) (by decide) (by decide) rfl rfl rfl (by decide) (by decide) dX12_init_175 ?_
  refine B_putR gf_X12_76 (fun _ _ _ h => by cases h; rfl) (fun _ => rfl) rfl (by decide) rfl rfl dX12_init_177 ?_
  refine B_aload0 dX12_init_180 ?_
  refine B_sipush (v := 300) dX12_init_181 (by decide) ?_
  refine B_newi (N := 300) (n' := 23) (kc' := 22) (sl' := 3850) hO ac_int rfl (by decide) (by decide) (by decide) rfl rfl rfl (by decide) (by decide) dX12_init_184 ?_
  refine B_putR gf_X12_79 (fun _ _ _ h => by cases h; rfl) (fun _ => rfl) rfl (by decide) rfl rfl dX12_init_186 ?_
  refine B_aload0 dX12_init_189 ?_
  refine B_sipush (v := 300) dX12_init_190 (by decide) ?_
  refine B_newi (N := 300) (n' := 24) (kc' := 23) (sl' := 4150) hO ac_int rfl (by decide) (by decide) (by decide) rfl rfl rfl (by decide) (by decide) dX12_init_193 ?_
  refine B_putR gf_X12_82 (fun _ _ _ h => by cases h; rfl) (fun _ => rfl) rfl (by decide) rfl rfl dX12_init_195 ?_
  refine B_aload0 dX12_init_198 ?_
  refine B_sipush (v := 300) dX12_init_199 (by decide) ?_
  refine B_newi (N := 300) (n' := 25) (kc' := 24) (sl' := 4450) hO ac_int rfl (by decide) (by decide) (by decide) rfl rfl rfl (by decide) (by decide) dX12_init_202 ?_
  refine B_putR gf_X12_85 (fun _ _ _ h => by cases h; rfl) (fun _ => rfl) rfl (by decide) rfl rfl dX12_init_204 ?_
  refine B_aload0 dX12_init_207 ?_
  refine B_sipush (v := 300) dX12_init_208 (by decide) ?_
  refine B_newi (N := 300) (n' := 26) (kc' := 25) (sl' := 4750) hO ac_int rfl (by decide) (by decide) (by decide) rfl rfl rfl (by decide) (by decide) dX12_init_211 ?_
  refine B_putR gf_X12_88 (fun _ _ _ h => by cases h; rfl) (fun _ => rfl) rfl (by decide) rfl rfl dX12_init_213 ?_
  refine B_aload0 dX12_init_216 ?_
  refine B_sipush (v := 300) dX12_init_217 (by decide) ?_
  refine B_newz (N := 300) (n' := 27) (kc' := 26) (sl' := 5050) hO ac_boolean rfl (by decide) (by decide) (by decide) rfl rfl rfl (by decide) (by decide) dX12_init_220 ?_
  refine B_putR gf_X12_91 (fun _ _ _ h => by cases h; rfl) (fun _ => rfl) rfl (by decide) rfl rfl dX12_init_222 ?_
  refine B_aload0 dX12_init_225 ?_
  refine B_bipush (v := 60) dX12_init_226 (by decide) ?_
  refine B_newz (N := 60) (n' := 28) (kc' := 27) (sl' := 5110) hO ac_boolean rfl (by decide) (by decide) (by decide) rfl rfl rfl (by decide) (by decide) dX12_init_228 ?_
  refine B_putR gf_X12_94 (fun _ _ _ h => by cases h; rfl) (fun _ => rfl) rfl (by decide) rfl rfl dX12_init_230 ?_
  refine B_aload0 dX12_init_233 ?_
  refine B_bipush (v := 10) dX12_init_234 (by decide) ?_
  refine B_newz (N := 10) (n' := 29) (kc' := 28) (sl' := 5120) hO ac_boolean rfl (by decide) (by decide) (by decide) rfl rfl rfl (by decide) (by decide) dX12_init_236 ?_
  refine B_putR gf_X12_97 (fun _ _ _ h => by cases h; rfl) (fun _ => rfl) rfl (by decide) rfl rfl dX12_init_238 ?_
  refine B_aload0 dX12_init_241 ?_
  refine B_sipush (v := 240) dX12_init_242 (by decide) ?_
  refine B_newi (N := 240) (n' := 30) (kc' := 29) (sl' := 5360) hO ac_int rfl (by decide) (by decide) (by decide) rfl rfl rfl (by decide) (by decide) dX12_init_245 ?_
  refine B_putR gf_X12_100 (fun _ _ _ h => by cases h; rfl) (fun _ => rfl) rfl (by decide) rfl rfl dX12_init_247 ?_
  refine B_aload0 dX12_init_250 ?_
  refine B_sipush (v := 300) dX12_init_251 (by decide) ?_
  refine B_newi (N := 300) (n' := 31) (kc' := 30) (sl' := 5660) hO ac_int rfl (by decide) (by decide) (by decide) rfl rfl rfl (by decide) (by decide) dX12_init_254 ?_
  refine B_putR gf_X12_103 (fun _ _ _ h => by cases h; rfl) (fun _ => rfl) rfl (by decide) rfl rfl dX12_init_256 ?_
  refine B_aload0 dX12_init_259 ?_
  refine B_sipush (v := 300) dX12_init_260 (by decide) ?_
  refine B_newi (N := 300) (n' := 32) (kc' := 31) (sl' := 5960) hO ac_int rfl (by decide) (by decide) (by decide) rfl rfl rfl (by decide) (by decide) dX12_init_263 ?_
  refine B_putR gf_X12_106 (fun _ _ _ h => by cases h; rfl) (fun _ => rfl) rfl (by decide) rfl rfl dX12_init_265 ?_
  refine B_aload0 dX12_init_268 ?_
  refine B_sipush (v := 700) dX12_init_269 (by decide) ?_
  refine B_newi (N := 700) (n' := 33) (kc' := 32) (sl' := 6660) hO ac_int rfl (by decide) (by decide) (by decide) rfl rfl rfl (by decide) (by decide) dX12_init_272 ?_
  refine B_putR gf_X12_109 (fun _ _ _ h => by cases h; rfl) (fun _ => rfl) rfl (by decide) rfl rfl dX12_init_274 ?_
  refine B_aload0 dX12_init_277 ?_
  refine B_sipush (v := 700) dX12_init_278 (by decide) ?_
  refine B_newi (N := 700) (n' := 34) (kc' := 33) (sl' := 7360) hO ac_int rfl (by decide) (by decide) (by decide) rfl rfl rfl (by decide) (by decide) dX12_init_281 ?_
  refine B_putR gf_X12_112 (fun _ _ _ h => by cases h; rfl) (fun _ => rfl) rfl (by decide) rfl rfl dX12_init_283 ?_
  refine B_aload0 dX12_init_286 ?_
  refine B_sipush (v := 700) dX12_init_287 (by decide) ?_
  refine B_newi (N := 700) (n' := 35) (kc' := 34) (sl' := 8060) hO ac_int rfl (by decide) (by decide) (by decide) rfl rfl rfl (by decide) (by decide) dX12_init_290 ?_
  refine B_putR gf_X12_115 (fun _ _ _ h => by cases h; rfl) (fun _ => rfl) rfl (by decide) rfl rfl dX12_init_292 ?_
  refine B_aload0 dX12_init_295 ?_
  refine B_sipush (v := 700) dX12_init_296 (by decide) ?_
  refine B_newi (N := 700) (n' := 36) (kc' := 35) (sl' := 8760) hO ac_int rfl (by decide) (by decide) (by decide) rfl rfl rfl (by decide) (by decide) dX12_init_299 ?_
  refine B_putR gf_X12_118 (fun _ _ _ h => by cases h; rfl) (fun _ => rfl) rfl (by decide) rfl rfl dX12_init_301 ?_
  refine B_aload0 dX12_init_304 ?_
  refine B_bipush (v := 10) dX12_init_305 (by decide) ?_
  refine B_newi (N := 10) (n' := 37) (kc' := 36) (sl' := 8770) hO ac_int rfl (by decide) (by decide) (by decide) rfl rfl rfl (by decide) (by decide) dX12_init_307 ?_
  refine B_putR gf_X12_121 (fun _ _ _ h => by cases h; rfl) (fun _ => rfl) rfl (by decide) rfl rfl dX12_init_309 ?_
  refine B_aload0 dX12_init_312 ?_
  refine B_bipush (v := 10) dX12_init_313 (by decide) ?_
  refine B_newi (N := 10) (n' := 38) (kc' := 37) (sl' := 8780) hO ac_int rfl (by decide) (by decide) (by decide) rfl rfl rfl (by decide) (by decide) dX12_init_315 ?_
  refine B_putR gf_X12_124 (fun _ _ _ h => by cases h; rfl) (fun _ => rfl) rfl (by decide) rfl rfl dX12_init_317 ?_
  refine B_aload0 dX12_init_320 ?_
  refine B_bipush (v := 60) dX12_init_321 (by decide) ?_
  refine B_newi (N := 60) (n' := 39) (kc' := 38) (sl' := 8840) hO ac_int rfl (by decide) (by decide) (by decide) rfl rfl rfl (by decide) (by decide) dX12_init_323 ?_
  refine B_putR gf_X12_127 (fun _ _ _ h => by cases h; rfl) (fun _ => rfl) rfl (by decide) rfl rfl dX12_init_325 ?_
  refine B_aload0 dX12_init_328 ?_
  refine B_bipush (v := 60) dX12_init_329 (by decide) ?_
  refine B_newi (N := 60) (n' := 40) (kc' := 39) (sl' := 8900) hO ac_int rfl (by decide) (by decide) (by decide) rfl rfl rfl (by decide) (by decide) dX12_init_331 ?_
  refine B_putR gf_X12_130 (fun _ _ _ h => by cases h; rfl) (fun _ => rfl) rfl (by decide) rfl rfl dX12_init_333 ?_
  refine B_aload0 dX12_init_336 ?_
  refine B_sipush (v := 600) dX12_init_337 (by decide) ?_
  refine B_newi (N := 600) (n' := 41) (kc' := 40) (sl' := 9500) hO ac_int rfl (by decide) (by decide) (by decide) rfl rfl rfl (by decide) (by decide) dX12_init_340 ?_
  refine B_putR gf_X12_133 (fun _ _ _ h => by cases h; rfl) (fun _ => rfl) rfl (by decide) rfl rfl dX12_init_342 ?_
  refine B_aload0 dX12_init_345 ?_
  refine B_sipush (v := 600) dX12_init_346 (by decide) ?_
  refine B_newi (N := 600) (n' := 42) (kc' := 41) (sl' := 10100) hO ac_int rfl (by decide) (by decide) (by decide) rfl rfl rfl (by decide) (by decide) dX12_init_349 ?_
  refine B_putR gf_X12_136 (fun _ _ _ h => by cases h; rfl) (fun _ => rfl) rfl (by decide) rfl rfl dX12_init_351 ?_
  refine B_aload0 dX12_init_354 ?_
  refine B_bipush (v := 7) dX12_init_355 (by decide) ?_
  refine B_newi (N := 7) (n' := 43) (kc' := 42) (sl' := 10107) hO ac_int rfl (by decide) (by decide) (by decide) rfl rfl rfl (by decide) (by decide) dX12_init_357 ?_
  refine B_putR gf_X12_139 (fun _ _ _ h => by cases h; rfl) (fun _ => rfl) rfl (by decide) rfl rfl dX12_init_359 ?_
  refine B_aload0 dX12_init_362 ?_
  refine B_sipush (v := 600) dX12_init_363 (by decide) ?_
  refine B_newi (N := 600) (n' := 44) (kc' := 43) (sl' := 10707) hO ac_int rfl (by decide) (by decide) (by decide) rfl rfl rfl (by decide) (by decide) dX12_init_366 ?_
  refine B_putR gf_X12_142 (fun _ _ _ h => by cases h; rfl) (fun _ => rfl) rfl (by decide) rfl rfl dX12_init_368 ?_
  refine B_aload0 dX12_init_371 ?_
  refine B_sipush (v := 600) dX12_init_372 (by decide) ?_
  refine B_newi (N := 600) (n' := 45) (kc' := 44) (sl' := 11307) hO ac_int rfl (by decide) (by decide) (by decide) rfl rfl rfl (by decide) (by decide) dX12_init_375 ?_
  refine B_putR gf_X12_145 (fun _ _ _ h => by cases h; rfl) (fun _ => rfl) rfl (by decide) rfl rfl dX12_init_377 ?_
  refine B_aload0 dX12_init_380 ?_
  refine B_bipush (v := 7) dX12_init_381 (by decide) ?_
  refine B_newi (N := 7) (n' := 46) (kc' := 45) (sl' := 11314) hO ac_int rfl (by decide) (by decide) (by decide) rfl rfl rfl (by decide) (by decide) dX12_init_383 ?_
  refine B_putR gf_X12_148 (fun _ _ _ h => by cases h; rfl) (fun _ => rfl) rfl (by decide) rfl rfl dX12_init_385 ?_
  refine B_aload0 dX12_init_388 ?_
  refine B_sipush (v := 600) dX12_init_389 (by decide) ?_
  refine B_newi (N := 600) (n' := 47) (kc' := 46) (sl' := 11914) hO ac_int rfl (by decide) (by decide) (by decide) rfl rfl rfl (by decide) (by decide) dX12_init_392 ?_
  refine B_putR gf_X12_151 (fun _ _ _ h => by cases h; rfl) (fun _ => rfl) rfl (by decide) rfl rfl dX12_init_394 ?_
  refine B_aload0 dX12_init_397 ?_
  refine B_bipush (v := 70) dX12_init_398 (by decide) ?_
  refine B_newi (N := 70) (n' := 48) (kc' := 47) (sl' := 11984) hO ac_int rfl (by decide) (by decide) (by decide) rfl rfl rfl (by decide) (by decide) dX12_init_400 ?_
  refine B_putR gf_X12_154 (fun _ _ _ h => by cases h; rfl) (fun _ => rfl) rfl (by decide) rfl rfl dX12_init_402 ?_
  refine B_aload0 dX12_init_405 ?_
  refine B_bipush (v := 6) dX12_init_406 (by decide) ?_
  refine B_newz (N := 6) (n' := 49) (kc' := 48) (sl' := 11990) hO ac_boolean rfl (by decide) (by decide) (by decide) rfl rfl rfl (by decide) (by decide) dX12_init_408 ?_
  refine B_putR gf_X12_157 (fun _ _ _ h => by cases h; rfl) (fun _ => rfl) rfl (by decide) rfl rfl dX12_init_410 ?_
  refine B_aload0 dX12_init_413 ?_
  refine B_bipush (v := 6) dX12_init_414 (by decide) ?_
  refine B_newz (N := 6) (n' := 50) (kc' := 49) (sl' := 11996) hO ac_boolean rfl (by decide) (by decide) (by decide) rfl rfl rfl (by decide) (by decide) dX12_init_416 ?_
  refine B_putR gf_X12_160 (fun _ _ _ h => by cases h; rfl) (fun _ => rfl) rfl (by decide) rfl rfl dX12_init_418 ?_
  refine B_aload0 dX12_init_421 ?_
  refine B_sipush (v := 3600) dX12_init_422 (by decide) ?_
  refine B_newl (N := 3600) (n' := 51) (kc' := 50) (sl' := 15596) hO ac_long rfl (by decide) (by decide) (by decide) rfl rfl rfl (by decide) (by decide) dX12_init_425 ?_
  refine B_putR gf_X12_163 (fun _ _ _ h => by cases h; rfl) (fun _ => rfl) rfl (by decide) rfl rfl dX12_init_427 ?_
  exact B_vret hO (by decide) (by decide) dX12_init_430 ⟨rfl, rfl, rfl, rfl⟩
set_option maxRecDepth 100000 in
theorem LC12_all : bAll KM LC12 = true := by decide +kernel

/-! the tape: bytes of the class against numbers of the reference -/
def cb (v k : Int32) : Int32 := vp_nar .byte ((v.toUInt32 >>> (k.toUInt32 &&& Int32.toUInt32 31)).toInt32).toInt8.toInt32
def cput4 (μ : Mem) (t : Nat) (v : Int32) : Mem := pb (pb (pb (pb μ t (cb v 24)) (t + 1) (cb v 16)) (t + 2) (cb v 8)) (t + 3) (cb v 0)
theorem cput4_t (μ : Mem) (t : Nat) (v : Int32) : (cput4 μ t v).1 0 1 = nI (t + 4) := wI_same
theorem cb_8 (v : Int32) (k : Nat) (hk : k ≤ 24) : ((v.toUInt32 >>> ((nI k).toUInt32 &&& Int32.toUInt32 31)).toInt32).toInt8 = (v >>> (nI k &&& 31) &&& 255).toInt8 := by
  apply Int8.toBitVec_inj.mp
  apply BitVec.eq_of_getLsbD_eq
  intro i hi
  rw [Int32.toBitVec_toInt8, Int32.toBitVec_toInt8, BitVec.signExtend_eq_setWidth_of_le _ (by decide), BitVec.signExtend_eq_setWidth_of_le _ (by decide), BitVec.getLsbD_setWidth, BitVec.getLsbD_setWidth]
  have a1 := b_ushr k (by omega) v i
  have a2 := b_sshr k (by omega) v (i := i) (by omega)
  have a3 := b_and (v >>> (nI k &&& 31)) 255 i
  rw [if_pos (by omega)] at a2
  rw [a2, b_255, decide_eq_true hi, Bool.and_true, ← a1] at a3
  unfold bt at a3
  rw [a3]
theorem cb_n (x : Int32) : vp_nar .byte x = x.toInt8.toInt32 := rfl
theorem cb_e (v : Int32) (k : Nat) (hk : k ≤ 24) : cb v (nI k) = vp_nar .byte (by8 v (nI k)) := by
  unfold cb by8
  rw [cb_n, cb_n, Int8.toInt8_toInt32, cb_8 v k hk]
theorem by8_r (v k : Int32) : 0 ≤ (by8 v k).toInt ∧ (by8 v k).toInt ≤ 255 := by
  obtain ⟨m, -, e⟩ := wb_of32 (v >>> (k &&& 31))
  have e2 : by8 v k = nI (m % 256) := by
    unfold by8
    rw [e, show (255 : Int32) = nI 255 from rfl, nx_and, show (255 : Nat) = 2 ^ 8 - 1 from rfl, Nat.and_two_pow_sub_one_eq_mod]
  rw [e2, nI_i (by omega)]
  omega
theorem RcT_pb {σ μ : Mem} {t : Nat} {v : Int32} {k : Nat} (h : RcT σ μ) (hk : k ≤ 24) : RcT (pb σ t (by8 v (nI k))) (pb μ t (cb v (nI k))) := by
  obtain ⟨h1, h2, h3, h4⟩ := h
  unfold pb
  refine ⟨wI_same.trans wI_same.symm, ?_, ?_, fun j hj => ?_⟩
  · rw [wI_ne (by omega), wI_ne (by omega), wI_ne (by omega), wI_ne (by omega)]; exact h2
  · rw [wI_ne (by omega), wI_ne (by omega), wI_ne (by omega), wI_ne (by omega)]; exact h3
  · by_cases q : j = t
    · subst q
      rw [wI_ne (by omega), wI_same, wI_ne (by omega), wI_same]
      exact ⟨cb_e v k hk, by8_r v _⟩
    · rw [wI_ne (by omega), wI_ne (by omega), wI_ne (by omega), wI_ne (by omega)]
      exact h4 j hj
theorem RcT_put4 {σ μ : Mem} {t : Nat} {v : Int32} (h : RcT σ μ) : RcT (put4 σ t v) (cput4 μ t v) := by
  unfold put4 cput4
  exact RcT_pb (k := 0) (RcT_pb (k := 8) (RcT_pb (k := 16) (RcT_pb (k := 24) h (by omega)) (by omega)) (by omega)) (by omega)
theorem pb_2 (μ : Mem) (t : Nat) (b : Int32) : (pb μ t b).2 = μ.2 := rfl
theorem put4_2 (μ : Mem) (t : Nat) (v : Int32) : (put4 μ t v).2 = μ.2 := by
  unfold put4
  rw [pb_2, pb_2, pb_2, pb_2]
theorem cput4_2 (μ : Mem) (t : Nat) (v : Int32) : (cput4 μ t v).2 = μ.2 := by
  unfold cput4
  rw [pb_2, pb_2, pb_2, pb_2]
theorem pb_s {μ : Mem} {t : Nat} {b : Int32} {i j : Nat} (h1 : ¬ (i = 0 ∧ j = 1)) (h2 : ¬ i = 1) : (pb μ t b).1 i j = μ.1 i j := by
  unfold pb
  rw [wI_ne (by omega), wI_ne (by omega)]
theorem put4_s {μ : Mem} {t : Nat} {v : Int32} {i j : Nat} (h1 : ¬ (i = 0 ∧ j = 1)) (h2 : ¬ i = 1) : (put4 μ t v).1 i j = μ.1 i j := by
  unfold put4
  rw [pb_s h1 h2, pb_s h1 h2, pb_s h1 h2, pb_s h1 h2]
theorem cput4_s {μ : Mem} {t : Nat} {v : Int32} {i j : Nat} (h1 : ¬ (i = 0 ∧ j = 1)) (h2 : ¬ i = 1) : (cput4 μ t v).1 i j = μ.1 i j := by
  unfold cput4
  rw [pb_s h1 h2, pb_s h1 h2, pb_s h1 h2, pb_s h1 h2]
theorem Rc.tape {σ τ a c : Mem} {n : Nat} (h : Rc σ n a) (hn : n + 1 ≤ 600) (s0 : ∀ i j, ¬ (i = 0 ∧ j = 1) → ¬ i = 1 → τ.1 i j = σ.1 i j) (sl : τ.2 = σ.2) (c0 : ∀ i j, ¬ (i = 0 ∧ j = 1) → ¬ i = 1 → c.1 i j = a.1 i j) (cl : c.2 = a.2) (ht : RcT τ c) (hw : WFt τ) : Rc τ (n + 1) c := by
  have h0 := h
  obtain ⟨⟨-, r2, r3, r4, r5⟩, w1, -⟩ := h
  exact Rc.mv h0 hn (fun i j q => s0 i j (by omega) (by omega)) (fun i j q1 q2 => c0 i j (by omega) (by omega)) ⟨ht, r2.mv (fun i j q => s0 i j (by omega) (by omega)) (fun i j q => c0 i j (by omega) (by omega)) (by rw [cl]), r3.mv (fun i j q => s0 i j (by omega) (by omega)) (fun _ => by rw [sl]) (fun i j q => c0 i j (by omega) (by omega)) (fun _ => by rw [cl]), r4.mv (fun i j q => s0 i j (by omega) (by omega)) (fun i j q => c0 i j (by omega) (by omega)), r5.mv (fun b hb => c0 _ _ (by omega) (by omega)) (fun _ => by rw [cl])⟩ ⟨⟨hw, w1.1.2.1.mv (fun i j q => s0 i j (by omega) (by omega)), w1.1.2.2.mv (fun i j q => s0 i j (by omega) (by omega))⟩, w1.2.mv (fun i j q => s0 i j (by omega) (by omega))⟩ (c0 36 2 (by omega) (by omega))
set_option maxHeartbeats 400000 in
set_option maxRecDepth 100000 in
theorem T_X11_put {l : Launch} {G : Wd} {x : Int32} {t : Nat} {μ : Mem} (ht0 : μ.1 0 1 = nI t) (htn : t + 4 ≤ 800) : Mt l G KC yX11_put cX11_put 3 none 1 [.ref (gA G 0), .int x] μ (Qv (fun μ' => μ' = cput4 μ t x)) := by
  refine Mt.of (own := RX11) (n := 1) (by decide) rfl [some (.ref (gA G 0)), some (.int x), none] rfl (Nat.le_of_ble_eq_true rfl) ?_
  refine A_bipush (v := 24) dX11_put_0 (by decide) ?_
  refine A_istore2 dX11_put_2 rfl (by decide) ?_
  refine A_iload2 dX11_put_3 ?_
  refine A_if_lt (tgt := 48) dX11_put_4 (by decide) (fun c_4 => absurd c_4 (by first | decide | assumption | (simp_all; done))) (fun c_4 => ?_)
  refine A_aload0 dX11_put_7 ?_
  refine A_getI gf_X11_114 rfl dX11_put_8 ?_
  rw [ht0]
  refine A_aload0 dX11_put_11 ?_
  refine A_getR gf_X11_9 rfl dX11_put_12 ?_
  refine A_alen (rfl) (by decide) rfl dX11_put_15 ?_
  refine A_icmp_ge (tgt := 42) dX11_put_16 (by decide) (fun c_16 => absurd c_16 (fun z => absurd ((nI_leI (a := 800) (by omega) (by omega)).mp z) (by omega))) (fun c_16 => ?_)
  refine A_aload0 dX11_put_19 ?_
  refine A_getR gf_X11_9 rfl dX11_put_20 ?_
  refine A_aload0 dX11_put_23 ?_
  refine A_getI gf_X11_114 rfl dX11_put_24 ?_
  rw [ht0]
  refine A_iload1 dX11_put_27 ?_
  refine A_iload2 dX11_put_28 ?_
  refine A_iushr dX11_put_29 ?_
  refine A_i2b dX11_put_30 ?_
  refine A_bast (rfl) (vp_in_nI (by omega) (by omega)) dX11_put_31 ?_
  refine A_aload0 dX11_put_32 ?_
  refine A_dup dX11_put_33 rfl ?_
  refine A_getI gf_X11_114 rfl dX11_put_34 ?_
  rw [wI_ne (Or.inl (by decide)), ht0]
  refine A_iconst (v := 1) dX11_put_37 (by decide) ?_
  refine A_iadd dX11_put_38 ?_
  refine A_putI gf_X11_114 rfl dX11_put_39 ?_
  rw [nI_1, nI_c (by omega)]
  refine AW.nm (fun μ1 e1 => ?_)
  have ht1 : μ1.1 0 1 = nI (t + 0 + 1) := by rw [e1]; exact wI_same
  refine A_iinc2 dX11_put_42 rfl rfl (by decide) ?_
  refine A_goto (tgt := 3) dX11_put_45 (by decide) ?_
  refine A_iload2 dX11_put_3 ?_
  refine A_if_lt (tgt := 48) dX11_put_4 (by decide) (fun c_4 => absurd c_4 (by first | decide | assumption | (simp_all; done))) (fun c_4 => ?_)
  refine A_aload0 dX11_put_7 ?_
  refine A_getI gf_X11_114 rfl dX11_put_8 ?_
  rw [ht1]
  refine A_aload0 dX11_put_11 ?_
  refine A_getR gf_X11_9 rfl dX11_put_12 ?_
  refine A_alen (rfl) (by decide) rfl dX11_put_15 ?_
  refine A_icmp_ge (tgt := 42) dX11_put_16 (by decide) (fun c_16 => absurd c_16 (fun z => absurd ((nI_leI (a := 800) (by omega) (by omega)).mp z) (by omega))) (fun c_16 => ?_)
  refine A_aload0 dX11_put_19 ?_
  refine A_getR gf_X11_9 rfl dX11_put_20 ?_
  refine A_aload0 dX11_put_23 ?_
  refine A_getI gf_X11_114 rfl dX11_put_24 ?_
  rw [ht1]
  refine A_iload1 dX11_put_27 ?_
  refine A_iload2 dX11_put_28 ?_
  refine A_iushr dX11_put_29 ?_
  refine A_i2b dX11_put_30 ?_
  refine A_bast (rfl) (vp_in_nI (by omega) (by omega)) dX11_put_31 ?_
  refine A_aload0 dX11_put_32 ?_
  refine A_dup dX11_put_33 rfl ?_
  refine A_getI gf_X11_114 rfl dX11_put_34 ?_
  rw [wI_ne (Or.inl (by decide)), ht1]
  refine A_iconst (v := 1) dX11_put_37 (by decide) ?_
  refine A_iadd dX11_put_38 ?_
  refine A_putI gf_X11_114 rfl dX11_put_39 ?_
  rw [nI_1, nI_c (by omega)]
  refine AW.nm (fun μ2 e2 => ?_)
  have ht2 : μ2.1 0 1 = nI (t + 1 + 1) := by rw [e2]; exact wI_same
  refine A_iinc2 dX11_put_42 rfl rfl (by decide) ?_
  refine A_goto (tgt := 3) dX11_put_45 (by decide) ?_
  refine A_iload2 dX11_put_3 ?_
  refine A_if_lt (tgt := 48) dX11_put_4 (by decide) (fun c_4 => absurd c_4 (by first | decide | assumption | (simp_all; done))) (fun c_4 => ?_)
  refine A_aload0 dX11_put_7 ?_
  refine A_getI gf_X11_114 rfl dX11_put_8 ?_
  rw [ht2]
  refine A_aload0 dX11_put_11 ?_
  refine A_getR gf_X11_9 rfl dX11_put_12 ?_
  refine A_alen (rfl) (by decide) rfl dX11_put_15 ?_
  refine A_icmp_ge (tgt := 42) dX11_put_16 (by decide) (fun c_16 => absurd c_16 (fun z => absurd ((nI_leI (a := 800) (by omega) (by omega)).mp z) (by omega))) (fun c_16 => ?_)
  refine A_aload0 dX11_put_19 ?_
  refine A_getR gf_X11_9 rfl dX11_put_20 ?_
  refine A_aload0 dX11_put_23 ?_
  refine A_getI gf_X11_114 rfl dX11_put_24 ?_
  rw [ht2]
  refine A_iload1 dX11_put_27 ?_
  refine A_iload2 dX11_put_28 ?_
  refine A_iushr dX11_put_29 ?_
  refine A_i2b dX11_put_30 ?_
  refine A_bast (rfl) (vp_in_nI (by omega) (by omega)) dX11_put_31 ?_
  refine A_aload0 dX11_put_32 ?_
  refine A_dup dX11_put_33 rfl ?_
  refine A_getI gf_X11_114 rfl dX11_put_34 ?_
  rw [wI_ne (Or.inl (by decide)), ht2]
  refine A_iconst (v := 1) dX11_put_37 (by decide) ?_
  refine A_iadd dX11_put_38 ?_
  refine A_putI gf_X11_114 rfl dX11_put_39 ?_
  rw [nI_1, nI_c (by omega)]
  refine AW.nm (fun μ3 e3 => ?_)
  have ht3 : μ3.1 0 1 = nI (t + 2 + 1) := by rw [e3]; exact wI_same
  refine A_iinc2 dX11_put_42 rfl rfl (by decide) ?_
  refine A_goto (tgt := 3) dX11_put_45 (by decide) ?_
  refine A_iload2 dX11_put_3 ?_
  refine A_if_lt (tgt := 48) dX11_put_4 (by decide) (fun c_4 => absurd c_4 (by first | decide | assumption | (simp_all; done))) (fun c_4 => ?_)
  refine A_aload0 dX11_put_7 ?_
  refine A_getI gf_X11_114 rfl dX11_put_8 ?_
  rw [ht3]
  refine A_aload0 dX11_put_11 ?_
  refine A_getR gf_X11_9 rfl dX11_put_12 ?_
  refine A_alen (rfl) (by decide) rfl dX11_put_15 ?_
  refine A_icmp_ge (tgt := 42) dX11_put_16 (by decide) (fun c_16 => absurd c_16 (fun z => absurd ((nI_leI (a := 800) (by omega) (by omega)).mp z) (by omega))) (fun c_16 => ?_)
  refine A_aload0 dX11_put_19 ?_
  refine A_getR gf_X11_9 rfl dX11_put_20 ?_
  refine A_aload0 dX11_put_23 ?_
  refine A_getI gf_X11_114 rfl dX11_put_24 ?_
  rw [ht3]
  refine A_iload1 dX11_put_27 ?_
  refine A_iload2 dX11_put_28 ?_
  refine A_iushr dX11_put_29 ?_
  refine A_i2b dX11_put_30 ?_
  refine A_bast (rfl) (vp_in_nI (by omega) (by omega)) dX11_put_31 ?_
  refine A_aload0 dX11_put_32 ?_
  refine A_dup dX11_put_33 rfl ?_
  refine A_getI gf_X11_114 rfl dX11_put_34 ?_
  rw [wI_ne (Or.inl (by decide)), ht3]
  refine A_iconst (v := 1) dX11_put_37 (by decide) ?_
  refine A_iadd dX11_put_38 ?_
  refine A_putI gf_X11_114 rfl dX11_put_39 ?_
  rw [nI_1, nI_c (by omega)]
  refine AW.nm (fun μ4 e4 => ?_)
  have ht4 : μ4.1 0 1 = nI (t + 3 + 1) := by rw [e4]; exact wI_same
  refine A_iinc2 dX11_put_42 rfl rfl (by decide) ?_
  refine A_goto (tgt := 3) dX11_put_45 (by decide) ?_
  refine A_iload2 dX11_put_3 ?_
  refine A_if_lt (tgt := 48) dX11_put_4 (by decide) (fun c_4 => ?_) (fun c_4 => absurd c_4 (by first | decide | assumption | (simp_all; done)))
  refine A_vret dX11_put_48 ?_
  exact ⟨rfl, by subst e4 e3 e2 e1; rfl⟩
set_option maxHeartbeats 400000 in
set_option maxRecDepth 100000 in
theorem C_feed {l : Launch} {G : Wd} {a b c d e : Int32} {n : Nat} {σ μ : Mem} (hR : Rc σ n μ) (hn : n + 1 ≤ 600) : Mt l G KC yX11_feed cX11_feed 6 (some .int) 9 [.ref (gA G 0), .int a, .int b, .int c, .int d, .int e] μ (Qi (fun v μ' => v = (sp_feed σ a b c d e).1 ∧ Rc (sp_feed σ a b c d e).2 (n + 1) μ')) := by
  refine Mt.of (own := RX11) (n := 0) (by decide) rfl [some (.ref (gA G 0)), some (.int a), some (.int b), some (.int c), some (.int d), some (.int e)] rfl (Nat.le_of_ble_eq_true rfl) ?_
  obtain ⟨htn, ht⟩ := hR.2.1.1.1.t
  refine A_aload0 dX11_feed_0 ?_
  refine A_getI gf_X11_114 rfl dX11_feed_1 ?_
  rw [hR.1.1.1, ht]
  refine A_bipush (v := 20) dX11_feed_4 (by decide) ?_
  refine A_iadd dX11_feed_6 ?_
  refine A_sipush (v := 800) dX11_feed_7 (by decide) ?_
  refine A_icmp_le (tgt := 15) dX11_feed_10 (by decide) (fun c_10 => ?_) (fun c_10 => ?_)
  · have c2 : tpd σ + 20 ≤ 800 := by rw [show (20 : Int32) = nI 20 from rfl, nI_add, show (800 : Int32) = nI 800 from rfl] at c_10; exact (nI_leI (by omega) (by omega)).mp c_10
    refine A_aload0 dX11_feed_15 ?_
    refine A_iload1 dX11_feed_16 ?_
    refine A_vv1 lk_X11_117 yv_X11_put dX11_feed_17 (rfl) (rfl) (T_X11_put (t := tpd σ) (hR.1.1.1.trans ht) (by omega)) (by decide) (Nat.le_of_ble_eq_true rfl) (fun μ1 e1 => ?_)
    subst e1
    refine A_aload0 dX11_feed_20 ?_
    refine A_iload2 dX11_feed_21 ?_
    refine A_vv1 lk_X11_117 yv_X11_put dX11_feed_22 (rfl) (rfl) (T_X11_put (t := tpd σ + 4) (cput4_t _ _ _) (by omega)) (by decide) (Nat.le_of_ble_eq_true rfl) (fun μ2 e2 => ?_)
    subst e2
    refine A_aload0 dX11_feed_25 ?_
    refine A_iload3 dX11_feed_26 ?_
    refine A_vv1 lk_X11_117 yv_X11_put dX11_feed_27 (rfl) (rfl) (T_X11_put (t := tpd σ + 8) (cput4_t _ _ _) (by omega)) (by decide) (Nat.le_of_ble_eq_true rfl) (fun μ3 e3 => ?_)
    subst e3
    refine A_aload0 dX11_feed_30 ?_
    refine A_iload4 dX11_feed_31 ?_
    refine A_vv1 lk_X11_117 yv_X11_put dX11_feed_33 (rfl) (rfl) (T_X11_put (t := tpd σ + 12) (cput4_t _ _ _) (by omega)) (by decide) (Nat.le_of_ble_eq_true rfl) (fun μ4 e4 => ?_)
    subst e4
    refine A_aload0 dX11_feed_36 ?_
    refine A_iload5 dX11_feed_37 ?_
    refine A_vv1 lk_X11_117 yv_X11_put dX11_feed_39 (rfl) (rfl) (T_X11_put (t := tpd σ + 16) (cput4_t _ _ _) (by omega)) (by decide) (Nat.le_of_ble_eq_true rfl) (fun μ5 e5 => ?_)
    subst e5
    refine A_aload0 dX11_feed_42 ?_
    refine A_getI gf_X11_114 rfl dX11_feed_43 ?_
    rw [cput4_t]
    refine A_iret dX11_feed_46 ?_
    have e : sp_feed σ a b c d e = (nI (tpd σ + 20), put4 (put4 (put4 (put4 (put4 σ (tpd σ) a) (tpd σ + 4) b) (tpd σ + 8) c) (tpd σ + 12) d) (tpd σ + 16) e) := if_pos c2
    refine ⟨_, rfl, by rw [e], ?_⟩
    rw [e]
    exact hR.tape hn (fun i j q1 q2 => by rw [put4_s q1 q2, put4_s q1 q2, put4_s q1 q2, put4_s q1 q2, put4_s q1 q2]) (by rw [put4_2, put4_2, put4_2, put4_2, put4_2]) (fun i j q1 q2 => by rw [cput4_s q1 q2, cput4_s q1 q2, cput4_s q1 q2, cput4_s q1 q2, cput4_s q1 q2]) (by rw [cput4_2, cput4_2, cput4_2, cput4_2, cput4_2]) (RcT_put4 (RcT_put4 (RcT_put4 (RcT_put4 (RcT_put4 hR.1.1))))) ⟨tpd σ + 20, c2, put4_t _ _ _⟩
  · have c2 : ¬ tpd σ + 20 ≤ 800 := fun q => c_10 (by rw [show (20 : Int32) = nI 20 from rfl, nI_add, show (800 : Int32) = nI 800 from rfl]; exact nI_le q (by omega))
    refine A_iconst (v := -1) dX11_feed_13 (by decide) ?_
    refine A_iret dX11_feed_14 ?_
    have e : sp_feed σ a b c d e = (-1, σ) := if_neg c2
    exact ⟨_, rfl, by rw [e], by rw [e]; exact hR.up hn⟩

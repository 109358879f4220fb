/-! names of boxes -/
def FdR (C : Nat → Int64) (x : Int64) (n : Nat) (v : Int32) : Prop := (v = -1 ∧ ∀ k, k < n → ¬ C k = x) ∨ ∃ k, k < n ∧ v = nI k ∧ C k = x
theorem bxO_m (N : Nat → Int64) (w : Int64) : ∀ n, bxO N w n = -1 → n ≤ 5 → ∀ k, k < n → ¬ N k = w := by
  intro n
  induction n with
  | zero => intro _ _ k hk; exact absurd hk (Nat.not_lt_zero _)
  | succ n ih =>
    intro he h5 k hk
    by_cases h : N n = w
    · rw [show bxO N w (n + 1) = nI n from if_pos h] at he
      have h1 := nI_i (n := n) (by omega)
      rw [he] at h1
      have h2 : (-1 : Int32).toInt = -1 := rfl
      omega
    · rw [show bxO N w (n + 1) = bxO N w n from if_neg h] at he
      rcases Nat.lt_or_ge k n with q | q
      · exact ih he (by omega) k q
      · have e : k = n := by omega
        rw [e]
        exact h
theorem fd_bx {C R : Nat → Int64} {x y : Int64} {n : Nat} {v : Int32} (h5 : n ≤ 5) (hR : ∀ k, k < n → NmR (C k) (R k)) (hd : ∀ a b, a < n → b < n → R a = R b → a = b) (hw : NmR x y) (h : FdR C x n v) : v = bxO R y n := by
  have hi : ∀ k, k < n → (C k = x ↔ R k = y) := fun k hk => nmR_i (hR k hk) hw
  rcases h with ⟨e, hno⟩ | ⟨k, hk, e, hc⟩
  · rcases bxO_c R y n with g | ⟨j, j1, -, j3⟩
    · rw [e, g]
    · exact absurd ((hi j j1).mpr j3) (hno j j1)
  · have hk2 := (hi k hk).mp hc
    rcases bxO_c R y n with g | ⟨j, j1, j2, j3⟩
    · exact absurd hk2 (bxO_m R y n g h5 k hk)
    · rw [e, j2, hd k j hk j1 (hk2.trans j3.symm)]
theorem bxO_ge {N : Nat → Int64} {w : Int64} {n : Nat} (h5 : n ≤ 5) : bxO N w n < 0 ↔ bxO N w n = -1 := by
  rcases bxO_c N w n with g | ⟨j, j1, j2, -⟩
  · rw [g]; exact ⟨fun _ => rfl, fun _ => by decide⟩
  · rw [j2]
    have h1 := nI_i (n := j) (by omega)
    constructor
    · intro y
      have h2 := i_lt.mp y
      rw [h1, i_0] at h2
      omega
    · intro y
      rw [y] at h1
      have h2 : (-1 : Int32).toInt = -1 := rfl
      omega
set_option maxHeartbeats 400000 in
set_option maxRecDepth 100000 in
theorem L_X2_find_14 {l : Launch} {G : Wd} {w : Int64} {n : Nat} {μ : Mem} (hn : μ.1 14 0 = nI n) (h5 : n ≤ 5) : ∀ (q k : Nat) (x : Int32), q + k = n → x = nI k → (∀ j, j < k → ¬ μ.2.1 15 j = w) → AW l G KC RX2 cX2_find 4 1 (some .int) (Qi (fun v μ' => FdR (μ.2.1 15) w n v ∧ μ' = μ)) 2 [some (.ref (gA G 14)), some (.long w), none, some (.int x)] [] μ := by
  intro q
  induction q with
  | zero =>
    intro k x hq hx hno
    subst hx
    have ek : k = n := by omega
    rw [ek] at hno
    rw [ek]
    refine A_iload3 dX2_find_2 ?_
    refine A_aload0 dX2_find_3 ?_
    refine A_getI gf_X2_40 rfl dX2_find_4 ?_
    rw [hn]
    refine A_icmp_ge (tgt := 29) dX2_find_7 (by decide) (fun c_7 => ?_) (fun c_7 => absurd c_7 (fun y => y (Int32.le_refl _)))
    refine A_iconst (v := -1) dX2_find_29 (by decide) ?_
    refine A_iret dX2_find_30 ?_
    exact ⟨_, rfl, Or.inl ⟨rfl, hno⟩, rfl⟩
  | succ q ih =>
    intro k x hq hx hno
    subst hx
    refine A_iload3 dX2_find_2 ?_
    refine A_aload0 dX2_find_3 ?_
    refine A_getI gf_X2_40 rfl dX2_find_4 ?_
    rw [hn]
    refine A_icmp_ge (tgt := 29) dX2_find_7 (by decide) (fun c_7 => absurd c_7 (nI_ge (by omega) (by omega))) (fun c_7 => ?_)
    refine A_aload0 dX2_find_10 ?_
    refine A_getR gf_X2_11 rfl dX2_find_11 ?_
    refine A_iload3 dX2_find_14 ?_
    refine A_lald (rfl) (vp_in_nI (by omega) (by omega)) dX2_find_15 ?_
    rw [nI_c (by omega)]
    refine A_lload1 dX2_find_16 ?_
    refine A_lcmp dX2_find_17 ?_
    refine A_if_ne (tgt := 23) dX2_find_18 (by decide) (fun c_18 => ?_) (fun c_18 => ?_)
    · refine A_iinc3 dX2_find_23 rfl rfl (by decide) ?_
      rw [show nI k + Int32.ofInt 1 = nI (k + 1) from nI_1 k]
      refine A_goto (tgt := 2) dX2_find_26 (by decide) ?_
      refine ih (k + 1) _ (by omega) rfl (fun j hj => ?_)
      rcases Nat.lt_or_ge j k with hj1 | hj1
      · exact hno j hj1
      · have ej : j = k := by omega
        rw [ej]
        exact fun y => c_18 (lg_0.mpr y)
    · refine A_iload3 dX2_find_21 ?_
      refine A_iret dX2_find_22 ?_
      exact ⟨_, rfl, Or.inr ⟨k, by omega, rfl, lg_0.mp c_18⟩, rfl⟩
set_option maxHeartbeats 100000 in
set_option maxRecDepth 100000 in
theorem T_X2_find_14 {l : Launch} {G : Wd} {w : Int64} {n : Nat} {μ : Mem} (hn : μ.1 14 0 = nI n) (h5 : n ≤ 5) : Mt l G KC yX2_find cX2_find 4 (some .int) 1 [.ref (gA G 14), .long w] μ (Qi (fun v μ' => FdR (μ.2.1 15) w n v ∧ μ' = μ)) := by
  refine Mt.of (own := RX2) (n := 1) (by decide) rfl [some (.ref (gA G 14)), some (.long w), none, none] rfl (Nat.le_of_ble_eq_true rfl) ?_
  refine A_iconst (v := 0) dX2_find_0 (by decide) ?_
  refine A_istore3 dX2_find_1 rfl (by decide) ?_
  exact L_X2_find_14 hn h5 n 0 _ (by omega) rfl (fun j hj => absurd hj (by omega))
set_option maxHeartbeats 400000 in
set_option maxRecDepth 100000 in
theorem L_X2_find_4 {l : Launch} {G : Wd} {w : Int64} {n : Nat} {μ : Mem} (hn : μ.1 4 0 = nI n) (h5 : n ≤ 5) : ∀ (q k : Nat) (x : Int32), q + k = n → x = nI k → (∀ j, j < k → ¬ μ.2.1 5 j = w) → AW l G KC RX2 cX2_find 4 1 (some .int) (Qi (fun v μ' => FdR (μ.2.1 5) w n v ∧ μ' = μ)) 2 [some (.ref (gA G 4)), some (.long w), none, some (.int x)] [] μ := by
  intro q
  induction q with
  | zero =>
    intro k x hq hx hno
    subst hx
    have ek : k = n := by omega
    rw [ek] at hno
    rw [ek]
    refine A_iload3 dX2_find_2 ?_
    refine A_aload0 dX2_find_3 ?_
    refine A_getI gf_X2_40 rfl dX2_find_4 ?_
    rw [hn]
    refine A_icmp_ge (tgt := 29) dX2_find_7 (by decide) (fun c_7 => ?_) (fun c_7 => absurd c_7 (fun y => y (Int32.le_refl _)))
    refine A_iconst (v := -1) dX2_find_29 (by decide) ?_
    refine A_iret dX2_find_30 ?_
    exact ⟨_, rfl, Or.inl ⟨rfl, hno⟩, rfl⟩
  | succ q ih =>
    intro k x hq hx hno
    subst hx
    refine A_iload3 dX2_find_2 ?_
    refine A_aload0 dX2_find_3 ?_
    refine A_getI gf_X2_40 rfl dX2_find_4 ?_
    rw [hn]
    refine A_icmp_ge (tgt := 29) dX2_find_7 (by decide) (fun c_7 => absurd c_7 (nI_ge (by omega) (by omega))) (fun c_7 => ?_)
    refine A_aload0 dX2_find_10 ?_
    refine A_getR gf_X2_11 rfl dX2_find_11 ?_
    refine A_iload3 dX2_find_14 ?_
    refine A_lald (rfl) (vp_in_nI (by omega) (by omega)) dX2_find_15 ?_
    rw [nI_c (by omega)]
    refine A_lload1 dX2_find_16 ?_
    refine A_lcmp dX2_find_17 ?_
    refine A_if_ne (tgt := 23) dX2_find_18 (by decide) (fun c_18 => ?_) (fun c_18 => ?_)
    · refine A_iinc3 dX2_find_23 rfl rfl (by decide) ?_
      rw [show nI k + Int32.ofInt 1 = nI (k + 1) from nI_1 k]
      refine A_goto (tgt := 2) dX2_find_26 (by decide) ?_
      refine ih (k + 1) _ (by omega) rfl (fun j hj => ?_)
      rcases Nat.lt_or_ge j k with hj1 | hj1
      · exact hno j hj1
      · have ej : j = k := by omega
        rw [ej]
        exact fun y => c_18 (lg_0.mpr y)
    · refine A_iload3 dX2_find_21 ?_
      refine A_iret dX2_find_22 ?_
      exact ⟨_, rfl, Or.inr ⟨k, by omega, rfl, lg_0.mp c_18⟩, rfl⟩
set_option maxHeartbeats 100000 in
set_option maxRecDepth 100000 in
theorem T_X2_find_4 {l : Launch} {G : Wd} {w : Int64} {n : Nat} {μ : Mem} (hn : μ.1 4 0 = nI n) (h5 : n ≤ 5) : Mt l G KC yX2_find cX2_find 4 (some .int) 1 [.ref (gA G 4), .long w] μ (Qi (fun v μ' => FdR (μ.2.1 5) w n v ∧ μ' = μ)) := by
  refine Mt.of (own := RX2) (n := 1) (by decide) rfl [some (.ref (gA G 4)), some (.long w), none, none] rfl (Nat.le_of_ble_eq_true rfl) ?_
  refine A_iconst (v := 0) dX2_find_0 (by decide) ?_
  refine A_istore3 dX2_find_1 rfl (by decide) ?_
  exact L_X2_find_4 hn h5 n 0 _ (by omega) rfl (fun j hj => absurd hj (by omega))
set_option maxHeartbeats 100000 in
set_option maxRecDepth 100000 in
theorem T_X2_clear {l : Launch} {G : Wd} {μ : Mem}  : Mt l G KC yX2_clear cX2_clear 1 none 1 [.ref (gA G 14)] μ (Qv (fun μ' => μ' = wI (wI μ 14 0 0) 14 1 0)) := by
  refine Mt.of (own := RX2) (n := 0) (by decide) rfl [some (.ref (gA G 14))] rfl (Nat.le_of_ble_eq_true rfl) ?_
  refine A_aload0 dX2_clear_0 ?_
  refine A_iconst (v := 0) dX2_clear_1 (by decide) ?_
  refine A_putI gf_X2_40 rfl dX2_clear_2 ?_
  refine A_aload0 dX2_clear_5 ?_
  refine A_iconst (v := 0) dX2_clear_6 (by decide) ?_
  refine A_putI gf_X2_44 rfl dX2_clear_7 ?_
  refine A_vret dX2_clear_10 ?_
  exact ⟨rfl, rfl⟩
def nwA (m : Mem) : Mem := if isNm m then (if sp_boxOf m (m.2.1 0 9) < 0 then m else sp_spoil m 3) else sp_spoil m 2
def odA (m : Mem) : Mem := if isNm m then (if sp_boxOf m (m.2.1 0 9) < 0 then sp_spoil m 5 else m) else sp_spoil m 2
def Fn (nb : Nat) (μ μ' : Mem) : Prop := (∀ i j, ¬ (i = 2 ∧ 4 ≤ j ∧ j ≤ 10) → μ'.1 i j = μ.1 i j) ∧ (∀ i j, ¬ (i = 2 ∧ j = 8) → ¬ (i = 15 ∧ j = nb) → μ'.2.1 i j = μ.2.1 i j) ∧ μ'.2.2 = μ.2.2
theorem F4.fn {nb : Nat} {a b : Mem} (h : F4 a b) : Fn nb a b := ⟨h.1, fun i j q _ => h.2.1 i j q, h.2.2⟩
theorem Fn.f4 {nb : Nat} {a b c : Mem} (h : Fn nb a b) (g : F4 b c) : Fn nb a c := ⟨fun i j q => (g.1 i j q).trans (h.1 i j q), fun i j q q1 => (g.2.1 i j q).trans (h.2.1 i j q q1), g.2.2.trans h.2.2⟩
theorem Fn.l {nb : Nat} {a : Mem} {v : Int64} : Fn nb a (wL a 15 nb v) := ⟨fun _ _ _ => rfl, fun i j _ q => w2_ne (by omega), rfl⟩
/-- names on both sides, the reference's all different -/
def NmS (nb : Nat) (m μ : Mem) : Prop := (∀ k, k < nb → NmR (μ.2.1 15 k) (m.2.1 2 k)) ∧ ∀ a b, a < nb → b < nb → m.2.1 2 a = m.2.1 2 b → a = b
theorem NmS.fd {nb : Nat} {m μ : Mem} {v : Int32} {x y : Int64} (h : NmS nb m μ) (h5 : nb ≤ 5) (hnb : m.1 0 29 = nI nb) (hw : NmR x y) (hf : FdR (μ.2.1 15) x nb v) : v = sp_boxOf m y := by
  have e : nbN m = nb := by unfold nbN; rw [hnb]; exact nI_c (by omega)
  unfold sp_boxOf
  rw [e]
  exact fd_bx h5 h.1 h.2 hw hf
theorem boxOf_ge {nb : Nat} {m : Mem} {y : Int64} (h5 : nb ≤ 5) (hnb : m.1 0 29 = nI nb) : sp_boxOf m y < 0 ↔ sp_boxOf m y = -1 := by
  have e : nbN m = nb := by unfold nbN; rw [hnb]; exact nI_c (by omega)
  unfold sp_boxOf
  exact bxO_ge (by omega)
theorem boxOf_no {nb : Nat} {m : Mem} {y : Int64} (h5 : nb ≤ 5) (hnb : m.1 0 29 = nI nb) (h : sp_boxOf m y = -1) : ∀ k, k < nb → ¬ m.2.1 2 k = y := by
  have e : nbN m = nb := by unfold nbN; rw [hnb]; exact nI_c (by omega)
  unfold sp_boxOf at h
  rw [e] at h
  exact bxO_m _ _ nb h h5
set_option maxHeartbeats 400000 in
set_option maxRecDepth 100000 in
theorem T_X3_newName {l : Launch} {G : Wd} {m μ : Mem} {nb : Nat} (hS : okS G) (h : TS G m μ) (h0 : m.1 0 2 = 0) (h5 : nb < 5) (hnb : m.1 0 29 = nI nb) (hc : μ.1 14 0 = nI nb) (hN : NmS nb m μ) : Mt l G KC yX3_newName cX3_newName 2 none 6 [.ref (gA G 24), .int (nI nb)] μ (Qv (fun μ' => Fn nb μ μ' ∧ ((nwA m).1 0 2 = 0 → TS G (tkn m) μ' ∧ NmR (μ'.2.1 15 nb) (m.2.1 0 9) ∧ nwA m = m ∧ ∀ k, k < nb → ¬ m.2.1 2 k = m.2.1 0 9) ∧ (¬ (nwA m).1 0 2 = 0 → TS G (nwA m) μ'))) := by
  refine Mt.of (own := RX3) (n := 0) (by decide) rfl [some (.ref (gA G 24)), some (.int (nI nb))] rfl (Nat.le_of_ble_eq_true rfl) ?_
  refine A_aload0 dX3_newName_0 ?_
  refine A_getR gf_X3_9 rfl dX3_newName_1 ?_
  refine A_getI gf_X3_24 rfl dX3_newName_4 ?_
  refine A_iconst (v := 3) dX3_newName_7 (by decide) ?_
  refine A_icmp_eq (tgt := 21) dX3_newName_8 (by decide) (fun c_8 => ?_) (fun c_8 => ?_)
  · have hnm : isNm m := (h.kr h0).nm.mpr c_8
    have hb3 : ¬ m.1 0 6 = 3 := by rw [hnm.1]; decide
    have hR := (h.kr h0).n c_8
    refine A_aload0 dX3_newName_21 ?_
    refine A_getR gf_X3_15 rfl dX3_newName_22 ?_
    refine A_aload0 dX3_newName_25 ?_
    refine A_getR gf_X3_9 rfl dX3_newName_26 ?_
    refine A_getL gf_X3_92 rfl dX3_newName_29 ?_
    refine A_vi1 lk_X3_96 yv_X2_find dX3_newName_32 (rfl) (rfl) (T_X2_find_14 hc (by omega)) (by decide) (Nat.le_of_ble_eq_true rfl) (fun r_32 μ_32 h_32 => ?_)
    obtain ⟨v_32, e_32⟩ := h_32
    subst e_32
    have ev := hN.fd (by omega) hnb hR v_32
    rw [ev]
    refine A_iconst (v := -1) dX3_newName_35 (by decide) ?_
    refine A_icmp_eq (tgt := 57) dX3_newName_36 (by decide) (fun c_36 => ?_) (fun c_36 => ?_)
    · refine A_aload0 dX3_newName_57 ?_
      refine A_getR gf_X3_15 rfl dX3_newName_58 ?_
      refine A_getR gf_X3_100 rfl dX3_newName_61 ?_
      refine A_iload1 dX3_newName_64 ?_
      refine A_aload0 dX3_newName_65 ?_
      refine A_getR gf_X3_9 rfl dX3_newName_66 ?_
      refine A_getL gf_X3_92 rfl dX3_newName_69 ?_
      refine A_last (rfl) (vp_in_nI (by omega) (by omega)) dX3_newName_72 ?_
      rw [nI_c (by omega)]
      refine A_aload0 dX3_newName_73 ?_
      refine A_getR gf_X3_9 rfl dX3_newName_74 ?_
      refine A_vv0 lk_X3_50 yv_X9_step dX3_newName_77 (rfl) (rfl) (T_step hS (h.mv Mk.rf (Ck.rf.l (by decide))) h0 hb3) (by decide) (Nat.le_of_ble_eq_true rfl) (fun μ_77 h_77 => ?_)
      refine A_vret dX3_newName_80 ?_
      have e : nwA m = m := (if_pos hnm).trans (if_pos ((boxOf_ge (by omega) hnb).mpr c_36))
      rw [e]
      refine ⟨rfl, Fn.l.f4 h_77.2, fun _ => ⟨h_77.1, ?_, rfl, boxOf_no (by omega) hnb c_36⟩, fun y => absurd h0 y⟩
      rw [h_77.2.2.1 15 nb (by omega), wL_at, if_pos ⟨rfl, rfl⟩]
      exact hR
    · refine A_aload0 dX3_newName_39 ?_
      refine A_getR gf_X3_9 rfl dX3_newName_40 ?_
      refine A_iconst (v := 3) dX3_newName_43 (by decide) ?_
      refine A_aload0 dX3_newName_44 ?_
      refine A_getR gf_X3_9 rfl dX3_newName_45 ?_
      refine A_getI gf_X3_82 rfl dX3_newName_48 ?_
      refine A_vv2 lk_X3_88 yv_X9_fail dX3_newName_51 (rfl) (rfl) (T_X9_fail) (by decide) (Nat.le_of_ble_eq_true rfl) (fun μ_51 h_51 => ?_)
      refine A_goto (tgt := 80) dX3_newName_54 (by decide) ?_
      refine A_vret dX3_newName_80 ?_
      have e : nwA m = sp_spoil m 3 := (if_pos hnm).trans (if_neg (fun y => c_36 ((boxOf_ge (by omega) hnb).mp y)))
      have e2 := spoil_3 (w := 3) h0 hb3
      rw [e]
      refine ⟨rfl, ?_, fun y => absurd y (ps_0 (sp_spoil_2 (by decide))), fun _ => ?_⟩
      · rw [h_51]; exact F4.rf.fl.fn
      · rw [h_51, e2, h.pl h0]; exact h.fl h0 (by decide)
  · refine A_aload0 dX3_newName_11 ?_
    refine A_getR gf_X3_9 rfl dX3_newName_12 ?_
    refine A_vv0 lk_X3_47 yv_X9_refuse dX3_newName_15 (rfl) (rfl) (T_refuse h) (by decide) (Nat.le_of_ble_eq_true rfl) (fun μ_15 h_15 => ?_)
    refine A_goto (tgt := 80) dX3_newName_18 (by decide) ?_
    refine A_vret dX3_newName_80 ?_
    have e : nwA m = sp_spoil m 2 := if_neg (fun y => c_8 ((h.kr h0).nm.mp y))
    rw [e]
    exact ⟨rfl, h_15.2.fn, fun y => absurd y (ps_0 (sp_spoil_2 (by decide))), fun _ => h_15.1⟩
set_option maxHeartbeats 400000 in
set_option maxRecDepth 100000 in
theorem T_X3_oldName {l : Launch} {G : Wd} {m μ : Mem} {nb : Nat} (hS : okS G) (h : TS G m μ) (h0 : m.1 0 2 = 0) (h5 : nb ≤ 5) (hnb : m.1 0 29 = nI nb) (hc : μ.1 14 0 = nI nb) (hN : NmS nb m μ) : Mt l G KC yX3_oldName cX3_oldName 2 (some .int) 6 [.ref (gA G 24)] μ (Qi (fun v μ' => F4 μ μ' ∧ TS G (hlT (odA m)) μ' ∧ ((odA m).1 0 2 = 0 → v = sp_boxOf m (m.2.1 0 9)))) := by
  refine Mt.of (own := RX3) (n := 1) (by decide) rfl [some (.ref (gA G 24)), none] rfl (Nat.le_of_ble_eq_true rfl) ?_
  refine A_iconst (v := -1) dX3_oldName_0 (by decide) ?_
  refine A_istore1 dX3_oldName_1 rfl (by decide) ?_
  refine A_aload0 dX3_oldName_2 ?_
  refine A_getR gf_X3_9 rfl dX3_oldName_3 ?_
  refine A_getI gf_X3_24 rfl dX3_oldName_6 ?_
  refine A_iconst (v := 3) dX3_oldName_9 (by decide) ?_
  refine A_icmp_eq (tgt := 23) dX3_oldName_10 (by decide) (fun c_10 => ?_) (fun c_10 => ?_)
  · have hnm : isNm m := (h.kr h0).nm.mpr c_10
    have hb3 : ¬ m.1 0 6 = 3 := by rw [hnm.1]; decide
    have hR := (h.kr h0).n c_10
    refine A_aload0 dX3_oldName_23 ?_
    refine A_getR gf_X3_15 rfl dX3_oldName_24 ?_
    refine A_aload0 dX3_oldName_27 ?_
    refine A_getR gf_X3_9 rfl dX3_oldName_28 ?_
    refine A_getL gf_X3_92 rfl dX3_oldName_31 ?_
    refine A_vi1 lk_X3_96 yv_X2_find dX3_oldName_34 (rfl) (rfl) (T_X2_find_14 hc h5) (by decide) (Nat.le_of_ble_eq_true rfl) (fun r_34 μ_34 h_34 => ?_)
    obtain ⟨v_34, e_34⟩ := h_34
    subst e_34
    have ev := hN.fd h5 hnb hR v_34
    rw [ev]
    refine A_istore1 dX3_oldName_37 rfl (by decide) ?_
    refine A_iload1 dX3_oldName_38 ?_
    refine A_iconst (v := -1) dX3_oldName_39 (by decide) ?_
    refine A_icmp_ne (tgt := 61) dX3_oldName_40 (by decide) (fun c_40 => ?_) (fun c_40 => ?_)
    · refine A_aload0 dX3_oldName_61 ?_
      refine A_getR gf_X3_9 rfl dX3_oldName_62 ?_
      refine A_vv0 lk_X3_50 yv_X9_step dX3_oldName_65 (rfl) (rfl) (T_step hS h h0 hb3) (by decide) (Nat.le_of_ble_eq_true rfl) (fun μ_65 h_65 => ?_)
      refine A_iload1 dX3_oldName_68 ?_
      refine A_iret dX3_oldName_69 ?_
      have e : odA m = m := (if_pos hnm).trans (if_neg (fun y => c_40 ((boxOf_ge h5 hnb).mp y)))
      refine ⟨_, rfl, h_65.2, ?_, fun y => rfl⟩
      rw [e, hlT_0 h0]
      exact h_65.1
    · refine A_aload0 dX3_oldName_43 ?_
      refine A_getR gf_X3_9 rfl dX3_oldName_44 ?_
      refine A_iconst (v := 5) dX3_oldName_47 (by decide) ?_
      refine A_aload0 dX3_oldName_48 ?_
      refine A_getR gf_X3_9 rfl dX3_oldName_49 ?_
      refine A_getI gf_X3_82 rfl dX3_oldName_52 ?_
      refine A_vv2 lk_X3_88 yv_X9_fail dX3_oldName_55 (rfl) (rfl) (T_X9_fail) (by decide) (Nat.le_of_ble_eq_true rfl) (fun μ_55 h_55 => ?_)
      refine A_goto (tgt := 68) dX3_oldName_58 (by decide) ?_
      refine A_iload1 dX3_oldName_68 ?_
      refine A_iret dX3_oldName_69 ?_
      have e : odA m = sp_spoil m 5 := (if_pos hnm).trans (if_pos ((boxOf_ge h5 hnb).mpr c_40))
      have e2 := spoil_3 (w := 5) h0 hb3
      have hn0 := ps_0 (sp_spoil_2 (μ := m) (w := 5) (by decide))
      refine ⟨_, rfl, ?_, ?_, fun _ => rfl⟩
      · rw [h_55]; exact F4.rf.fl
      · rw [e, hlT_1 hn0, h_55, e2, h.pl h0]; exact h.fl h0 (by decide)
  · refine A_aload0 dX3_oldName_13 ?_
    refine A_getR gf_X3_9 rfl dX3_oldName_14 ?_
    refine A_vv0 lk_X3_47 yv_X9_refuse dX3_oldName_17 (rfl) (rfl) (T_refuse h) (by decide) (Nat.le_of_ble_eq_true rfl) (fun μ_17 h_17 => ?_)
    refine A_goto (tgt := 68) dX3_oldName_20 (by decide) ?_
    refine A_iload1 dX3_oldName_68 ?_
    refine A_iret dX3_oldName_69 ?_
    have e : odA m = sp_spoil m 2 := if_neg (fun y => c_10 ((h.kr h0).nm.mp y))
    have hn0 := ps_0 (sp_spoil_2 (μ := m) (w := 2) (by decide))
    refine ⟨_, rfl, h_17.2, ?_, fun y => ?_⟩
    · rw [e, hlT_1 hn0]; exact h_17.1
    · rw [e] at y; exact absurd y hn0

/-! notes and what waits -/
def ntN (m : Mem) : Nat := (m.1 0 70).toNatClampNeg
def wtN (m : Mem) : Nat := (m.1 0 74).toNatClampNeg
def sp_note (m : Mem) (a b : Int32) : Mem := wI (wI (wI m 40 (ntN m) a) 41 (ntN m) b) 0 70 (nI (ntN m + 1))
def sp_upper (m : Mem) : Int32 := if wtN m = 0 then 30 else m.1 46 (wtN m - 1)
def hdA (m : Mem) (a : Int32) : Mem := wI (wI m 46 (wtN m) a) 0 74 (nI (wtN m + 1))
def sp_hold (m : Mem) (a : Int32) : Mem := if a = 30 ∨ a = 22 then wI (hdA m a) 0 75 ((hdA m a).1 0 75 + 1) else hdA m a
def ppA (w : Nat) (m : Mem) : Mem := if m.1 46 w = 22 then wI (wI m 0 74 (nI w)) 0 75 ((wI m 0 74 (nI w)).1 0 75 - 1) else wI m 0 74 (nI w)
def popAt (w : Nat) (m : Mem) : Mem := sp_note (ppA w m) (m.1 46 w) 0
def stQ (a : Int32) : Nat → Mem → Mem
  | 0, m => m
  | w + 1, m => if m.1 46 w = 30 ∨ m.1 46 w < a then m else stQ a w (popAt w m)
def sp_settle (m : Mem) (a : Int32) : Mem := stQ a (wtN m) m
def nt0 (m : Mem) (n : Nat) : Prop := m.1 0 70 = nI n
theorem ntN_e {m : Mem} {n : Nat} (h : m.1 0 70 = nI n) (h6 : n ≤ 1000) : ntN m = n := by unfold ntN; rw [h]; exact nI_c (by omega)
theorem wtN_e {m : Mem} {n : Nat} (h : m.1 0 74 = nI n) (h6 : n ≤ 1000) : wtN m = n := by unfold wtN; rw [h]; exact nI_c (by omega)
set_option maxHeartbeats 100000 in
set_option maxRecDepth 100000 in
theorem T_X12_note {l : Launch} {G : Wd} {a b : Int32} {n : Nat} {μ : Mem} (hn : μ.1 0 70 = nI n) (h6 : n < 600) : Mt l G KM yX12_note cX12_note 3 none 1 [.ref (gA G 0), .int a, .int b] μ (Qv (fun μ' => μ' = sp_note μ a b)) := by
  refine Mt.of (own := RX12) (n := 0) (by decide) rfl [some (.ref (gA G 0)), some (.int a), some (.int b)] rfl (Nat.le_of_ble_eq_true rfl) ?_
  refine A_aload0 dX12_note_0 ?_
  refine A_getR gf_X12_133 rfl dX12_note_1 ?_
  refine A_aload0 dX12_note_4 ?_
  refine A_getI gf_X12_422 rfl dX12_note_5 ?_
  rw [hn]
  refine A_iload1 dX12_note_8 ?_
  refine A_iast (rfl) (vp_in_nI (by omega) (by omega)) dX12_note_9 ?_
  rw [nI_c (by omega)]
  refine A_aload0 dX12_note_10 ?_
  refine A_getR gf_X12_136 rfl dX12_note_11 ?_
  refine A_aload0 dX12_note_14 ?_
  refine A_getI gf_X12_422 rfl dX12_note_15 ?_
  rw [wI_ne (Or.inl (by decide)), hn]
  refine A_iload2 dX12_note_18 ?_
  refine A_iast (rfl) (vp_in_nI (by omega) (by omega)) dX12_note_19 ?_
  rw [nI_c (by omega)]
  refine A_aload0 dX12_note_20 ?_
  refine A_dup dX12_note_21 rfl ?_
  refine A_getI gf_X12_422 rfl dX12_note_22 ?_
  rw [wI_ne (Or.inl (by decide)), wI_ne (Or.inl (by decide)), hn]
  refine A_iconst (v := 1) dX12_note_25 (by decide) ?_
  refine A_iadd dX12_note_26 ?_
  rw [nI_1]
  refine A_putI gf_X12_422 rfl dX12_note_27 ?_
  refine A_vret dX12_note_30 ?_
  refine ⟨rfl, ?_⟩
  unfold sp_note
  rw [ntN_e hn (by omega)]
theorem nI_z {w : Nat} (h : w ≤ 600) : nI w = 0 ↔ w = 0 := by rw [show (0 : Int32) = nI 0 from rfl]; exact nI_eq (by omega) (by decide)
set_option maxHeartbeats 100000 in
set_option maxRecDepth 100000 in
theorem T_X12_upper {l : Launch} {G : Wd} {w : Nat} {μ : Mem} (hn : μ.1 0 74 = nI w) (h6 : w ≤ 600) : Mt l G KM yX12_upper cX12_upper 1 (some .int) 1 [.ref (gA G 0)] μ (Qi (fun v μ' => v = sp_upper μ ∧ μ' = μ)) := by
  refine Mt.of (own := RX12) (n := 0) (by decide) rfl [some (.ref (gA G 0))] rfl (Nat.le_of_ble_eq_true rfl) ?_
  refine A_aload0 dX12_upper_0 ?_
  refine A_getI gf_X12_425 rfl dX12_upper_1 ?_
  rw [hn]
  refine A_if_ne (tgt := 12) dX12_upper_4 (by decide) (fun c_4 => ?_) (fun c_4 => ?_)
  · refine A_aload0 dX12_upper_12 ?_
    refine A_getR gf_X12_151 rfl dX12_upper_13 ?_
    refine A_aload0 dX12_upper_16 ?_
    refine A_getI gf_X12_425 rfl dX12_upper_17 ?_
    rw [hn]
    refine A_iconst (v := 1) dX12_upper_20 (by decide) ?_
    refine A_isub dX12_upper_21 ?_
    rw [show nI w - 1 = nI (w - 1) from by obtain ⟨v, rfl⟩ : ∃ v, w = v + 1 := ⟨w - 1, by have := mt (nI_z h6).mpr c_4; omega⟩; exact nI_pred v]
    refine A_iald (rfl) (vp_in_nI (by have := mt (nI_z h6).mpr c_4; omega) (by omega)) dX12_upper_22 ?_
    rw [nI_c (by omega)]
    refine A_iret dX12_upper_23 ?_
    refine ⟨_, rfl, ?_, rfl⟩
    unfold sp_upper
    rw [wtN_e hn (by omega)]
    rw [if_neg (mt (nI_z h6).mpr c_4)]
  · refine A_bipush (v := 30) dX12_upper_7 (by decide) ?_
    refine A_goto (tgt := 23) dX12_upper_9 (by decide) ?_
    refine A_iret dX12_upper_23 ?_
    refine ⟨_, rfl, ?_, rfl⟩
    unfold sp_upper
    rw [wtN_e hn (by omega)]
    rw [if_pos ((nI_z h6).mp c_4)]
set_option maxHeartbeats 100000 in
set_option maxRecDepth 100000 in
theorem T_X12_hold {l : Launch} {G : Wd} {a : Int32} {w : Nat} {μ : Mem} (hn : μ.1 0 74 = nI w) (h6 : w < 600) : Mt l G KM yX12_hold cX12_hold 2 none 1 [.ref (gA G 0), .int a] μ (Qv (fun μ' => μ' = sp_hold μ a)) := by
  refine Mt.of (own := RX12) (n := 0) (by decide) rfl [some (.ref (gA G 0)), some (.int a)] rfl (Nat.le_of_ble_eq_true rfl) ?_
  refine A_aload0 dX12_hold_0 ?_
  refine A_getR gf_X12_151 rfl dX12_hold_1 ?_
  refine A_aload0 dX12_hold_4 ?_
  refine A_getI gf_X12_425 rfl dX12_hold_5 ?_
  rw [hn]
  refine A_iload1 dX12_hold_8 ?_
  refine A_iast (rfl) (vp_in_nI (by omega) (by omega)) dX12_hold_9 ?_
  rw [nI_c (by omega)]
  refine A_aload0 dX12_hold_10 ?_
  refine A_dup dX12_hold_11 rfl ?_
  refine A_getI gf_X12_425 rfl dX12_hold_12 ?_
  rw [wI_ne (Or.inl (by decide)), hn]
  refine A_iconst (v := 1) dX12_hold_15 (by decide) ?_
  refine A_iadd dX12_hold_16 ?_
  rw [nI_1]
  refine A_putI gf_X12_425 rfl dX12_hold_17 ?_
  have eA : wI (wI μ 46 w a) 0 74 (nI (w + 1)) = hdA μ a := by unfold hdA; rw [wtN_e hn (by omega)]
  rw [eA]
  refine A_iload1 dX12_hold_20 ?_
  refine A_bipush (v := 30) dX12_hold_21 (by decide) ?_
  refine A_icmp_eq (tgt := 32) dX12_hold_23 (by decide) (fun c_23 => ?_) (fun c_23 => ?_)
  · refine A_aload0 dX12_hold_32 ?_
    refine A_dup dX12_hold_33 rfl ?_
    refine A_getI gf_X12_428 rfl dX12_hold_34 ?_
    refine A_iconst (v := 1) dX12_hold_37 (by decide) ?_
    refine A_iadd dX12_hold_38 ?_
    refine A_putI gf_X12_428 rfl dX12_hold_39 ?_
    refine A_vret dX12_hold_42 ?_
    refine ⟨rfl, ?_⟩
    unfold sp_hold
    rw [if_pos (Or.inl c_23)]
  · refine A_iload1 dX12_hold_26 ?_
    refine A_bipush (v := 22) dX12_hold_27 (by decide) ?_
    refine A_icmp_ne (tgt := 42) dX12_hold_29 (by decide) (fun c_29 => ?_) (fun c_29 => ?_)
    · refine A_vret dX12_hold_42 ?_
      refine ⟨rfl, ?_⟩
      unfold sp_hold
      rw [if_neg (fun z => by rcases z with z | z; exact c_23 z; exact c_29 z)]
    · refine A_aload0 dX12_hold_32 ?_
      refine A_dup dX12_hold_33 rfl ?_
      refine A_getI gf_X12_428 rfl dX12_hold_34 ?_
      refine A_iconst (v := 1) dX12_hold_37 (by decide) ?_
      refine A_iadd dX12_hold_38 ?_
      refine A_putI gf_X12_428 rfl dX12_hold_39 ?_
      refine A_vret dX12_hold_42 ?_
      refine ⟨rfl, ?_⟩
      unfold sp_hold
      rw [if_pos (Or.inr c_29)]
theorem ppA_r {w : Nat} {m : Mem} {i j : Nat} (h : ¬ (i = 0 ∧ (j = 74 ∨ j = 75))) : (ppA w m).1 i j = m.1 i j := by
  unfold ppA
  split
  · rw [wI_ne (by omega), wI_ne (by omega)]
  · rw [wI_ne (by omega)]
theorem ppA_l {w : Nat} {m : Mem} : (ppA w m).2 = m.2 := by
  unfold ppA
  split <;> rfl
theorem ppA_74 {w : Nat} {m : Mem} : (ppA w m).1 0 74 = nI w := by
  unfold ppA
  split
  · rw [wI_ne (Or.inr (by decide)), wI_same]
  · exact wI_same
set_option maxHeartbeats 100000 in
set_option maxRecDepth 100000 in
theorem L_X12_pop_34 {l : Launch} {G : Wd} {μ : Mem} {w n : Nat} (h6 : w < 600) (hc : μ.1 0 70 = nI n) (h5 : n < 600) : AW l G KM RX12 cX12_pop 1 2 none (Qv (fun μ' => μ' = popAt w μ)) 34 [some (.ref (gA G 0))] [] (ppA w μ) := by
  refine A_aload0 dX12_pop_34 ?_
  refine A_aload0 dX12_pop_35 ?_
  refine A_getR gf_X12_151 rfl dX12_pop_36 ?_
  refine A_aload0 dX12_pop_39 ?_
  refine A_getI gf_X12_425 rfl dX12_pop_40 ?_
  rw [ppA_74]
  refine A_iald (rfl) (vp_in_nI (by omega) (by omega)) dX12_pop_43 ?_
  rw [nI_c (by omega), ppA_r (by omega)]
  refine A_iconst (v := 0) dX12_pop_44 (by decide) ?_
  refine A_vv2 lk_X12_431 yv_X12_note dX12_pop_45 (rfl) (rfl) (T_X12_note (n := n) ((ppA_r (by omega)).trans hc) h5) (by decide) (Nat.le_of_ble_eq_true rfl) (fun μ_45 h_45 => ?_)
  refine A_vret dX12_pop_48 ?_
  exact ⟨rfl, h_45⟩
set_option maxHeartbeats 100000 in
set_option maxRecDepth 100000 in
theorem T_X12_pop {l : Launch} {G : Wd} {w n : Nat} {μ : Mem} (hn : μ.1 0 74 = nI (w + 1)) (h6 : w < 600) (hc : μ.1 0 70 = nI n) (h5 : n < 600) : Mt l G KM yX12_pop cX12_pop 1 none 2 [.ref (gA G 0)] μ (Qv (fun μ' => μ' = popAt w μ)) := by
  refine Mt.of (own := RX12) (n := 0) (by decide) rfl [some (.ref (gA G 0))] rfl (Nat.le_of_ble_eq_true rfl) ?_
  refine A_aload0 dX12_pop_0 ?_
  refine A_dup dX12_pop_1 rfl ?_
  refine A_getI gf_X12_425 rfl dX12_pop_2 ?_
  rw [hn]
  refine A_iconst (v := 1) dX12_pop_5 (by decide) ?_
  refine A_isub dX12_pop_6 ?_
  rw [nI_pred]
  refine A_putI gf_X12_425 rfl dX12_pop_7 ?_
  refine A_aload0 dX12_pop_10 ?_
  refine A_getR gf_X12_151 rfl dX12_pop_11 ?_
  refine A_aload0 dX12_pop_14 ?_
  refine A_getI gf_X12_425 rfl dX12_pop_15 ?_
  rw [wI_same]
  refine A_iald (rfl) (vp_in_nI (by omega) (by omega)) dX12_pop_18 ?_
  rw [nI_c (by omega), wI_ne (Or.inl (by decide))]
  refine A_bipush (v := 22) dX12_pop_19 (by decide) ?_
  refine A_icmp_ne (tgt := 34) dX12_pop_21 (by decide) (fun c_21 => ?_) (fun c_21 => ?_)
  · have e1 : ppA w μ = wI μ 0 74 (nI w) := if_neg c_21
    rw [← e1]
    exact L_X12_pop_34 h6 hc h5
  · refine A_aload0 dX12_pop_24 ?_
    refine A_dup dX12_pop_25 rfl ?_
    refine A_getI gf_X12_428 rfl dX12_pop_26 ?_
    refine A_iconst (v := 1) dX12_pop_29 (by decide) ?_
    refine A_isub dX12_pop_30 ?_
    refine A_putI gf_X12_428 rfl dX12_pop_31 ?_
    have e1 : ppA w μ = wI (wI μ 0 74 (nI w)) 0 75 ((wI μ 0 74 (nI w)).1 0 75 - 1) := if_pos c_21
    rw [← e1]
    exact L_X12_pop_34 h6 hc h5
theorem popAt_r {w n : Nat} {m : Mem} (hc : m.1 0 70 = nI n) (h5 : n < 600) : (popAt w m).1 0 74 = nI w ∧ (popAt w m).1 0 70 = nI (n + 1) ∧ (popAt w m).2 = m.2 ∧ (∀ j, (popAt w m).1 46 j = m.1 46 j) ∧ (popAt w m).1 40 = upd (m.1 40) n (m.1 46 w) ∧ (popAt w m).1 41 = upd (m.1 41) n 0 ∧ (∀ i j, i ≠ 40 → i ≠ 41 → ¬ (i = 0 ∧ (j = 70 ∨ j = 74 ∨ j = 75)) → (popAt w m).1 i j = m.1 i j) := by
  have e : ntN (ppA w m) = n := ntN_e ((ppA_r (by omega)).trans hc) (by omega)
  unfold popAt sp_note
  rw [e]
  refine ⟨?_, wI_same, ?_, fun j => ?_, ?_, ?_, fun i j h1 h2 h3 => ?_⟩
  · rw [wI_ne (Or.inr (by decide)), wI_ne (Or.inl (by decide)), wI_ne (Or.inl (by decide)), ppA_74]
  · exact ppA_l
  · rw [wI_ne (Or.inl (by decide)), wI_ne (Or.inl (by decide)), wI_ne (Or.inl (by decide)), ppA_r (by omega)]
  · rw [wI_row (by decide), wI_row (by decide)]
    show w2 (ppA w m).1 40 n (m.1 46 w) 40 = _
    rw [w2_row]
    congr 1
    funext j
    exact ppA_r (by omega)
  · rw [wI_row (by decide)]
    show w2 (wI (ppA w m) 40 n (m.1 46 w)).1 41 n 0 41 = _
    rw [w2_row]
    congr 1
    funext j
    rw [wI_ne (Or.inl (by decide)), ppA_r (by omega)]
  · rw [wI_ne (by omega), wI_ne (by omega), wI_ne (by omega), ppA_r (by omega)]
set_option maxHeartbeats 100000 in
set_option maxRecDepth 100000 in
theorem L_X12_settle {l : Launch} {G : Wd} {M : Mem} {a : Int32} : ∀ (w n : Nat) (m : Mem), m.1 0 74 = nI w → m.1 0 70 = nI n → n + w ≤ 600 → stQ a w m = sp_settle M a → AW l G KM RX12 cX12_settle 2 3 none (Qv (fun μ' => sp_settle M a = μ')) 0 [some (.ref (gA G 0)), some (.int a)] [] m := by
  intro w
  induction w with
  | zero =>
    intro n m hn hc h6 he
    have e0 : sp_upper m = 30 := by unfold sp_upper; rw [wtN_e hn (by omega), if_pos rfl]
    refine A_aload0 dX12_settle_0 ?_
    refine A_vi0 lk_X12_434 yv_X12_upper dX12_settle_1 (rfl) (rfl) (T_X12_upper hn (by omega)) (by decide) (Nat.le_of_ble_eq_true rfl) (fun r_1 μ_1 h_1 => ?_)
    obtain ⟨v_1, e_1⟩ := h_1
    replace v_1 := Eq.symm v_1
    subst v_1
    replace e_1 := e_1.symm
    subst e_1
    rw [e0]
    refine A_bipush (v := 30) dX12_settle_4 (by decide) ?_
    refine A_icmp_eq (tgt := 24) dX12_settle_6 (by decide) (fun c_6 => ?_) (fun c_6 => absurd c_6 (fun z => z rfl))
    refine A_vret dX12_settle_24 ?_
    exact ⟨rfl, he.symm⟩
  | succ w ih =>
    intro n m hn hc h6 he
    have e0 : sp_upper m = m.1 46 w := by unfold sp_upper; rw [wtN_e hn (by omega), if_neg (by omega)]; rfl
    obtain ⟨p1, p2, -⟩ := popAt_r (w := w) hc (by omega)
    refine A_aload0 dX12_settle_0 ?_
    refine A_vi0 lk_X12_434 yv_X12_upper dX12_settle_1 (rfl) (rfl) (T_X12_upper hn (by omega)) (by decide) (Nat.le_of_ble_eq_true rfl) (fun r_1 μ_1 h_1 => ?_)
    obtain ⟨v_1, e_1⟩ := h_1
    replace v_1 := Eq.symm v_1
    subst v_1
    replace e_1 := e_1.symm
    subst e_1
    rw [e0]
    refine A_bipush (v := 30) dX12_settle_4 (by decide) ?_
    refine A_icmp_eq (tgt := 24) dX12_settle_6 (by decide) (fun c_6 => ?_) (fun c_6 => ?_)
    · refine A_vret dX12_settle_24 ?_
      refine ⟨rfl, ?_⟩
      rw [← he, stQ, if_pos (Or.inl c_6)]
    · refine A_aload0 dX12_settle_9 ?_
      refine A_vi0 lk_X12_434 yv_X12_upper dX12_settle_10 (rfl) (rfl) (T_X12_upper hn (by omega)) (by decide) (Nat.le_of_ble_eq_true rfl) (fun r_10 μ_10 h_10 => ?_)
      obtain ⟨v_10, e_10⟩ := h_10
      replace v_10 := Eq.symm v_10
      subst v_10
      replace e_10 := e_10.symm
      subst e_10
      rw [e0]
      refine A_iload1 dX12_settle_13 ?_
      refine A_icmp_lt (tgt := 24) dX12_settle_14 (by decide) (fun c_14 => ?_) (fun c_14 => ?_)
      · refine A_vret dX12_settle_24 ?_
        refine ⟨rfl, ?_⟩
        rw [← he, stQ, if_pos (Or.inr c_14)]
      · refine A_aload0 dX12_settle_17 ?_
        refine A_vv0 lk_X12_437 yv_X12_pop dX12_settle_18 (rfl) (rfl) (T_X12_pop hn (by omega) hc (by omega)) (by decide) (Nat.le_of_ble_eq_true rfl) (fun μ_18 h_18 => ?_)
        replace h_18 := Eq.symm h_18
        subst h_18
        refine A_goto (tgt := 0) dX12_settle_21 (by decide) ?_
        refine ih (n + 1) _ p1 p2 (by omega) ?_
        rw [← he, stQ, if_neg (fun z => by rcases z with z | z; exact c_6 z; exact c_14 z)]
theorem T_X12_settle {l : Launch} {G : Wd} {a : Int32} {w n : Nat} {μ : Mem} (hn : μ.1 0 74 = nI w) (hc : μ.1 0 70 = nI n) (h6 : n + w ≤ 600) : Mt l G KM yX12_settle cX12_settle 2 none 3 [.ref (gA G 0), .int a] μ (Qv (fun μ' => sp_settle μ a = μ')) := by
  refine Mt.of (own := RX12) (n := 0) (by decide) rfl [some (.ref (gA G 0)), some (.int a)] rfl (Nat.le_of_ble_eq_true rfl) ?_
  refine L_X12_settle w n μ hn hc h6 ?_
  unfold sp_settle
  rw [wtN_e hn (by omega)]

/-! the text's reference; open -/
set_option maxHeartbeats 200000 in
theorem KC_3 : ∀ a : Fin 85, a.val ≠ 2 → ((KC[a.val]?).all (fun q => q.2.2.all (fun z => decide (z.1 < 3)))) = true := by decide +kernel
set_option maxHeartbeats 200000 in
theorem cel_wR {G : Wd} {μ : Mem} {v a : Nat} {q : Kd} (h : q.2.2.all (fun z => decide (z.1 < 3)) = true) : cel G (wR μ v) a q = cel G μ a q := by
  obtain ⟨q1, q2, q3⟩ := q
  have hv : mvals G (wR μ v) a q3 = mvals G μ a q3 := by
    unfold mvals
    apply List.ext_getElem?
    intro i
    rw [List.getElem?_mapIdx, List.getElem?_mapIdx]
    cases hz : q3[i]? with
    | none => rfl
    | some z =>
      have h1 := of_decide_eq_true (List.all_eq_true.mp h z (List.mem_of_getElem? hz))
      obtain ⟨z1, z2⟩ := z
      have h2 : z1 < 3 := h1
      show some (mval G (wR μ v) a i (z1, z2)) = some (mval G μ a i (z1, z2))
      have h3 : z1 = 0 ∨ z1 = 1 ∨ z1 = 2 := by omega
      rcases h3 with e | e | e <;> rw [e] <;> rfl
  match q1 with
  | 0 => show (Sum.inr (q2, mvals G (wR μ v) a q3) : va_E) = .inr (q2, mvals G μ a q3); rw [hv]
  | 1 => rfl
  | 2 => rfl
  | 3 => rfl
  | 4 => rfl
  | n + 5 => rfl
abbrev fsT : List (Nat × Nat) := [(2, 1), (2, 3), (0, 0), (3, 0), (0, 0), (0, 0), (0, 0), (0, 0), (1, 0), (0, 0), (0, 0)]
set_option maxHeartbeats 200000 in
theorem fsT_3 : ∀ b : Fin 11, b.val ≠ 3 → ((fsT[b.val]?).all (fun z => decide (z.1 < 3))) = true := by decide +kernel
set_option maxHeartbeats 200000 in
theorem fsT_b : ∀ (b : Nat) (z : Nat × Nat), b ≠ 3 → fsT[b]? = some z → z.1 < 3 := by
  intro b z e hq
  have hb : b < 11 := (List.getElem?_eq_some_iff.mp hq).1
  have h3 := fsT_3 ⟨b, hb⟩ e
  have hq2 : fsT[(⟨b, hb⟩ : Fin 11).val]? = some z := hq
  rw [hq2] at h3
  exact of_decide_eq_true h3
set_option maxHeartbeats 200000 in
theorem mvals_setT {G : Wd} {μ : Mem} {x i j : Nat} {fs : List (Nat × Nat)} (h3 : fs[3]? = some (3, j)) (hf : ∀ (b : Nat) (z : Nat × Nat), b ≠ 3 → fs[b]? = some z → z.1 < 3) : (mvals G μ i fs).set 3 (.ref x) = mvals G (wR μ x) i fs := by
  apply List.ext_getElem?
  intro b
  rw [List.getElem?_set]
  by_cases e : 3 = b
  · subst e
    rw [if_pos rfl, if_pos (by rw [mvals_len]; exact (List.getElem?_eq_some_iff.mp h3).1), mvals_at h3]
    rfl
  · rw [if_neg e]
    unfold mvals
    rw [List.getElem?_mapIdx, List.getElem?_mapIdx]
    cases hq : fs[b]? with
    | none => rfl
    | some z =>
      have h1 := hf b z (fun y => e y.symm) hq
      obtain ⟨z1, z2⟩ := z
      have h2 : z1 < 3 := h1
      show some (mval G μ i b (z1, z2)) = some (mval G (wR μ x) i b (z1, z2))
      have h4 : z1 = 0 ∨ z1 = 1 ∨ z1 = 2 := by omega
      rcases h4 with e | e | e <;> rw [e] <;> rfl
set_option maxHeartbeats 200000 in
theorem cells_setT {G : Wd} {μ : Mem} {x : Nat} : (cells G KC μ).set 2 (gA G 2, .inr (9, (mvals G μ 2 fsT).set 3 (.ref x))) = cells G KC (wR μ x) := by
  refine cells_set (q := (0, 9, fsT)) rfl ?_ (fun a q' h hq => ?_)
  · show (Sum.inr (9, (mvals G μ 2 fsT).set 3 (.ref x)) : va_E) = .inr (9, mvals G (wR μ x) 2 fsT)
    exact congrArg (fun y => (Sum.inr (9, y) : va_E)) (mvals_setT (rfl : fsT[3]? = some (3, 0)) fsT_b)
  · have hl : a < 85 := by
      have := (List.getElem?_eq_some_iff.mp hq).1
      exact this
    have h3 := KC_3 ⟨a, hl⟩ h
    have hq2 : KC[(⟨a, hl⟩ : Fin 85).val]? = some q' := hq
    rw [hq2] at h3
    exact cel_wR h3
set_option maxHeartbeats 200000 in
theorem A_putT {l : Launch} {G : Wd} {own : String} {cc : ByteArray} {nL d : Nat} {rt : Option FieldType} {Q : Option Value → Mem → Prop} {pc : Nat} {ls : List (Option Value)} {st : List Value} {μ : Mem} {idx x : Nat} (hg : Gf own idx 9 3 (.object "java/lang/String") false) (hd : decode cc pc = .ok (.putfield idx, 3)) (kk : AW l G KC own cc nL d rt Q (pc + 3) ls st (wR μ x)) : AW l G KC own cc nL d rt Q pc ls (.ref x :: .ref (gA G 2) :: st) μ := by
  intro p e s m args below meth c H locs la F hP hD hE hS hl
  obtain ⟨hx, hb, hr, hml, hown, hts, hlk⟩ := F
  obtain ⟨C, T, N, ty0, h1, h2, h3, h4, h5, h6, h7, h8⟩ := hg
  have g1 : KC[2]? = some (0, 9, fsT) := rfl
  refine va_put (D := gD G) (cl := vwCl) (tys := tyG G) (ty := .object "java/lang/String") hx hb hts h4 ty0 h5 h6 hown hE.1 hP hD hS 2 (cells_at g1) h1 3 h2 (hts _ h3) (fun _ h9 => h9) h8 (by rw [h5 3 h2, h7]) rfl rfl (by rw [mvals_len]; decide) hd (fun H1 locs1 hP1 hD1 hS1 => ?_)
  rw [cells_setT] at hP1 hD1
  exact kk p e s m args below meth c H1 locs1 la ⟨hx, hb, hr, hml, hown, hts, hlk⟩ hP1 hD1 hE hS1 hl
set_option maxHeartbeats 200000 in
theorem TB.stp {G : Wd} {m μ : Mem} (hB : TB G m μ) (h6 : μ.1 2 9 = m.1 0 2) (h7 : μ.1 2 10 = m.1 0 3) (h0 : m.1 0 2 = 0) (ha : μ.1 2 4 = m.1 0 4) : ∃ z : Fin 2, CX G (m.1 1) (szN m) (atN m) z μ ∧ ∀ μ', StQ (m.1 1) (szN m) z (spN (m.1 1) (szN m) (atN m)) μ μ' → TS G (tkn m) μ' ∧ F4 μ μ' := by
  have hB0 := hB
  obtain ⟨hw, ⟨z, hz, hs⟩, ht, hn, hk⟩ := hB
  have hx := hw.x
  have hr : (tkn m) = tkM m (spN (m.1 1) (szN m) (atN m)) (tk (m.1 1) (szN m) (nI z.val) (spN (m.1 1) (szN m) (atN m))) := by
    show tkM m _ (tk _ _ (m.1 0 10) _) = _
    rw [hz]
  refine ⟨z, ⟨ht, hx.n8, hx.a8, hn.trans hx.n, ha.trans hx.a, hs, hk⟩, fun μ' hq => ?_⟩
  obtain ⟨q1, q2, q3, q4⟩ := hq
  refine ⟨⟨hB0.go hw.tn Rd.rf.tk q1.f4, ?_, ?_, Or.inl ⟨(tkn_2 m).trans h0, ?_, ?_, ?_⟩⟩, q1.f4⟩
  · rw [q1.1 2 9 (by omega), tkn_2]; exact h6
  · rw [q1.1 2 10 (by omega), tkn_3]; exact h7
  · rw [q2, hr, tkM_7]
  · intro y
    rw [hr, tkM_6] at y
    rw [q3, hr, tkM_4, if_neg y]
  · rw [(Rd.rf.tk (b := m)).1 0 10 (by unfold rdK; omega), hz, hr, tkM_6, tkM_8, tkM_9]
    exact q4
def Fo (μ μ' : Mem) : Prop := (∀ i j, i ≠ 2 → μ'.1 i j = μ.1 i j) ∧ ∀ i j, i ≠ 2 → μ'.2.1 i j = μ.2.1 i j
def opM (G : Wd) (μ : Mem) (t : Nat) (z : Fin 2) : Mem := wI (wI (wI (wR (wI μ 2 2 (nI t)) (gA G (104 + z.val))) 2 4 0) 2 9 0) 2 10 (-1)
set_option maxHeartbeats 200000 in
theorem T_stp {l : Launch} {G : Wd} {m μ : Mem} (hS : okS G) (hB : TB G m μ) (h6 : μ.1 2 9 = m.1 0 2) (h7 : μ.1 2 10 = m.1 0 3) (h0 : m.1 0 2 = 0) (ha : μ.1 2 4 = m.1 0 4) : Mt l G KC yX9_step cX9_step 2 none 5 [.ref (gA G 2)] μ (Qv (fun μ' => TS G (tkn m) μ' ∧ F4 μ μ')) := by
  obtain ⟨z, hx, hq⟩ := hB.stp h6 h7 h0 ha
  exact (T_X9_step hS hx).monoV hq
set_option maxHeartbeats 400000 in
set_option maxRecDepth 100000 in
theorem T_X9_open {l : Launch} {G : Wd} {m μ : Mem} {t : Nat} {z : Fin 2} (hS : okS G) (ht : t ≤ 800) (hB : TB G m (opM G μ t z)) (h6 : (opM G μ t z).1 2 9 = m.1 0 2) (h7 : (opM G μ t z).1 2 10 = m.1 0 3) (h0 : m.1 0 2 = 0) (ha : (opM G μ t z).1 2 4 = m.1 0 4) : Mt l G KC yX9_open cX9_open 3 none 6 [.ref (gA G 2), .int (nI t), .ref (gA G (104 + z.val))] μ (Qv (fun μ' => TS G (tkn m) μ' ∧ Fo μ μ')) := by
  refine Mt.of (own := RX9) (n := 0) (by decide) rfl [some (.ref (gA G 2)), some (.int (nI t)), some (.ref (gA G (104 + z.val)))] rfl (Nat.le_of_ble_eq_true rfl) ?_
  refine A_aload0 dX9_open_0 ?_
  refine A_iload1 dX9_open_1 ?_
  refine A_aload0 dX9_open_2 ?_
  refine A_getR gf_X9_7 rfl dX9_open_3 ?_
  refine A_alen (v := 800) (rfl) (by decide) (by decide) dX9_open_6 ?_
  refine A_si2 lk_X9_41 ys_J9_min_7cf53 dX9_open_7 (T_min) (by decide) (Nat.le_of_ble_eq_true rfl) (fun r_7 μ_7 h_7 => ?_)
  obtain ⟨v_7, e_7⟩ := h_7
  replace v_7 := Eq.symm v_7
  subst v_7
  replace e_7 := e_7.symm
  subst e_7
  refine A_val (y := nI t) (by rw [show (800 : Int32) = nI 800 from rfl, imin_n (by omega) (by omega), Nat.min_eq_left ht]) ?_
  refine A_putI gf_X9_47 rfl dX9_open_10 ?_
  refine A_aload0 dX9_open_13 ?_
  refine A_aload2 dX9_open_14 ?_
  refine A_putT gf_X9_15 dX9_open_15 ?_
  refine A_aload0 dX9_open_18 ?_
  refine A_iconst (v := 0) dX9_open_19 (by decide) ?_
  refine A_putI gf_X9_50 rfl dX9_open_20 ?_
  refine A_aload0 dX9_open_23 ?_
  refine A_iconst (v := 0) dX9_open_24 (by decide) ?_
  refine A_putI gf_X9_53 rfl dX9_open_25 ?_
  refine A_aload0 dX9_open_28 ?_
  refine A_iconst (v := -1) dX9_open_29 (by decide) ?_
  refine A_putI gf_X9_58 rfl dX9_open_30 ?_
  have em : wI (wI (wI (wR (wI μ 2 2 (nI t)) (gA G (104 + z.val))) 2 4 0) 2 9 0) 2 10 (-1) = opM G μ t z := rfl
  rw [em]
  refine A_aload0 dX9_open_33 ?_
  refine A_vv0 lk_X9_61 yv_X9_step dX9_open_34 (rfl) (rfl) (T_stp (m := m) hS hB h6 h7 h0 ha) (by decide) (Nat.le_of_ble_eq_true rfl) (fun μ_34 h_34 => ?_)
  refine A_vret dX9_open_37 ?_
  refine ⟨rfl, h_34.1, fun i j q => ?_, fun i j q => ?_⟩
  · rw [h_34.2.1 i j (by omega)]
    unfold opM
    rw [wI_ne (by omega), wI_ne (by omega), wI_ne (by omega)]
    exact wI_ne (by omega)
  · rw [h_34.2.2.1 i j (by omega)]
    rfl
/-! what hill lays down -/
set_option maxHeartbeats 200000 in
theorem hkA_s (m : Mem) : (∀ j, j < 5 → (itN hkA 5 0 m).2.1 3 j = m.2.1 2 j ∧ (itN hkA 5 0 m).1 7 j = m.1 4 j ∧ (itN hkA 5 0 m).1 9 j = m.1 6 j) ∧ (∀ i j, i ≠ 7 → i ≠ 9 → (itN hkA 5 0 m).1 i j = m.1 i j) ∧ ∀ i j, i ≠ 3 → (itN hkA 5 0 m).2.1 i j = m.2.1 i j := by
  refine itN_inv (f := hkA) (fun k x => (∀ j, j < k → x.2.1 3 j = m.2.1 2 j ∧ x.1 7 j = m.1 4 j ∧ x.1 9 j = m.1 6 j) ∧ (∀ i j, i ≠ 7 → i ≠ 9 → x.1 i j = m.1 i j) ∧ ∀ i j, i ≠ 3 → x.2.1 i j = m.2.1 i j) 5 (fun k x _ hx => ?_) 5 0 m (by omega) ⟨fun j hj => absurd hj (Nat.not_lt_zero _), fun _ _ _ _ => rfl, fun _ _ _ => rfl⟩
  obtain ⟨h1, h2, h3⟩ := hx
  unfold hkA
  refine ⟨fun j hj => ?_, fun i j a b => ?_, fun i j a => ?_⟩
  · rw [wI_l, wI_l, wL_at]
    by_cases c : j = k
    · rw [c, if_pos ⟨rfl, rfl⟩, wI_ne (by omega), wI_same, wI_same]
      exact ⟨h3 2 k (by omega), h2 4 k (by omega) (by omega), h2 6 k (by omega) (by omega)⟩
    · rw [if_neg (by omega), wI_ne (by omega), wI_ne (by omega), wI_ne (by omega), wI_ne (by omega), wL_i]
      exact h1 j (by omega)
  · rw [wI_ne (by omega), wI_ne (by omega), wL_i]
    exact h2 i j a b
  · rw [wI_l, wI_l, wL_at, if_neg (by omega)]
    exact h3 i j a
set_option maxHeartbeats 200000 in
theorem hkB_s (m : Mem) : (∀ j, j < 40 → (itN hkB 40 0 m).1 8 j = m.1 5 j) ∧ (∀ i j, i ≠ 8 → (itN hkB 40 0 m).1 i j = m.1 i j) ∧ (itN hkB 40 0 m).2 = m.2 := by
  refine itN_inv (f := hkB) (fun k x => (∀ j, j < k → x.1 8 j = m.1 5 j) ∧ (∀ i j, i ≠ 8 → x.1 i j = m.1 i j) ∧ x.2 = m.2) 40 (fun k x _ hx => ?_) 40 0 m (by omega) ⟨fun j hj => absurd hj (Nat.not_lt_zero _), fun _ _ _ => rfl, rfl⟩
  obtain ⟨h1, h2, h3⟩ := hx
  unfold hkB
  refine ⟨fun j hj => ?_, fun i j a => ?_, h3⟩
  · by_cases c : j = k
    · rw [c, wI_same]; exact h2 5 k (by omega)
    · rw [wI_ne (by omega)]; exact h1 j (by omega)
  · rw [wI_ne (by omega)]; exact h2 i j a
set_option maxHeartbeats 200000 in
theorem hkC_s (m : Mem) : (∀ i j, 15 ≤ i ∧ i ≤ 17 → j < 300 → (itN hkC 300 0 m).1 i j = vp_nar .boolean (m.1 (i - 5) j)) ∧ (∀ i j, ¬ (15 ≤ i ∧ i ≤ 17) → (itN hkC 300 0 m).1 i j = m.1 i j) ∧ (itN hkC 300 0 m).2 = m.2 := by
  refine itN_inv (f := hkC) (fun k x => (∀ i j, 15 ≤ i ∧ i ≤ 17 → j < k → x.1 i j = vp_nar .boolean (m.1 (i - 5) j)) ∧ (∀ i j, ¬ (15 ≤ i ∧ i ≤ 17) → x.1 i j = m.1 i j) ∧ x.2 = m.2) 300 (fun k x _ hx => ?_) 300 0 m (by omega) ⟨fun i j _ hj => absurd hj (Nat.not_lt_zero _), fun _ _ _ => rfl, rfl⟩
  obtain ⟨h1, h2, h3⟩ := hx
  unfold hkC
  refine ⟨fun i j a hj => ?_, fun i j a => ?_, h3⟩
  · by_cases c : j = k
    · rw [c]
      have hc : i = 15 ∨ i = 16 ∨ i = 17 := by omega
      rcases hc with e | e | e
      · rw [e, wI_ne (by omega), wI_ne (by omega), wI_same, h2 10 k (by omega)]
      · rw [e, wI_ne (by omega), wI_same, h2 11 k (by omega)]
      · rw [e, wI_same, h2 12 k (by omega)]
    · rw [wI_ne (by omega), wI_ne (by omega), wI_ne (by omega)]
      exact h1 i j a (by omega)
  · rw [wI_ne (by omega), wI_ne (by omega), wI_ne (by omega)]
    exact h2 i j a
set_option maxHeartbeats 200000 in
theorem hkD_s (m : Mem) : (∀ i j, 18 ≤ i ∧ i ≤ 19 → j < 60 → (itN hkD 60 0 m).1 i j = vp_nar .boolean (m.1 (i - 5) j)) ∧ (∀ j, j < 60 → (itN hkD 60 0 m).1 27 j = 0) ∧ (∀ i j, ¬ (18 ≤ i ∧ i ≤ 19) → i ≠ 27 → (itN hkD 60 0 m).1 i j = m.1 i j) ∧ (itN hkD 60 0 m).2 = m.2 := by
  refine itN_inv (f := hkD) (fun k x => (∀ i j, 18 ≤ i ∧ i ≤ 19 → j < k → x.1 i j = vp_nar .boolean (m.1 (i - 5) j)) ∧ (∀ j, j < k → x.1 27 j = 0) ∧ (∀ i j, ¬ (18 ≤ i ∧ i ≤ 19) → i ≠ 27 → x.1 i j = m.1 i j) ∧ x.2 = m.2) 60 (fun k x _ hx => ?_) 60 0 m (by omega) ⟨fun i j _ hj => absurd hj (Nat.not_lt_zero _), fun j hj => absurd hj (Nat.not_lt_zero _), fun _ _ _ _ => rfl, rfl⟩
  obtain ⟨h1, h1b, h2, h3⟩ := hx
  unfold hkD
  refine ⟨fun i j a hj => ?_, fun j hj => ?_, fun i j a b => ?_, h3⟩
  · by_cases c : j = k
    · rw [c]
      have hc : i = 18 ∨ i = 19 := by omega
      rcases hc with e | e
      · rw [e, wI_ne (by omega), wI_ne (by omega), wI_same, h2 13 k (by omega) (by omega)]
      · rw [e, wI_ne (by omega), wI_same, h2 14 k (by omega) (by omega)]
    · rw [wI_ne (by omega), wI_ne (by omega), wI_ne (by omega)]
      exact h1 i j a (by omega)
  · by_cases c : j = k
    · rw [c, wI_same]
    · rw [wI_ne (by omega), wI_ne (by omega), wI_ne (by omega)]
      exact h1b j (by omega)
  · rw [wI_ne (by omega), wI_ne (by omega), wI_ne (by omega)]
    exact h2 i j a b
set_option maxHeartbeats 200000 in
theorem hkF_s (m : Mem) : (∀ j, j < 10 → (itN hkF 10 0 m).1 28 j = 0) ∧ (∀ i j, i ≠ 28 → (itN hkF 10 0 m).1 i j = m.1 i j) ∧ (itN hkF 10 0 m).2 = m.2 := by
  refine itN_inv (f := hkF) (fun k x => (∀ j, j < k → x.1 28 j = 0) ∧ (∀ i j, i ≠ 28 → x.1 i j = m.1 i j) ∧ x.2 = m.2) 10 (fun k x _ hx => ?_) 10 0 m (by omega) ⟨fun j hj => absurd hj (Nat.not_lt_zero _), fun _ _ _ => rfl, rfl⟩
  obtain ⟨h1, h2, h3⟩ := hx
  unfold hkF
  refine ⟨fun j hj => ?_, fun i j a => ?_, h3⟩
  · by_cases c : j = k
    · rw [c, wI_same]
    · rw [wI_ne (by omega)]; exact h1 j (by omega)
  · rw [wI_ne (by omega)]; exact h2 i j a
set_option maxHeartbeats 200000 in
theorem hkE_o {m : Mem} {i j : Nat} (h : ¬ (i = 0 ∧ (j = 31 ∨ j = 32 ∨ j = 42 ∨ j = 72))) : (hkE m).1 i j = m.1 i j := by
  unfold hkE
  rw [wI_ne (by omega), wI_ne (by omega), wI_ne (by omega), wI_ne (by omega)]
def HK3 (m E : Mem) : Prop := (∀ j, j < 5 → E.2.1 3 j = m.2.1 2 j ∧ E.1 7 j = m.1 4 j ∧ E.1 9 j = m.1 6 j) ∧ (∀ j, j < 40 → E.1 8 j = m.1 5 j) ∧ (∀ i j, 15 ≤ i ∧ i ≤ 17 → j < 300 → E.1 i j = vp_nar .boolean (m.1 (i - 5) j)) ∧ (∀ i j, 18 ≤ i ∧ i ≤ 19 → j < 60 → E.1 i j = vp_nar .boolean (m.1 (i - 5) j)) ∧ (∀ j, j < 60 → E.1 27 j = 0) ∧ (∀ j, j < 10 → E.1 28 j = 0) ∧ E.1 0 31 = m.1 0 29 ∧ E.1 0 32 = m.1 0 30 ∧ E.1 0 42 = 0 ∧ E.1 0 72 = 0 ∧ (∀ i j, ¬ (7 ≤ i ∧ i ≤ 9) → ¬ (15 ≤ i ∧ i ≤ 19) → i ≠ 27 → i ≠ 28 → ¬ (i = 0 ∧ (j = 31 ∨ j = 32 ∨ j = 42 ∨ j = 72)) → E.1 i j = m.1 i j)
set_option maxHeartbeats 200000 in
theorem hk3_x (m A B C D E : Mem) (hA : (∀ j, j < 5 → A.2.1 3 j = m.2.1 2 j ∧ A.1 7 j = m.1 4 j ∧ A.1 9 j = m.1 6 j) ∧ (∀ i j, i ≠ 7 → i ≠ 9 → A.1 i j = m.1 i j) ∧ ∀ i j, i ≠ 3 → A.2.1 i j = m.2.1 i j) (hB : (∀ j, j < 40 → B.1 8 j = A.1 5 j) ∧ (∀ i j, i ≠ 8 → B.1 i j = A.1 i j) ∧ B.2 = A.2) (hC : (∀ i j, 15 ≤ i ∧ i ≤ 17 → j < 300 → C.1 i j = vp_nar .boolean (B.1 (i - 5) j)) ∧ (∀ i j, ¬ (15 ≤ i ∧ i ≤ 17) → C.1 i j = B.1 i j) ∧ C.2 = B.2) (hD : (∀ i j, 18 ≤ i ∧ i ≤ 19 → j < 60 → D.1 i j = vp_nar .boolean (C.1 (i - 5) j)) ∧ (∀ j, j < 60 → D.1 27 j = 0) ∧ (∀ i j, ¬ (18 ≤ i ∧ i ≤ 19) → i ≠ 27 → D.1 i j = C.1 i j) ∧ D.2 = C.2) (hE : (∀ j, j < 10 → E.1 28 j = 0) ∧ (∀ i j, i ≠ 28 → E.1 i j = (hkE D).1 i j) ∧ E.2 = (hkE D).2) : HK3 m E := by
  obtain ⟨a1, a2, a3⟩ := hA
  obtain ⟨b1, b2, b3⟩ := hB
  obtain ⟨c1, c2, c3⟩ := hC
  obtain ⟨d1, d1b, d2, d3⟩ := hD
  obtain ⟨f1, f2, f3⟩ := hE
  have eD : ∀ i j, ¬ (15 ≤ i ∧ i ≤ 19) → i ≠ 8 → i ≠ 27 → D.1 i j = A.1 i j := fun i j q1 q2 q3 => by
    rw [d2 i j (by omega) q3, c2 i j (by omega), b2 i j q2]
  have e2 : E.2 = A.2 := by
    rw [f3, ← b3, ← c3, ← d3]
    rfl
  refine ⟨fun j hj => ?_, fun j hj => ?_, fun i j q hj => ?_, fun i j q hj => ?_, fun j hj => ?_, f1, ?_, ?_, ?_, ?_, fun i j q1 q2 q3 q4 q5 => ?_⟩
  · rw [e2, f2 7 j (by omega), f2 9 j (by omega), hkE_o (by omega), hkE_o (by omega), eD 7 j (by omega) (by omega) (by omega), eD 9 j (by omega) (by omega) (by omega)]
    exact a1 j hj
  · rw [f2 8 j (by omega), hkE_o (by omega), d2 8 j (by omega) (by omega), c2 8 j (by omega), b1 j hj, a2 5 j (by omega) (by omega)]
  · rw [f2 i j (by omega), hkE_o (by omega), d2 i j (by omega) (by omega), c1 i j q hj, b2 _ j (by omega), a2 _ j (by omega) (by omega)]
  · rw [f2 i j (by omega), hkE_o (by omega), d1 i j q hj, c2 _ j (by omega), b2 _ j (by omega), a2 _ j (by omega) (by omega)]
  · rw [f2 27 j (by omega), hkE_o (by omega)]
    exact d1b j hj
  · rw [f2 0 31 (by omega)]
    unfold hkE
    rw [wI_ne (by omega), wI_ne (by omega), wI_ne (by omega), wI_same, eD 0 29 (by omega) (by omega) (by omega), a2 0 29 (by omega) (by omega)]
  · rw [f2 0 32 (by omega)]
    unfold hkE
    rw [wI_ne (by omega), wI_ne (by omega), wI_same, eD 0 30 (by omega) (by omega) (by omega), a2 0 30 (by omega) (by omega)]
  · rw [f2 0 42 (by omega)]
    unfold hkE
    rw [wI_ne (by omega), wI_same]
  · rw [f2 0 72 (by omega)]
    unfold hkE
    rw [wI_same]
  · rw [f2 i j q4, hkE_o q5, eD i j q2 (by omega) q3, a2 i j (by omega) (by omega)]
set_option maxHeartbeats 200000 in
theorem hk3_s (m : Mem) : HK3 m (hk3 m) := by
  unfold hk3
  exact hk3_x m (itN hkA 5 0 m) (itN hkB 40 0 (itN hkA 5 0 m)) (itN hkC 300 0 (itN hkB 40 0 (itN hkA 5 0 m))) (itN hkD 60 0 (itN hkC 300 0 (itN hkB 40 0 (itN hkA 5 0 m)))) (itN hkF 10 0 (hkE (itN hkD 60 0 (itN hkC 300 0 (itN hkB 40 0 (itN hkA 5 0 m)))))) (hkA_s m) (hkB_s _) (hkC_s _) (hkD_s _) (hkF_s _)
/-! frames -/
set_option maxHeartbeats 200000 in
theorem readBox_o {m : Mem} {i j : Nat} (h1 : ¬ rdK i j) (h2 : ¬ (4 ≤ i ∧ i ≤ 6)) (h3 : ¬ (i = 0 ∧ j = 29)) : (sp_readBox m).1 i j = m.1 i j := by
  have b := (Rh.bB (μ := m)).1 i j h1 (by omega) (by omega) (by omega)
  have d := (Rh.bD (μ := m)).1 i j h1 (by omega) (by omega) (by omega)
  have e := (Rh.bJ (μ := m)).1 i j h1 (by omega) (by omega) (by omega)
  unfold sp_readBox
  split
  · exact b
  · split
    · exact d
    · split
      · rw [wI_ne (by omega)]; exact e
      · exact e
set_option maxHeartbeats 200000 in
theorem hlL_o {i j : Nat} (h1 : ¬ rdK i j) (h2 : ¬ (4 ≤ i ∧ i ≤ 6)) (h3 : ¬ (i = 0 ∧ (j = 29 ∨ j = 30))) (h4 : ¬ (10 ≤ i ∧ i ≤ 14)) : ∀ (q : Nat) (m : Mem), (hlL q m).1 i j = m.1 i j := by
  intro q
  induction q with
  | zero => intro m; rfl
  | succ q ih =>
    intro m
    by_cases c : m.1 0 2 = 0 ∧ ¬ m.1 0 6 = 0
    · rw [show hlL (q + 1) m = hlL q (hlB m) from if_pos c, ih]
      have rT := Rd.hT (m := hlS (hlA m))
      have rS := Rd.hS (m := hlA m)
      have eB : hlB m = hlT (hlS (hlA m)) := rfl
      rw [eB, rT.1 i j h1, rS.1 i j h1]
      unfold hlA
      split
      · exact readBox_o h1 h2 (by omega)
      · split
        · exact Ro.rO.1 i j h1 (by omega) (by omega)
        · exact (Rd.sp (a := m) (b := m) Rd.rf).1 i j h1
    · rw [show hlL (q + 1) m = m from if_neg c]
set_option maxHeartbeats 200000 in
theorem hl2_o {σ : Mem} {i j : Nat} (h1 : ¬ (i = 0 ∧ 1 ≤ j ∧ j ≤ 10)) (h2 : ¬ (4 ≤ i ∧ i ≤ 6)) (h3 : ¬ (i = 0 ∧ (j = 29 ∨ j = 30))) (h4 : ¬ (10 ≤ i ∧ i ≤ 14)) : (hl2 σ).1 i j = σ.1 i j := by
  unfold hl2
  rw [hlL_o (by unfold rdK; omega) h2 h3 h4, start_o h1, hl0_k (by omega) (by omega)]
set_option maxHeartbeats 200000 in
theorem hl2_1 {σ : Mem} : (hl2 σ).1 0 1 = 0 := by
  unfold hl2
  rw [hlL_o (by unfold rdK; omega) (by omega) (by omega) (by omega)]
  unfold sp_start
  rw [tk_same (by unfold rdK; omega), wI_ne (by omega), wI_ne (by omega), wI_ne (by omega), wI_same]
set_option maxHeartbeats 200000 in
theorem readBox_q {m : Mem} {i j : Nat} (h1 : ¬ (i = 0 ∧ j = 9)) (h2 : i ≠ 2) : (sp_readBox m).2.1 i j = m.2.1 i j := by
  have b := (Rh.bB (μ := m)).2.1 i j h1 h2
  have d := (Rh.bD (μ := m)).2.1 i j h1 h2
  have e := (Rh.bJ (μ := m)).2.1 i j h1 h2
  unfold sp_readBox
  split
  · exact b
  · split
    · exact d
    · split
      · rw [wI_l]; exact e
      · exact e
set_option maxHeartbeats 200000 in
theorem hlL_q {i j : Nat} (h1 : ¬ (i = 0 ∧ j = 9)) (h2 : i ≠ 2) : ∀ (q : Nat) (m : Mem), (hlL q m).2.1 i j = m.2.1 i j := by
  intro q
  induction q with
  | zero => intro m; rfl
  | succ q ih =>
    intro m
    by_cases c : m.1 0 2 = 0 ∧ ¬ m.1 0 6 = 0
    · rw [show hlL (q + 1) m = hlL q (hlB m) from if_pos c, ih]
      have rT := Rd.hT (m := hlS (hlA m))
      have rS := Rd.hS (m := hlA m)
      have eB : hlB m = hlT (hlS (hlA m)) := rfl
      rw [eB, rT.2.1 i j h1, rS.2.1 i j h1]
      unfold hlA
      split
      · exact readBox_q h1 h2
      · split
        · exact Ro.rO.2.1 i j h1
        · exact (Rd.sp (a := m) (b := m) Rd.rf).2.1 i j h1
    · rw [show hlL (q + 1) m = m from if_neg c]
set_option maxHeartbeats 200000 in
theorem hl2_q {σ : Mem} {j : Nat} : (hl2 σ).2.1 3 j = σ.2.1 3 j := by
  unfold hl2
  rw [hlL_q (by omega) (by omega), start_q (by omega), hl0_l]

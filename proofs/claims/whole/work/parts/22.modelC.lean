/-! stretches, ages, what a box shows, whether a reading fits -/
def sFrom (f : Nat → Int32) : Nat → Nat
  | 0 => 0
  | d + 1 => if f (d + 1) = 0 then sFrom f d else d + 1
def sTo (f : Nat → Int32) : Nat → Nat → Nat
  | 0, d => d
  | n + 1, d => if f (d + 1) = 0 then sTo f n (d + 1) else d
def ageD (f : Nat → Int32) (a : Nat) : Nat → Nat
  | 0 => 0
  | d + 1 => if a < d + 1 ∧ f (d + 1) = 0 then ageD f a d else d + 1
def mv (σ : Mem) (b : Nat) : Nat → Int32 := fun x => σ.1 15 (60 * b + x)
def fr (σ : Mem) (b : Nat) : Nat → Int32 := fun x => σ.1 16 (60 * b + x)
def stF (σ : Mem) (b d : Nat) : Nat := sFrom (mv σ b) d
def stT (σ : Mem) (b d : Nat) : Nat := sTo (mv σ b) (59 - d) d
def agS (σ : Mem) (b d : Nat) : Nat := d - ageD (fr σ b) (stF σ b d) d
theorem sFrom_le (f : Nat → Int32) : ∀ d, sFrom f d ≤ d := by
  intro d
  induction d with
  | zero => exact Nat.le_refl _
  | succ d ih => unfold sFrom; split <;> omega
theorem sTo_ge (f : Nat → Int32) : ∀ n d, d ≤ sTo f n d ∧ sTo f n d ≤ d + n := by
  intro n
  induction n with
  | zero => intro d; exact ⟨Nat.le_refl _, Nat.le_refl _⟩
  | succ n ih =>
    intro d
    unfold sTo
    split
    · have := ih (d + 1); omega
    · omega
theorem ageD_le (f : Nat → Int32) (a : Nat) : ∀ d, ageD f a d ≤ d := by
  intro d
  induction d with
  | zero => exact Nat.le_refl _
  | succ d ih => unfold ageD; split <;> omega
theorem nI_m1 (d : Nat) : nI (d + 1) + Int32.ofInt (-1) = nI d := by
  rw [show Int32.ofInt (-1) = -1 from by decide]
  exact pk_m1 d
theorem nI_60 (b d : Nat) : 60 * nI b + nI d = nI (60 * b + d) := by rw [show (60 : Int32) = nI 60 from rfl, pk_mul, nI_add]
set_option maxHeartbeats 4000000 in
set_option maxRecDepth 100000 in
theorem L_X12_stretchFrom {l : Launch} {G : Wd} {σ μ : Mem} {b : Nat} {x2 : Int32} {Q : Option Value → Mem → Prop} (hp : Pm σ μ) (hb : b < 5) : ∀ (d : Nat) (x : Int32), d < 60 → x = nI d → AW l G KM RX12 cX12_stretchFrom 4 1 (some .int) Q 26 [some (.ref (gA G 0)), some (.int (nI b)), some (.int x2), some (.int (nI (sFrom (mv σ b) d)))] [] μ → AW l G KM RX12 cX12_stretchFrom 4 1 (some .int) Q 2 [some (.ref (gA G 0)), some (.int (nI b)), some (.int x2), some (.int x)] [] μ := by
  intro d
  induction d with
  | zero =>
    intro x hd hx hk
    subst hx
    refine A_iload3 dX12_stretchFrom_2 ?_
    refine A_if_le (tgt := 26) dX12_stretchFrom_3 (by decide) (fun c_3 => ?_) (fun c_3 => absurd c_3 (by decide))
    exact hk
  | succ d ih =>
    intro x hd hx hk
    subst hx
    refine A_iload3 dX12_stretchFrom_2 ?_
    refine A_if_le (tgt := 26) dX12_stretchFrom_3 (by decide) (fun c_3 => absurd c_3 (nI_nle (by omega) (by omega))) (fun c_3 => ?_)
    refine A_aload0 dX12_stretchFrom_6 ?_
    refine A_getR gf_X12_58 rfl dX12_stretchFrom_7 ?_
    refine A_bipush (v := 60) dX12_stretchFrom_10 (by decide) ?_
    refine A_iload1 dX12_stretchFrom_12 ?_
    refine A_imul dX12_stretchFrom_13 ?_
    refine A_iload3 dX12_stretchFrom_14 ?_
    refine A_iadd dX12_stretchFrom_15 ?_
    refine A_zald (rfl) (by rw [nI_60]; exact vp_in_nI (by omega) (by omega)) dX12_stretchFrom_16 ?_
    rw [nI_60, nI_c (by omega), hp.1 15 _ rfl]
    refine A_val (y := mv σ b (d + 1)) rfl ?_
    refine A_if_ne (tgt := 26) dX12_stretchFrom_17 (by decide) (fun c_17 => ?_) (fun c_17 => ?_)
    · rw [sFrom, if_neg c_17] at hk
      exact hk
    · refine A_iinc3 dX12_stretchFrom_20 rfl rfl (by decide) ?_
      refine A_goto (tgt := 2) dX12_stretchFrom_23 (by decide) ?_
      rw [sFrom, if_pos c_17] at hk
      exact ih _ (by omega) (nI_m1 d) hk
set_option maxHeartbeats 4000000 in
set_option maxRecDepth 100000 in
theorem T_X12_stretchFrom {l : Launch} {G : Wd} {b d : Nat} {σ μ : Mem} (hp : Pm σ μ) (hb : b < 5) (hd : d < 60) : Mt l G KM yX12_stretchFrom cX12_stretchFrom 4 (some .int) 1 [.ref (gA G 0), .int (nI b), .int (nI d)] μ (Qi (fun v μ' => v = nI (stF σ b d) ∧ μ' = μ)) := by
  refine Mt.of (own := RX12) (n := 1) (by decide) rfl [some (.ref (gA G 0)), some (.int (nI b)), some (.int (nI d)), none] rfl (Nat.le_of_ble_eq_true rfl) ?_
  refine A_iload2 dX12_stretchFrom_0 ?_
  refine A_istore3 dX12_stretchFrom_1 rfl (by decide) ?_
  refine L_X12_stretchFrom hp hb d _ hd rfl ?_
  refine A_iload3 dX12_stretchFrom_26 ?_
  refine A_iret dX12_stretchFrom_27 ?_
  exact ⟨_, rfl, rfl, rfl⟩
set_option maxHeartbeats 4000000 in
set_option maxRecDepth 100000 in
theorem L_X12_stretchTo {l : Launch} {G : Wd} {σ μ : Mem} {b : Nat} {x2 : Int32} {Q : Option Value → Mem → Prop} (hp : Pm σ μ) (hb : b < 5) : ∀ (n d : Nat) (x : Int32), d + n = 59 → x = nI d → AW l G KM RX12 cX12_stretchTo 4 1 (some .int) Q 32 [some (.ref (gA G 0)), some (.int (nI b)), some (.int x2), some (.int (nI (sTo (mv σ b) n d)))] [] μ → AW l G KM RX12 cX12_stretchTo 4 1 (some .int) Q 2 [some (.ref (gA G 0)), some (.int (nI b)), some (.int x2), some (.int x)] [] μ := by
  intro n
  induction n with
  | zero =>
    intro d x hd hx hk
    have e : d = 59 := by omega
    subst e
    subst hx
    refine A_iload3 dX12_stretchTo_2 ?_
    refine A_iconst (v := 1) dX12_stretchTo_3 (by decide) ?_
    refine A_iadd dX12_stretchTo_4 ?_
    refine A_bipush (v := 60) dX12_stretchTo_5 (by decide) ?_
    refine A_icmp_ge (tgt := 32) dX12_stretchTo_7 (by decide) (fun c_7 => ?_) (fun c_7 => absurd c_7 (by decide))
    exact hk
  | succ n ih =>
    intro d x hd hx hk
    subst hx
    refine A_iload3 dX12_stretchTo_2 ?_
    refine A_iconst (v := 1) dX12_stretchTo_3 (by decide) ?_
    refine A_iadd dX12_stretchTo_4 ?_
    refine A_bipush (v := 60) dX12_stretchTo_5 (by decide) ?_
    refine A_icmp_ge (tgt := 32) dX12_stretchTo_7 (by decide) (fun c_7 => absurd c_7 (fun z => by rw [nI_1, show (60 : Int32) = nI 60 from rfl] at z; have := (nI_leI (a := 60) (b := d + 1) (by omega) (by omega)).mp z; omega)) (fun c_7 => ?_)
    refine A_aload0 dX12_stretchTo_10 ?_
    refine A_getR gf_X12_58 rfl dX12_stretchTo_11 ?_
    refine A_bipush (v := 60) dX12_stretchTo_14 (by decide) ?_
    refine A_iload1 dX12_stretchTo_16 ?_
    refine A_imul dX12_stretchTo_17 ?_
    refine A_iload3 dX12_stretchTo_18 ?_
    refine A_iadd dX12_stretchTo_19 ?_
    refine A_iconst (v := 1) dX12_stretchTo_20 (by decide) ?_
    refine A_iadd dX12_stretchTo_21 ?_
    refine A_zald (rfl) (by rw [nI_60, nI_1]; exact vp_in_nI (by omega) (by omega)) dX12_stretchTo_22 ?_
    rw [nI_60, nI_1, nI_c (by omega), hp.1 15 _ rfl]
    refine A_val (y := mv σ b (d + 1)) rfl ?_
    refine A_if_ne (tgt := 32) dX12_stretchTo_23 (by decide) (fun c_23 => ?_) (fun c_23 => ?_)
    · rw [sTo, if_neg c_23] at hk
      exact hk
    · refine A_iinc3 dX12_stretchTo_26 rfl rfl (by decide) ?_
      refine A_goto (tgt := 2) dX12_stretchTo_29 (by decide) ?_
      rw [sTo, if_pos c_23] at hk
      exact ih (d + 1) _ (by omega) (nI_1 d) hk
set_option maxHeartbeats 4000000 in
set_option maxRecDepth 100000 in
theorem T_X12_stretchTo {l : Launch} {G : Wd} {b d : Nat} {σ μ : Mem} (hp : Pm σ μ) (hb : b < 5) (hd : d < 60) : Mt l G KM yX12_stretchTo cX12_stretchTo 4 (some .int) 1 [.ref (gA G 0), .int (nI b), .int (nI d)] μ (Qi (fun v μ' => v = nI (stT σ b d) ∧ μ' = μ)) := by
  refine Mt.of (own := RX12) (n := 1) (by decide) rfl [some (.ref (gA G 0)), some (.int (nI b)), some (.int (nI d)), none] rfl (Nat.le_of_ble_eq_true rfl) ?_
  refine A_iload2 dX12_stretchTo_0 ?_
  refine A_istore3 dX12_stretchTo_1 rfl (by decide) ?_
  refine L_X12_stretchTo hp hb (59 - d) d _ (by omega) rfl ?_
  refine A_iload3 dX12_stretchTo_32 ?_
  refine A_iret dX12_stretchTo_33 ?_
  exact ⟨_, rfl, rfl, rfl⟩
set_option maxHeartbeats 4000000 in
set_option maxRecDepth 100000 in
theorem L_X12_ageOf {l : Launch} {G : Wd} {σ μ : Mem} {b a : Nat} {x2 : Int32} {Q : Option Value → Mem → Prop} (hp : Pm σ μ) (hb : b < 5) (ha : a < 60) : ∀ (d : Nat) (x : Int32), d < 60 → x = nI d → AW l G KM RX12 cX12_ageOf 5 2 (some .int) Q 37 [some (.ref (gA G 0)), some (.int (nI b)), some (.int x2), some (.int (nI a)), some (.int (nI (ageD (fr σ b) a d)))] [] μ → AW l G KM RX12 cX12_ageOf 5 2 (some .int) Q 10 [some (.ref (gA G 0)), some (.int (nI b)), some (.int x2), some (.int (nI a)), some (.int x)] [] μ := by
  intro d
  induction d with
  | zero =>
    intro x hd hx hk
    subst hx
    refine A_iload4 dX12_ageOf_10 ?_
    refine A_iload3 dX12_ageOf_12 ?_
    refine A_icmp_le (tgt := 37) dX12_ageOf_13 (by decide) (fun c_13 => ?_) (fun c_13 => absurd c_13 (fun z => z (nI_le (by omega) (by omega))))
    exact hk
  | succ d ih =>
    intro x hd hx hk
    subst hx
    refine A_iload4 dX12_ageOf_10 ?_
    refine A_iload3 dX12_ageOf_12 ?_
    refine A_icmp_le (tgt := 37) dX12_ageOf_13 (by decide) (fun c_13 => ?_) (fun c_13 => ?_)
    · first | (rw [ageD, if_neg (fun z => c_28 z.2)] at hk; exact hk) | (have h5 := (nI_leI (by omega) (by omega)).mp c_13; rw [ageD, if_neg (fun z => by omega)] at hk; exact hk)
    · refine A_aload0 dX12_ageOf_16 ?_
      refine A_getR gf_X12_61 rfl dX12_ageOf_17 ?_
      refine A_bipush (v := 60) dX12_ageOf_20 (by decide) ?_
      refine A_iload1 dX12_ageOf_22 ?_
      refine A_imul dX12_ageOf_23 ?_
      refine A_iload4 dX12_ageOf_24 ?_
      refine A_iadd dX12_ageOf_26 ?_
      refine A_zald (rfl) (by rw [nI_60]; exact vp_in_nI (by omega) (by omega)) dX12_ageOf_27 ?_
      rw [nI_60, nI_c (by omega), hp.1 16 _ rfl]
      refine A_val (y := fr σ b (d + 1)) rfl ?_
      refine A_if_ne (tgt := 37) dX12_ageOf_28 (by decide) (fun c_28 => ?_) (fun c_28 => ?_)
      · first | (rw [ageD, if_neg (fun z => c_28 z.2)] at hk; exact hk) | (have h5 := (nI_leI (by omega) (by omega)).mp c_13; rw [ageD, if_neg (fun z => by omega)] at hk; exact hk)
      · refine A_iinc4 dX12_ageOf_31 rfl rfl (by decide) ?_
        refine A_goto (tgt := 10) dX12_ageOf_34 (by decide) ?_
        rw [ageD, if_pos ⟨by rcases Nat.lt_or_ge a (d + 1) with q | q; exact q; exact absurd (nI_le q (by omega)) c_13, c_28⟩] at hk
        exact ih _ (by omega) (nI_m1 d) hk
set_option maxHeartbeats 4000000 in
set_option maxRecDepth 100000 in
theorem T_X12_ageOf {l : Launch} {G : Wd} {b d : Nat} {σ μ : Mem} (hp : Pm σ μ) (hb : b < 5) (hd : d < 60) : Mt l G KM yX12_ageOf cX12_ageOf 5 (some .int) 2 [.ref (gA G 0), .int (nI b), .int (nI d)] μ (Qi (fun v μ' => v = nI (agS σ b d) ∧ μ' = μ)) := by
  refine Mt.of (own := RX12) (n := 2) (by decide) rfl [some (.ref (gA G 0)), some (.int (nI b)), some (.int (nI d)), none, none] rfl (Nat.le_of_ble_eq_true rfl) ?_
  refine A_aload0 dX12_ageOf_0 ?_
  refine A_iload1 dX12_ageOf_1 ?_
  refine A_iload2 dX12_ageOf_2 ?_
  refine A_vi2 lk_X12_364 yv_X12_stretchFrom dX12_ageOf_3 (rfl) (rfl) (T_X12_stretchFrom hp hb hd) (by decide) (Nat.le_of_ble_eq_true rfl) (fun r_3 μ_3 h_3 => ?_)
  obtain ⟨rfl, e_3⟩ := h_3
  replace e_3 := e_3.symm
  subst e_3
  refine A_istore3 dX12_ageOf_6 rfl (by decide) ?_
  refine A_iload2 dX12_ageOf_7 ?_
  refine A_istore4 dX12_ageOf_8 rfl (by decide) ?_
  refine L_X12_ageOf (a := stF σ b d) hp hb (by have := sFrom_le (mv σ b) d; unfold stF; omega) d _ hd rfl ?_
  refine A_iload2 dX12_ageOf_37 ?_
  refine A_iload4 dX12_ageOf_38 ?_
  refine A_isub dX12_ageOf_40 ?_
  refine A_iret dX12_ageOf_41 ?_
  refine ⟨_, rfl, ?_, rfl⟩
  rw [pk_sub (ageD_le _ _ _)]
  rfl
def dn (a b : Int32) : Int32 := if a < 0 then -((b - 1 - a) / b) else a / b
def rn (v : Int32) : Int32 := v - 16 * dn v 16
set_option maxHeartbeats 4000000 in
set_option maxRecDepth 100000 in
theorem T_X12_down {l : Launch} {G : Wd} {a b : Int32} {μ : Mem} (hb : ¬ b = 0) : Mt l G KM yX12_down cX12_down 2 (some .int) 1 [.int a, .int b] μ (Qi (fun v μ' => v = dn a b ∧ μ' = μ)) := by
  refine Mt.of (own := RX12) (n := 0) (by decide) rfl [some (.int a), some (.int b)] rfl (Nat.le_of_ble_eq_true rfl) ?_
  refine A_iload0 dX12_down_0 ?_
  refine A_if_ge (tgt := 15) dX12_down_1 (by decide) (fun c_1 => ?_) (fun c_1 => ?_)
  · refine A_iload0 dX12_down_15 ?_
    refine A_iload1 dX12_down_16 ?_
    refine A_idiv dX12_down_17 (hb) ?_
    refine A_iret dX12_down_18 ?_
    refine ⟨_, rfl, ?_, rfl⟩
    unfold dn
    simp_all [i_lt, i_le]
    try (intros; omega)
  · refine A_iload1 dX12_down_4 ?_
    refine A_iconst (v := 1) dX12_down_5 (by decide) ?_
    refine A_isub dX12_down_6 ?_
    refine A_iload0 dX12_down_7 ?_
    refine A_isub dX12_down_8 ?_
    refine A_iload1 dX12_down_9 ?_
    refine A_idiv dX12_down_10 (hb) ?_
    refine A_ineg dX12_down_11 ?_
    refine A_goto (tgt := 18) dX12_down_12 (by decide) ?_
    refine A_iret dX12_down_18 ?_
    refine ⟨_, rfl, ?_, rfl⟩
    unfold dn
    simp_all [i_lt, i_le]
    try (intros; omega)
set_option maxHeartbeats 4000000 in
set_option maxRecDepth 100000 in
theorem T_X12_round {l : Launch} {G : Wd} {a : Int32} {μ : Mem}  : Mt l G KM yX12_round cX12_round 1 (some .int) 2 [.int a] μ (Qi (fun v μ' => v = rn a ∧ μ' = μ)) := by
  refine Mt.of (own := RX12) (n := 0) (by decide) rfl [some (.int a)] rfl (Nat.le_of_ble_eq_true rfl) ?_
  refine A_iload0 dX12_round_0 ?_
  refine A_bipush (v := 16) dX12_round_1 (by decide) ?_
  refine A_iload0 dX12_round_3 ?_
  refine A_bipush (v := 16) dX12_round_4 (by decide) ?_
  refine A_si2 lk_X12_361 ys_X12_down dX12_round_6 (T_X12_down (by decide)) (by decide) (Nat.le_of_ble_eq_true rfl) (fun r_6 μ_6 h_6 => ?_)
  obtain ⟨rfl, e_6⟩ := h_6
  replace e_6 := e_6.symm
  subst e_6
  refine A_imul dX12_round_9 ?_
  refine A_isub dX12_round_10 ?_
  refine A_iret dX12_round_11 ?_
  exact ⟨_, rfl, rfl, rfl⟩
def shB (σ : Mem) (b d : Nat) (z s tr t : Int32) : Int32 := if σ.1 7 b = 3 then rn (z + dn (s * t) 10 + dn (tr * nI (agS σ b d)) 10) else z + dn (s * t) 10 + dn (tr * nI (agS σ b d)) 10
def apt (σ : Mem) (b : Nat) (x : Int32) : Int32 := if σ.1 7 b = 3 then (if rn x ≤ 16 - rn x then rn x else 16 - rn x) else x
abbrev fitS (σ : Mem) (b : Nat) (sh rd : Int32) : Prop := (if 0 ≤ apt σ b (rd - sh) then apt σ b (rd - sh) else -apt σ b (rd - sh)) ≤ σ.1 9 b
set_option maxHeartbeats 4000000 in
set_option maxRecDepth 100000 in
theorem T_X12_showsBy {l : Launch} {G : Wd} {b d : Nat} {z s tr t : Int32} {σ μ : Mem} (hp : Pm σ μ) (hb : b < 5) (hd : d < 60) : Mt l G KM yX12_showsBy cX12_showsBy 8 (some .int) 3 [.ref (gA G 0), .int (nI b), .int (nI d), .int z, .int s, .int tr, .int t] μ (Qi (fun v μ' => v = shB σ b d z s tr t ∧ μ' = μ)) := by
  refine Mt.of (own := RX12) (n := 1) (by decide) rfl [some (.ref (gA G 0)), some (.int (nI b)), some (.int (nI d)), some (.int z), some (.int s), some (.int tr), some (.int t), none] rfl (Nat.le_of_ble_eq_true rfl) ?_
  refine A_iload3 dX12_showsBy_0 ?_
  refine A_iload4 dX12_showsBy_1 ?_
  refine A_iload6 dX12_showsBy_3 ?_
  refine A_imul dX12_showsBy_5 ?_
  refine A_bipush (v := 10) dX12_showsBy_6 (by decide) ?_
  refine A_si2 lk_X12_361 ys_X12_down dX12_showsBy_8 (T_X12_down (by decide)) (by decide) (Nat.le_of_ble_eq_true rfl) (fun r_8 μ_8 h_8 => ?_)
  obtain ⟨rfl, e_8⟩ := h_8
  replace e_8 := e_8.symm
  subst e_8
  refine A_iadd dX12_showsBy_11 ?_
  refine A_iload5 dX12_showsBy_12 ?_
  refine A_aload0 dX12_showsBy_14 ?_
  refine A_iload1 dX12_showsBy_15 ?_
  refine A_iload2 dX12_showsBy_16 ?_
  refine A_vi2 lk_X12_367 yv_X12_ageOf dX12_showsBy_17 (rfl) (rfl) (T_X12_ageOf hp hb hd) (by decide) (Nat.le_of_ble_eq_true rfl) (fun r_17 μ_17 h_17 => ?_)
  obtain ⟨rfl, e_17⟩ := h_17
  replace e_17 := e_17.symm
  subst e_17
  refine A_imul dX12_showsBy_20 ?_
  refine A_bipush (v := 10) dX12_showsBy_21 (by decide) ?_
  refine A_si2 lk_X12_361 ys_X12_down dX12_showsBy_23 (T_X12_down (by decide)) (by decide) (Nat.le_of_ble_eq_true rfl) (fun r_23 μ_23 h_23 => ?_)
  obtain ⟨rfl, e_23⟩ := h_23
  replace e_23 := e_23.symm
  subst e_23
  refine A_iadd dX12_showsBy_26 ?_
  refine A_istore7 dX12_showsBy_27 rfl (by decide) ?_
  refine A_aload0 dX12_showsBy_29 ?_
  refine A_getR gf_X12_33 rfl dX12_showsBy_30 ?_
  refine A_iload1 dX12_showsBy_33 ?_
  refine A_iald (rfl) (vp_in_nI hb (by omega)) dX12_showsBy_34 ?_
  rw [nI_c (by omega), hp.1 7 _ rfl]
  refine A_iconst (v := 3) dX12_showsBy_35 (by decide) ?_
  refine A_icmp_ne (tgt := 47) dX12_showsBy_36 (by decide) (fun c_36 => ?_) (fun c_36 => ?_)
  · refine A_iload7 dX12_showsBy_47 ?_
    refine A_iret dX12_showsBy_49 ?_
    refine ⟨_, rfl, ?_, rfl⟩
    unfold shB
    simp_all
  · refine A_iload7 dX12_showsBy_39 ?_
    refine A_si1 lk_X12_370 ys_X12_round dX12_showsBy_41 (T_X12_round) (by decide) (Nat.le_of_ble_eq_true rfl) (fun r_41 μ_41 h_41 => ?_)
    obtain ⟨rfl, e_41⟩ := h_41
    replace e_41 := e_41.symm
    subst e_41
    refine A_goto (tgt := 49) dX12_showsBy_44 (by decide) ?_
    refine A_iret dX12_showsBy_49 ?_
    refine ⟨_, rfl, ?_, rfl⟩
    unfold shB
    simp_all
set_option maxHeartbeats 4000000 in
set_option maxRecDepth 100000 in
theorem T_X12_fits {l : Launch} {G : Wd} {b : Nat} {sh rd : Int32} {σ μ : Mem} (hp : Pm σ μ) (hb : b < 5) : Mt l G KM yX12_fits cX12_fits 5 (some .boolean) 3 [.ref (gA G 0), .int (nI b), .int sh, .int rd] μ (Qi (fun v μ' => v = bz (fitS σ b sh rd) ∧ μ' = μ)) := by
  refine Mt.of (own := RX12) (n := 1) (by decide) rfl [some (.ref (gA G 0)), some (.int (nI b)), some (.int sh), some (.int rd), none] rfl (Nat.le_of_ble_eq_true rfl) ?_
  refine A_iload3 dX12_fits_0 ?_
  refine A_iload2 dX12_fits_1 ?_
  refine A_isub dX12_fits_2 ?_
  refine A_istore4 dX12_fits_3 rfl (by decide) ?_
  refine A_aload0 dX12_fits_5 ?_
  refine A_getR gf_X12_33 rfl dX12_fits_6 ?_
  refine A_iload1 dX12_fits_9 ?_
  refine A_iald (rfl) (vp_in_nI hb (by omega)) dX12_fits_10 ?_
  rw [nI_c (by omega), hp.1 7 _ rfl]
  refine A_iconst (v := 3) dX12_fits_11 (by decide) ?_
  refine A_icmp_ne (tgt := 44) dX12_fits_12 (by decide) (fun c_12 => ?_) (fun c_12 => ?_)
  · refine A_iload4 dX12_fits_44 ?_
    refine A_if_ge (tgt := 55) dX12_fits_46 (by decide) (fun c_46 => ?_) (fun c_46 => ?_)
    · refine A_iload4 dX12_fits_55 ?_
      refine A_aload0 dX12_fits_57 ?_
      refine A_getR gf_X12_39 rfl dX12_fits_58 ?_
      refine A_iload1 dX12_fits_61 ?_
      refine A_iald (rfl) (vp_in_nI hb (by omega)) dX12_fits_62 ?_
      rw [nI_c (by omega), hp.1 9 _ rfl]
      refine A_icmp_gt (tgt := 70) dX12_fits_63 (by decide) (fun c_63 => ?_) (fun c_63 => ?_)
      · refine A_iconst (v := 0) dX12_fits_70 (by decide) ?_
        refine A_zret dX12_fits_71 (by decide) ?_
        refine ⟨_, rfl, ?_, rfl⟩
        first | (rw [bz_t]; simp only [fitS, apt, c_12, c_46, c_63, if_true, if_false]; first | done | exact i_nlt c_63) | (rw [bz_f]; simp only [fitS, apt, c_12, c_46, c_63, if_true, if_false]; first | done | exact fun q => absurd (i_le.mp q) (by have := i_lt.mp c_63; omega))
      · refine A_iconst (v := 1) dX12_fits_66 (by decide) ?_
        refine A_goto (tgt := 71) dX12_fits_67 (by decide) ?_
        refine A_zret dX12_fits_71 (by decide) ?_
        refine ⟨_, rfl, ?_, rfl⟩
        first | (rw [bz_t]; simp only [fitS, apt, c_12, c_46, c_63, if_true, if_false]; first | done | exact i_nlt c_63) | (rw [bz_f]; simp only [fitS, apt, c_12, c_46, c_63, if_true, if_false]; first | done | exact fun q => absurd (i_le.mp q) (by have := i_lt.mp c_63; omega))
    · refine A_iload4 dX12_fits_49 ?_
      refine A_ineg dX12_fits_51 ?_
      refine A_goto (tgt := 57) dX12_fits_52 (by decide) ?_
      refine A_aload0 dX12_fits_57 ?_
      refine A_getR gf_X12_39 rfl dX12_fits_58 ?_
      refine A_iload1 dX12_fits_61 ?_
      refine A_iald (rfl) (vp_in_nI hb (by omega)) dX12_fits_62 ?_
      rw [nI_c (by omega), hp.1 9 _ rfl]
      refine A_icmp_gt (tgt := 70) dX12_fits_63 (by decide) (fun c_63 => ?_) (fun c_63 => ?_)
      · refine A_iconst (v := 0) dX12_fits_70 (by decide) ?_
        refine A_zret dX12_fits_71 (by decide) ?_
        refine ⟨_, rfl, ?_, rfl⟩
        first | (rw [bz_t]; simp only [fitS, apt, c_12, c_46, c_63, if_true, if_false]; first | done | exact i_nlt c_63) | (rw [bz_f]; simp only [fitS, apt, c_12, c_46, c_63, if_true, if_false]; first | done | exact fun q => absurd (i_le.mp q) (by have := i_lt.mp c_63; omega))
      · refine A_iconst (v := 1) dX12_fits_66 (by decide) ?_
        refine A_goto (tgt := 71) dX12_fits_67 (by decide) ?_
        refine A_zret dX12_fits_71 (by decide) ?_
        refine ⟨_, rfl, ?_, rfl⟩
        first | (rw [bz_t]; simp only [fitS, apt, c_12, c_46, c_63, if_true, if_false]; first | done | exact i_nlt c_63) | (rw [bz_f]; simp only [fitS, apt, c_12, c_46, c_63, if_true, if_false]; first | done | exact fun q => absurd (i_le.mp q) (by have := i_lt.mp c_63; omega))
  · refine A_iload4 dX12_fits_15 ?_
    refine A_si1 lk_X12_370 ys_X12_round dX12_fits_17 (T_X12_round) (by decide) (Nat.le_of_ble_eq_true rfl) (fun r_17 μ_17 h_17 => ?_)
    obtain ⟨rfl, e_17⟩ := h_17
    replace e_17 := e_17.symm
    subst e_17
    refine A_istore4 dX12_fits_20 rfl (by decide) ?_
    refine A_iload4 dX12_fits_22 ?_
    refine A_bipush (v := 16) dX12_fits_24 (by decide) ?_
    refine A_iload4 dX12_fits_26 ?_
    refine A_isub dX12_fits_28 ?_
    refine A_icmp_le (tgt := 40) dX12_fits_29 (by decide) (fun c_29 => ?_) (fun c_29 => ?_)
    · refine A_iload4 dX12_fits_40 ?_
      refine A_istore4 dX12_fits_42 rfl (by decide) ?_
      refine A_iload4 dX12_fits_44 ?_
      refine A_if_ge (tgt := 55) dX12_fits_46 (by decide) (fun c_46 => ?_) (fun c_46 => ?_)
      · refine A_iload4 dX12_fits_55 ?_
        refine A_aload0 dX12_fits_57 ?_
        refine A_getR gf_X12_39 rfl dX12_fits_58 ?_
        refine A_iload1 dX12_fits_61 ?_
        refine A_iald (rfl) (vp_in_nI hb (by omega)) dX12_fits_62 ?_
        rw [nI_c (by omega), hp.1 9 _ rfl]
        refine A_icmp_gt (tgt := 70) dX12_fits_63 (by decide) (fun c_63 => ?_) (fun c_63 => ?_)
        · refine A_iconst (v := 0) dX12_fits_70 (by decide) ?_
          refine A_zret dX12_fits_71 (by decide) ?_
          refine ⟨_, rfl, ?_, rfl⟩
          first | (rw [bz_t]; simp only [fitS, apt, c_12, c_29, c_46, c_63, if_true, if_false]; first | done | exact i_nlt c_63) | (rw [bz_f]; simp only [fitS, apt, c_12, c_29, c_46, c_63, if_true, if_false]; first | done | exact fun q => absurd (i_le.mp q) (by have := i_lt.mp c_63; omega))
        · refine A_iconst (v := 1) dX12_fits_66 (by decide) ?_
          refine A_goto (tgt := 71) dX12_fits_67 (by decide) ?_
          refine A_zret dX12_fits_71 (by decide) ?_
          refine ⟨_, rfl, ?_, rfl⟩
          first | (rw [bz_t]; simp only [fitS, apt, c_12, c_29, c_46, c_63, if_true, if_false]; first | done | exact i_nlt c_63) | (rw [bz_f]; simp only [fitS, apt, c_12, c_29, c_46, c_63, if_true, if_false]; first | done | exact fun q => absurd (i_le.mp q) (by have := i_lt.mp c_63; omega))
      · refine A_iload4 dX12_fits_49 ?_
        refine A_ineg dX12_fits_51 ?_
        refine A_goto (tgt := 57) dX12_fits_52 (by decide) ?_
        refine A_aload0 dX12_fits_57 ?_
        refine A_getR gf_X12_39 rfl dX12_fits_58 ?_
        refine A_iload1 dX12_fits_61 ?_
        refine A_iald (rfl) (vp_in_nI hb (by omega)) dX12_fits_62 ?_
        rw [nI_c (by omega), hp.1 9 _ rfl]
        refine A_icmp_gt (tgt := 70) dX12_fits_63 (by decide) (fun c_63 => ?_) (fun c_63 => ?_)
        · refine A_iconst (v := 0) dX12_fits_70 (by decide) ?_
          refine A_zret dX12_fits_71 (by decide) ?_
          refine ⟨_, rfl, ?_, rfl⟩
          first | (rw [bz_t]; simp only [fitS, apt, c_12, c_29, c_46, c_63, if_true, if_false]; first | done | exact i_nlt c_63) | (rw [bz_f]; simp only [fitS, apt, c_12, c_29, c_46, c_63, if_true, if_false]; first | done | exact fun q => absurd (i_le.mp q) (by have := i_lt.mp c_63; omega))
        · refine A_iconst (v := 1) dX12_fits_66 (by decide) ?_
          refine A_goto (tgt := 71) dX12_fits_67 (by decide) ?_
          refine A_zret dX12_fits_71 (by decide) ?_
          refine ⟨_, rfl, ?_, rfl⟩
          first | (rw [bz_t]; simp only [fitS, apt, c_12, c_29, c_46, c_63, if_true, if_false]; first | done | exact i_nlt c_63) | (rw [bz_f]; simp only [fitS, apt, c_12, c_29, c_46, c_63, if_true, if_false]; first | done | exact fun q => absurd (i_le.mp q) (by have := i_lt.mp c_63; omega))
    · refine A_bipush (v := 16) dX12_fits_32 (by decide) ?_
      refine A_iload4 dX12_fits_34 ?_
      refine A_isub dX12_fits_36 ?_
      refine A_goto (tgt := 42) dX12_fits_37 (by decide) ?_
      refine A_istore4 dX12_fits_42 rfl (by decide) ?_
      refine A_iload4 dX12_fits_44 ?_
      refine A_if_ge (tgt := 55) dX12_fits_46 (by decide) (fun c_46 => ?_) (fun c_46 => ?_)
      · refine A_iload4 dX12_fits_55 ?_
        refine A_aload0 dX12_fits_57 ?_
        refine A_getR gf_X12_39 rfl dX12_fits_58 ?_
        refine A_iload1 dX12_fits_61 ?_
        refine A_iald (rfl) (vp_in_nI hb (by omega)) dX12_fits_62 ?_
        rw [nI_c (by omega), hp.1 9 _ rfl]
        refine A_icmp_gt (tgt := 70) dX12_fits_63 (by decide) (fun c_63 => ?_) (fun c_63 => ?_)
        · refine A_iconst (v := 0) dX12_fits_70 (by decide) ?_
          refine A_zret dX12_fits_71 (by decide) ?_
          refine ⟨_, rfl, ?_, rfl⟩
          first | (rw [bz_t]; simp only [fitS, apt, c_12, c_29, c_46, c_63, if_true, if_false]; first | done | exact i_nlt c_63) | (rw [bz_f]; simp only [fitS, apt, c_12, c_29, c_46, c_63, if_true, if_false]; first | done | exact fun q => absurd (i_le.mp q) (by have := i_lt.mp c_63; omega))
        · refine A_iconst (v := 1) dX12_fits_66 (by decide) ?_
          refine A_goto (tgt := 71) dX12_fits_67 (by decide) ?_
          refine A_zret dX12_fits_71 (by decide) ?_
          refine ⟨_, rfl, ?_, rfl⟩
          first | (rw [bz_t]; simp only [fitS, apt, c_12, c_29, c_46, c_63, if_true, if_false]; first | done | exact i_nlt c_63) | (rw [bz_f]; simp only [fitS, apt, c_12, c_29, c_46, c_63, if_true, if_false]; first | done | exact fun q => absurd (i_le.mp q) (by have := i_lt.mp c_63; omega))
      · refine A_iload4 dX12_fits_49 ?_
        refine A_ineg dX12_fits_51 ?_
        refine A_goto (tgt := 57) dX12_fits_52 (by decide) ?_
        refine A_aload0 dX12_fits_57 ?_
        refine A_getR gf_X12_39 rfl dX12_fits_58 ?_
        refine A_iload1 dX12_fits_61 ?_
        refine A_iald (rfl) (vp_in_nI hb (by omega)) dX12_fits_62 ?_
        rw [nI_c (by omega), hp.1 9 _ rfl]
        refine A_icmp_gt (tgt := 70) dX12_fits_63 (by decide) (fun c_63 => ?_) (fun c_63 => ?_)
        · refine A_iconst (v := 0) dX12_fits_70 (by decide) ?_
          refine A_zret dX12_fits_71 (by decide) ?_
          refine ⟨_, rfl, ?_, rfl⟩
          first | (rw [bz_t]; simp only [fitS, apt, c_12, c_29, c_46, c_63, if_true, if_false]; first | done | exact i_nlt c_63) | (rw [bz_f]; simp only [fitS, apt, c_12, c_29, c_46, c_63, if_true, if_false]; first | done | exact fun q => absurd (i_le.mp q) (by have := i_lt.mp c_63; omega))
        · refine A_iconst (v := 1) dX12_fits_66 (by decide) ?_
          refine A_goto (tgt := 71) dX12_fits_67 (by decide) ?_
          refine A_zret dX12_fits_71 (by decide) ?_
          refine ⟨_, rfl, ?_, rfl⟩
          first | (rw [bz_t]; simp only [fitS, apt, c_12, c_29, c_46, c_63, if_true, if_false]; first | done | exact i_nlt c_63) | (rw [bz_f]; simp only [fitS, apt, c_12, c_29, c_46, c_63, if_true, if_false]; first | done | exact fun q => absurd (i_le.mp q) (by have := i_lt.mp c_63; omega))
/-- a box as it can be -/
def okBx (σ : Mem) (b : Nat) : Prop := (∃ q : Nat, q < 4 ∧ σ.1 7 b = nI q) ∧ (∃ q : Nat, q ≤ 9 ∧ σ.1 9 b = nI q) ∧ (-5 ≤ (σ.1 8 (8 * b)).toInt ∧ (σ.1 8 (8 * b)).toInt ≤ (σ.1 8 (8 * b + 1)).toInt ∧ (σ.1 8 (8 * b + 1)).toInt ≤ 5) ∧ (8 ≤ (σ.1 8 (8 * b + 2)).toInt ∧ (σ.1 8 (8 * b + 2)).toInt ≤ (σ.1 8 (8 * b + 3)).toInt ∧ (σ.1 8 (8 * b + 3)).toInt ≤ 12) ∧ (0 ≤ (σ.1 8 (8 * b + 4)).toInt ∧ (σ.1 8 (8 * b + 4)).toInt ≤ (σ.1 8 (8 * b + 5)).toInt ∧ (σ.1 8 (8 * b + 5)).toInt ≤ 2) ∧ (0 ≤ (σ.1 8 (8 * b + 6)).toInt ∧ (σ.1 8 (8 * b + 6)).toInt ≤ (σ.1 8 (8 * b + 7)).toInt ∧ (σ.1 8 (8 * b + 7)).toInt ≤ 3)
def nbx (σ : Mem) : Nat := (σ.1 0 31).toNatClampNeg
def WFh (σ : Mem) : Prop := WFb σ ∧ ∀ b, b < nbx σ → okBx σ b
theorem WFb.t {σ : Mem} (h : WFb σ) : nbx σ ≤ 5 ∧ σ.1 0 31 = nI (nbx σ) := by
  obtain ⟨t, h1, h2⟩ := h
  have e : nbx σ = t := by unfold nbx; rw [h2]; exact nI_c (by omega)
  rw [e]
  exact ⟨h1, h2⟩
def kdN (σ : Mem) (b : Nat) : Nat := (σ.1 7 b).toNatClampNeg
theorem okBx.k {σ : Mem} {b : Nat} (h : okBx σ b) : kdN σ b < 4 ∧ σ.1 7 b = nI (kdN σ b) := by
  obtain ⟨⟨q, h1, h2⟩, -⟩ := h
  have e : kdN σ b = q := by unfold kdN; rw [h2]; exact nI_c (by omega)
  rw [e]
  exact ⟨h1, h2⟩
def farN (σ : Mem) (k : Int32) (q d : Nat) : Int32 := layF σ k (nfc σ) (60 * q + d)
def rdN (σ : Mem) (k : Int32) (b d : Nat) : Int32 := layR σ k (nfc σ) (60 * b + d)
/-- what a box shows on a day by a law -/
def shO (σ : Mem) (k : Int32) (b d : Nat) (z s : Int32) (lg : Nat) (tr : Int32) : Int32 := if d < lg then -100000 else if farN σ k (kdN σ b) (d - lg) = -100000 then -100000 else shB σ b d z s tr (farN σ k (kdN σ b) (d - lg))
theorem Lay.w {F : Mem} {σ μ : Mem} {k : Int32} {i j : Nat} {v : Int32} {n : Nat} (h : LayI F σ k n μ) (h1 : prI i j = false) (h2 : i ≠ 29 ∧ i ≠ 30 ∧ i ≠ 31 ∧ frI i j = false) : LayI F σ k n (wI μ i j v) := by
  obtain ⟨a, b, c, d, fr⟩ := h
  refine ⟨a.w h1, fun x hx => ?_, fun x hx => ?_, fun x hx => ?_, fr.w h2.2.2.2⟩
  · rw [wI_ne (Or.inl (fun q => h2.1 q.symm))]; exact b x hx
  · rw [wI_ne (Or.inl (fun q => h2.2.1 q.symm))]; exact c x hx
  · rw [wI_ne (Or.inl (fun q => h2.2.2.1 q.symm))]; exact d x hx
theorem lgle {d lg : Nat} (hd : d < 60) (hl : lg ≤ 2) (h : 0 ≤ nI d - nI lg) : lg ≤ d := by
  have h1 := pk_sub_toInt (a := d) (b := lg) (by omega) (by omega)
  have h2 := i_le.mp h
  have e0 : (0 : Int32).toInt = 0 := by decide
  omega
theorem nlgle {d lg : Nat} (hd : d < 60) (hl : lg ≤ 2) (h : ¬ 0 ≤ nI d - nI lg) : d < lg := by
  have h1 := pk_sub_toInt (a := d) (b := lg) (by omega) (by omega)
  have e0 : (0 : Int32).toInt = 0 := by decide
  rw [i_le] at h
  omega
set_option maxHeartbeats 4000000 in
set_option maxRecDepth 100000 in
theorem T_X12_showsOn {F : Mem} {l : Launch} {G : Wd} {b d lg : Nat} {z s tr k : Int32} {σ μ : Mem} (hL : Lay F σ k μ) (hb : b < 5) (hd : d < 60) (hok : okBx σ b) (hlg : lg ≤ 2) : Mt l G KM yX12_showsOn cX12_showsOn 8 (some .int) 4 [.ref (gA G 0), .int (nI b), .int (nI d), .int z, .int s, .int (nI lg), .int tr] μ (Qi (fun v μ' => v = shO σ k b d z s lg tr ∧ μ' = μ)) := by
  refine Mt.of (own := RX12) (n := 1) (by decide) rfl [some (.ref (gA G 0)), some (.int (nI b)), some (.int (nI d)), some (.int z), some (.int s), some (.int (nI lg)), some (.int tr), none] rfl (Nat.le_of_ble_eq_true rfl) ?_
  refine A_iload2 dX12_showsOn_0 ?_
  refine A_iload5 dX12_showsOn_1 ?_
  refine A_isub dX12_showsOn_3 ?_
  refine A_if_ge (tgt := 13) dX12_showsOn_4 (by decide) (fun c_4 => ?_) (fun c_4 => ?_)
  · have hlg2 : lg ≤ d := lgle hd hlg c_4
    have ix : 60 * nI (kdN σ b) + nI d - nI lg = nI (60 * kdN σ b + (d - lg)) := by rw [nI_60, pk_sub (by omega)]; congr 1; omega
    have hkd := hok.k.1
    refine A_aload0 dX12_showsOn_13 ?_
    refine A_getR gf_X12_100 rfl dX12_showsOn_14 ?_
    refine A_bipush (v := 60) dX12_showsOn_17 (by decide) ?_
    refine A_aload0 dX12_showsOn_19 ?_
    refine A_getR gf_X12_33 rfl dX12_showsOn_20 ?_
    refine A_iload1 dX12_showsOn_23 ?_
    refine A_iald (rfl) (vp_in_nI hb (by omega)) dX12_showsOn_24 ?_
    rw [nI_c (by omega), hL.1.1 7 _ rfl, hok.k.2]
    refine A_imul dX12_showsOn_25 ?_
    refine A_iload2 dX12_showsOn_26 ?_
    refine A_iadd dX12_showsOn_27 ?_
    refine A_iload5 dX12_showsOn_28 ?_
    refine A_isub dX12_showsOn_30 ?_
    refine A_iald (rfl) (by rw [ix]; exact vp_in_nI (by omega) (by omega)) dX12_showsOn_31 ?_
    rw [ix, nI_c (by omega), hL.2.1 _ (by omega)]
    refine A_val (y := farN σ k (kdN σ b) (d - lg)) rfl ?_
    refine A_istore7 dX12_showsOn_32 rfl (by decide) ?_
    refine A_iload7 dX12_showsOn_34 ?_
    refine A_ldcw dX12_showsOn_36 kc_X12_353 ?_
    refine A_icmp_ne (tgt := 48) dX12_showsOn_39 (by decide) (fun c_39 => ?_) (fun c_39 => ?_)
    · refine A_aload0 dX12_showsOn_48 ?_
      refine A_iload1 dX12_showsOn_49 ?_
      refine A_iload2 dX12_showsOn_50 ?_
      refine A_iload3 dX12_showsOn_51 ?_
      refine A_iload4 dX12_showsOn_52 ?_
      refine A_iload6 dX12_showsOn_54 ?_
      refine A_iload7 dX12_showsOn_56 ?_
      refine A_vi6 lk_X12_373 yv_X12_showsBy dX12_showsOn_58 (rfl) (rfl) (T_X12_showsBy hL.1 hb hd) (by decide) (Nat.le_of_ble_eq_true rfl) (fun r_58 μ_58 h_58 => ?_)
      obtain ⟨rfl, e_58⟩ := h_58
      replace e_58 := e_58.symm
      subst e_58
      refine A_iret dX12_showsOn_61 ?_
      refine ⟨_, rfl, ?_, rfl⟩
      unfold shO
      first | exact absurd rfl c_39 | (rw [if_pos hlg2]) | (rw [if_neg (by omega), if_neg c_39]) | (rw [if_neg (by omega), if_pos c_39])
    · refine A_ldcw dX12_showsOn_42 kc_X12_353 ?_
      refine A_goto (tgt := 61) dX12_showsOn_45 (by decide) ?_
      refine A_iret dX12_showsOn_61 ?_
      refine ⟨_, rfl, ?_, rfl⟩
      unfold shO
      first | exact absurd rfl c_39 | (rw [if_pos hlg2]) | (rw [if_neg (by omega), if_neg c_39]) | (rw [if_neg (by omega), if_pos c_39])
  · have hlg2 : d < lg := nlgle hd hlg c_4
    refine A_ldcw dX12_showsOn_7 kc_X12_353 ?_
    refine A_goto (tgt := 32) dX12_showsOn_10 (by decide) ?_
    refine A_istore7 dX12_showsOn_32 rfl (by decide) ?_
    refine A_iload7 dX12_showsOn_34 ?_
    refine A_ldcw dX12_showsOn_36 kc_X12_353 ?_
    refine A_icmp_ne (tgt := 48) dX12_showsOn_39 (by decide) (fun c_39 => ?_) (fun c_39 => ?_)
    · refine A_aload0 dX12_showsOn_48 ?_
      refine A_iload1 dX12_showsOn_49 ?_
      refine A_iload2 dX12_showsOn_50 ?_
      refine A_iload3 dX12_showsOn_51 ?_
      refine A_iload4 dX12_showsOn_52 ?_
      refine A_iload6 dX12_showsOn_54 ?_
      refine A_iload7 dX12_showsOn_56 ?_
      refine A_vi6 lk_X12_373 yv_X12_showsBy dX12_showsOn_58 (rfl) (rfl) (T_X12_showsBy hL.1 hb hd) (by decide) (Nat.le_of_ble_eq_true rfl) (fun r_58 μ_58 h_58 => ?_)
      obtain ⟨rfl, e_58⟩ := h_58
      replace e_58 := e_58.symm
      subst e_58
      refine A_iret dX12_showsOn_61 ?_
      refine ⟨_, rfl, ?_, rfl⟩
      unfold shO
      first | exact absurd rfl c_39 | (rw [if_pos hlg2]) | (rw [if_neg (by omega), if_neg c_39]) | (rw [if_neg (by omega), if_pos c_39])
    · refine A_ldcw dX12_showsOn_42 kc_X12_353 ?_
      refine A_goto (tgt := 61) dX12_showsOn_45 (by decide) ?_
      refine A_iret dX12_showsOn_61 ?_
      refine ⟨_, rfl, ?_, rfl⟩
      unfold shO
      first | exact absurd rfl c_39 | (rw [if_pos hlg2]) | (rw [if_neg (by omega), if_neg c_39]) | (rw [if_neg (by omega), if_pos c_39])

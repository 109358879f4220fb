/-! the reference's reader of a text's signs -/
theorem w2_eta {α : Type} {f : Nat → Nat → α} {i k : Nat} {v : α} (h : f i k = v) : w2 f i k v = f := by
  funext a b
  by_cases q : a = i ∧ b = k
  · obtain ⟨rfl, rfl⟩ := q; rw [w2_same, h]
  · rw [w2_ne (by omega)]
theorem w2_w2 {α : Type} {f : Nat → Nat → α} {i k : Nat} {v w : α} : w2 (w2 f i k v) i k w = w2 f i k w := by
  funext a b
  by_cases q : a = i ∧ b = k
  · obtain ⟨rfl, rfl⟩ := q; rw [w2_same, w2_same]
  · rw [w2_ne (by omega), w2_ne (by omega), w2_ne (by omega)]
theorem wI_eta {μ : Mem} {i k : Nat} {v : Int32} (h : μ.1 i k = v) : wI μ i k v = μ := by unfold wI; rw [w2_eta h]
theorem wL_eta {μ : Mem} {i k : Nat} {v : Int64} (h : μ.2.1 i k = v) : wL μ i k v = μ := by unfold wL; rw [w2_eta h]
theorem wI_wI {μ : Mem} {i k : Nat} {v w : Int32} : wI (wI μ i k v) i k w = wI μ i k w := by unfold wI; simp only [w2_w2]
theorem wL_wL {μ : Mem} {i k : Nat} {v w : Int64} : wL (wL μ i k v) i k w = wL μ i k w := by unfold wL; simp only [w2_w2]
def cA (T : Nat → Int32) (n i : Nat) : Int32 := if i < n then T i else -1
abbrev isLt (c : Int32) : Prop := 97 ≤ c ∧ c ≤ 122
abbrev isDg (c : Int32) : Prop := 48 ≤ c ∧ c ≤ 57
abbrev isSg (r c : Int32) : Prop := c = 59 ∨ c = 45 ∨ (r ≠ 0 ∧ (c = 40 ∨ c = 41 ∨ c = 60 ∨ c = 62 ∨ c = 61 ∨ c = 43 ∨ c = 42))
def Tx (T : Nat → Int32) (n a : Nat) (μ : Mem) : Prop := μ.1 1 = T ∧ n ≤ 800 ∧ a ≤ 800 ∧ μ.1 0 5 = nI n ∧ μ.1 0 4 = nI a
theorem Tx.t {T : Nat → Int32} {n a : Nat} {μ : Mem} (h : Tx T n a μ) : μ.1 1 = T := h.1
theorem Tx.n8 {T : Nat → Int32} {n a : Nat} {μ : Mem} (h : Tx T n a μ) : n ≤ 800 := h.2.1
theorem Tx.a8 {T : Nat → Int32} {n a : Nat} {μ : Mem} (h : Tx T n a μ) : a ≤ 800 := h.2.2.1
theorem Tx.n {T : Nat → Int32} {n a : Nat} {μ : Mem} (h : Tx T n a μ) : μ.1 0 5 = nI n := h.2.2.2.1
theorem Tx.a {T : Nat → Int32} {n a : Nat} {μ : Mem} (h : Tx T n a μ) : μ.1 0 4 = nI a := h.2.2.2.2
set_option maxHeartbeats 4000000 in
set_option maxRecDepth 100000 in
theorem T_X12_here {l : Launch} {G : Wd} {T : Nat → Int32} {n a : Nat} {x : Int32} {μ : Mem} (k : Nat) (hx : Tx T n a μ) (hk : x = nI k) (h8 : k ≤ 900) : Mt l G KM yX12_here cX12_here 2 (some .int) 1 [.ref (gA G 0), .int x] μ (Qi (fun v μ' => v = cA T n (a + k) ∧ μ' = μ)) := by
  refine Mt.of (own := RX12) (n := 0) (by decide) rfl [some (.ref (gA G 0)), some (.int x)] rfl (Nat.le_of_ble_eq_true rfl) ?_
  have hn8 := hx.n8
  have ha8 := hx.a8
  refine A_aload0 dX12_here_0 ?_
  refine A_getI gf_X12_173 rfl dX12_here_1 ?_
  rw [hx.a]
  refine A_iload1 dX12_here_4 ?_
  refine A_iadd dX12_here_5 ?_
  rw [hk, nI_add]
  refine A_aload0 dX12_here_6 ?_
  refine A_getI gf_X12_176 rfl dX12_here_7 ?_
  rw [hx.n]
  refine A_icmp_ge (tgt := 27) dX12_here_10 (by decide) (fun c_10 => ?_) (fun c_10 => ?_)
  · have h1 : ¬ a + k < n := fun z => by have h9 := (nI_leI (by omega) (by omega)).mp c_10; omega
    refine A_iconst (v := -1) dX12_here_27 (by decide) ?_
    refine A_iret dX12_here_28 ?_
    refine ⟨_, rfl, ?_, rfl⟩
    unfold cA
    rw [if_neg h1]
  · have h1 : a + k < n := (nI_ltI (by omega) (by omega)).mp (by rcases Nat.lt_or_ge (a + k) n with z | z; exact nI_lt z (by omega); exact absurd (nI_le z (by omega)) c_10)
    refine A_aload0 dX12_here_13 ?_
    refine A_getR gf_X12_7 rfl dX12_here_14 ?_
    refine A_aload0 dX12_here_17 ?_
    refine A_getI gf_X12_173 rfl dX12_here_18 ?_
    rw [hx.a]
    refine A_iload1 dX12_here_21 ?_
    refine A_iadd dX12_here_22 ?_
    rw [nI_add]
    refine A_iald (rfl) (vp_in_nI (by omega) (by omega)) dX12_here_23 ?_
    rw [nI_c (by omega), hx.t]
    refine A_goto (tgt := 28) dX12_here_24 (by decide) ?_
    refine A_iret dX12_here_28 ?_
    refine ⟨_, rfl, ?_, rfl⟩
    unfold cA
    rw [if_pos h1]
set_option maxHeartbeats 4000000 in
set_option maxRecDepth 100000 in
theorem T_X12_isLetter {l : Launch} {G : Wd} {x : Int32} {μ : Mem}  : Mt l G KM yX12_isLetter cX12_isLetter 1 (some .boolean) 1 [.int x] μ (Qi (fun v μ' => v = bz (isLt x) ∧ μ' = μ)) := by
  refine Mt.of (own := RX12) (n := 0) (by decide) rfl [some (.int x)] rfl (Nat.le_of_ble_eq_true rfl) ?_
  refine A_iload0 dX12_isLetter_0 ?_
  refine A_bipush (v := 97) dX12_isLetter_1 (by decide) ?_
  refine A_icmp_lt (tgt := 16) dX12_isLetter_3 (by decide) (fun c_3 => ?_) (fun c_3 => ?_)
  · refine A_iconst (v := 0) dX12_isLetter_16 (by decide) ?_
    refine A_zret dX12_isLetter_17 (by decide) ?_
    refine ⟨_, rfl, ?_, rfl⟩
    unfold bz
    simp_all [i_lt, i_le]
    try omega
  · refine A_iload0 dX12_isLetter_6 ?_
    refine A_bipush (v := 122) dX12_isLetter_7 (by decide) ?_
    refine A_icmp_gt (tgt := 16) dX12_isLetter_9 (by decide) (fun c_9 => ?_) (fun c_9 => ?_)
    · refine A_iconst (v := 0) dX12_isLetter_16 (by decide) ?_
      refine A_zret dX12_isLetter_17 (by decide) ?_
      refine ⟨_, rfl, ?_, rfl⟩
      unfold bz
      simp_all [i_lt, i_le]
      try omega
    · refine A_iconst (v := 1) dX12_isLetter_12 (by decide) ?_
      refine A_goto (tgt := 17) dX12_isLetter_13 (by decide) ?_
      refine A_zret dX12_isLetter_17 (by decide) ?_
      refine ⟨_, rfl, ?_, rfl⟩
      unfold bz
      simp_all [i_lt, i_le]
      try omega
set_option maxHeartbeats 4000000 in
set_option maxRecDepth 100000 in
theorem T_X12_isDigit {l : Launch} {G : Wd} {x : Int32} {μ : Mem}  : Mt l G KM yX12_isDigit cX12_isDigit 1 (some .boolean) 1 [.int x] μ (Qi (fun v μ' => v = bz (isDg x) ∧ μ' = μ)) := by
  refine Mt.of (own := RX12) (n := 0) (by decide) rfl [some (.int x)] rfl (Nat.le_of_ble_eq_true rfl) ?_
  refine A_iload0 dX12_isDigit_0 ?_
  refine A_bipush (v := 48) dX12_isDigit_1 (by decide) ?_
  refine A_icmp_lt (tgt := 16) dX12_isDigit_3 (by decide) (fun c_3 => ?_) (fun c_3 => ?_)
  · refine A_iconst (v := 0) dX12_isDigit_16 (by decide) ?_
    refine A_zret dX12_isDigit_17 (by decide) ?_
    refine ⟨_, rfl, ?_, rfl⟩
    unfold bz
    simp_all [i_lt, i_le]
    try omega
  · refine A_iload0 dX12_isDigit_6 ?_
    refine A_bipush (v := 57) dX12_isDigit_7 (by decide) ?_
    refine A_icmp_gt (tgt := 16) dX12_isDigit_9 (by decide) (fun c_9 => ?_) (fun c_9 => ?_)
    · refine A_iconst (v := 0) dX12_isDigit_16 (by decide) ?_
      refine A_zret dX12_isDigit_17 (by decide) ?_
      refine ⟨_, rfl, ?_, rfl⟩
      unfold bz
      simp_all [i_lt, i_le]
      try omega
    · refine A_iconst (v := 1) dX12_isDigit_12 (by decide) ?_
      refine A_goto (tgt := 17) dX12_isDigit_13 (by decide) ?_
      refine A_zret dX12_isDigit_17 (by decide) ?_
      refine ⟨_, rfl, ?_, rfl⟩
      unfold bz
      simp_all [i_lt, i_le]
      try omega
set_option maxHeartbeats 4000000 in
set_option maxRecDepth 100000 in
theorem T_X12_isSign {l : Launch} {G : Wd} {x : Int32} {μ : Mem}  : Mt l G KM yX12_isSign cX12_isSign 2 (some .boolean) 1 [.ref (gA G 0), .int x] μ (Qi (fun v μ' => v = bz (isSg (μ.1 0 10) x) ∧ μ' = μ)) := by
  refine Mt.of (own := RX12) (n := 0) (by decide) rfl [some (.ref (gA G 0)), some (.int x)] rfl (Nat.le_of_ble_eq_true rfl) ?_
  refine A_iload1 dX12_isSign_0 ?_
  refine A_bipush (v := 59) dX12_isSign_1 (by decide) ?_
  refine A_icmp_eq (tgt := 61) dX12_isSign_3 (by decide) (fun c_3 => ?_) (fun c_3 => ?_)
  · refine A_iconst (v := 1) dX12_isSign_61 (by decide) ?_
    refine A_goto (tgt := 66) dX12_isSign_62 (by decide) ?_
    refine A_zret dX12_isSign_66 (by decide) ?_
    refine ⟨_, rfl, ?_, rfl⟩
    exact (bz_t (Or.inl c_3)).symm
  · refine A_iload1 dX12_isSign_6 ?_
    refine A_bipush (v := 45) dX12_isSign_7 (by decide) ?_
    refine A_icmp_eq (tgt := 61) dX12_isSign_9 (by decide) (fun c_9 => ?_) (fun c_9 => ?_)
    · refine A_iconst (v := 1) dX12_isSign_61 (by decide) ?_
      refine A_goto (tgt := 66) dX12_isSign_62 (by decide) ?_
      refine A_zret dX12_isSign_66 (by decide) ?_
      refine ⟨_, rfl, ?_, rfl⟩
      exact (bz_t (Or.inr (Or.inl c_9))).symm
    · refine A_aload0 dX12_isSign_12 ?_
      refine A_getI gf_X12_179 rfl dX12_isSign_13 ?_
      refine A_if_eq (tgt := 65) dX12_isSign_16 (by decide) (fun c_16 => ?_) (fun c_16 => ?_)
      · refine A_iconst (v := 0) dX12_isSign_65 (by decide) ?_
        refine A_zret dX12_isSign_66 (by decide) ?_
        refine ⟨_, rfl, ?_, rfl⟩
        exact (bz_f (fun z => by rcases z with z | z | z; exact c_3 z; exact c_9 z; exact z.1 c_16)).symm
      · refine A_iload1 dX12_isSign_19 ?_
        refine A_bipush (v := 40) dX12_isSign_20 (by decide) ?_
        refine A_icmp_eq (tgt := 61) dX12_isSign_22 (by decide) (fun c_22 => ?_) (fun c_22 => ?_)
        · refine A_iconst (v := 1) dX12_isSign_61 (by decide) ?_
          refine A_goto (tgt := 66) dX12_isSign_62 (by decide) ?_
          refine A_zret dX12_isSign_66 (by decide) ?_
          refine ⟨_, rfl, ?_, rfl⟩
          exact (bz_t (Or.inr (Or.inr ⟨c_16, Or.inl c_22⟩))).symm
        · refine A_iload1 dX12_isSign_25 ?_
          refine A_bipush (v := 41) dX12_isSign_26 (by decide) ?_
          refine A_icmp_eq (tgt := 61) dX12_isSign_28 (by decide) (fun c_28 => ?_) (fun c_28 => ?_)
          · refine A_iconst (v := 1) dX12_isSign_61 (by decide) ?_
            refine A_goto (tgt := 66) dX12_isSign_62 (by decide) ?_
            refine A_zret dX12_isSign_66 (by decide) ?_
            refine ⟨_, rfl, ?_, rfl⟩
            exact (bz_t (Or.inr (Or.inr ⟨c_16, Or.inr (Or.inl c_28)⟩))).symm
          · refine A_iload1 dX12_isSign_31 ?_
            refine A_bipush (v := 60) dX12_isSign_32 (by decide) ?_
            refine A_icmp_eq (tgt := 61) dX12_isSign_34 (by decide) (fun c_34 => ?_) (fun c_34 => ?_)
            · refine A_iconst (v := 1) dX12_isSign_61 (by decide) ?_
              refine A_goto (tgt := 66) dX12_isSign_62 (by decide) ?_
              refine A_zret dX12_isSign_66 (by decide) ?_
              refine ⟨_, rfl, ?_, rfl⟩
              exact (bz_t (Or.inr (Or.inr ⟨c_16, Or.inr (Or.inr (Or.inl c_34))⟩))).symm
            · refine A_iload1 dX12_isSign_37 ?_
              refine A_bipush (v := 62) dX12_isSign_38 (by decide) ?_
              refine A_icmp_eq (tgt := 61) dX12_isSign_40 (by decide) (fun c_40 => ?_) (fun c_40 => ?_)
              · refine A_iconst (v := 1) dX12_isSign_61 (by decide) ?_
                refine A_goto (tgt := 66) dX12_isSign_62 (by decide) ?_
                refine A_zret dX12_isSign_66 (by decide) ?_
                refine ⟨_, rfl, ?_, rfl⟩
                exact (bz_t (Or.inr (Or.inr ⟨c_16, Or.inr (Or.inr (Or.inr (Or.inl c_40)))⟩))).symm
              · refine A_iload1 dX12_isSign_43 ?_
                refine A_bipush (v := 61) dX12_isSign_44 (by decide) ?_
                refine A_icmp_eq (tgt := 61) dX12_isSign_46 (by decide) (fun c_46 => ?_) (fun c_46 => ?_)
                · refine A_iconst (v := 1) dX12_isSign_61 (by decide) ?_
                  refine A_goto (tgt := 66) dX12_isSign_62 (by decide) ?_
                  refine A_zret dX12_isSign_66 (by decide) ?_
                  refine ⟨_, rfl, ?_, rfl⟩
                  exact (bz_t (Or.inr (Or.inr ⟨c_16, Or.inr (Or.inr (Or.inr (Or.inr (Or.inl c_46))))⟩))).symm
                · refine A_iload1 dX12_isSign_49 ?_
                  refine A_bipush (v := 43) dX12_isSign_50 (by decide) ?_
                  refine A_icmp_eq (tgt := 61) dX12_isSign_52 (by decide) (fun c_52 => ?_) (fun c_52 => ?_)
                  · refine A_iconst (v := 1) dX12_isSign_61 (by decide) ?_
                    refine A_goto (tgt := 66) dX12_isSign_62 (by decide) ?_
                    refine A_zret dX12_isSign_66 (by decide) ?_
                    refine ⟨_, rfl, ?_, rfl⟩
                    exact (bz_t (Or.inr (Or.inr ⟨c_16, Or.inr (Or.inr (Or.inr (Or.inr (Or.inr (Or.inl c_52)))))⟩))).symm
                  · refine A_iload1 dX12_isSign_55 ?_
                    refine A_bipush (v := 42) dX12_isSign_56 (by decide) ?_
                    refine A_icmp_ne (tgt := 65) dX12_isSign_58 (by decide) (fun c_58 => ?_) (fun c_58 => ?_)
                    · refine A_iconst (v := 0) dX12_isSign_65 (by decide) ?_
                      refine A_zret dX12_isSign_66 (by decide) ?_
                      refine ⟨_, rfl, ?_, rfl⟩
                      exact (bz_f (fun z => by rcases z with z | z | ⟨_, z | z | z | z | z | z | z⟩; exact c_3 z; exact c_9 z; exact c_22 z; exact c_28 z; exact c_34 z; exact c_40 z; exact c_46 z; exact c_52 z; exact c_58 z)).symm
                    · refine A_iconst (v := 1) dX12_isSign_61 (by decide) ?_
                      refine A_goto (tgt := 66) dX12_isSign_62 (by decide) ?_
                      refine A_zret dX12_isSign_66 (by decide) ?_
                      refine ⟨_, rfl, ?_, rfl⟩
                      exact (bz_t (Or.inr (Or.inr ⟨c_16, Or.inr (Or.inr (Or.inr (Or.inr (Or.inr (Or.inr (c_58))))))⟩))).symm
def spQ (T : Nat → Int32) (n : Nat) : Nat → Nat → Nat
  | 0, a => a
  | q + 1, a => if cA T n a = 32 ∨ cA T n a = 10 then spQ T n q (a + 1) else a
def spN (T : Nat → Int32) (n a : Nat) : Nat := spQ T n (n - a) a
def lrQ (T : Nat → Int32) (n : Nat) : Nat → Nat → Nat
  | 0, _ => 0
  | q + 1, a => if isLt (cA T n a) then lrQ T n q (a + 1) + 1 else 0
def dgQ (T : Nat → Int32) (n : Nat) : Nat → Nat → Nat
  | 0, _ => 0
  | q + 1, a => if isDg (cA T n a) then dgQ T n q (a + 1) + 1 else 0
def wdF (T : Nat → Int32) (n p : Nat) : Nat → Int64
  | 0 => 0
  | k + 1 => wdF T n p k <<< 8 ||| (cA T n (p + k)).toInt64
def nmF (T : Nat → Int32) (n p : Nat) : Nat → Int32
  | 0 => 0
  | k + 1 => 10 * nmF T n p k + cA T n (p + k) - 48
theorem spQ_b (T : Nat → Int32) (n : Nat) : ∀ q a, spQ T n q a ≤ a + q := by
  intro q
  induction q with
  | zero => intro a; exact Nat.le_refl _
  | succ q ih => intro a; unfold spQ; split; have := ih (a + 1); omega; omega
theorem lrQ_b (T : Nat → Int32) (n : Nat) : ∀ q a, lrQ T n q a ≤ q := by
  intro q
  induction q with
  | zero => intro a; exact Nat.le_refl _
  | succ q ih => intro a; unfold lrQ; split; have := ih (a + 1); omega; omega
theorem dgQ_b (T : Nat → Int32) (n : Nat) : ∀ q a, dgQ T n q a ≤ q := by
  intro q
  induction q with
  | zero => intro a; exact Nat.le_refl _
  | succ q ih => intro a; unfold dgQ; split; have := ih (a + 1); omega; omega
theorem cA_out {T : Nat → Int32} {n i : Nat} (h : n ≤ i) : cA T n i = -1 := if_neg (by omega)
theorem Tx.at {T : Nat → Int32} {n a b : Nat} {μ : Mem} (h : Tx T n a μ) (hb : b ≤ 800) : Tx T n b (wI μ 0 4 (nI b)) := ⟨(wI_row (by decide)).trans h.t, h.n8, hb, (wI_ne (Or.inr (by decide))).trans h.n, wI_same⟩
theorem Tx.w {T : Nat → Int32} {n a k : Nat} {v : Int32} {μ : Mem} (h : Tx T n a μ) (hk : 5 < k) : Tx T n a (wI μ 0 k v) := ⟨(wI_row (by decide)).trans h.t, h.n8, h.a8, (wI_ne (Or.inr (by omega))).trans h.n, (wI_ne (Or.inr (by omega))).trans h.a⟩
set_option maxHeartbeats 4000000 in
set_option maxRecDepth 100000 in
theorem L_X12_token_0 {l : Launch} {G : Wd} {T : Nat → Int32} {n : Nat} {Q : Option Value → Mem → Prop} {x1 x2 : Option Value} : ∀ (N q a : Nat) (μ : Mem), q < N → q = n - a → Tx T n a μ → (∀ μ', μ' = wI μ 0 4 (nI (spQ T n q a)) → AW l G KM RX12 cX12_token 3 2 none Q 33 [some (.ref (gA G 0)), x1, x2] [] μ') → AW l G KM RX12 cX12_token 3 2 none Q 0 [some (.ref (gA G 0)), x1, x2] [] μ := by
  intro N
  induction N with
  | zero => intro q a μ h; omega
  | succ N ih' =>
    intro q a μ hq hqa hx hk
    have hn8 := hx.n8
    have ha8 := hx.a8
    have ih := fun (r b : Nat) (ν : Mem) (h1 : r < N) => ih' r b ν h1
    refine A_aload0 dX12_token_0 ?_
    refine A_iconst (v := 0) dX12_token_1 (by decide) ?_
    refine A_vi1 lk_X12_183 yv_X12_here dX12_token_2 (rfl) (rfl) (T_X12_here 0 hx (by rfl) (by omega)) (by decide) (Nat.le_of_ble_eq_true rfl) (fun r_2 μ_2 h_2 => ?_)
    obtain ⟨rfl, e_2⟩ := h_2
    replace e_2 := e_2.symm
    subst e_2
    refine A_bipush (v := 32) dX12_token_5 (by decide) ?_
    refine A_icmp_eq (tgt := 20) dX12_token_7 (by decide) (fun c_7 => ?_) (fun c_7 => ?_)
    · refine A_aload0 dX12_token_20 ?_
      refine A_dup dX12_token_21 rfl ?_
      refine A_getI gf_X12_173 rfl dX12_token_22 ?_
      rw [hx.a]
      refine A_iconst (v := 1) dX12_token_25 (by decide) ?_
      refine A_iadd dX12_token_26 ?_
      rw [nI_1]
      refine A_putI gf_X12_173 rfl dX12_token_27 ?_
      refine A_goto (tgt := 0) dX12_token_30 (by decide) ?_
      have hsp : cA T n a = 32 ∨ cA T n a = 10 := Or.inl c_7
      cases q with
      | zero => exact absurd hsp (by rw [cA_out (by omega)]; decide)
      | succ q =>
        refine ih q (a + 1) _ (by omega) (by omega) (hx.at (by omega)) (fun μ1 e1 => hk μ1 (e1.trans ?_))
        rw [wI_wI, spQ, if_pos hsp]
    · refine A_aload0 dX12_token_10 ?_
      refine A_iconst (v := 0) dX12_token_11 (by decide) ?_
      refine A_vi1 lk_X12_183 yv_X12_here dX12_token_12 (rfl) (rfl) (T_X12_here 0 hx (by rfl) (by omega)) (by decide) (Nat.le_of_ble_eq_true rfl) (fun r_12 μ_12 h_12 => ?_)
      obtain ⟨rfl, e_12⟩ := h_12
      replace e_12 := e_12.symm
      subst e_12
      refine A_bipush (v := 10) dX12_token_15 (by decide) ?_
      refine A_icmp_ne (tgt := 33) dX12_token_17 (by decide) (fun c_17 => ?_) (fun c_17 => ?_)
      · refine hk _ ?_
        have hno : ¬ (cA T n a = 32 ∨ cA T n a = 10) := fun z => by rcases z with z | z; exact c_7 z; exact c_17 z
        have e : spQ T n q a = a := by cases q with | zero => rfl | succ q => exact if_neg hno
        rw [e, wI_eta hx.a]
      · refine A_aload0 dX12_token_20 ?_
        refine A_dup dX12_token_21 rfl ?_
        refine A_getI gf_X12_173 rfl dX12_token_22 ?_
        rw [hx.a]
        refine A_iconst (v := 1) dX12_token_25 (by decide) ?_
        refine A_iadd dX12_token_26 ?_
        rw [nI_1]
        refine A_putI gf_X12_173 rfl dX12_token_27 ?_
        refine A_goto (tgt := 0) dX12_token_30 (by decide) ?_
        have hsp : cA T n a = 32 ∨ cA T n a = 10 := Or.inr c_17
        cases q with
        | zero => exact absurd hsp (by rw [cA_out (by omega)]; decide)
        | succ q =>
          refine ih q (a + 1) _ (by omega) (by omega) (hx.at (by omega)) (fun μ1 e1 => hk μ1 (e1.trans ?_))
          rw [wI_wI, spQ, if_pos hsp]
set_option maxHeartbeats 4000000 in
set_option maxRecDepth 100000 in
theorem L_X12_token_78 {l : Launch} {G : Wd} {T : Nat → Int32} {n p : Nat} {M : Mem} {Q : Option Value → Mem → Prop} {x1 : Int32} (hM : Tx T n p M) : ∀ (q k : Nat) (x : Int32) (μ : Mem), q = n - (p + k) → k ≤ 800 → x = nI k → μ = wL M 0 9 (wdF T n p (min k 8)) → (∀ (y : Int32) (μ' : Mem), y = nI (k + lrQ T n q (p + k)) → μ' = wL M 0 9 (wdF T n p (min (k + lrQ T n q (p + k)) 8)) → AW l G KM RX12 cX12_token 3 2 none Q 119 [some (.ref (gA G 0)), some (.int x1), some (.int y)] [] μ') → AW l G KM RX12 cX12_token 3 2 none Q 78 [some (.ref (gA G 0)), some (.int x1), some (.int x)] [] μ := by
  intro q
  have hn8 := hM.n8
  have ha8 := hM.a8
  induction q with
  | zero =>
    intro k x μ hq hk8 hx2 hm hk
    have hx : Tx T n p μ := by rw [hm]; exact hM
    subst hx2
    refine A_aload0 dX12_token_78 ?_
    refine A_iload2 dX12_token_79 ?_
    refine A_vi1 lk_X12_183 yv_X12_here dX12_token_80 (rfl) (rfl) (T_X12_here k hx (by rfl) (by omega)) (by decide) (Nat.le_of_ble_eq_true rfl) (fun r_80 μ_80 h_80 => ?_)
    obtain ⟨rfl, e_80⟩ := h_80
    replace e_80 := e_80.symm
    subst e_80
    refine A_si1 lk_X12_200 ys_X12_isLetter dX12_token_83 (T_X12_isLetter) (by decide) (Nat.le_of_ble_eq_true rfl) (fun r_83 μ_83 h_83 => ?_)
    obtain ⟨rfl, e_83⟩ := h_83
    replace e_83 := e_83.symm
    subst e_83
    refine A_if_eq (tgt := 119) dX12_token_86 (by decide) (fun c_86 => ?_) (fun c_86 => ?_)
    · exact hk _ _ rfl hm
    · exact absurd (bz_f (p := isLt (cA T n (p + k))) (by rw [cA_out (by omega)]; decide)) c_86
  | succ q ih =>
    intro k x μ hq hk8 hx2 hm hk
    have hx : Tx T n p μ := by rw [hm]; exact hM
    subst hx2
    refine A_aload0 dX12_token_78 ?_
    refine A_iload2 dX12_token_79 ?_
    refine A_vi1 lk_X12_183 yv_X12_here dX12_token_80 (rfl) (rfl) (T_X12_here k hx (by rfl) (by omega)) (by decide) (Nat.le_of_ble_eq_true rfl) (fun r_80 μ_80 h_80 => ?_)
    obtain ⟨rfl, e_80⟩ := h_80
    replace e_80 := e_80.symm
    subst e_80
    refine A_si1 lk_X12_200 ys_X12_isLetter dX12_token_83 (T_X12_isLetter) (by decide) (Nat.le_of_ble_eq_true rfl) (fun r_83 μ_83 h_83 => ?_)
    obtain ⟨rfl, e_83⟩ := h_83
    replace e_83 := e_83.symm
    subst e_83
    refine A_if_eq (tgt := 119) dX12_token_86 (by decide) (fun c_86 => ?_) (fun c_86 => ?_)
    · have hl : ¬ isLt (cA T n (p + k)) := bz_0.mp c_86
      have e : lrQ T n (q + 1) (p + k) = 0 := if_neg hl
      exact hk _ _ (by rw [e]; rfl) (by rw [e]; exact hm)
    · have hl : isLt (cA T n (p + k)) := by simpa [bz_0] using c_86
      refine A_iload2 dX12_token_89 ?_
      refine A_bipush (v := 8) dX12_token_90 (by decide) ?_
      refine A_icmp_ge (tgt := 113) dX12_token_92 (by decide) (fun c_92 => ?_) (fun c_92 => ?_)
      · refine A_iinc2 dX12_token_113 rfl rfl (by decide) ?_
        refine A_goto (tgt := 78) dX12_token_116 (by decide) ?_
        refine ih (k + 1) _ _ (by omega) (by omega) (nI_1 k) ?_ ?_
        · rw [hm, show min (k + 1) 8 = min k 8 by have h9 := (nI_leI (a := 8) (by omega) (by omega)).mp c_92; omega]
        · intro y m1 e1 e2
          have e3 : lrQ T n (q + 1) (p + k) = lrQ T n q (p + (k + 1)) + 1 := if_pos hl
          have e4 : k + 1 + lrQ T n q (p + (k + 1)) = k + (lrQ T n q (p + (k + 1)) + 1) := by omega
          exact hk y m1 (by rw [e1, e3, e4]) (by rw [e2, e3, e4])
      · refine A_aload0 dX12_token_95 ?_
        refine A_aload0 dX12_token_96 ?_
        refine A_getL gf_X12_190 rfl dX12_token_97 ?_
        refine A_bipush (v := 8) dX12_token_100 (by decide) ?_
        refine A_lshl dX12_token_102 ?_
        refine A_aload0 dX12_token_103 ?_
        refine A_iload2 dX12_token_104 ?_
        refine A_vi1 lk_X12_183 yv_X12_here dX12_token_105 (rfl) (rfl) (T_X12_here k hx (by rfl) (by omega)) (by decide) (Nat.le_of_ble_eq_true rfl) (fun r_105 μ_105 h_105 => ?_)
        obtain ⟨rfl, e_105⟩ := h_105
        replace e_105 := e_105.symm
        subst e_105
        refine A_i2l dX12_token_108 ?_
        refine A_lor dX12_token_109 ?_
        refine A_putL gf_X12_190 rfl dX12_token_110 ?_
        refine A_iinc2 dX12_token_113 rfl rfl (by decide) ?_
        refine A_goto (tgt := 78) dX12_token_116 (by decide) ?_
        refine ih (k + 1) _ _ (by omega) (by omega) (nI_1 k) ?_ ?_
        · have h9 : k < 8 := by rcases Nat.lt_or_ge k 8 with z | z; exact z; exact absurd (nI_le z (by omega)) c_92
          rw [hm, wL_wL, show min (k + 1) 8 = k + 1 by omega, show min k 8 = k by omega]; rfl
        · intro y m1 e1 e2
          have e3 : lrQ T n (q + 1) (p + k) = lrQ T n q (p + (k + 1)) + 1 := if_pos hl
          have e4 : k + 1 + lrQ T n q (p + (k + 1)) = k + (lrQ T n q (p + (k + 1)) + 1) := by omega
          exact hk y m1 (by rw [e1, e3, e4]) (by rw [e2, e3, e4])
set_option maxHeartbeats 4000000 in
set_option maxRecDepth 100000 in
theorem L_X12_token_144 {l : Launch} {G : Wd} {T : Nat → Int32} {n p : Nat} {M : Mem} {Q : Option Value → Mem → Prop} {x1 : Int32} (hM : Tx T n p M) : ∀ (q k : Nat) (x : Int32) (μ : Mem), q = n - (p + k) → k ≤ 800 → x = nI k → μ = wI M 0 8 (nmF T n p (min k 4)) → (∀ (y : Int32) (μ' : Mem), y = nI (k + dgQ T n q (p + k)) → μ' = wI M 0 8 (nmF T n p (min (k + dgQ T n q (p + k)) 4)) → AW l G KM RX12 cX12_token 3 2 none Q 186 [some (.ref (gA G 0)), some (.int x1), some (.int y)] [] μ') → AW l G KM RX12 cX12_token 3 2 none Q 144 [some (.ref (gA G 0)), some (.int x1), some (.int x)] [] μ := by
  intro q
  have hn8 := hM.n8
  have ha8 := hM.a8
  induction q with
  | zero =>
    intro k x μ hq hk8 hx2 hm hk
    have hx : Tx T n p μ := by rw [hm]; exact hM.w (by decide)
    subst hx2
    refine A_aload0 dX12_token_144 ?_
    refine A_iload2 dX12_token_145 ?_
    refine A_vi1 lk_X12_183 yv_X12_here dX12_token_146 (rfl) (rfl) (T_X12_here k hx (by rfl) (by omega)) (by decide) (Nat.le_of_ble_eq_true rfl) (fun r_146 μ_146 h_146 => ?_)
    obtain ⟨rfl, e_146⟩ := h_146
    replace e_146 := e_146.symm
    subst e_146
    refine A_si1 lk_X12_204 ys_X12_isDigit dX12_token_149 (T_X12_isDigit) (by decide) (Nat.le_of_ble_eq_true rfl) (fun r_149 μ_149 h_149 => ?_)
    obtain ⟨rfl, e_149⟩ := h_149
    replace e_149 := e_149.symm
    subst e_149
    refine A_if_eq (tgt := 186) dX12_token_152 (by decide) (fun c_152 => ?_) (fun c_152 => ?_)
    · exact hk _ _ rfl hm
    · exact absurd (bz_f (p := isDg (cA T n (p + k))) (by rw [cA_out (by omega)]; decide)) c_152
  | succ q ih =>
    intro k x μ hq hk8 hx2 hm hk
    have hx : Tx T n p μ := by rw [hm]; exact hM.w (by decide)
    subst hx2
    refine A_aload0 dX12_token_144 ?_
    refine A_iload2 dX12_token_145 ?_
    refine A_vi1 lk_X12_183 yv_X12_here dX12_token_146 (rfl) (rfl) (T_X12_here k hx (by rfl) (by omega)) (by decide) (Nat.le_of_ble_eq_true rfl) (fun r_146 μ_146 h_146 => ?_)
    obtain ⟨rfl, e_146⟩ := h_146
    replace e_146 := e_146.symm
    subst e_146
    refine A_si1 lk_X12_204 ys_X12_isDigit dX12_token_149 (T_X12_isDigit) (by decide) (Nat.le_of_ble_eq_true rfl) (fun r_149 μ_149 h_149 => ?_)
    obtain ⟨rfl, e_149⟩ := h_149
    replace e_149 := e_149.symm
    subst e_149
    refine A_if_eq (tgt := 186) dX12_token_152 (by decide) (fun c_152 => ?_) (fun c_152 => ?_)
    · have hl : ¬ isDg (cA T n (p + k)) := bz_0.mp c_152
      have e : dgQ T n (q + 1) (p + k) = 0 := if_neg hl
      exact hk _ _ (by rw [e]; rfl) (by rw [e]; exact hm)
    · have hl : isDg (cA T n (p + k)) := by simpa [bz_0] using c_152
      refine A_iload2 dX12_token_155 ?_
      refine A_iconst (v := 4) dX12_token_156 (by decide) ?_
      refine A_icmp_ge (tgt := 180) dX12_token_157 (by decide) (fun c_157 => ?_) (fun c_157 => ?_)
      · refine A_iinc2 dX12_token_180 rfl rfl (by decide) ?_
        refine A_goto (tgt := 144) dX12_token_183 (by decide) ?_
        refine ih (k + 1) _ _ (by omega) (by omega) (nI_1 k) ?_ ?_
        · rw [hm, show min (k + 1) 4 = min k 4 by have h9 := (nI_leI (a := 4) (by omega) (by omega)).mp c_157; omega]
        · intro y m1 e1 e2
          have e3 : dgQ T n (q + 1) (p + k) = dgQ T n q (p + (k + 1)) + 1 := if_pos hl
          have e4 : k + 1 + dgQ T n q (p + (k + 1)) = k + (dgQ T n q (p + (k + 1)) + 1) := by omega
          exact hk y m1 (by rw [e1, e3, e4]) (by rw [e2, e3, e4])
      · refine A_aload0 dX12_token_160 ?_
        refine A_bipush (v := 10) dX12_token_161 (by decide) ?_
        refine A_aload0 dX12_token_163 ?_
        refine A_getI gf_X12_194 rfl dX12_token_164 ?_
        refine A_imul dX12_token_167 ?_
        refine A_aload0 dX12_token_168 ?_
        refine A_iload2 dX12_token_169 ?_
        refine A_vi1 lk_X12_183 yv_X12_here dX12_token_170 (rfl) (rfl) (T_X12_here k hx (by rfl) (by omega)) (by decide) (Nat.le_of_ble_eq_true rfl) (fun r_170 μ_170 h_170 => ?_)
        obtain ⟨rfl, e_170⟩ := h_170
        replace e_170 := e_170.symm
        subst e_170
        refine A_iadd dX12_token_173 ?_
        refine A_bipush (v := 48) dX12_token_174 (by decide) ?_
        refine A_isub dX12_token_176 ?_
        refine A_putI gf_X12_194 rfl dX12_token_177 ?_
        refine A_iinc2 dX12_token_180 rfl rfl (by decide) ?_
        refine A_goto (tgt := 144) dX12_token_183 (by decide) ?_
        refine ih (k + 1) _ _ (by omega) (by omega) (nI_1 k) ?_ ?_
        · have h9 : k < 4 := by rcases Nat.lt_or_ge k 4 with z | z; exact z; exact absurd (nI_le z (by omega)) c_157
          rw [hm, wI_wI, wI_same, show min (k + 1) 4 = k + 1 by omega, show min k 4 = k by omega]; rfl
        · intro y m1 e1 e2
          have e3 : dgQ T n (q + 1) (p + k) = dgQ T n q (p + (k + 1)) + 1 := if_pos hl
          have e4 : k + 1 + dgQ T n q (p + (k + 1)) = k + (dgQ T n q (p + (k + 1)) + 1) := by omega
          exact hk y m1 (by rw [e1, e3, e4]) (by rw [e2, e3, e4])
def tk (T : Nat → Int32) (n : Nat) (r : Int32) (p : Nat) : Nat × Int32 × Int64 × Int32 :=
  if cA T n p < 0 then (0, 0, 0, 0)
  else if isLt (cA T n p) then (lrQ T n (n - p) p, if 8 < lrQ T n (n - p) p then 3 else 1, wdF T n p (min (lrQ T n (n - p) p) 8), 0)
  else if isDg (cA T n p) then (dgQ T n (n - p) p, if 4 < dgQ T n (n - p) p ∨ isLt (cA T n (p + dgQ T n (n - p) p)) then 3 else 2, 0, nmF T n p (min (dgQ T n (n - p) p) 4))
  else (1, if isSg r (cA T n p) then cA T n p else 3, 0, 0)
def tkB (μ : Mem) (p : Nat) (t : Nat × Int32 × Int64 × Int32) : Mem := wI (wI (wL (wI (wI μ 0 4 (nI p)) 0 7 (nI p)) 0 9 t.2.2.1) 0 8 t.2.2.2) 0 6 t.2.1
def tkM (μ : Mem) (p : Nat) (t : Nat × Int32 × Int64 × Int32) : Mem := if t.2.1 = 3 then tkB μ p t else wI (tkB μ p t) 0 4 (nI (p + t.1))
def sp_token (T : Nat → Int32) (n a : Nat) (μ : Mem) : Mem := tkM μ (spN T n a) (tk T n (μ.1 0 10) (spN T n a))
theorem wL_wI {μ : Mem} {i k a b : Nat} {v : Int32} {w : Int64} : wL (wI μ i k v) a b w = wI (wL μ a b w) i k v := rfl
theorem tkB_4 (μ : Mem) (p : Nat) (t : Nat × Int32 × Int64 × Int32) : (tkB μ p t).1 0 4 = nI p := by
  unfold tkB
  rw [wI_ne (Or.inr (by decide)), wI_ne (Or.inr (by decide)), wL_i, wI_ne (Or.inr (by decide)), wI_same]
theorem tkB_6 (μ : Mem) (p : Nat) (t : Nat × Int32 × Int64 × Int32) : (tkB μ p t).1 0 6 = t.2.1 := wI_same
set_option maxHeartbeats 4000000 in
set_option maxRecDepth 100000 in
theorem L_X12_token_233 {l : Launch} {G : Wd} {p : Nat} {μ m : Mem} {t : Nat × Int32 × Int64 × Int32} {x1 : Option Value} {x2 : Int32} (hm : m = tkB μ p t) (h2 : x2 = nI t.1) : AW l G KM RX12 cX12_token 3 2 none (Qv (fun μ' => μ' = tkM μ p t)) 233 [some (.ref (gA G 0)), x1, some (.int x2)] [] m := by
  subst hm h2
  refine A_aload0 dX12_token_233 ?_
  refine A_getI gf_X12_197 rfl dX12_token_234 ?_
  rw [tkB_6]
  refine A_iconst (v := 3) dX12_token_237 (by decide) ?_
  refine A_icmp_eq (tgt := 251) dX12_token_238 (by decide) (fun c_238 => ?_) (fun c_238 => ?_)
  · refine A_vret dX12_token_251 ?_
    exact ⟨rfl, (if_pos c_238).symm⟩
  · refine A_aload0 dX12_token_241 ?_
    refine A_dup dX12_token_242 rfl ?_
    refine A_getI gf_X12_173 rfl dX12_token_243 ?_
    rw [tkB_4]
    refine A_iload2 dX12_token_246 ?_
    refine A_iadd dX12_token_247 ?_
    rw [nI_add]
    refine A_putI gf_X12_173 rfl dX12_token_248 ?_
    refine A_vret dX12_token_251 ?_
    exact ⟨rfl, (if_neg c_238).symm⟩
set_option maxHeartbeats 4000000 in
set_option maxRecDepth 100000 in
theorem T_X12_token {l : Launch} {G : Wd} {T : Nat → Int32} {n a : Nat} {μ : Mem} (hx : Tx T n a μ) : Mt l G KM yX12_token cX12_token 3 none 2 [.ref (gA G 0)] μ (Qv (fun μ' => μ' = sp_token T n a μ)) := by
  refine Mt.of (own := RX12) (n := 2) (by decide) rfl [some (.ref (gA G 0)), none, none] rfl (Nat.le_of_ble_eq_true rfl) ?_
  have hn8 := hx.n8
  have ha8 := hx.a8
  refine L_X12_token_0 (n + 1) (n - a) a μ (by omega) rfl hx (fun μ1 e1 => ?_)
  obtain ⟨p, hp⟩ : ∃ p, p = spN T n a := ⟨_, rfl⟩
  have hp8 : p ≤ 800 := by have h9 := spQ_b T n (n - a) a; have h8 : p = spQ T n (n - a) a := hp; omega
  replace e1 : μ1 = wI μ 0 4 (nI p) := by rw [hp]; exact e1
  have hx1 : Tx T n p μ1 := by rw [e1]; exact hx.at hp8
  have hx2 : Tx T n p (wI μ1 0 7 (nI p)) := hx1.w (by decide)
  have hM : Tx T n p (wI (wL (wI μ1 0 7 (nI p)) 0 9 0) 0 8 0) := Tx.w (μ := wL (wI μ1 0 7 (nI p)) 0 9 0) hx2 (by decide)
  have hr : (wI (wL (wI μ1 0 7 (nI p)) 0 9 0) 0 8 0).1 0 10 = μ.1 0 10 := by rw [wI_ne (Or.inr (by decide)), wL_i, wI_ne (Or.inr (by decide)), e1, wI_ne (Or.inr (by decide))]
  unfold sp_token
  rw [← hp]
  refine A_aload0 dX12_token_33 ?_
  refine A_aload0 dX12_token_34 ?_
  refine A_getI gf_X12_173 rfl dX12_token_35 ?_
  rw [hx1.a]
  refine A_putI gf_X12_187 rfl dX12_token_38 ?_
  refine A_aload0 dX12_token_41 ?_
  refine A_iconst (v := 0) dX12_token_42 (by decide) ?_
  refine A_vi1 lk_X12_183 yv_X12_here dX12_token_43 (rfl) (rfl) (T_X12_here 0 hx2 (by rfl) (by omega)) (by decide) (Nat.le_of_ble_eq_true rfl) (fun r_43 μ_43 h_43 => ?_)
  obtain ⟨rfl, e_43⟩ := h_43
  replace e_43 := e_43.symm
  subst e_43
  refine A_istore1 dX12_token_46 rfl (by decide) ?_
  rw [Nat.add_zero]
  refine A_iconst (v := 0) dX12_token_47 (by decide) ?_
  refine A_istore2 dX12_token_48 rfl (by decide) ?_
  refine A_aload0 dX12_token_49 ?_
  refine A_lconst (v := 0) dX12_token_50 (by decide) ?_
  refine A_putL gf_X12_190 rfl dX12_token_51 ?_
  refine A_aload0 dX12_token_54 ?_
  refine A_iconst (v := 0) dX12_token_55 (by decide) ?_
  refine A_putI gf_X12_194 rfl dX12_token_56 ?_
  refine A_iload1 dX12_token_59 ?_
  refine A_if_ge (tgt := 71) dX12_token_60 (by decide) (fun c_60 => ?_) (fun c_60 => ?_)
  · have hc0 : ¬ cA T n p < 0 := Int32.not_lt.mpr c_60
    refine A_iload1 dX12_token_71 ?_
    refine A_si1 lk_X12_200 ys_X12_isLetter dX12_token_72 (T_X12_isLetter) (by decide) (Nat.le_of_ble_eq_true rfl) (fun r_72 μ_72 h_72 => ?_)
    obtain ⟨rfl, e_72⟩ := h_72
    replace e_72 := e_72.symm
    subst e_72
    refine A_if_eq (tgt := 137) dX12_token_75 (by decide) (fun c_75 => ?_) (fun c_75 => ?_)
    · have hl : ¬ isLt (cA T n p) := bz_0.mp c_75
      refine A_iload1 dX12_token_137 ?_
      refine A_si1 lk_X12_204 ys_X12_isDigit dX12_token_138 (T_X12_isDigit) (by decide) (Nat.le_of_ble_eq_true rfl) (fun r_138 μ_138 h_138 => ?_)
      obtain ⟨rfl, e_138⟩ := h_138
      replace e_138 := e_138.symm
      subst e_138
      refine A_if_eq (tgt := 214) dX12_token_141 (by decide) (fun c_141 => ?_) (fun c_141 => ?_)
      · have hd : ¬ isDg (cA T n p) := bz_0.mp c_141
        refine A_iconst (v := 1) dX12_token_214 (by decide) ?_
        refine A_istore2 dX12_token_215 rfl (by decide) ?_
        refine A_aload0 dX12_token_216 ?_
        refine A_aload0 dX12_token_217 ?_
        refine A_iload1 dX12_token_218 ?_
        refine A_vi1 lk_X12_207 yv_X12_isSign dX12_token_219 (rfl) (rfl) (T_X12_isSign) (by decide) (Nat.le_of_ble_eq_true rfl) (fun r_219 μ_219 h_219 => ?_)
        obtain ⟨rfl, e_219⟩ := h_219
        replace e_219 := e_219.symm
        subst e_219
        refine A_if_eq (tgt := 229) dX12_token_222 (by decide) (fun c_222 => ?_) (fun c_222 => ?_)
        · refine A_iconst (v := 3) dX12_token_229 (by decide) ?_
          refine A_putI gf_X12_197 rfl dX12_token_230 ?_
          rw [hr, Nat.add_zero] at c_222
          have ht : tk T n (μ.1 0 10) p = (1, 3, 0, 0) := by unfold tk; rw [if_neg hc0, if_neg hl, if_neg hd, if_neg (bz_0.mp c_222)]
          rw [ht]
          exact L_X12_token_233 (by rw [e1]; rfl) rfl
        · refine A_iload1 dX12_token_225 ?_
          refine A_goto (tgt := 230) dX12_token_226 (by decide) ?_
          refine A_putI gf_X12_197 rfl dX12_token_230 ?_
          rw [hr, Nat.add_zero] at c_222
          have ht : tk T n (μ.1 0 10) p = (1, cA T n p, 0, 0) := by unfold tk; rw [if_neg hc0, if_neg hl, if_neg hd, if_pos (Decidable.not_not.mp (fun z => c_222 (bz_f z)))]
          rw [ht]
          exact L_X12_token_233 (by rw [e1]; rfl) rfl
      · have hd : isDg (cA T n p) := by simpa [bz_0] using c_141
        have hb := dgQ_b T n (n - p) p
        refine L_X12_token_144 (p := p) (T := T) (n := n) hM (n - p) 0 _ _ rfl (by omega) rfl (wI_eta wI_same).symm (fun y m1 hy e2 => ?_)
        rw [Nat.zero_add, Nat.add_zero] at hy e2
        rw [wI_wI] at e2
        have hx3 : Tx T n p m1 := by rw [e2]; exact Tx.w (μ := wL (wI μ1 0 7 (nI p)) 0 9 0) hx2 (by decide)
        refine A_aload0 dX12_token_186 ?_
        refine A_iload2 dX12_token_187 ?_
        refine A_iconst (v := 4) dX12_token_188 (by decide) ?_
        refine A_icmp_gt (tgt := 203) dX12_token_189 (by decide) (fun c_189 => ?_) (fun c_189 => ?_)
        · refine A_iconst (v := 3) dX12_token_203 (by decide) ?_
          refine A_goto (tgt := 208) dX12_token_204 (by decide) ?_
          refine A_putI gf_X12_197 rfl dX12_token_208 ?_
          refine A_goto (tgt := 233) dX12_token_211 (by decide) ?_
          have hk4 : 4 < dgQ T n (n - p) p := by rw [hy] at c_189; exact (nI_ltI (a := 4) (by omega) (by omega)).mp c_189
          have ht : tk T n (μ.1 0 10) p = (dgQ T n (n - p) p, 3, 0, nmF T n p (min (dgQ T n (n - p) p) 4)) := by unfold tk; rw [if_neg hc0, if_neg hl, if_pos hd, if_pos (Or.inl hk4)]
          rw [ht]
          exact L_X12_token_233 (by rw [e2, e1]; rfl) hy
        · have hk4 : ¬ 4 < dgQ T n (n - p) p := fun z => by rw [hy] at c_189; exact c_189 (nI_lt (a := 4) z (by omega))
          refine A_aload0 dX12_token_192 ?_
          refine A_iload2 dX12_token_193 ?_
          refine A_vi1 lk_X12_183 yv_X12_here dX12_token_194 (rfl) (rfl) (T_X12_here (dgQ T n (n - p) p) hx3 hy (by omega)) (by decide) (Nat.le_of_ble_eq_true rfl) (fun r_194 μ_194 h_194 => ?_)
          obtain ⟨rfl, e_194⟩ := h_194
          replace e_194 := e_194.symm
          subst e_194
          refine A_si1 lk_X12_200 ys_X12_isLetter dX12_token_197 (T_X12_isLetter) (by decide) (Nat.le_of_ble_eq_true rfl) (fun r_197 μ_197 h_197 => ?_)
          obtain ⟨rfl, e_197⟩ := h_197
          replace e_197 := e_197.symm
          subst e_197
          refine A_if_eq (tgt := 207) dX12_token_200 (by decide) (fun c_200 => ?_) (fun c_200 => ?_)
          · refine A_iconst (v := 2) dX12_token_207 (by decide) ?_
            refine A_putI gf_X12_197 rfl dX12_token_208 ?_
            refine A_goto (tgt := 233) dX12_token_211 (by decide) ?_
            have hl2 : ¬ isLt (cA T n (p + dgQ T n (n - p) p)) := bz_0.mp c_200
            have ht : tk T n (μ.1 0 10) p = (dgQ T n (n - p) p, 2, 0, nmF T n p (min (dgQ T n (n - p) p) 4)) := by unfold tk; rw [if_neg hc0, if_neg hl, if_pos hd, if_neg (fun z => by rcases z with z | z; exact hk4 z; exact hl2 z)]
            rw [ht]
            exact L_X12_token_233 (by rw [e2, e1]; rfl) hy
          · refine A_iconst (v := 3) dX12_token_203 (by decide) ?_
            refine A_goto (tgt := 208) dX12_token_204 (by decide) ?_
            refine A_putI gf_X12_197 rfl dX12_token_208 ?_
            refine A_goto (tgt := 233) dX12_token_211 (by decide) ?_
            have hl2 : isLt (cA T n (p + dgQ T n (n - p) p)) := by simpa [bz_0] using c_200
            have ht : tk T n (μ.1 0 10) p = (dgQ T n (n - p) p, 3, 0, nmF T n p (min (dgQ T n (n - p) p) 4)) := by unfold tk; rw [if_neg hc0, if_neg hl, if_pos hd, if_pos (Or.inr hl2)]
            rw [ht]
            exact L_X12_token_233 (by rw [e2, e1]; rfl) hy
    · have hl : isLt (cA T n p) := by simpa [bz_0] using c_75
      have hb := lrQ_b T n (n - p) p
      refine L_X12_token_78 (p := p) (T := T) (n := n) hM (n - p) 0 _ _ rfl (by omega) rfl (wL_eta (by rw [wI_l, wL_at, if_pos ⟨rfl, rfl⟩]; rfl)).symm (fun y m1 hy e2 => ?_)
      rw [Nat.zero_add, Nat.add_zero] at hy e2
      rw [wL_wI, wL_wL] at e2
      refine A_aload0 dX12_token_119 ?_
      refine A_iload2 dX12_token_120 ?_
      refine A_bipush (v := 8) dX12_token_121 (by decide) ?_
      refine A_icmp_le (tgt := 130) dX12_token_123 (by decide) (fun c_123 => ?_) (fun c_123 => ?_)
      · have hk8 : ¬ 8 < lrQ T n (n - p) p := fun z => by rw [hy] at c_123; have h9 := (nI_leI (b := 8) (by omega) (by omega)).mp c_123; omega
        refine A_iconst (v := 1) dX12_token_130 (by decide) ?_
        refine A_putI gf_X12_197 rfl dX12_token_131 ?_
        refine A_goto (tgt := 233) dX12_token_134 (by decide) ?_
        have ht : tk T n (μ.1 0 10) p = (lrQ T n (n - p) p, 1, wdF T n p (min (lrQ T n (n - p) p) 8), 0) := by unfold tk; rw [if_neg hc0, if_pos hl, if_neg hk8]
        rw [ht]
        exact L_X12_token_233 (by rw [e2, e1]; rfl) hy
      · have hk8 : 8 < lrQ T n (n - p) p := by rcases Nat.lt_or_ge 8 (lrQ T n (n - p) p) with z | z; exact z; exact absurd (by rw [hy]; exact nI_le (b := 8) z (by decide)) c_123
        refine A_iconst (v := 3) dX12_token_126 (by decide) ?_
        refine A_goto (tgt := 131) dX12_token_127 (by decide) ?_
        refine A_putI gf_X12_197 rfl dX12_token_131 ?_
        refine A_goto (tgt := 233) dX12_token_134 (by decide) ?_
        have ht : tk T n (μ.1 0 10) p = (lrQ T n (n - p) p, 3, wdF T n p (min (lrQ T n (n - p) p) 8), 0) := by unfold tk; rw [if_neg hc0, if_pos hl, if_pos hk8]
        rw [ht]
        exact L_X12_token_233 (by rw [e2, e1]; rfl) hy
  · refine A_aload0 dX12_token_63 ?_
    refine A_iconst (v := 0) dX12_token_64 (by decide) ?_
    refine A_putI gf_X12_197 rfl dX12_token_65 ?_
    refine A_goto (tgt := 233) dX12_token_68 (by decide) ?_
    have ht : tk T n (μ.1 0 10) p = (0, 0, 0, 0) := if_pos (Int32.not_le.mp c_60)
    rw [ht]
    exact L_X12_token_233 (by rw [e1]; rfl) rfl

/-! the reference's reader of a text's signs -/
theorem w2_eta {α : Type} {f : Nat → Nat → α} {i k : Nat} {v : α} (h : f i k = v) : w2 f i k v = f := by
  funext a b
  by_cases q : a = i ∧ b = k
  · obtain ⟨rfl, rfl⟩ := q; rw [w2_same, h]
  · rw [w2_ne (by omega)]
theorem w2_w2 {α : Type} {f : Nat → Nat → α} {i k : Nat} {v w : α} : w2 (w2 f i k v) i k w = w2 f i k w := by
  funext a b
  by_cases q : a = i ∧ b = k
  · obtain ⟨rfl, rfl⟩ := q; rw [w2_same, w2_same]
  · rw [w2_ne (by omega), w2_ne (by omega), w2_ne (by omega)]
theorem wI_eta {μ : Mem} {i k : Nat} {v : Int32} (h : μ.1 i k = v) : wI μ i k v = μ := by unfold wI; rw [w2_eta h]
theorem wL_eta {μ : Mem} {i k : Nat} {v : Int64} (h : μ.2.1 i k = v) : wL μ i k v = μ := by unfold wL; rw [w2_eta h]
theorem wI_wI {μ : Mem} {i k : Nat} {v w : Int32} : wI (wI μ i k v) i k w = wI μ i k w := by unfold wI; simp only [w2_w2]
theorem wL_wL {μ : Mem} {i k : Nat} {v w : Int64} : wL (wL μ i k v) i k w = wL μ i k w := by unfold wL; simp only [w2_w2]
def cA (T : Nat → Int32) (n i : Nat) : Int32 := if i < n then T i else -1
abbrev isLt (c : Int32) : Prop := 97 ≤ c ∧ c ≤ 122
abbrev isDg (c : Int32) : Prop := 48 ≤ c ∧ c ≤ 57
abbrev isSg (r c : Int32) : Prop := c = 59 ∨ c = 45 ∨ (r ≠ 0 ∧ (c = 40 ∨ c = 41 ∨ c = 60 ∨ c = 62 ∨ c = 61 ∨ c = 43 ∨ c = 42))
def Tx (T : Nat → Int32) (n a : Nat) (μ : Mem) : Prop := μ.1 1 = T ∧ n ≤ 800 ∧ a ≤ 800 ∧ μ.1 0 5 = nI n ∧ μ.1 0 4 = nI a
theorem Tx.t {T : Nat → Int32} {n a : Nat} {μ : Mem} (h : Tx T n a μ) : μ.1 1 = T := h.1
theorem Tx.n8 {T : Nat → Int32} {n a : Nat} {μ : Mem} (h : Tx T n a μ) : n ≤ 800 := h.2.1
theorem Tx.a8 {T : Nat → Int32} {n a : Nat} {μ : Mem} (h : Tx T n a μ) : a ≤ 800 := h.2.2.1
theorem Tx.n {T : Nat → Int32} {n a : Nat} {μ : Mem} (h : Tx T n a μ) : μ.1 0 5 = nI n := h.2.2.2.1
theorem Tx.a {T : Nat → Int32} {n a : Nat} {μ : Mem} (h : Tx T n a μ) : μ.1 0 4 = nI a := h.2.2.2.2
set_option maxHeartbeats 4000000 in
set_option maxRecDepth 100000 in
theorem T_X12_here {l : Launch} {G : Wd} {T : Nat → Int32} {n a : Nat} {x : Int32} {μ : Mem} (k : Nat) (hx : Tx T n a μ) (hk : x = nI k) (h8 : k ≤ 900) : Mt l G KM yX12_here cX12_here 2 (some .int) 1 [.ref (gA G 0), .int x] μ (Qi (fun v μ' => v = cA T n (a + k) ∧ μ' = μ)) := by
  refine Mt.of (own := RX12) (n := 0) (by decide) rfl [some (.ref (gA G 0)), some (.int x)] rfl (Nat.le_of_ble_eq_true rfl) ?_
  have hn8 := hx.n8
  have ha8 := hx.a8
  refine A_aload0 dX12_here_0 ?_
  refine A_getI gf_X12_173 rfl dX12_here_1 ?_
  rw [hx.a]
  refine A_iload1 dX12_here_4 ?_
  refine A_iadd dX12_here_5 ?_
  rw [hk, nI_add]
  refine A_aload0 dX12_here_6 ?_
  refine A_getI gf_X12_176 rfl dX12_here_7 ?_
  rw [hx.n]
  refine A_icmp_ge (tgt := 27) dX12_here_10 (by decide) (fun c_10 => ?_) (fun c_10 => ?_)
  · have h1 : ¬ a + k < n := fun z => by have h9 := (nI_leI (by omega) (by omega)).mp c_10; omega
    refine A_iconst (v := -1) dX12_here_27 (by decide) ?_
    refine A_iret dX12_here_28 ?_
    refine ⟨_, rfl, ?_, rfl⟩
    unfold cA
    rw [if_neg h1]
  · have h1 : a + k < n := (nI_ltI (by omega) (by omega)).mp (by rcases Nat.lt_or_ge (a + k) n with z | z; exact nI_lt z (by omega); exact absurd (nI_le z (by omega)) c_10)
    refine A_aload0 dX12_here_13 ?_
    refine A_getR gf_X12_7 rfl dX12_here_14 ?_
    refine A_aload0 dX12_here_17 ?_
    refine A_getI gf_X12_173 rfl dX12_here_18 ?_
    rw [hx.a]
    refine A_iload1 dX12_here_21 ?_
    refine A_iadd dX12_here_22 ?_
    rw [nI_add]
    refine A_iald (rfl) (vp_in_nI (by omega) (by omega)) dX12_here_23 ?_
    rw [nI_c (by omega), hx.t]
    refine A_goto (tgt := 28) dX12_here_24 (by decide) ?_
    refine A_iret dX12_here_28 ?_
    refine ⟨_, rfl, ?_, rfl⟩
    unfold cA
    rw [if_pos h1]
set_option maxHeartbeats 4000000 in
set_option maxRecDepth 100000 in
theorem T_X12_isLetter {l : Launch} {G : Wd} {x : Int32} {μ : Mem}  : Mt l G KM yX12_isLetter cX12_isLetter 1 (some .boolean) 1 [.int x] μ (Qi (fun v μ' => v = bz (isLt x) ∧ μ' = μ)) := by
  refine Mt.of (own := RX12) (n := 0) (by decide) rfl [some (.int x)] rfl (Nat.le_of_ble_eq_true rfl) ?_
  refine A_iload0 dX12_isLetter_0 ?_
  refine A_bipush (v := 97) dX12_isLetter_1 (by decide) ?_
  refine A_icmp_lt (tgt := 16) dX12_isLetter_3 (by decide) (fun c_3 => ?_) (fun c_3 => ?_)
  · refine A_iconst (v := 0) dX12_isLetter_16 (by decide) ?_
    refine A_zret dX12_isLetter_17 (by decide) ?_
    refine ⟨_, rfl, ?_, rfl⟩
    unfold bz
    simp_all [i_lt, i_le]
    try omega
  · refine A_iload0 dX12_isLetter_6 ?_
    refine A_bipush (v := 122) dX12_isLetter_7 (by decide) ?_
    refine A_icmp_gt (tgt := 16) dX12_isLetter_9 (by decide) (fun c_9 => ?_) (fun c_9 => ?_)
    · refine A_iconst (v := 0) dX12_isLetter_16 (by decide) ?_
      refine A_zret dX12_isLetter_17 (by decide) ?_
      refine ⟨_, rfl, ?_, rfl⟩
      unfold bz
      simp_all [i_lt, i_le]
      try omega
    · refine A_iconst (v := 1) dX12_isLetter_12 (by decide) ?_
      refine A_goto (tgt := 17) dX12_isLetter_13 (by decide) ?_
      refine A_zret dX12_isLetter_17 (by decide) ?_
      refine ⟨_, rfl, ?_, rfl⟩
      unfold bz
      simp_all [i_lt, i_le]
      try omega
set_option maxHeartbeats 4000000 in
set_option maxRecDepth 100000 in
theorem T_X12_isDigit {l : Launch} {G : Wd} {x : Int32} {μ : Mem}  : Mt l G KM yX12_isDigit cX12_isDigit 1 (some .boolean) 1 [.int x] μ (Qi (fun v μ' => v = bz (isDg x) ∧ μ' = μ)) := by
  refine Mt.of (own := RX12) (n := 0) (by decide) rfl [some (.int x)] rfl (Nat.le_of_ble_eq_true rfl) ?_
  refine A_iload0 dX12_isDigit_0 ?_
  refine A_bipush (v := 48) dX12_isDigit_1 (by decide) ?_
  refine A_icmp_lt (tgt := 16) dX12_isDigit_3 (by decide) (fun c_3 => ?_) (fun c_3 => ?_)
  · refine A_iconst (v := 0) dX12_isDigit_16 (by decide) ?_
    refine A_zret dX12_isDigit_17 (by decide) ?_
    refine ⟨_, rfl, ?_, rfl⟩
    unfold bz
    simp_all [i_lt, i_le]
    try omega
  · refine A_iload0 dX12_isDigit_6 ?_
    refine A_bipush (v := 57) dX12_isDigit_7 (by decide) ?_
    refine A_icmp_gt (tgt := 16) dX12_isDigit_9 (by decide) (fun c_9 => ?_) (fun c_9 => ?_)
    · refine A_iconst (v := 0) dX12_isDigit_16 (by decide) ?_
      refine A_zret dX12_isDigit_17 (by decide) ?_
      refine ⟨_, rfl, ?_, rfl⟩
      unfold bz
      simp_all [i_lt, i_le]
      try omega
    · refine A_iconst (v := 1) dX12_isDigit_12 (by decide) ?_
      refine A_goto (tgt := 17) dX12_isDigit_13 (by decide) ?_
      refine A_zret dX12_isDigit_17 (by decide) ?_
      refine ⟨_, rfl, ?_, rfl⟩
      unfold bz
      simp_all [i_lt, i_le]
      try omega
set_option maxHeartbeats 4000000 in
set_option maxRecDepth 100000 in
theorem T_X12_isSign {l : Launch} {G : Wd} {x : Int32} {μ : Mem}  : Mt l G KM yX12_isSign cX12_isSign 2 (some .boolean) 1 [.ref (gA G 0), .int x] μ (Qi (fun v μ' => v = bz (isSg (μ.1 0 10) x) ∧ μ' = μ)) := by
  refine Mt.of (own := RX12) (n := 0) (by decide) rfl [some (.ref (gA G 0)), some (.int x)] rfl (Nat.le_of_ble_eq_true rfl) ?_
  refine A_iload1 dX12_isSign_0 ?_
  refine A_bipush (v := 59) dX12_isSign_1 (by decide) ?_
  refine A_icmp_eq (tgt := 61) dX12_isSign_3 (by decide) (fun c_3 => ?_) (fun c_3 => ?_)
  · refine A_iconst (v := 1) dX12_isSign_61 (by decide) ?_
    refine A_goto (tgt := 66) dX12_isSign_62 (by decide) ?_
    refine A_zret dX12_isSign_66 (by decide) ?_
    refine ⟨_, rfl, ?_, rfl⟩
    exact (bz_t (Or.inl c_3)).symm
  · refine A_iload1 dX12_isSign_6 ?_
    refine A_bipush (v := 45) dX12_isSign_7 (by decide) ?_
    refine A_icmp_eq (tgt := 61) dX12_isSign_9 (by decide) (fun c_9 => ?_) (fun c_9 => ?_)
    · refine A_iconst (v := 1) dX12_isSign_61 (by decide) ?_
      refine A_goto (tgt := 66) dX12_isSign_62 (by decide) ?_
      refine A_zret dX12_isSign_66 (by decide) ?_
      refine ⟨_, rfl, ?_, rfl⟩
      exact (bz_t (Or.inr (Or.inl c_9))).symm
    · refine A_aload0 dX12_isSign_12 ?_
      refine A_getI gf_X12_179 rfl dX12_isSign_13 ?_
      refine A_if_eq (tgt := 65) dX12_isSign_16 (by decide) (fun c_16 => ?_) (fun c_16 => ?_)
      · refine A_iconst (v := 0) dX12_isSign_65 (by decide) ?_
        refine A_zret dX12_isSign_66 (by decide) ?_
        refine ⟨_, rfl, ?_, rfl⟩
        exact (bz_f (fun z => by rcases z with z | z | z; exact c_3 z; exact c_9 z; exact z.1 c_16)).symm
      · refine A_iload1 dX12_isSign_19 ?_
        refine A_bipush (v := 40) dX12_isSign_20 (by decide) ?_
        refine A_icmp_eq (tgt := 61) dX12_isSign_22 (by decide) (fun c_22 => ?_) (fun c_22 => ?_)
        · refine A_iconst (v := 1) dX12_isSign_61 (by decide) ?_
          refine A_goto (tgt := 66) dX12_isSign_62 (by decide) ?_
          refine A_zret dX12_isSign_66 (by decide) ?_
          refine ⟨_, rfl, ?_, rfl⟩
          exact (bz_t (Or.inr (Or.inr ⟨c_16, Or.inl c_22⟩))).symm
        · refine A_iload1 dX12_isSign_25 ?_
          refine A_bipush (v := 41) dX12_isSign_26 (by decide) ?_
          refine A_icmp_eq (tgt := 61) dX12_isSign_28 (by decide) (fun c_28 => ?_) (fun c_28 => ?_)
          · refine A_iconst (v := 1) dX12_isSign_61 (by decide) ?_
            refine A_goto (tgt := 66) dX12_isSign_62 (by decide) ?_
            refine A_zret dX12_isSign_66 (by decide) ?_
            refine ⟨_, rfl, ?_, rfl⟩
            exact (bz_t (Or.inr (Or.inr ⟨c_16, Or.inr (Or.inl c_28)⟩))).symm
          · refine A_iload1 dX12_isSign_31 ?_
            refine A_bipush (v := 60) dX12_isSign_32 (by decide) ?_
            refine A_icmp_eq (tgt := 61) dX12_isSign_34 (by decide) (fun c_34 => ?_) (fun c_34 => ?_)
            · refine A_iconst (v := 1) dX12_isSign_61 (by decide) ?_
              refine A_goto (tgt := 66) dX12_isSign_62 (by decide) ?_
              refine A_zret dX12_isSign_66 (by decide) ?_
              refine ⟨_, rfl, ?_, rfl⟩
              exact (bz_t (Or.inr (Or.inr ⟨c_16, Or.inr (Or.inr (Or.inl c_34))⟩))).symm
            · refine A_iload1 dX12_isSign_37 ?_
              refine A_bipush (v := 62) dX12_isSign_38 (by decide) ?_
              refine A_icmp_eq (tgt := 61) dX12_isSign_40 (by decide) (fun c_40 => ?_) (fun c_40 => ?_)
              · refine A_iconst (v := 1) dX12_isSign_61 (by decide) ?_
                refine A_goto (tgt := 66) dX12_isSign_62 (by decide) ?_
                refine A_zret dX12_isSign_66 (by decide) ?_
                refine ⟨_, rfl, ?_, rfl⟩
                exact (bz_t (Or.inr (Or.inr ⟨c_16, Or.inr (Or.inr (Or.inr (Or.inl c_40)))⟩))).symm
              · refine A_iload1 dX12_isSign_43 ?_
                refine A_bipush (v := 61) dX12_isSign_44 (by decide) ?_
                refine A_icmp_eq (tgt := 61) dX12_isSign_46 (by decide) (fun c_46 => ?_) (fun c_46 => ?_)
                · refine A_iconst (v := 1) dX12_isSign_61 (by decide) ?_
                  refine A_goto (tgt := 66) dX12_isSign_62 (by decide) ?_
                  refine A_zret dX12_isSign_66 (by decide) ?_
                  refine ⟨_, rfl, ?_, rfl⟩
                  exact (bz_t (Or.inr (Or.inr ⟨c_16, Or.inr (Or.inr (Or.inr (Or.inr (Or.inl c_46))))⟩))).symm
                · refine A_iload1 dX12_isSign_49 ?_
                  refine A_bipush (v := 43) dX12_isSign_50 (by decide) ?_
                  refine A_icmp_eq (tgt := 61) dX12_isSign_52 (by decide) (fun c_52 => ?_) (fun c_52 => ?_)
                  · refine A_iconst (v := 1) dX12_isSign_61 (by decide) ?_
                    refine A_goto (tgt := 66) dX12_isSign_62 (by decide) ?_
                    refine A_zret dX12_isSign_66 (by decide) ?_
                    refine ⟨_, rfl, ?_, rfl⟩
                    exact (bz_t (Or.inr (Or.inr ⟨c_16, Or.inr (Or.inr (Or.inr (Or.inr (Or.inr (Or.inl c_52)))))⟩))).symm
                  · refine A_iload1 dX12_isSign_55 ?_
                    refine A_bipush (v := 42) dX12_isSign_56 (by decide) ?_
                    refine A_icmp_ne (tgt := 65) dX12_isSign_58 (by decide) (fun c_58 => ?_) (fun c_58 => ?_)
                    · refine A_iconst (v := 0) dX12_isSign_65 (by decide) ?_
                      refine A_zret dX12_isSign_66 (by decide) ?_
                      refine ⟨_, rfl, ?_, rfl⟩
                      exact (bz_f (fun z => by rcases z with z | z | ⟨_, z | z | z | z | z | z | z⟩; exact c_3 z; exact c_9 z; exact c_22 z; exact c_28 z; exact c_34 z; exact c_40 z; exact c_46 z; exact c_52 z; exact c_58 z)).symm
                    · refine A_iconst (v := 1) dX12_isSign_61 (by decide) ?_
                      refine A_goto (tgt := 66) dX12_isSign_62 (by decide) ?_
                      refine A_zret dX12_isSign_66 (by decide) ?_
                      refine ⟨_, rfl, ?_, rfl⟩
                      exact (bz_t (Or.inr (Or.inr ⟨c_16, Or.inr (Or.inr (Or.inr (Or.inr (Or.inr (Or.inr (c_58))))))⟩))).symm
def spQ (T : Nat → Int32) (n : Nat) : Nat → Nat → Nat
  | 0, a => a
  | q + 1, a => if cA T n a = 32 ∨ cA T n a = 10 then spQ T n q (a + 1) else a
def spN (T : Nat → Int32) (n a : Nat) : Nat := spQ T n (n - a) a
def lrQ (T : Nat → Int32) (n : Nat) : Nat → Nat → Nat
  | 0, _ => 0
  | q + 1, a => if isLt (cA T n a) then lrQ T n q (a + 1) + 1 else 0
def dgQ (T : Nat → Int32) (n : Nat) : Nat → Nat → Nat
  | 0, _ => 0
  | q + 1, a => if isDg (cA T n a) then dgQ T n q (a + 1) + 1 else 0
def wdF (T : Nat → Int32) (n p : Nat) : Nat → Int64
  | 0 => 0
  | k + 1 => wdF T n p k <<< 8 ||| (cA T n (p + k)).toInt64
def nmF (T : Nat → Int32) (n p : Nat) : Nat → Int32
  | 0 => 0
  | k + 1 => 10 * nmF T n p k + cA T n (p + k) - 48
theorem spQ_b (T : Nat → Int32) (n : Nat) : ∀ q a, spQ T n q a ≤ a + q := by
  intro q
  induction q with
  | zero => intro a; exact Nat.le_refl _
  | succ q ih => intro a; unfold spQ; split; have := ih (a + 1); omega; omega
theorem lrQ_b (T : Nat → Int32) (n : Nat) : ∀ q a, lrQ T n q a ≤ q := by
  intro q
  induction q with
  | zero => intro a; exact Nat.le_refl _
  | succ q ih => intro a; unfold lrQ; split; have := ih (a + 1); omega; omega
theorem dgQ_b (T : Nat → Int32) (n : Nat) : ∀ q a, dgQ T n q a ≤ q := by
  intro q
  induction q with
  | zero => intro a; exact Nat.le_refl _
  | succ q ih => intro a; unfold dgQ; split; have := ih (a + 1); omega; omega
theorem cA_out {T : Nat → Int32} {n i : Nat} (h : n ≤ i) : cA T n i = -1 := if_neg (by omega)
theorem Tx.at {T : Nat → Int32} {n a b : Nat} {μ : Mem} (h : Tx T n a μ) (hb : b ≤ 800) : Tx T n b (wI μ 0 4 (nI b)) := ⟨(wI_row (by decide)).trans h.t, h.n8, hb, (wI_ne (Or.inr (by decide))).trans h.n, wI_same⟩
theorem Tx.w {T : Nat → Int32} {n a k : Nat} {v : Int32} {μ : Mem} (h : Tx T n a μ) (hk : 5 < k) : Tx T n a (wI μ 0 k v) := ⟨(wI_row (by decide)).trans h.t, h.n8, h.a8, (wI_ne (Or.inr (by omega))).trans h.n, (wI_ne (Or.inr (by omega))).trans h.a⟩
set_option maxHeartbeats 4000000 in
set_option maxRecDepth 100000 in
theorem L_X12_token_0 {l : Launch} {G : Wd} {T : Nat → Int32} {n : Nat} {Q : Option Value → Mem → Prop} {x1 x2 : Option Value} : ∀ (N q a : Nat) (μ : Mem), q < N → q = n - a → Tx T n a μ → (∀ μ', μ' = wI μ 0 4 (nI (spQ T n q a)) → AW l G KM RX12 cX12_token 3 2 none Q 33 [some (.ref (gA G 0)), x1, x2] [] μ') → AW l G KM RX12 cX12_token 3 2 none Q 0 [some (.ref (gA G 0)), x1, x2] [] μ := by
  intro N
  induction N with
  | zero => intro q a μ h; omega
  | succ N ih' =>
    intro q a μ hq hqa hx hk
    have hn8 := hx.n8
    have ha8 := hx.a8
    have ih := fun (r b : Nat) (ν : Mem) (h1 : r < N) => ih' r b ν h1
    refine A_aload0 dX12_token_0 ?_
    refine A_iconst (v := 0) dX12_token_1 (by decide) ?_
    refine A_vi1 lk_X12_183 yv_X12_here dX12_token_2 (rfl) (rfl) (T_X12_here 0 hx (by rfl) (by omega)) (by decide) (Nat.le_of_ble_eq_true rfl) (fun r_2 μ_2 h_2 => ?_)
    obtain ⟨rfl, e_2⟩ := h_2
    replace e_2 := e_2.symm
    subst e_2
    refine A_bipush (v := 32) dX12_token_5 (by decide) ?_
    refine A_icmp_eq (tgt := 20) dX12_token_7 (by decide) (fun c_7 => ?_) (fun c_7 => ?_)
    · refine A_aload0 dX12_token_20 ?_
      refine A_dup dX12_token_21 rfl ?_
      refine A_getI gf_X12_173 rfl dX12_token_22 ?_
      rw [hx.a]
      refine A_iconst (v := 1) dX12_token_25 (by decide) ?_
      refine A_iadd dX12_token_26 ?_
      rw [nI_1]
      refine A_putI gf_X12_173 rfl dX12_token_27 ?_
      refine A_goto (tgt := 0) dX12_token_30 (by decide) ?_
      have hsp : cA T n a = 32 ∨ cA T n a = 10 := Or.inl c_7
      cases q with
      | zero => exact absurd hsp (by rw [cA_out (by omega)]; decide)
      | succ q =>
        refine ih q (a + 1) _ (by omega) (by omega) (hx.at (by omega)) (fun μ1 e1 => hk μ1 (e1.trans ?_))
        rw [wI_wI, spQ, if_pos hsp]
    · refine A_aload0 dX12_token_10 ?_
      refine A_iconst (v := 0) dX12_token_11 (by decide) ?_
      refine A_vi1 lk_X12_183 yv_X12_here dX12_token_12 (rfl) (rfl) (T_X12_here 0 hx (by rfl) (by omega)) (by decide) (Nat.le_of_ble_eq_true rfl) (fun r_12 μ_12 h_12 => ?_)
      obtain ⟨rfl, e_12⟩ := h_12
      replace e_12 := e_12.symm
      subst e_12
      refine A_bipush (v := 10) dX12_token_15 (by decide) ?_
      refine A_icmp_ne (tgt := 33) dX12_token_17 (by decide) (fun c_17 => ?_) (fun c_17 => ?_)
      · refine hk _ ?_
        have hno : ¬ (cA T n a = 32 ∨ cA T n a = 10) := fun z => by rcases z with z | z; exact c_7 z; exact c_17 z
        have e : spQ T n q a = a := by cases q with | zero => rfl | succ q => exact if_neg hno
        rw [e, wI_eta hx.a]
      · refine A_aload0 dX12_token_20 ?_
        refine A_dup dX12_token_21 rfl ?_
        refine A_getI gf_X12_173 rfl dX12_token_22 ?_
        rw [hx.a]
        refine A_iconst (v := 1) dX12_token_25 (by decide) ?_
        refine A_iadd dX12_token_26 ?_
        rw [nI_1]
        refine A_putI gf_X12_173 rfl dX12_token_27 ?_
        refine A_goto (tgt := 0) dX12_token_30 (by decide) ?_
        have hsp : cA T n a = 32 ∨ cA T n a = 10 := Or.inr c_17
        cases q with
        | zero => exact absurd hsp (by rw [cA_out (by omega)]; decide)
        | succ q =>
          refine ih q (a + 1) _ (by omega) (by omega) (hx.at (by omega)) (fun μ1 e1 => hk μ1 (e1.trans ?_))
          rw [wI_wI, spQ, if_pos hsp]

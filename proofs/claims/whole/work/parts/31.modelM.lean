/-! rules at work -/
def wkd (w x y : Int32) : Int32 := if w = 20 then bz (¬ x = 0 ∨ ¬ y = 0) else if w = 21 then bz (¬ x = 0 ∧ ¬ y = 0) else if w = 22 then x * y else if w = 23 then bz (x = y) else if w = 24 then bz (x < y) else if w = 25 then bz (y < x) else if w = 26 then x + y else if w = 27 then x - y else x * y
theorem u20 : (20 : Int32).toInt = 20 := by decide
set_option maxHeartbeats 4000000 in
set_option maxRecDepth 100000 in
theorem T_X12_worked {l : Launch} {G : Wd} {w x y : Int32} {μ : Mem}  : Mt l G KM yX12_worked cX12_worked 3 (some .int) 1 [.int w, .int x, .int y] μ (Qi (fun v μ' => v = wkd w x y ∧ μ' = μ)) := by
  refine Mt.of (own := RX12) (n := 0) (by decide) rfl [some (.int w), some (.int x), some (.int y)] rfl (Nat.le_of_ble_eq_true rfl) ?_
  refine A_iload0 dX12_worked_0 ?_
  by_cases s_1_20 : w = 20
  · rw [s_1_20]
    refine A_tableIn (tgt := 48) dX12_worked_1 (by decide) (by decide) rfl (by decide) ?_
    refine A_iload1 dX12_worked_48 ?_
    refine A_if_ne (tgt := 56) dX12_worked_49 (by decide) (fun c_49 => ?_) (fun c_49 => ?_)
    · refine A_iconst (v := 1) dX12_worked_56 (by decide) ?_
      refine A_goto (tgt := 61) dX12_worked_57 (by decide) ?_
      refine A_iret dX12_worked_61 ?_
      refine ⟨_, rfl, ?_, rfl⟩
      unfold wkd
      subst w
      simp_all [bz, i_lt, i_le]
      try (intros; omega)
    · refine A_iload2 dX12_worked_52 ?_
      refine A_if_eq (tgt := 60) dX12_worked_53 (by decide) (fun c_53 => ?_) (fun c_53 => ?_)
      · refine A_iconst (v := 0) dX12_worked_60 (by decide) ?_
        refine A_iret dX12_worked_61 ?_
        refine ⟨_, rfl, ?_, rfl⟩
        unfold wkd
        subst w
        simp_all [bz, i_lt, i_le]
        try (intros; omega)
      · refine A_iconst (v := 1) dX12_worked_56 (by decide) ?_
        refine A_goto (tgt := 61) dX12_worked_57 (by decide) ?_
        refine A_iret dX12_worked_61 ?_
        refine ⟨_, rfl, ?_, rfl⟩
        unfold wkd
        subst w
        simp_all [bz, i_lt, i_le]
        try (intros; omega)
  by_cases s_1_21 : w = 21
  · rw [s_1_21]
    refine A_tableIn (tgt := 62) dX12_worked_1 (by decide) (by decide) rfl (by decide) ?_
    refine A_iload1 dX12_worked_62 ?_
    refine A_if_eq (tgt := 74) dX12_worked_63 (by decide) (fun c_63 => ?_) (fun c_63 => ?_)
    · refine A_iconst (v := 0) dX12_worked_74 (by decide) ?_
      refine A_iret dX12_worked_75 ?_
      refine ⟨_, rfl, ?_, rfl⟩
      unfold wkd
      subst w
      simp_all [bz, i_lt, i_le]
      try (intros; omega)
    · refine A_iload2 dX12_worked_66 ?_
      refine A_if_eq (tgt := 74) dX12_worked_67 (by decide) (fun c_67 => ?_) (fun c_67 => ?_)
      · refine A_iconst (v := 0) dX12_worked_74 (by decide) ?_
        refine A_iret dX12_worked_75 ?_
        refine ⟨_, rfl, ?_, rfl⟩
        unfold wkd
        subst w
        simp_all [bz, i_lt, i_le]
        try (intros; omega)
      · refine A_iconst (v := 1) dX12_worked_70 (by decide) ?_
        refine A_goto (tgt := 75) dX12_worked_71 (by decide) ?_
        refine A_iret dX12_worked_75 ?_
        refine ⟨_, rfl, ?_, rfl⟩
        unfold wkd
        subst w
        simp_all [bz, i_lt, i_le]
        try (intros; omega)
  by_cases s_1_22 : w = 22
  · rw [s_1_22]
    refine A_tableIn (tgt := 117) dX12_worked_1 (by decide) (by decide) rfl (by decide) ?_
    refine A_iload1 dX12_worked_117 ?_
    refine A_iload2 dX12_worked_118 ?_
    refine A_imul dX12_worked_119 ?_
    refine A_iret dX12_worked_120 ?_
    refine ⟨_, rfl, ?_, rfl⟩
    unfold wkd
    subst w
    simp_all [bz, i_lt, i_le]
    try (intros; omega)
  by_cases s_1_23 : w = 23
  · rw [s_1_23]
    refine A_tableIn (tgt := 76) dX12_worked_1 (by decide) (by decide) rfl (by decide) ?_
    refine A_iload1 dX12_worked_76 ?_
    refine A_iload2 dX12_worked_77 ?_
    refine A_icmp_ne (tgt := 85) dX12_worked_78 (by decide) (fun c_78 => ?_) (fun c_78 => ?_)
    · refine A_iconst (v := 0) dX12_worked_85 (by decide) ?_
      refine A_iret dX12_worked_86 ?_
      refine ⟨_, rfl, ?_, rfl⟩
      unfold wkd
      subst w
      simp_all [bz, i_lt, i_le]
      try (intros; omega)
    · refine A_iconst (v := 1) dX12_worked_81 (by decide) ?_
      refine A_goto (tgt := 86) dX12_worked_82 (by decide) ?_
      refine A_iret dX12_worked_86 ?_
      refine ⟨_, rfl, ?_, rfl⟩
      unfold wkd
      subst w
      simp_all [bz, i_lt, i_le]
      try (intros; omega)
  by_cases s_1_24 : w = 24
  · rw [s_1_24]
    refine A_tableIn (tgt := 87) dX12_worked_1 (by decide) (by decide) rfl (by decide) ?_
    refine A_iload1 dX12_worked_87 ?_
    refine A_iload2 dX12_worked_88 ?_
    refine A_icmp_ge (tgt := 96) dX12_worked_89 (by decide) (fun c_89 => ?_) (fun c_89 => ?_)
    · refine A_iconst (v := 0) dX12_worked_96 (by decide) ?_
      refine A_iret dX12_worked_97 ?_
      refine ⟨_, rfl, ?_, rfl⟩
      unfold wkd
      subst w
      simp_all [bz, i_lt, i_le]
      try (intros; omega)
    · refine A_iconst (v := 1) dX12_worked_92 (by decide) ?_
      refine A_goto (tgt := 97) dX12_worked_93 (by decide) ?_
      refine A_iret dX12_worked_97 ?_
      refine ⟨_, rfl, ?_, rfl⟩
      unfold wkd
      subst w
      simp_all [bz, i_lt, i_le]
      try (intros; omega)
  by_cases s_1_25 : w = 25
  · rw [s_1_25]
    refine A_tableIn (tgt := 98) dX12_worked_1 (by decide) (by decide) rfl (by decide) ?_
    refine A_iload1 dX12_worked_98 ?_
    refine A_iload2 dX12_worked_99 ?_
    refine A_icmp_le (tgt := 107) dX12_worked_100 (by decide) (fun c_100 => ?_) (fun c_100 => ?_)
    · refine A_iconst (v := 0) dX12_worked_107 (by decide) ?_
      refine A_iret dX12_worked_108 ?_
      refine ⟨_, rfl, ?_, rfl⟩
      unfold wkd
      subst w
      simp_all [bz, i_lt, i_le]
      try (intros; omega)
    · refine A_iconst (v := 1) dX12_worked_103 (by decide) ?_
      refine A_goto (tgt := 108) dX12_worked_104 (by decide) ?_
      refine A_iret dX12_worked_108 ?_
      refine ⟨_, rfl, ?_, rfl⟩
      unfold wkd
      subst w
      simp_all [bz, i_lt, i_le]
      try (intros; omega)
  by_cases s_1_26 : w = 26
  · rw [s_1_26]
    refine A_tableIn (tgt := 109) dX12_worked_1 (by decide) (by decide) rfl (by decide) ?_
    refine A_iload1 dX12_worked_109 ?_
    refine A_iload2 dX12_worked_110 ?_
    refine A_iadd dX12_worked_111 ?_
    refine A_iret dX12_worked_112 ?_
    refine ⟨_, rfl, ?_, rfl⟩
    unfold wkd
    subst w
    simp_all [bz, i_lt, i_le]
    try (intros; omega)
  by_cases s_1_27 : w = 27
  · rw [s_1_27]
    refine A_tableIn (tgt := 113) dX12_worked_1 (by decide) (by decide) rfl (by decide) ?_
    refine A_iload1 dX12_worked_113 ?_
    refine A_iload2 dX12_worked_114 ?_
    refine A_isub dX12_worked_115 ?_
    refine A_iret dX12_worked_116 ?_
    refine ⟨_, rfl, ?_, rfl⟩
    unfold wkd
    subst w
    simp_all [bz, i_lt, i_le]
    try (intros; omega)
  refine A_tableOut (tgt := 117) dX12_worked_1 (i_out (lo := 20) (hi := 27) (fun j h1 h2 q => ?_)) (by decide) ?_
  · have h3 : j = 20 ∨ j = 21 ∨ j = 22 ∨ j = 23 ∨ j = 24 ∨ j = 25 ∨ j = 26 ∨ j = 27 := by omega
    rcases h3 with rfl | rfl | rfl | rfl | rfl | rfl | rfl | rfl
    · exact s_1_20 (by rw [i_eq, q]; decide)
    · exact s_1_21 (by rw [i_eq, q]; decide)
    · exact s_1_22 (by rw [i_eq, q]; decide)
    · exact s_1_23 (by rw [i_eq, q]; decide)
    · exact s_1_24 (by rw [i_eq, q]; decide)
    · exact s_1_25 (by rw [i_eq, q]; decide)
    · exact s_1_26 (by rw [i_eq, q]; decide)
    · exact s_1_27 (by rw [i_eq, q]; decide)
  refine A_iload1 dX12_worked_117 ?_
  refine A_iload2 dX12_worked_118 ?_
  refine A_imul dX12_worked_119 ?_
  refine A_iret dX12_worked_120 ?_
  refine ⟨_, rfl, ?_, rfl⟩
  unfold wkd
  rw [if_neg s_1_20, if_neg s_1_21, if_neg s_1_22, if_neg s_1_23, if_neg s_1_24, if_neg s_1_25, if_neg s_1_26, if_neg s_1_27]
/-- what a unit stands for -/
def cdv (σ : Mem) (k : Int32) (d : Nat) (w n : Int32) : Int32 := if w = 0 then n else if w = 3 then nI d else if w = 2 then (if d = 0 then -100000 else rdN σ k n.toNatClampNeg (d - 1)) else rdN σ k n.toNatClampNeg d
abbrev Stk : Type := (Nat → Int32) × Nat
def stS (σ : Mem) (k : Int32) (d p : Nat) (S : Stk) : Option Stk :=
  if σ.1 43 p < 20 then (if cdv σ k d (σ.1 43 p) (σ.1 44 p) = -100000 then none else some (upd S.1 S.2 (cdv σ k d (σ.1 43 p) (σ.1 44 p)), S.2 + 1))
  else if σ.1 43 p = 22 then some (upd S.1 (S.2 - 1) (if S.1 (S.2 - 1) = 0 then 1 else 0), S.2)
  else some (upd S.1 (S.2 - 2) (wkd (σ.1 43 p) (S.1 (S.2 - 2)) (S.1 (S.2 - 1))), S.2 - 1)
def runS (σ : Mem) (k : Int32) (d b : Nat) : Nat → Option Stk
  | 0 => some (fun _ => 0, 0)
  | m + 1 => match runS σ k d b m with
    | none => none
    | some S => stS σ k d (b + m) S
def dpS (σ : Mem) (b : Nat) : Nat → Nat
  | 0 => 0
  | m + 1 => if σ.1 43 (b + m) < 20 then dpS σ b m + 1 else if σ.1 43 (b + m) = 22 then dpS σ b m else dpS σ b m - 1
theorem runS_d {σ : Mem} {k : Int32} {d b : Nat} : ∀ m S, runS σ k d b m = some S → S.2 = dpS σ b m := by
  intro m
  induction m with
  | zero => intro S h; cases h; rfl
  | succ m ih =>
    intro S h
    unfold runS at h
    unfold dpS
    cases hr : runS σ k d b m with
    | none => rw [hr] at h; cases h
    | some T =>
      rw [hr] at h
      have h1 := ih T hr
      simp only at h
      unfold stS at h
      split at h
      · rename_i c
        rw [if_pos c]
        split at h
        · cases h
        · cases h; show T.2 + 1 = _; rw [h1]
      · rename_i c
        rw [if_neg c]
        split at h
        · rename_i c2; rw [if_pos c2]; cases h; exact h1
        · rename_i c2; rw [if_neg c2]; cases h; show T.2 - 1 = _; rw [h1]
/-- a note as it can be, at a depth -/
def okNt (σ : Mem) (b m : Nat) : Prop := (σ.1 43 (b + m) < 20 → (σ.1 43 (b + m) = 0 ∨ σ.1 43 (b + m) = 1 ∨ σ.1 43 (b + m) = 2 ∨ σ.1 43 (b + m) = 3) ∧ ((σ.1 43 (b + m) = 1 ∨ σ.1 43 (b + m) = 2) → ∃ x : Nat, x < 5 ∧ σ.1 44 (b + m) = nI x) ∧ dpS σ b m < 60) ∧ (¬ σ.1 43 (b + m) < 20 → (σ.1 43 (b + m) = 22 → 1 ≤ dpS σ b m) ∧ (¬ σ.1 43 (b + m) = 22 → 2 ≤ dpS σ b m)) ∧ dpS σ b m ≤ 60
def bgN (σ : Mem) (r : Nat) : Nat := (σ.1 45 r).toNatClampNeg
def rlN (σ : Mem) : Nat := (σ.1 0 72).toNatClampNeg
def okRl (σ : Mem) (r : Nat) : Prop := σ.1 45 r = nI (bgN σ r) ∧ σ.1 45 (r + 1) = nI (bgN σ (r + 1)) ∧ bgN σ r ≤ bgN σ (r + 1) ∧ bgN σ (r + 1) ≤ 500 ∧ (∀ m, bgN σ r + m < bgN σ (r + 1) → okNt σ (bgN σ r) m) ∧ (σ.1 49 r = 0 ∨ σ.1 49 r = 1) ∧ 1 ≤ dpS σ (bgN σ r) (bgN σ (r + 1) - bgN σ r)
def WFr (σ : Mem) : Prop := rlN σ ≤ 6 ∧ σ.1 0 72 = nI (rlN σ) ∧ ∀ r, r < rlN σ → okRl σ r
def hldS (σ : Mem) (k : Int32) (r d : Nat) : Bool := match runS σ k d (bgN σ r) (bgN σ (r + 1) - bgN σ r) with
  | none => false
  | some S => !decide (S.1 0 = 0)
theorem runS_none {σ : Mem} {k : Int32} {d b : Nat} {m : Nat} (h : runS σ k d b m = none) : ∀ n, runS σ k d b (m + n) = none := by
  intro n
  induction n with
  | zero => exact h
  | succ n ih => rw [← Nat.add_assoc, runS, ih]
def pl (g : Nat → Int32) (n : Nat) (μ : Mem) : Prop := ∀ j, j < n → μ.1 47 j = g j
theorem pl_push {g : Nat → Int32} {n : Nat} {μ : Mem} {v : Int32} (h : pl g n μ) : pl (upd g n v) (n + 1) (wI μ 47 n v) := by
  intro j hj
  by_cases e : j = n
  · subst e; rw [wI_same, pk_us]
  · rw [wI_ne (Or.inr e), pk_un e]; exact h j (by omega)
theorem pl_set {g : Nat → Int32} {n i : Nat} {μ : Mem} {v : Int32} (h : pl g n μ) : pl (upd g i v) n (wI μ 47 i v) := by
  intro j hj
  by_cases e : j = i
  · subst e; rw [wI_same, pk_us]
  · rw [wI_ne (Or.inr e), pk_un e]; exact h j hj
set_option maxHeartbeats 800000 in
set_option maxRecDepth 100000 in
theorem L_X12_holds {l : Launch} {G : Wd} {k : Int32} {F σ : Mem} {r d : Nat} {Q : Option Value → Mem → Prop} (hr6 : r < 6) (hrl : okRl σ r) (hd : d < 60) (hkn : ∀ μ : Mem, hldS σ k r d = false → Lay F σ k μ → Q (some (.int 0)) μ) (hk : ∀ (μ : Mem) (g : Nat → Int32) (n : Nat) (x3 x4 : Int32) (x5 x6 : Option Value), runS σ k d (bgN σ r) (bgN σ (r + 1) - bgN σ r) = some (g, n) → 1 ≤ n → pl g n μ → Lay F σ k μ → AW l G KM RX12 cX12_holds 7 2 (some .boolean) Q 225 [some (.ref (gA G 0)), some (.int (nI r)), some (.int (nI d)), some (.int x3), some (.int x4), x5, x6] [] μ) : ∀ (q m : Nat) (g : Nat → Int32) (n : Nat) (x3 x4 : Int32) (x5 x6 : Option Value) (μ : Mem), bgN σ r + m + q = bgN σ (r + 1) + 1 → bgN σ r + m ≤ bgN σ (r + 1) → runS σ k d (bgN σ r) m = some (g, n) → x3 = nI n → x4 = nI (bgN σ r + m) → pl g n μ → Lay F σ k μ → AW l G KM RX12 cX12_holds 7 2 (some .boolean) Q 10 [some (.ref (gA G 0)), some (.int (nI r)), some (.int (nI d)), some (.int x3), some (.int x4), x5, x6] [] μ := by
  have hbe := hrl.2.2.2.1
  intro q
  induction q with
  | zero => intro m g n x3 x4 x5 x6 μ h1 h2; omega
  | succ q ih =>
    intro m g n x3 x4 x5 x6 μ h1 h2 hS hx3 hx4 hpl hL
    subst hx3
    subst hx4
    refine A_iload4 dX12_holds_10 ?_
    refine A_aload0 dX12_holds_12 ?_
    refine A_getR gf_X12_148 rfl dX12_holds_13 ?_
    refine A_iload1 dX12_holds_16 ?_
    refine A_iconst (v := 1) dX12_holds_17 (by decide) ?_
    refine A_iadd dX12_holds_18 ?_
    rw [nI_1]
    refine A_iald (rfl) (vp_in_nI (by omega) (by omega)) dX12_holds_19 ?_
    rw [nI_c (by omega), hL.1.1 45 _ rfl, hrl.2.1]
    refine A_icmp_ge (tgt := 225) dX12_holds_20 (by decide) (fun c_20 => ?_) (fun c_20 => ?_)
    · have e : m = bgN σ (r + 1) - bgN σ r := by have h9 := (nI_leI (a := bgN σ (r + 1)) (b := bgN σ r + m) (by omega) (by omega)).mp c_20; omega
      have hdp : n = dpS σ (bgN σ r) m := runS_d m _ hS
      rw [e] at hS hdp
      exact hk _ g n _ _ _ _ hS (by rw [hdp]; exact hrl.2.2.2.2.2.2) hpl hL
    · have hm : bgN σ r + m < bgN σ (r + 1) := by rcases Nat.lt_or_ge (bgN σ r + m) (bgN σ (r + 1)) with z | z; exact z; exact absurd (nI_le z (by omega)) c_20
      have hnt := hrl.2.2.2.2.1 m hm
      have hdp : n = dpS σ (bgN σ r) m := runS_d m _ hS
      have hn60 : n ≤ 60 := by rw [hdp]; exact hnt.2.2
      refine A_aload0 dX12_holds_23 ?_
      refine A_getR gf_X12_142 rfl dX12_holds_24 ?_
      refine A_iload4 dX12_holds_27 ?_
      refine A_iald (rfl) (vp_in_nI (by omega) (by omega)) dX12_holds_29 ?_
      rw [nI_c (by omega), hL.1.1 43 _ rfl]
      refine A_bipush (v := 20) dX12_holds_30 (by decide) ?_
      refine A_icmp_ge (tgt := 145) dX12_holds_32 (by decide) (fun c_32 => ?_) (fun c_32 => ?_)
      · have hge : ¬ σ.1 43 (bgN σ r + m) < 20 := fun z => by have h8 := i_lt.mp z; have h9 := i_le.mp c_32; omega
        refine A_aload0 dX12_holds_145 ?_
        refine A_getR gf_X12_142 rfl dX12_holds_146 ?_
        refine A_iload4 dX12_holds_149 ?_
        refine A_iald (rfl) (vp_in_nI (by omega) (by omega)) dX12_holds_151 ?_
        rw [nI_c (by omega), hL.1.1 43 _ rfl]
        refine A_bipush (v := 22) dX12_holds_152 (by decide) ?_
        refine A_icmp_ne (tgt := 184) dX12_holds_154 (by decide) (fun c_154 => ?_) (fun c_154 => ?_)
        · have hn2 : 2 ≤ n := by rw [hdp]; exact (hnt.2.1 hge).2 c_154
          obtain ⟨p, rfl⟩ : ∃ p, n = p + 2 := ⟨n - 2, by omega⟩
          refine A_iinc3 dX12_holds_184 (nI_m1 (p + 1)) rfl (by decide) ?_
          refine A_aload0 dX12_holds_187 ?_
          refine A_getR gf_X12_154 rfl dX12_holds_188 ?_
          refine A_iload3 dX12_holds_191 ?_
          refine A_iconst (v := 1) dX12_holds_192 (by decide) ?_
          refine A_isub dX12_holds_193 ?_
          rw [show nI (p + 1) - 1 = nI p from nI_pred p]
          refine A_aload0 dX12_holds_194 ?_
          refine A_getR gf_X12_142 rfl dX12_holds_195 ?_
          refine A_iload4 dX12_holds_198 ?_
          refine A_iald (rfl) (vp_in_nI (by omega) (by omega)) dX12_holds_200 ?_
          rw [nI_c (by omega), hL.1.1 43 _ rfl]
          refine A_aload0 dX12_holds_201 ?_
          refine A_getR gf_X12_154 rfl dX12_holds_202 ?_
          refine A_iload3 dX12_holds_205 ?_
          refine A_iconst (v := 1) dX12_holds_206 (by decide) ?_
          refine A_isub dX12_holds_207 ?_
          rw [show nI (p + 1) - 1 = nI p from nI_pred p]
          refine A_iald (rfl) (vp_in_nI (by omega) (by omega)) dX12_holds_208 ?_
          rw [nI_c (by omega), hpl _ (by omega)]
          refine A_aload0 dX12_holds_209 ?_
          refine A_getR gf_X12_154 rfl dX12_holds_210 ?_
          refine A_iload3 dX12_holds_213 ?_
          refine A_iald (rfl) (vp_in_nI (by omega) (by omega)) dX12_holds_214 ?_
          rw [nI_c (by omega), hpl _ (by omega)]
          refine A_si3 lk_X12_470 ys_X12_worked dX12_holds_215 (T_X12_worked) (by decide) (Nat.le_of_ble_eq_true rfl) (fun r_215 μ_215 h_215 => ?_)
          obtain ⟨rfl, e_215⟩ := h_215
          replace e_215 := e_215.symm
          subst e_215
          refine A_iast (rfl) (vp_in_nI (by omega) (by omega)) dX12_holds_218 ?_
          rw [nI_c (by omega)]
          refine A_iinc4 dX12_holds_219 rfl rfl (by decide) ?_
          refine A_goto (tgt := 10) dX12_holds_222 (by decide) ?_
          refine ih (m + 1) (upd g p (wkd (σ.1 43 (bgN σ r + m)) (g p) (g (p + 1)))) (p + 1) _ _ _ _ _ (by omega) (by omega) ?_ rfl ((nI_1 (bgN σ r + m)).trans (by rw [Nat.add_assoc])) ?_ (Lay.w hL rfl ⟨by decide, by decide, by decide, rfl⟩)
          · rw [runS, hS]; show stS σ k d (bgN σ r + m) (g, p + 2) = _; unfold stS; rw [if_neg hge, if_neg c_154]; rfl
          · exact pl_set (fun j hj => hpl j (by omega))
        · have hn1 : 1 ≤ n := by rw [hdp]; exact (hnt.2.1 hge).1 c_154
          refine A_aload0 dX12_holds_157 ?_
          refine A_getR gf_X12_154 rfl dX12_holds_158 ?_
          refine A_iload3 dX12_holds_161 ?_
          refine A_iconst (v := 1) dX12_holds_162 (by decide) ?_
          refine A_isub dX12_holds_163 ?_
          rw [show (1 : Int32) = nI 1 from rfl, pk_sub hn1]
          refine A_aload0 dX12_holds_164 ?_
          refine A_getR gf_X12_154 rfl dX12_holds_165 ?_
          refine A_iload3 dX12_holds_168 ?_
          refine A_iconst (v := 1) dX12_holds_169 (by decide) ?_
          refine A_isub dX12_holds_170 ?_
          rw [show (1 : Int32) = nI 1 from rfl, pk_sub hn1]
          refine A_iald (rfl) (vp_in_nI (by omega) (by omega)) dX12_holds_171 ?_
          rw [nI_c (by omega), hpl _ (by omega)]
          refine A_if_ne (tgt := 179) dX12_holds_172 (by decide) (fun c_172 => ?_) (fun c_172 => ?_)
          · refine A_iconst (v := 0) dX12_holds_179 (by decide) ?_
            refine A_iast (rfl) (vp_in_nI (by omega) (by omega)) dX12_holds_180 ?_
            rw [nI_c (by omega)]
            refine A_goto (tgt := 219) dX12_holds_181 (by decide) ?_
            refine A_iinc4 dX12_holds_219 rfl rfl (by decide) ?_
            refine A_goto (tgt := 10) dX12_holds_222 (by decide) ?_
            refine ih (m + 1) (upd g (n - 1) (if g (n - 1) = 0 then 1 else 0)) n _ _ _ _ _ (by omega) (by omega) ?_ rfl ((nI_1 (bgN σ r + m)).trans (by rw [Nat.add_assoc])) ?_ (Lay.w hL rfl ⟨by decide, by decide, by decide, rfl⟩)
            · rw [runS, hS]; show stS σ k d (bgN σ r + m) (g, n) = _; unfold stS; rw [if_neg hge, if_pos c_154]
            · rw [if_neg c_172]; exact pl_set hpl
          · refine A_iconst (v := 1) dX12_holds_175 (by decide) ?_
            refine A_goto (tgt := 180) dX12_holds_176 (by decide) ?_
            refine A_iast (rfl) (vp_in_nI (by omega) (by omega)) dX12_holds_180 ?_
            rw [nI_c (by omega)]
            refine A_goto (tgt := 219) dX12_holds_181 (by decide) ?_
            refine A_iinc4 dX12_holds_219 rfl rfl (by decide) ?_
            refine A_goto (tgt := 10) dX12_holds_222 (by decide) ?_
            refine ih (m + 1) (upd g (n - 1) (if g (n - 1) = 0 then 1 else 0)) n _ _ _ _ _ (by omega) (by omega) ?_ rfl ((nI_1 (bgN σ r + m)).trans (by rw [Nat.add_assoc])) ?_ (Lay.w hL rfl ⟨by decide, by decide, by decide, rfl⟩)
            · rw [runS, hS]; show stS σ k d (bgN σ r + m) (g, n) = _; unfold stS; rw [if_neg hge, if_pos c_154]
            · rw [if_pos c_172]; exact pl_set hpl
      · refine A_aload0 dX12_holds_35 ?_
        refine A_getR gf_X12_142 rfl dX12_holds_36 ?_
        refine A_iload4 dX12_holds_39 ?_
        refine A_iald (rfl) (vp_in_nI (by omega) (by omega)) dX12_holds_41 ?_
        rw [nI_c (by omega), hL.1.1 43 _ rfl]
        refine A_iconst (v := 2) dX12_holds_42 (by decide) ?_
        refine A_icmp_ne (tgt := 52) dX12_holds_43 (by decide) (fun c_43 => ?_) (fun c_43 => ?_)
        · refine A_iload2 dX12_holds_52 ?_
          refine A_istore5 dX12_holds_53 rfl (by decide) ?_
          refine A_aload0 dX12_holds_55 ?_
          refine A_getR gf_X12_142 rfl dX12_holds_56 ?_
          refine A_iload4 dX12_holds_59 ?_
          refine A_iald (rfl) (vp_in_nI (by omega) (by omega)) dX12_holds_61 ?_
          rw [nI_c (by omega), hL.1.1 43 _ rfl]
          refine A_if_ne (tgt := 75) dX12_holds_62 (by decide) (fun c_62 => ?_) (fun c_62 => ?_)
          · refine A_aload0 dX12_holds_75 ?_
            refine A_getR gf_X12_142 rfl dX12_holds_76 ?_
            refine A_iload4 dX12_holds_79 ?_
            refine A_iald (rfl) (vp_in_nI (by omega) (by omega)) dX12_holds_81 ?_
            rw [nI_c (by omega), hL.1.1 43 _ rfl]
            refine A_iconst (v := 3) dX12_holds_82 (by decide) ?_
            refine A_icmp_ne (tgt := 90) dX12_holds_83 (by decide) (fun c_83 => ?_) (fun c_83 => ?_)
            · refine A_iload5 dX12_holds_90 ?_
              refine A_if_ge (tgt := 101) dX12_holds_92 (by decide) (fun c_92 => ?_) (fun c_92 => absurd c_92 (fun z => z (nI_pos' (by omega))))
              obtain ⟨x, hx5, ex⟩ := (hnt.1 (i_nle c_32)).2.1 (by rcases (hnt.1 (i_nle c_32)).1 with z | z | z | z; exact absurd z c_62; exact Or.inl z; exact Or.inr z; exact absurd z c_83)
              refine A_aload0 dX12_holds_101 ?_
              refine A_getR gf_X12_103 rfl dX12_holds_102 ?_
              refine A_bipush (v := 60) dX12_holds_105 (by decide) ?_
              refine A_aload0 dX12_holds_107 ?_
              refine A_getR gf_X12_145 rfl dX12_holds_108 ?_
              refine A_iload4 dX12_holds_111 ?_
              refine A_iald (rfl) (vp_in_nI (by omega) (by omega)) dX12_holds_113 ?_
              rw [nI_c (by omega), hL.1.1 44 _ rfl]
              rw [ex]
              refine A_imul dX12_holds_114 ?_
              refine A_iload5 dX12_holds_115 ?_
              refine A_iadd dX12_holds_117 ?_
              rw [nI_60]
              refine A_iald (rfl) (vp_in_nI (by omega) (by omega)) dX12_holds_118 ?_
              rw [nI_c (by omega), hL.2.2.1 _ (by omega)]
              refine A_val (y := cdv σ k d (σ.1 43 (bgN σ r + m)) (σ.1 44 (bgN σ r + m))) (by unfold cdv; rw [if_neg c_62, if_neg c_83, if_neg c_43, ex, nI_c (by omega)]; rfl) ?_
              refine A_istore6 dX12_holds_119 rfl (by decide) ?_
              refine A_iload6 dX12_holds_121 ?_
              refine A_ldcw dX12_holds_123 kc_X12_353 ?_
              refine A_icmp_ne (tgt := 131) dX12_holds_126 (by decide) (fun c_126 => ?_) (fun c_126 => ?_)
              · have hn59 : n < 60 := by rw [hdp]; exact (hnt.1 (i_nle c_32)).2.2
                refine A_aload0 dX12_holds_131 ?_
                refine A_getR gf_X12_154 rfl dX12_holds_132 ?_
                refine A_iload3 dX12_holds_135 ?_
                refine A_iload6 dX12_holds_136 ?_
                refine A_iast (rfl) (vp_in_nI (by omega) (by omega)) dX12_holds_138 ?_
                rw [nI_c (by omega)]
                refine A_iinc3 dX12_holds_139 rfl rfl (by decide) ?_
                refine A_goto (tgt := 219) dX12_holds_142 (by decide) ?_
                refine A_iinc4 dX12_holds_219 rfl rfl (by decide) ?_
                refine A_goto (tgt := 10) dX12_holds_222 (by decide) ?_
                refine ih (m + 1) (upd g n (cdv σ k d (σ.1 43 (bgN σ r + m)) (σ.1 44 (bgN σ r + m)))) (n + 1) _ _ _ _ _ (by omega) (by omega) ?_ (nI_1 n) ((nI_1 (bgN σ r + m)).trans (by rw [Nat.add_assoc])) ?_ (Lay.w hL rfl ⟨by decide, by decide, by decide, rfl⟩)
                · rw [runS, hS]; show stS σ k d (bgN σ r + m) (g, n) = _; unfold stS; rw [if_pos (i_nle c_32), if_neg c_126]
                · exact pl_push hpl
              · refine A_iconst (v := 0) dX12_holds_129 (by decide) ?_
                refine A_zret dX12_holds_130 (by decide) ?_
                refine hkn _ ?_ hL
                unfold hldS
                have hno : runS σ k d (bgN σ r) (m + 1) = none := by rw [runS, hS]; show stS σ k d (bgN σ r + m) (g, n) = _; unfold stS; rw [if_pos (i_nle c_32), if_pos c_126]
                have h9 := runS_none hno (bgN σ (r + 1) - bgN σ r - (m + 1))
                rw [show m + 1 + (bgN σ (r + 1) - bgN σ r - (m + 1)) = bgN σ (r + 1) - bgN σ r by omega] at h9
                rw [h9]
            · refine A_iload2 dX12_holds_86 ?_
              refine A_val (y := cdv σ k d (σ.1 43 (bgN σ r + m)) (σ.1 44 (bgN σ r + m))) (by unfold cdv; rw [if_neg c_62, if_pos c_83]) ?_
              refine A_goto (tgt := 119) dX12_holds_87 (by decide) ?_
              refine A_istore6 dX12_holds_119 rfl (by decide) ?_
              refine A_iload6 dX12_holds_121 ?_
              refine A_ldcw dX12_holds_123 kc_X12_353 ?_
              refine A_icmp_ne (tgt := 131) dX12_holds_126 (by decide) (fun c_126 => ?_) (fun c_126 => ?_)
              · have hn59 : n < 60 := by rw [hdp]; exact (hnt.1 (i_nle c_32)).2.2
                refine A_aload0 dX12_holds_131 ?_
                refine A_getR gf_X12_154 rfl dX12_holds_132 ?_
                refine A_iload3 dX12_holds_135 ?_
                refine A_iload6 dX12_holds_136 ?_
                refine A_iast (rfl) (vp_in_nI (by omega) (by omega)) dX12_holds_138 ?_
                rw [nI_c (by omega)]
                refine A_iinc3 dX12_holds_139 rfl rfl (by decide) ?_
                refine A_goto (tgt := 219) dX12_holds_142 (by decide) ?_
                refine A_iinc4 dX12_holds_219 rfl rfl (by decide) ?_
                refine A_goto (tgt := 10) dX12_holds_222 (by decide) ?_
                refine ih (m + 1) (upd g n (cdv σ k d (σ.1 43 (bgN σ r + m)) (σ.1 44 (bgN σ r + m)))) (n + 1) _ _ _ _ _ (by omega) (by omega) ?_ (nI_1 n) ((nI_1 (bgN σ r + m)).trans (by rw [Nat.add_assoc])) ?_ (Lay.w hL rfl ⟨by decide, by decide, by decide, rfl⟩)
                · rw [runS, hS]; show stS σ k d (bgN σ r + m) (g, n) = _; unfold stS; rw [if_pos (i_nle c_32), if_neg c_126]
                · exact pl_push hpl
              · refine A_iconst (v := 0) dX12_holds_129 (by decide) ?_
                refine A_zret dX12_holds_130 (by decide) ?_
                refine hkn _ ?_ hL
                unfold hldS
                have hno : runS σ k d (bgN σ r) (m + 1) = none := by rw [runS, hS]; show stS σ k d (bgN σ r + m) (g, n) = _; unfold stS; rw [if_pos (i_nle c_32), if_pos c_126]
                have h9 := runS_none hno (bgN σ (r + 1) - bgN σ r - (m + 1))
                rw [show m + 1 + (bgN σ (r + 1) - bgN σ r - (m + 1)) = bgN σ (r + 1) - bgN σ r by omega] at h9
                rw [h9]
          · refine A_aload0 dX12_holds_65 ?_
            refine A_getR gf_X12_145 rfl dX12_holds_66 ?_
            refine A_iload4 dX12_holds_69 ?_
            refine A_iald (rfl) (vp_in_nI (by omega) (by omega)) dX12_holds_71 ?_
            rw [nI_c (by omega), hL.1.1 44 _ rfl]
            refine A_val (y := cdv σ k d (σ.1 43 (bgN σ r + m)) (σ.1 44 (bgN σ r + m))) (by unfold cdv; rw [if_pos c_62]) ?_
            refine A_goto (tgt := 119) dX12_holds_72 (by decide) ?_
            refine A_istore6 dX12_holds_119 rfl (by decide) ?_
            refine A_iload6 dX12_holds_121 ?_
            refine A_ldcw dX12_holds_123 kc_X12_353 ?_
            refine A_icmp_ne (tgt := 131) dX12_holds_126 (by decide) (fun c_126 => ?_) (fun c_126 => ?_)
            · have hn59 : n < 60 := by rw [hdp]; exact (hnt.1 (i_nle c_32)).2.2
              refine A_aload0 dX12_holds_131 ?_
              refine A_getR gf_X12_154 rfl dX12_holds_132 ?_
              refine A_iload3 dX12_holds_135 ?_
              refine A_iload6 dX12_holds_136 ?_
              refine A_iast (rfl) (vp_in_nI (by omega) (by omega)) dX12_holds_138 ?_
              rw [nI_c (by omega)]
              refine A_iinc3 dX12_holds_139 rfl rfl (by decide) ?_
              refine A_goto (tgt := 219) dX12_holds_142 (by decide) ?_
              refine A_iinc4 dX12_holds_219 rfl rfl (by decide) ?_
              refine A_goto (tgt := 10) dX12_holds_222 (by decide) ?_
              refine ih (m + 1) (upd g n (cdv σ k d (σ.1 43 (bgN σ r + m)) (σ.1 44 (bgN σ r + m)))) (n + 1) _ _ _ _ _ (by omega) (by omega) ?_ (nI_1 n) ((nI_1 (bgN σ r + m)).trans (by rw [Nat.add_assoc])) ?_ (Lay.w hL rfl ⟨by decide, by decide, by decide, rfl⟩)
              · rw [runS, hS]; show stS σ k d (bgN σ r + m) (g, n) = _; unfold stS; rw [if_pos (i_nle c_32), if_neg c_126]
              · exact pl_push hpl
            · refine A_iconst (v := 0) dX12_holds_129 (by decide) ?_
              refine A_zret dX12_holds_130 (by decide) ?_
              refine hkn _ ?_ hL
              unfold hldS
              have hno : runS σ k d (bgN σ r) (m + 1) = none := by rw [runS, hS]; show stS σ k d (bgN σ r + m) (g, n) = _; unfold stS; rw [if_pos (i_nle c_32), if_pos c_126]
              have h9 := runS_none hno (bgN σ (r + 1) - bgN σ r - (m + 1))
              rw [show m + 1 + (bgN σ (r + 1) - bgN σ r - (m + 1)) = bgN σ (r + 1) - bgN σ r by omega] at h9
              rw [h9]
        · refine A_iload2 dX12_holds_46 ?_
          refine A_iconst (v := 1) dX12_holds_47 (by decide) ?_
          refine A_isub dX12_holds_48 ?_
          refine A_goto (tgt := 53) dX12_holds_49 (by decide) ?_
          refine A_istore5 dX12_holds_53 rfl (by decide) ?_
          refine A_aload0 dX12_holds_55 ?_
          refine A_getR gf_X12_142 rfl dX12_holds_56 ?_
          refine A_iload4 dX12_holds_59 ?_
          refine A_iald (rfl) (vp_in_nI (by omega) (by omega)) dX12_holds_61 ?_
          rw [nI_c (by omega), hL.1.1 43 _ rfl]
          refine A_if_ne (tgt := 75) dX12_holds_62 (by decide) (fun c_62 => ?_) (fun c_62 => ?_)
          · refine A_aload0 dX12_holds_75 ?_
            refine A_getR gf_X12_142 rfl dX12_holds_76 ?_
            refine A_iload4 dX12_holds_79 ?_
            refine A_iald (rfl) (vp_in_nI (by omega) (by omega)) dX12_holds_81 ?_
            rw [nI_c (by omega), hL.1.1 43 _ rfl]
            refine A_iconst (v := 3) dX12_holds_82 (by decide) ?_
            refine A_icmp_ne (tgt := 90) dX12_holds_83 (by decide) (fun c_83 => ?_) (fun c_83 => ?_)
            · refine A_iload5 dX12_holds_90 ?_
              refine A_if_ge (tgt := 101) dX12_holds_92 (by decide) (fun c_92 => ?_) (fun c_92 => ?_)
              · obtain ⟨x, hx5, ex⟩ := (hnt.1 (i_nle c_32)).2.1 (by rcases (hnt.1 (i_nle c_32)).1 with z | z | z | z; exact absurd z c_62; exact Or.inl z; exact Or.inr z; exact absurd z c_83)
                refine A_aload0 dX12_holds_101 ?_
                refine A_getR gf_X12_103 rfl dX12_holds_102 ?_
                refine A_bipush (v := 60) dX12_holds_105 (by decide) ?_
                refine A_aload0 dX12_holds_107 ?_
                refine A_getR gf_X12_145 rfl dX12_holds_108 ?_
                refine A_iload4 dX12_holds_111 ?_
                refine A_iald (rfl) (vp_in_nI (by omega) (by omega)) dX12_holds_113 ?_
                rw [nI_c (by omega), hL.1.1 44 _ rfl]
                rw [ex]
                have hd0 : 1 ≤ d := by rcases Nat.eq_zero_or_pos d with z | z; exact absurd c_92 (by rw [z]; decide); exact z
                have hd1e : nI d - 1 = nI (d - 1) := by rw [show (1 : Int32) = nI 1 from rfl, pk_sub hd0]
                refine A_imul dX12_holds_114 ?_
                refine A_iload5 dX12_holds_115 ?_
                refine A_iadd dX12_holds_117 ?_
                rw [hd1e, nI_60]
                refine A_iald (rfl) (vp_in_nI (by omega) (by omega)) dX12_holds_118 ?_
                rw [nI_c (by omega), hL.2.2.1 _ (by omega)]
                refine A_val (y := cdv σ k d (σ.1 43 (bgN σ r + m)) (σ.1 44 (bgN σ r + m))) (by unfold cdv; rw [if_neg c_62, if_neg c_83, if_pos c_43, if_neg (by omega), ex, nI_c (by omega)]; rfl) ?_
                refine A_istore6 dX12_holds_119 rfl (by decide) ?_
                refine A_iload6 dX12_holds_121 ?_
                refine A_ldcw dX12_holds_123 kc_X12_353 ?_
                refine A_icmp_ne (tgt := 131) dX12_holds_126 (by decide) (fun c_126 => ?_) (fun c_126 => ?_)
                · have hn59 : n < 60 := by rw [hdp]; exact (hnt.1 (i_nle c_32)).2.2
                  refine A_aload0 dX12_holds_131 ?_
                  refine A_getR gf_X12_154 rfl dX12_holds_132 ?_
                  refine A_iload3 dX12_holds_135 ?_
                  refine A_iload6 dX12_holds_136 ?_
                  refine A_iast (rfl) (vp_in_nI (by omega) (by omega)) dX12_holds_138 ?_
                  rw [nI_c (by omega)]
                  refine A_iinc3 dX12_holds_139 rfl rfl (by decide) ?_
                  refine A_goto (tgt := 219) dX12_holds_142 (by decide) ?_
                  refine A_iinc4 dX12_holds_219 rfl rfl (by decide) ?_
                  refine A_goto (tgt := 10) dX12_holds_222 (by decide) ?_
                  refine ih (m + 1) (upd g n (cdv σ k d (σ.1 43 (bgN σ r + m)) (σ.1 44 (bgN σ r + m)))) (n + 1) _ _ _ _ _ (by omega) (by omega) ?_ (nI_1 n) ((nI_1 (bgN σ r + m)).trans (by rw [Nat.add_assoc])) ?_ (Lay.w hL rfl ⟨by decide, by decide, by decide, rfl⟩)
                  · rw [runS, hS]; show stS σ k d (bgN σ r + m) (g, n) = _; unfold stS; rw [if_pos (i_nle c_32), if_neg c_126]
                  · exact pl_push hpl
                · refine A_iconst (v := 0) dX12_holds_129 (by decide) ?_
                  refine A_zret dX12_holds_130 (by decide) ?_
                  refine hkn _ ?_ hL
                  unfold hldS
                  have hno : runS σ k d (bgN σ r) (m + 1) = none := by rw [runS, hS]; show stS σ k d (bgN σ r + m) (g, n) = _; unfold stS; rw [if_pos (i_nle c_32), if_pos c_126]
                  have h9 := runS_none hno (bgN σ (r + 1) - bgN σ r - (m + 1))
                  rw [show m + 1 + (bgN σ (r + 1) - bgN σ r - (m + 1)) = bgN σ (r + 1) - bgN σ r by omega] at h9
                  rw [h9]
              · refine A_ldcw dX12_holds_95 kc_X12_353 ?_
                refine A_val (y := cdv σ k d (σ.1 43 (bgN σ r + m)) (σ.1 44 (bgN σ r + m))) (by unfold cdv; rw [if_neg c_62, if_neg c_83, if_pos c_43, if_pos (by rcases Nat.eq_zero_or_pos d with z | z; exact z; exact absurd (by rw [show (1 : Int32) = nI 1 from rfl, pk_sub z]; exact nI_pos' (by omega)) c_92)]) ?_
                refine A_goto (tgt := 119) dX12_holds_98 (by decide) ?_
                refine A_istore6 dX12_holds_119 rfl (by decide) ?_
                refine A_iload6 dX12_holds_121 ?_
                refine A_ldcw dX12_holds_123 kc_X12_353 ?_
                refine A_icmp_ne (tgt := 131) dX12_holds_126 (by decide) (fun c_126 => ?_) (fun c_126 => ?_)
                · have hn59 : n < 60 := by rw [hdp]; exact (hnt.1 (i_nle c_32)).2.2
                  refine A_aload0 dX12_holds_131 ?_
                  refine A_getR gf_X12_154 rfl dX12_holds_132 ?_
                  refine A_iload3 dX12_holds_135 ?_
                  refine A_iload6 dX12_holds_136 ?_
                  refine A_iast (rfl) (vp_in_nI (by omega) (by omega)) dX12_holds_138 ?_
                  rw [nI_c (by omega)]
                  refine A_iinc3 dX12_holds_139 rfl rfl (by decide) ?_
                  refine A_goto (tgt := 219) dX12_holds_142 (by decide) ?_
                  refine A_iinc4 dX12_holds_219 rfl rfl (by decide) ?_
                  refine A_goto (tgt := 10) dX12_holds_222 (by decide) ?_
                  refine ih (m + 1) (upd g n (cdv σ k d (σ.1 43 (bgN σ r + m)) (σ.1 44 (bgN σ r + m)))) (n + 1) _ _ _ _ _ (by omega) (by omega) ?_ (nI_1 n) ((nI_1 (bgN σ r + m)).trans (by rw [Nat.add_assoc])) ?_ (Lay.w hL rfl ⟨by decide, by decide, by decide, rfl⟩)
                  · rw [runS, hS]; show stS σ k d (bgN σ r + m) (g, n) = _; unfold stS; rw [if_pos (i_nle c_32), if_neg c_126]
                  · exact pl_push hpl
                · refine A_iconst (v := 0) dX12_holds_129 (by decide) ?_
                  refine A_zret dX12_holds_130 (by decide) ?_
                  refine hkn _ ?_ hL
                  unfold hldS
                  have hno : runS σ k d (bgN σ r) (m + 1) = none := by rw [runS, hS]; show stS σ k d (bgN σ r + m) (g, n) = _; unfold stS; rw [if_pos (i_nle c_32), if_pos c_126]
                  have h9 := runS_none hno (bgN σ (r + 1) - bgN σ r - (m + 1))
                  rw [show m + 1 + (bgN σ (r + 1) - bgN σ r - (m + 1)) = bgN σ (r + 1) - bgN σ r by omega] at h9
                  rw [h9]
            · refine A_iload2 dX12_holds_86 ?_
              refine A_val (y := cdv σ k d (σ.1 43 (bgN σ r + m)) (σ.1 44 (bgN σ r + m))) (by unfold cdv; rw [if_neg c_62, if_pos c_83]) ?_
              refine A_goto (tgt := 119) dX12_holds_87 (by decide) ?_
              refine A_istore6 dX12_holds_119 rfl (by decide) ?_
              refine A_iload6 dX12_holds_121 ?_
              refine A_ldcw dX12_holds_123 kc_X12_353 ?_
              refine A_icmp_ne (tgt := 131) dX12_holds_126 (by decide) (fun c_126 => ?_) (fun c_126 => ?_)
              · have hn59 : n < 60 := by rw [hdp]; exact (hnt.1 (i_nle c_32)).2.2
                refine A_aload0 dX12_holds_131 ?_
                refine A_getR gf_X12_154 rfl dX12_holds_132 ?_
                refine A_iload3 dX12_holds_135 ?_
                refine A_iload6 dX12_holds_136 ?_
                refine A_iast (rfl) (vp_in_nI (by omega) (by omega)) dX12_holds_138 ?_
                rw [nI_c (by omega)]
                refine A_iinc3 dX12_holds_139 rfl rfl (by decide) ?_
                refine A_goto (tgt := 219) dX12_holds_142 (by decide) ?_
                refine A_iinc4 dX12_holds_219 rfl rfl (by decide) ?_
                refine A_goto (tgt := 10) dX12_holds_222 (by decide) ?_
                refine ih (m + 1) (upd g n (cdv σ k d (σ.1 43 (bgN σ r + m)) (σ.1 44 (bgN σ r + m)))) (n + 1) _ _ _ _ _ (by omega) (by omega) ?_ (nI_1 n) ((nI_1 (bgN σ r + m)).trans (by rw [Nat.add_assoc])) ?_ (Lay.w hL rfl ⟨by decide, by decide, by decide, rfl⟩)
                · rw [runS, hS]; show stS σ k d (bgN σ r + m) (g, n) = _; unfold stS; rw [if_pos (i_nle c_32), if_neg c_126]
                · exact pl_push hpl
              · refine A_iconst (v := 0) dX12_holds_129 (by decide) ?_
                refine A_zret dX12_holds_130 (by decide) ?_
                refine hkn _ ?_ hL
                unfold hldS
                have hno : runS σ k d (bgN σ r) (m + 1) = none := by rw [runS, hS]; show stS σ k d (bgN σ r + m) (g, n) = _; unfold stS; rw [if_pos (i_nle c_32), if_pos c_126]
                have h9 := runS_none hno (bgN σ (r + 1) - bgN σ r - (m + 1))
                rw [show m + 1 + (bgN σ (r + 1) - bgN σ r - (m + 1)) = bgN σ (r + 1) - bgN σ r by omega] at h9
                rw [h9]
          · refine A_aload0 dX12_holds_65 ?_
            refine A_getR gf_X12_145 rfl dX12_holds_66 ?_
            refine A_iload4 dX12_holds_69 ?_
            refine A_iald (rfl) (vp_in_nI (by omega) (by omega)) dX12_holds_71 ?_
            rw [nI_c (by omega), hL.1.1 44 _ rfl]
            refine A_val (y := cdv σ k d (σ.1 43 (bgN σ r + m)) (σ.1 44 (bgN σ r + m))) (by unfold cdv; rw [if_pos c_62]) ?_
            refine A_goto (tgt := 119) dX12_holds_72 (by decide) ?_
            refine A_istore6 dX12_holds_119 rfl (by decide) ?_
            refine A_iload6 dX12_holds_121 ?_
            refine A_ldcw dX12_holds_123 kc_X12_353 ?_
            refine A_icmp_ne (tgt := 131) dX12_holds_126 (by decide) (fun c_126 => ?_) (fun c_126 => ?_)
            · have hn59 : n < 60 := by rw [hdp]; exact (hnt.1 (i_nle c_32)).2.2
              refine A_aload0 dX12_holds_131 ?_
              refine A_getR gf_X12_154 rfl dX12_holds_132 ?_
              refine A_iload3 dX12_holds_135 ?_
              refine A_iload6 dX12_holds_136 ?_
              refine A_iast (rfl) (vp_in_nI (by omega) (by omega)) dX12_holds_138 ?_
              rw [nI_c (by omega)]
              refine A_iinc3 dX12_holds_139 rfl rfl (by decide) ?_
              refine A_goto (tgt := 219) dX12_holds_142 (by decide) ?_
              refine A_iinc4 dX12_holds_219 rfl rfl (by decide) ?_
              refine A_goto (tgt := 10) dX12_holds_222 (by decide) ?_
              refine ih (m + 1) (upd g n (cdv σ k d (σ.1 43 (bgN σ r + m)) (σ.1 44 (bgN σ r + m)))) (n + 1) _ _ _ _ _ (by omega) (by omega) ?_ (nI_1 n) ((nI_1 (bgN σ r + m)).trans (by rw [Nat.add_assoc])) ?_ (Lay.w hL rfl ⟨by decide, by decide, by decide, rfl⟩)
              · rw [runS, hS]; show stS σ k d (bgN σ r + m) (g, n) = _; unfold stS; rw [if_pos (i_nle c_32), if_neg c_126]
              · exact pl_push hpl
            · refine A_iconst (v := 0) dX12_holds_129 (by decide) ?_
              refine A_zret dX12_holds_130 (by decide) ?_
              refine hkn _ ?_ hL
              unfold hldS
              have hno : runS σ k d (bgN σ r) (m + 1) = none := by rw [runS, hS]; show stS σ k d (bgN σ r + m) (g, n) = _; unfold stS; rw [if_pos (i_nle c_32), if_pos c_126]
              have h9 := runS_none hno (bgN σ (r + 1) - bgN σ r - (m + 1))
              rw [show m + 1 + (bgN σ (r + 1) - bgN σ r - (m + 1)) = bgN σ (r + 1) - bgN σ r by omega] at h9
              rw [h9]

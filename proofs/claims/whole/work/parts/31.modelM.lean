/-! rules at work -/
def wkd (w x y : Int32) : Int32 := if w = 20 then bz (¬ x = 0 ∨ ¬ y = 0) else if w = 21 then bz (¬ x = 0 ∧ ¬ y = 0) else if w = 22 then x * y else if w = 23 then bz (x = y) else if w = 24 then bz (x < y) else if w = 25 then bz (y < x) else if w = 26 then x + y else if w = 27 then x - y else x * y
theorem u20 : (20 : Int32).toInt = 20 := by decide
set_option maxHeartbeats 4000000 in
set_option maxRecDepth 100000 in
theorem T_X12_worked {l : Launch} {G : Wd} {w x y : Int32} {μ : Mem}  : Mt l G KM yX12_worked cX12_worked 3 (some .int) 1 [.int w, .int x, .int y] μ (Qi (fun v μ' => v = wkd w x y ∧ μ' = μ)) := by
  refine Mt.of (own := RX12) (n := 0) (by decide) rfl [some (.int w), some (.int x), some (.int y)] rfl (Nat.le_of_ble_eq_true rfl) ?_
  refine A_iload0 dX12_worked_0 ?_
  by_cases s_1_20 : w = 20
  · rw [s_1_20]
    refine A_tableIn (tgt := 48) dX12_worked_1 (by decide) (by decide) rfl (by decide) ?_
    refine A_iload1 dX12_worked_48 ?_
    refine A_if_ne (tgt := 56) dX12_worked_49 (by decide) (fun c_49 => ?_) (fun c_49 => ?_)
    · refine A_iconst (v := 1) dX12_worked_56 (by decide) ?_
      refine A_goto (tgt := 61) dX12_worked_57 (by decide) ?_
      refine A_iret dX12_worked_61 ?_
      refine ⟨_, rfl, ?_, rfl⟩
      unfold wkd
      subst w
      simp_all [bz, i_lt, i_le]
      try (intros; omega)
    · refine A_iload2 dX12_worked_52 ?_
      refine A_if_eq (tgt := 60) dX12_worked_53 (by decide) (fun c_53 => ?_) (fun c_53 => ?_)
      · refine A_iconst (v := 0) dX12_worked_60 (by decide) ?_
        refine A_iret dX12_worked_61 ?_
        refine ⟨_, rfl, ?_, rfl⟩
        unfold wkd
        subst w
        simp_all [bz, i_lt, i_le]
        try (intros; omega)
      · refine A_iconst (v := 1) dX12_worked_56 (by decide) ?_
        refine A_goto (tgt := 61) dX12_worked_57 (by decide) ?_
        refine A_iret dX12_worked_61 ?_
        refine ⟨_, rfl, ?_, rfl⟩
        unfold wkd
        subst w
        simp_all [bz, i_lt, i_le]
        try (intros; omega)
  by_cases s_1_21 : w = 21
  · rw [s_1_21]
    refine A_tableIn (tgt := 62) dX12_worked_1 (by decide) (by decide) rfl (by decide) ?_
    refine A_iload1 dX12_worked_62 ?_
    refine A_if_eq (tgt := 74) dX12_worked_63 (by decide) (fun c_63 => ?_) (fun c_63 => ?_)
    · refine A_iconst (v := 0) dX12_worked_74 (by decide) ?_
      refine A_iret dX12_worked_75 ?_
      refine ⟨_, rfl, ?_, rfl⟩
      unfold wkd
      subst w
      simp_all [bz, i_lt, i_le]
      try (intros; omega)
    · refine A_iload2 dX12_worked_66 ?_
      refine A_if_eq (tgt := 74) dX12_worked_67 (by decide) (fun c_67 => ?_) (fun c_67 => ?_)
      · refine A_iconst (v := 0) dX12_worked_74 (by decide) ?_
        refine A_iret dX12_worked_75 ?_
        refine ⟨_, rfl, ?_, rfl⟩
        unfold wkd
        subst w
        simp_all [bz, i_lt, i_le]
        try (intros; omega)
      · refine A_iconst (v := 1) dX12_worked_70 (by decide) ?_
        refine A_goto (tgt := 75) dX12_worked_71 (by decide) ?_
        refine A_iret dX12_worked_75 ?_
        refine ⟨_, rfl, ?_, rfl⟩
        unfold wkd
        subst w
        simp_all [bz, i_lt, i_le]
        try (intros; omega)
  by_cases s_1_22 : w = 22
  · rw [s_1_22]
    refine A_tableIn (tgt := 117) dX12_worked_1 (by decide) (by decide) rfl (by decide) ?_
    refine A_iload1 dX12_worked_117 ?_
    refine A_iload2 dX12_worked_118 ?_
    refine A_imul dX12_worked_119 ?_
    refine A_iret dX12_worked_120 ?_
    refine ⟨_, rfl, ?_, rfl⟩
    unfold wkd
    subst w
    simp_all [bz, i_lt, i_le]
    try (intros; omega)
  by_cases s_1_23 : w = 23
  · rw [s_1_23]
    refine A_tableIn (tgt := 76) dX12_worked_1 (by decide) (by decide) rfl (by decide) ?_
    refine A_iload1 dX12_worked_76 ?_
    refine A_iload2 dX12_worked_77 ?_
    refine A_icmp_ne (tgt := 85) dX12_worked_78 (by decide) (fun c_78 => ?_) (fun c_78 => ?_)
    · refine A_iconst (v := 0) dX12_worked_85 (by decide) ?_
      refine A_iret dX12_worked_86 ?_
      refine ⟨_, rfl, ?_, rfl⟩
      unfold wkd
      subst w
      simp_all [bz, i_lt, i_le]
      try (intros; omega)
    · refine A_iconst (v := 1) dX12_worked_81 (by decide) ?_
      refine A_goto (tgt := 86) dX12_worked_82 (by decide) ?_
      refine A_iret dX12_worked_86 ?_
      refine ⟨_, rfl, ?_, rfl⟩
      unfold wkd
      subst w
      simp_all [bz, i_lt, i_le]
      try (intros; omega)
  by_cases s_1_24 : w = 24
  · rw [s_1_24]
    refine A_tableIn (tgt := 87) dX12_worked_1 (by decide) (by decide) rfl (by decide) ?_
    refine A_iload1 dX12_worked_87 ?_
    refine A_iload2 dX12_worked_88 ?_
    refine A_icmp_ge (tgt := 96) dX12_worked_89 (by decide) (fun c_89 => ?_) (fun c_89 => ?_)
    · refine A_iconst (v := 0) dX12_worked_96 (by decide) ?_
      refine A_iret dX12_worked_97 ?_
      refine ⟨_, rfl, ?_, rfl⟩
      unfold wkd
      subst w
      simp_all [bz, i_lt, i_le]
      try (intros; omega)
    · refine A_iconst (v := 1) dX12_worked_92 (by decide) ?_
      refine A_goto (tgt := 97) dX12_worked_93 (by decide) ?_
      refine A_iret dX12_worked_97 ?_
      refine ⟨_, rfl, ?_, rfl⟩
      unfold wkd
      subst w
      simp_all [bz, i_lt, i_le]
      try (intros; omega)
  by_cases s_1_25 : w = 25
  · rw [s_1_25]
    refine A_tableIn (tgt := 98) dX12_worked_1 (by decide) (by decide) rfl (by decide) ?_
    refine A_iload1 dX12_worked_98 ?_
    refine A_iload2 dX12_worked_99 ?_
    refine A_icmp_le (tgt := 107) dX12_worked_100 (by decide) (fun c_100 => ?_) (fun c_100 => ?_)
    · refine A_iconst (v := 0) dX12_worked_107 (by decide) ?_
      refine A_iret dX12_worked_108 ?_
      refine ⟨_, rfl, ?_, rfl⟩
      unfold wkd
      subst w
      simp_all [bz, i_lt, i_le]
      try (intros; omega)
    · refine A_iconst (v := 1) dX12_worked_103 (by decide) ?_
      refine A_goto (tgt := 108) dX12_worked_104 (by decide) ?_
      refine A_iret dX12_worked_108 ?_
      refine ⟨_, rfl, ?_, rfl⟩
      unfold wkd
      subst w
      simp_all [bz, i_lt, i_le]
      try (intros; omega)
  by_cases s_1_26 : w = 26
  · rw [s_1_26]
    refine A_tableIn (tgt := 109) dX12_worked_1 (by decide) (by decide) rfl (by decide) ?_
    refine A_iload1 dX12_worked_109 ?_
    refine A_iload2 dX12_worked_110 ?_
    refine A_iadd dX12_worked_111 ?_
    refine A_iret dX12_worked_112 ?_
    refine ⟨_, rfl, ?_, rfl⟩
    unfold wkd
    subst w
    simp_all [bz, i_lt, i_le]
    try (intros; omega)
  by_cases s_1_27 : w = 27
  · rw [s_1_27]
    refine A_tableIn (tgt := 113) dX12_worked_1 (by decide) (by decide) rfl (by decide) ?_
    refine A_iload1 dX12_worked_113 ?_
    refine A_iload2 dX12_worked_114 ?_
    refine A_isub dX12_worked_115 ?_
    refine A_iret dX12_worked_116 ?_
    refine ⟨_, rfl, ?_, rfl⟩
    unfold wkd
    subst w
    simp_all [bz, i_lt, i_le]
    try (intros; omega)
  refine A_tableOut (tgt := 117) dX12_worked_1 (i_out (lo := 20) (hi := 27) (fun j h1 h2 q => ?_)) (by decide) ?_
  · have h3 : j = 20 ∨ j = 21 ∨ j = 22 ∨ j = 23 ∨ j = 24 ∨ j = 25 ∨ j = 26 ∨ j = 27 := by omega
    rcases h3 with rfl | rfl | rfl | rfl | rfl | rfl | rfl | rfl
    · exact s_1_20 (by rw [i_eq, q]; decide)
    · exact s_1_21 (by rw [i_eq, q]; decide)
    · exact s_1_22 (by rw [i_eq, q]; decide)
    · exact s_1_23 (by rw [i_eq, q]; decide)
    · exact s_1_24 (by rw [i_eq, q]; decide)
    · exact s_1_25 (by rw [i_eq, q]; decide)
    · exact s_1_26 (by rw [i_eq, q]; decide)
    · exact s_1_27 (by rw [i_eq, q]; decide)
  refine A_iload1 dX12_worked_117 ?_
  refine A_iload2 dX12_worked_118 ?_
  refine A_imul dX12_worked_119 ?_
  refine A_iret dX12_worked_120 ?_
  refine ⟨_, rfl, ?_, rfl⟩
  unfold wkd
  rw [if_neg s_1_20, if_neg s_1_21, if_neg s_1_22, if_neg s_1_23, if_neg s_1_24, if_neg s_1_25, if_neg s_1_26, if_neg s_1_27]
/-- what a unit stands for -/
def cdv (σ : Mem) (k : Int32) (d : Nat) (w n : Int32) : Int32 := if w = 0 then n else if w = 3 then nI d else if w = 2 then (if d = 0 then -100000 else rdN σ k n.toNatClampNeg (d - 1)) else rdN σ k n.toNatClampNeg d
abbrev Stk : Type := (Nat → Int32) × Nat
def stS (σ : Mem) (k : Int32) (d p : Nat) (S : Stk) : Option Stk :=
  if σ.1 43 p < 20 then (if cdv σ k d (σ.1 43 p) (σ.1 44 p) = -100000 then none else some (upd S.1 S.2 (cdv σ k d (σ.1 43 p) (σ.1 44 p)), S.2 + 1))
  else if σ.1 43 p = 22 then some (upd S.1 (S.2 - 1) (if S.1 (S.2 - 1) = 0 then 1 else 0), S.2)
  else some (upd S.1 (S.2 - 2) (wkd (σ.1 43 p) (S.1 (S.2 - 2)) (S.1 (S.2 - 1))), S.2 - 1)
def runS (σ : Mem) (k : Int32) (d b : Nat) : Nat → Option Stk
  | 0 => some (fun _ => 0, 0)
  | m + 1 => match runS σ k d b m with
    | none => none
    | some S => stS σ k d (b + m) S
def dpS (σ : Mem) (b : Nat) : Nat → Nat
  | 0 => 0
  | m + 1 => if σ.1 43 (b + m) < 20 then dpS σ b m + 1 else if σ.1 43 (b + m) = 22 then dpS σ b m else dpS σ b m - 1
theorem runS_d {σ : Mem} {k : Int32} {d b : Nat} : ∀ m S, runS σ k d b m = some S → S.2 = dpS σ b m := by
  intro m
  induction m with
  | zero => intro S h; cases h; rfl
  | succ m ih =>
    intro S h
    unfold runS at h
    unfold dpS
    cases hr : runS σ k d b m with
    | none => rw [hr] at h; cases h
    | some T =>
      rw [hr] at h
      have h1 := ih T hr
      simp only at h
      unfold stS at h
      split at h
      · rename_i c
        rw [if_pos c]
        split at h
        · cases h
        · cases h; show T.2 + 1 = _; rw [h1]
      · rename_i c
        rw [if_neg c]
        split at h
        · rename_i c2; rw [if_pos c2]; cases h; exact h1
        · rename_i c2; rw [if_neg c2]; cases h; show T.2 - 1 = _; rw [h1]
/-- a note as it can be, at a depth -/
def okNt (σ : Mem) (b m : Nat) : Prop := (σ.1 43 (b + m) < 20 → (σ.1 43 (b + m) = 0 ∨ σ.1 43 (b + m) = 1 ∨ σ.1 43 (b + m) = 2 ∨ σ.1 43 (b + m) = 3) ∧ ((σ.1 43 (b + m) = 1 ∨ σ.1 43 (b + m) = 2) → ∃ x : Nat, x < 5 ∧ σ.1 44 (b + m) = nI x) ∧ dpS σ b m < 60) ∧ (¬ σ.1 43 (b + m) < 20 → (σ.1 43 (b + m) = 22 → 1 ≤ dpS σ b m) ∧ (¬ σ.1 43 (b + m) = 22 → 2 ≤ dpS σ b m)) ∧ dpS σ b m ≤ 60
def bgN (σ : Mem) (r : Nat) : Nat := (σ.1 45 r).toNatClampNeg
def rlN (σ : Mem) : Nat := (σ.1 0 72).toNatClampNeg
def okRl (σ : Mem) (r : Nat) : Prop := σ.1 45 r = nI (bgN σ r) ∧ σ.1 45 (r + 1) = nI (bgN σ (r + 1)) ∧ bgN σ r ≤ bgN σ (r + 1) ∧ bgN σ (r + 1) ≤ 500 ∧ (∀ m, bgN σ r + m < bgN σ (r + 1) → okNt σ (bgN σ r) m) ∧ (σ.1 49 r = 0 ∨ σ.1 49 r = 1)
def WFr (σ : Mem) : Prop := rlN σ ≤ 6 ∧ σ.1 0 72 = nI (rlN σ) ∧ ∀ r, r < rlN σ → okRl σ r
def hldS (σ : Mem) (k : Int32) (r d : Nat) : Bool := match runS σ k d (bgN σ r) (bgN σ (r + 1) - bgN σ r) with
  | none => false
  | some S => !decide (S.1 0 = 0)
theorem runS_none {σ : Mem} {k : Int32} {d b : Nat} {m : Nat} (h : runS σ k d b m = none) : ∀ n, runS σ k d b (m + n) = none := by
  intro n
  induction n with
  | zero => exact h
  | succ n ih => rw [← Nat.add_assoc, runS, ih]

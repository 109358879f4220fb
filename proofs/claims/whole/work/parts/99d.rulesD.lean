/-! the loops of the class's grammar -/
def PC (w : Nat) (m : Mem) : Prop := ∃ j, w ≤ j ∧ j < wtN m ∧ (m.1 46 j = 23 ∨ m.1 46 j = 24 ∨ m.1 46 j = 25) ∧ ∀ i, j < i → i < wtN m → 26 ≤ (m.1 46 i).toInt
def XU (_ : Nat) (_ : Mem) (_ : Int32) : Prop := True
def XT (_ : Nat) (_ : Mem) (kd : Int32) : Prop := ¬ kd = 42
def XA (_ : Nat) (_ : Mem) (kd : Int32) : Prop := ¬ kd = 42 ∧ ¬ kd = 43 ∧ ¬ kd = 45
def XO (w : Nat) (m : Mem) (kd : Int32) : Prop := (¬ kd = 42 ∧ ¬ kd = 43 ∧ ¬ kd = 45) ∧ ((kd = 60 ∨ kd = 61 ∨ kd = 62) → PC w m)
def XB (w : Nat) (m : Mem) (kd : Int32) : Prop := XO w m kd ∧ ¬ kd = 151
def XE (w : Nat) (m : Mem) (kd : Int32) : Prop := XB w m kd ∧ ¬ kd = 152
def RP (G : Wd) (β k w : Nat) (L : Int) (x : Int32) (m μ : Mem) (X : Mem → Int32 → Prop) (μ' : Mem) : Prop := Fq μ μ' ∧ ∃ m', RF x m = RF 2 m' ∧ IB G β k L w (m.1 46) m' μ' ∧ (m'.1 0 2 = 0 → m.1 0 2 = 0 ∧ plN m ≤ plN m' ∧ X m' (μ'.1 2 5))
/-- a method of the grammar, at k levels left and depth d -/
def MC (l : Launch) (G : Wd) (y : MethodName) (cy : ByteArray) (nL d k : Nat) (T L : Int) (X : Nat → Mem → Int32 → Prop) (Ec : Int32 → Int32 → Prop) : Prop := ∀ (β w : Nat) (x : Int32) (m μ : Mem), IP G β k x w m μ → (m.1 0 2 = 0 → Ec x (μ.1 2 5) ∧ TC T w (m.1 46)) → Mt l G KC y cy nL none d [.ref (gA G 35), .int (nI (7 - k))] μ (Qv (RP G β k w L x m μ (X w)))
def E1 (x kd : Int32) : Prop := x = 1 ∨ (x = 0 ∧ ¬ kd = 153)
def E0 (x _kd : Int32) : Prop := x = 0
set_option maxHeartbeats 200000 in
theorem TC.up {L M : Int} {w : Nat} {U : Nat → Int32} (h : TC L w U) (hL : L ≤ M) : TC M w U := h.elim Or.inl (fun y => y.elim (fun y => Or.inr (Or.inl y)) (fun y => Or.inr (Or.inr (by omega))))
set_option maxHeartbeats 200000 in
theorem wd_17 : e256 (wdK.getD 17 []) = 26982 := by decide +kernel
set_option maxHeartbeats 200000 in
theorem wd_18 : e256 (wdK.getD 18 []) = 7561593 := by decide +kernel
set_option maxHeartbeats 200000 in
theorem wd_19 : e256 (wdK.getD 19 []) = 7824756 := by decide +kernel
set_option maxHeartbeats 200000 in
theorem wd_20 : e256 (wdK.getD 20 []) = 6582905 := by decide +kernel
set_option maxHeartbeats 200000 in
theorem wd_21 : e256 (wdK.getD 21 []) = 1818325876 := by decide +kernel
set_option maxHeartbeats 200000 in
theorem wd_22 : e256 (wdK.getD 22 []) = 6578553 := by decide +kernel
set_option maxHeartbeats 200000 in
theorem wd_23 : e256 (wdK.getD 23 []) = 6385252 := by decide +kernel
set_option maxHeartbeats 200000 in
theorem wd_24 : e256 (wdK.getD 24 []) = 28530 := by decide +kernel
set_option maxHeartbeats 200000 in
theorem wd_25 : e256 (wdK.getD 25 []) = 7237492 := by decide +kernel
set_option maxHeartbeats 200000 in
theorem rw_s {G : Wd} {m μ : Mem} (h : TS G m μ) (h0 : m.1 0 2 = 0) : (isWd m 7561593 ↔ μ.1 2 5 = 146) ∧ (isWd m 6385252 ↔ μ.1 2 5 = 151) ∧ (isWd m 28530 ↔ μ.1 2 5 = 152) ∧ (isWd m 7237492 ↔ μ.1 2 5 = 153) ∧ (isWd m 1818325876 ↔ μ.1 2 5 = 149) ∧ (isWd m 6578553 ↔ μ.1 2 5 = 150) := by
  have hk := h.kr h0
  have a1 := hk.wd (i := 18) (by decide)
  have a2 := hk.wd (i := 23) (by decide)
  have a3 := hk.wd (i := 24) (by decide)
  have a4 := hk.wd (i := 25) (by decide)
  have a5 := hk.wd (i := 21) (by decide)
  have a6 := hk.wd (i := 22) (by decide)
  rw [wd_18] at a1
  rw [wd_23] at a2
  rw [wd_24] at a3
  rw [wd_25] at a4
  rw [wd_21] at a5
  rw [wd_22] at a6
  exact ⟨a1, a2, a3, a4, a5, a6⟩
/-- the operator that a kind means -/
def opV (kd v r : Int32) : Prop := (kd = 42 ∧ v = 28 ∧ r = 28) ∨ (kd = 43 ∧ v = 26 ∧ r = 26) ∨ (kd = 45 ∧ v = 27 ∧ r = 26) ∨ (kd = 151 ∧ v = 21 ∧ r = 21) ∨ (kd = 152 ∧ v = 20 ∧ r = 20)
set_option maxHeartbeats 200000 in
theorem op_v {G : Wd} {m μ : Mem} {v r : Int32} (h : TS G m μ) (hv : opV (μ.1 2 5) v r) : m.1 0 2 = 0 ∧ sgW m = v ∧ ¬ v < 0 ∧ ¬ m.1 0 6 = 41 ∧ ¬ isWd m 7561593 ∧ sgE m v = sp_settle m r ∧ ¬ (v = 22 ∨ v = 30) ∧ ¬ m.1 0 6 = 0 ∧ ¬ m.1 0 6 = 3 := by
  have h0 : m.1 0 2 = 0 := h.no (by rcases hv with y | y | y | y | y <;> rw [y.1] <;> decide)
  obtain ⟨b1, b2, b3, -, -, -⟩ := rw_s h h0
  have hk := h.kr h0
  have s42 := hk.sg (c := 42) (by decide)
  have s43 := hk.sg (c := 43) (by decide)
  have s45 := hk.sg (c := 45) (by decide)
  have s41 := hk.sg (c := 41) (by decide)
  have ns : ∀ c : Int32, 3 < c.toInt ∧ c.toInt < 128 → ¬ μ.1 2 5 = c → ¬ m.1 0 6 = c := fun c hc y z => y ((hk.sg hc).mp z)
  refine ⟨h0, ?_⟩
  rcases hv with ⟨y, ev, er⟩ | ⟨y, ev, er⟩ | ⟨y, ev, er⟩ | ⟨y, ev, er⟩ | ⟨y, ev, er⟩ <;> rw [ev, er]
  · have e6 := s42.mpr y
    refine ⟨(if_neg (by rw [e6]; decide)).trans ((if_neg (by rw [e6]; decide)).trans (if_pos e6)), by decide, by rw [e6]; decide, fun z => by have z2 := b1.mp z; rw [y] at z2; exact absurd z2 (by decide), rfl, by decide, by rw [e6]; decide, by rw [e6]; decide⟩
  · have e6 := s43.mpr y
    refine ⟨if_pos e6, by decide, by rw [e6]; decide, fun z => by have z2 := b1.mp z; rw [y] at z2; exact absurd z2 (by decide), rfl, by decide, by rw [e6]; decide, by rw [e6]; decide⟩
  · have e6 := s45.mpr y
    refine ⟨(if_neg (by rw [e6]; decide)).trans (if_pos e6), by decide, by rw [e6]; decide, fun z => by have z2 := b1.mp z; rw [y] at z2; exact absurd z2 (by decide), rfl, by decide, by rw [e6]; decide, by rw [e6]; decide⟩
  · have ew := b2.mpr y
    refine ⟨?_, by decide, by rw [ew.1]; decide, fun z => by have z2 := b1.mp z; rw [y] at z2; exact absurd z2 (by decide), rfl, by decide, by rw [ew.1]; decide, by rw [ew.1]; decide⟩
    unfold sgW
    rw [if_neg (ns 43 (by decide) (by rw [y]; decide)), if_neg (ns 45 (by decide) (by rw [y]; decide)), if_neg (ns 42 (by decide) (by rw [y]; decide)), if_neg (ns 61 (by decide) (by rw [y]; decide)), if_neg (ns 60 (by decide) (by rw [y]; decide)), if_neg (ns 62 (by decide) (by rw [y]; decide)), if_pos ew]
  · have ew := b3.mpr y
    refine ⟨?_, by decide, by rw [ew.1]; decide, fun z => by have z2 := b1.mp z; rw [y] at z2; exact absurd z2 (by decide), rfl, by decide, by rw [ew.1]; decide, by rw [ew.1]; decide⟩
    unfold sgW
    rw [if_neg (ns 43 (by decide) (by rw [y]; decide)), if_neg (ns 45 (by decide) (by rw [y]; decide)), if_neg (ns 42 (by decide) (by rw [y]; decide)), if_neg (ns 61 (by decide) (by rw [y]; decide)), if_neg (ns 60 (by decide) (by rw [y]; decide)), if_neg (ns 62 (by decide) (by rw [y]; decide)), if_neg (fun z => by have z2 := b2.mp z; rw [y] at z2; exact absurd z2 (by decide)), if_pos ew]
set_option maxHeartbeats 200000 in
/-- a token that is none of these ends no loop by its count -/
theorem IB.pl {β k w : Nat} {L : Int} {U : Nat → Int32} {G : Wd} {m μ : Mem} {v r : Int32} (h : IB G β k L w U m μ) (hv : opV (μ.1 2 5) v r) : plN m < 500 := by
  obtain ⟨h0, -, -, -, -, -, -, s0, s3⟩ := op_v h.1 hv
  obtain ⟨a1, a2, a3, -⟩ := h.2.2 h0
  obtain ⟨n, t, g1, g2, -, -, g5⟩ := a3.t
  exact (a1.sz g1 g2 g5 s0 s3).2

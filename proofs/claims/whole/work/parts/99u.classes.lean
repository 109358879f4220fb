/-! the classes, as the tables have them -/
set_option maxHeartbeats 2000000 in
set_option maxRecDepth 100000 in
theorem iw_0 : ∀ w ∈ u_ws RX0 TX0 6, w ∈ lw_tbl := by decide +kernel
set_option maxHeartbeats 2000000 in
set_option maxRecDepth 100000 in
theorem iw_1 : ∀ w ∈ u_ws RX1 TX1 11, w ∈ lw_tbl := by decide +kernel
set_option maxHeartbeats 2000000 in
set_option maxRecDepth 100000 in
theorem iw_2 : ∀ w ∈ u_ws RX2 TX2 11, w ∈ lw_tbl := by decide +kernel
set_option maxHeartbeats 2000000 in
set_option maxRecDepth 100000 in
theorem iw_3 : ∀ w ∈ u_ws RX3 TX3 2, w ∈ lw_tbl := by decide +kernel
set_option maxHeartbeats 2000000 in
set_option maxRecDepth 100000 in
theorem iw_4 : ∀ w ∈ u_ws RX4 TX4 8, w ∈ lw_tbl := by decide +kernel
set_option maxHeartbeats 2000000 in
set_option maxRecDepth 100000 in
theorem iw_5 : ∀ w ∈ u_ws RX5 TX5 15, w ∈ lw_tbl := by decide +kernel
set_option maxHeartbeats 2000000 in
set_option maxRecDepth 100000 in
theorem iw_6 : ∀ w ∈ u_ws RX6 TX6 6, w ∈ lw_tbl := by decide +kernel
set_option maxHeartbeats 2000000 in
set_option maxRecDepth 100000 in
theorem iw_7 : ∀ w ∈ u_ws RX7 TX7 4, w ∈ lw_tbl := by decide +kernel
set_option maxHeartbeats 2000000 in
set_option maxRecDepth 100000 in
theorem iw_8 : ∀ w ∈ u_ws RX8 TX8 7, w ∈ lw_tbl := by decide +kernel
set_option maxHeartbeats 2000000 in
set_option maxRecDepth 100000 in
theorem iw_9 : ∀ w ∈ u_ws RX9 TX9 11, w ∈ lw_tbl := by decide +kernel
set_option maxHeartbeats 2000000 in
set_option maxRecDepth 100000 in
theorem iw_10 : ∀ w ∈ u_ws RX10 TX10 12, w ∈ lw_tbl := by decide +kernel
set_option maxHeartbeats 2000000 in
set_option maxRecDepth 100000 in
theorem iw_11 : ∀ w ∈ u_ws RX11 TX11 17, w ∈ lw_tbl := by decide +kernel
set_option maxHeartbeats 2000000 in
set_option maxRecDepth 100000 in
theorem iw_12 : ∀ w ∈ u_ws RX12 TX12 81, w ∈ lw_tbl := by decide +kernel
set_option maxHeartbeats 2000000 in
set_option maxRecDepth 100000 in
theorem D_of {s : State} {args : Array Value} (hts : ∀ w ∈ lw_tbl, w.before args s = true) : ∃ (dC : Nat → ClassId) (dI : Nat → Nat → Nat), ∀ (k : Nat) (q : vw_C), vwCl[k]? = some q → u_Kn s q.1 q.2.1 q.2.2 (dC k) (dI k) := by
  obtain ⟨c0, s0, h0⟩ := u_known (C := RX0) (T := TX0) (N := 6) (n := 6) hts iw_0 (hts (.instantiable RX0 6) (by decide +kernel))
  obtain ⟨c1, s1, h1⟩ := u_known (C := RX1) (T := TX1) (N := 11) (n := 11) hts iw_1 (hts (.instantiable RX1 11) (by decide +kernel))
  obtain ⟨c2, s2, h2⟩ := u_known (C := RX2) (T := TX2) (N := 11) (n := 11) hts iw_2 (hts (.instantiable RX2 11) (by decide +kernel))
  obtain ⟨c3, s3, h3⟩ := u_known (C := RX3) (T := TX3) (N := 2) (n := 2) hts iw_3 (hts (.instantiable RX3 2) (by decide +kernel))
  obtain ⟨c4, s4, h4⟩ := u_known (C := RX4) (T := TX4) (N := 8) (n := 8) hts iw_4 (hts (.instantiable RX4 8) (by decide +kernel))
  obtain ⟨c5, s5, h5⟩ := u_known (C := RX5) (T := TX5) (N := 15) (n := 15) hts iw_5 (hts (.instantiable RX5 15) (by decide +kernel))
  obtain ⟨c6, s6, h6⟩ := u_known (C := RX6) (T := TX6) (N := 6) (n := 6) hts iw_6 (hts (.instantiable RX6 6) (by decide +kernel))
  obtain ⟨c7, s7, h7⟩ := u_known (C := RX7) (T := TX7) (N := 4) (n := 4) hts iw_7 (hts (.instantiable RX7 4) (by decide +kernel))
  obtain ⟨c8, s8, h8⟩ := u_known (C := RX8) (T := TX8) (N := 7) (n := 7) hts iw_8 (hts (.instantiable RX8 7) (by decide +kernel))
  obtain ⟨c9, s9, h9⟩ := u_known (C := RX9) (T := TX9) (N := 11) (n := 11) hts iw_9 (hts (.instantiable RX9 11) (by decide +kernel))
  obtain ⟨c10, s10, h10⟩ := u_known (C := RX10) (T := TX10) (N := 12) (n := 12) hts iw_10 (hts (.instantiable RX10 12) (by decide +kernel))
  obtain ⟨c11, s11, h11⟩ := u_known (C := RX11) (T := TX11) (N := 17) (n := 17) hts iw_11 (hts (.instantiable RX11 17) (by decide +kernel))
  obtain ⟨c12, s12, h12⟩ := u_known (C := RX12) (T := TX12) (N := 81) (n := 81) hts iw_12 (hts (.instantiable RX12 81) (by decide +kernel))
  refine ⟨fun k => if k = 0 then c0 else if k = 1 then c1 else if k = 2 then c2 else if k = 3 then c3 else if k = 4 then c4 else if k = 5 then c5 else if k = 6 then c6 else if k = 7 then c7 else if k = 8 then c8 else if k = 9 then c9 else if k = 10 then c10 else if k = 11 then c11 else c12, fun k => if k = 0 then s0 else if k = 1 then s1 else if k = 2 then s2 else if k = 3 then s3 else if k = 4 then s4 else if k = 5 then s5 else if k = 6 then s6 else if k = 7 then s7 else if k = 8 then s8 else if k = 9 then s9 else if k = 10 then s10 else if k = 11 then s11 else s12, ?_⟩
  intro k q hq
  match k, hq with
  | 0, hq => cases hq; exact h0
  | 1, hq => cases hq; exact h1
  | 2, hq => cases hq; exact h2
  | 3, hq => cases hq; exact h3
  | 4, hq => cases hq; exact h4
  | 5, hq => cases hq; exact h5
  | 6, hq => cases hq; exact h6
  | 7, hq => cases hq; exact h7
  | 8, hq => cases hq; exact h8
  | 9, hq => cases hq; exact h9
  | 10, hq => cases hq; exact h10
  | 11, hq => cases hq; exact h11
  | 12, hq => cases hq; exact h12
  | k + 13, hq => simp [vwCl] at hq

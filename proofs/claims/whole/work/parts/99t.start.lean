/-! the start's premises give the world's constants -/
set_option maxHeartbeats 200000 in
theorem gZ_of {args : Array Value} {s : State} {C n : String} {f : Nat → Int32} {A : Nat → Prop} (hl : (Cond.laysStatic C n "[I").before args s = true) (hini : (Cond.initialized C).before args s = true) (har : (Cond.arrayOf (.static C n "[I") .int).before args s = true) (hle : (Cond.eq (.length (.static C n "[I")) (.int 4)).before args s = true) (h0 : (Cond.eq (.elem (.static C n "[I") (.int 0)) (.int (f 0))).before args s = true) (h1 : (Cond.eq (.elem (.static C n "[I") (.int 1)) (.int (f 1))).before args s = true) (h2 : (Cond.eq (.elem (.static C n "[I") (.int 2)) (.int (f 2))).before args s = true) (h3 : (Cond.eq (.elem (.static C n "[I") (.int 3)) (.int (f 3))).before args s = true) (hA : ∀ a : Nat, a < s.heap.size → ¬ A a) : ∃ t : Nat, gZ1 C n t f A s s.heap := by
  obtain ⟨t, ht, hT⟩ := va_Tof (N := 4) (f := fun j => .int (f j)) (A := A) (by decide) har (va_eqt hle) (fun j hj => by
    rcases (show j = 0 ∨ j = 1 ∨ j = 2 ∨ j = 3 by omega) with rfl | rfl | rfl | rfl
    · exact va_eqt h0
    · exact va_eqt h1
    · exact va_eqt h2
    · exact va_eqt h3) hA
  exact ⟨t, va_Zof hl hini ht hA, hT⟩
set_option maxHeartbeats 200000 in
theorem gT_of {args : Array Value} {s : State} {tm : Term} {w : List Int32} {A : Nat → Prop} (hN : w.length < 2 ^ 31) (hex : (Cond.exactly tm "java/lang/String").before args s = true) (hco : (Cond.eq (.field tm "java/lang/String" "coder" "B") (.int 0)).before args s = true) (har : (Cond.arrayOf (.field tm "java/lang/String" "value" "[B") .byte).before args s = true) (hle : (Cond.eq (.length (.field tm "java/lang/String" "value" "[B")) (.int (Int32.ofNat w.length))).before args s = true) (hel : ∀ j : Nat, j < w.length → (Cond.eq (.elem (.field tm "java/lang/String" "value" "[B") (.int (Int32.ofNat j))) (.int (w.getD j 0))).before args s = true) (hA : ∀ a : Nat, a < s.heap.size → ¬ A a) : ∃ a v : Nat, tm.eval args s none [] s = some (.ref a) ∧ gT1 a v w A s s.heap := by
  obtain ⟨a, c, cA, kA, q1, q2, q3, q4, q5, q6, -⟩ := Cond.exactly_spec (args := args) (first := s) (o := none) (s := s) (idx := []) (t := tm) (cls := "java/lang/String") hex
  obtain ⟨t, ht, hT⟩ := va_Tof (f := fun j => .int (w.getD j 0)) (A := A) hN har (va_eqt hle) (fun j hj => va_eqt (hel j hj)) hA
  exact ⟨a, t, q1, va_Oof hex q1 hA, vk_OFof q1 (va_eqt hco) hA, vk_OFof q1 ht hA, hT⟩
set_option maxHeartbeats 1000000 in
set_option maxRecDepth 100000 in
theorem gZ_0 {b : Nat} {s : State} (hgv : (Jvm.Cond.and given_1 narrow_1).before #[Value.ref b] s = true) (hts : ∀ w ∈ lw_tbl, w.before #[Value.ref b] s = true) : ∃ t : Nat, gZ1 "GreyBoxes" "LEAST" t (stV (-20) 0 0 0) (fun q : Nat => s.heap.size ≤ q) s s.heap := by
  have hs := flat_of_before _ hgv
  exact gZ_of (hts _ (by decide +kernel)) (hts _ (by decide +kernel)) (hs _ (by decide +kernel)) (hs _ (by decide +kernel)) (hs _ (by decide +kernel)) (hs _ (by decide +kernel)) (hs _ (by decide +kernel)) (hs _ (by decide +kernel)) (fun a h => Nat.not_le.mpr h)
set_option maxHeartbeats 1000000 in
set_option maxRecDepth 100000 in
theorem gZ_1 {b : Nat} {s : State} (hgv : (Jvm.Cond.and given_1 narrow_1).before #[Value.ref b] s = true) (hts : ∀ w ∈ lw_tbl, w.before #[Value.ref b] s = true) : ∃ t : Nat, gZ1 "GreyBoxes" "MOST" t (stV 40 100 99 15) (fun q : Nat => s.heap.size ≤ q) s s.heap := by
  have hs := flat_of_before _ hgv
  exact gZ_of (hts _ (by decide +kernel)) (hts _ (by decide +kernel)) (hs _ (by decide +kernel)) (hs _ (by decide +kernel)) (hs _ (by decide +kernel)) (hs _ (by decide +kernel)) (hs _ (by decide +kernel)) (hs _ (by decide +kernel)) (fun a h => Nat.not_le.mpr h)
set_option maxHeartbeats 1000000 in
set_option maxRecDepth 100000 in
theorem gZ_2 {b : Nat} {s : State} (hgv : (Jvm.Cond.and given_1 narrow_1).before #[Value.ref b] s = true) (hts : ∀ w ∈ lw_tbl, w.before #[Value.ref b] s = true) : ∃ t : Nat, gZ1 "GreyBoxes$HillText" "PART_LEAST" t (stV (-5) 8 0 0) (fun q : Nat => s.heap.size ≤ q) s s.heap := by
  have hs := flat_of_before _ hgv
  exact gZ_of (hts _ (by decide +kernel)) (hts _ (by decide +kernel)) (hs _ (by decide +kernel)) (hs _ (by decide +kernel)) (hs _ (by decide +kernel)) (hs _ (by decide +kernel)) (hs _ (by decide +kernel)) (hs _ (by decide +kernel)) (fun a h => Nat.not_le.mpr h)
set_option maxHeartbeats 1000000 in
set_option maxRecDepth 100000 in
theorem gZ_3 {b : Nat} {s : State} (hgv : (Jvm.Cond.and given_1 narrow_1).before #[Value.ref b] s = true) (hts : ∀ w ∈ lw_tbl, w.before #[Value.ref b] s = true) : ∃ t : Nat, gZ1 "GreyBoxes$HillText" "PART_MOST" t (stV 5 12 2 3) (fun q : Nat => s.heap.size ≤ q) s s.heap := by
  have hs := flat_of_before _ hgv
  exact gZ_of (hts _ (by decide +kernel)) (hts _ (by decide +kernel)) (hs _ (by decide +kernel)) (hs _ (by decide +kernel)) (hs _ (by decide +kernel)) (hs _ (by decide +kernel)) (hs _ (by decide +kernel)) (hs _ (by decide +kernel)) (fun a h => Nat.not_le.mpr h)
set_option maxHeartbeats 1000000 in
set_option maxRecDepth 100000 in
theorem gT_0 {b : Nat} {s : State} (hgv : (Jvm.Cond.and given_1 narrow_1).before #[Value.ref b] s = true) (hts : ∀ w ∈ lw_tbl, w.before #[Value.ref b] s = true) : ∃ a v : Nat, (Term.string "GreyBoxes" 121).eval #[Value.ref b] s none [] s = some (.ref a) ∧ gT1 a v (sgB 0) (fun q : Nat => s.heap.size ≤ q) s s.heap := by
  have hs := flat_of_before _ hgv
  refine gT_of (by decide) (hs _ (by decide +kernel)) (hs _ (by decide +kernel)) (hs _ (by decide +kernel)) (hs _ (by decide +kernel)) (fun j hj => ?_) (fun a h => Nat.not_le.mpr h)
  have hj2 : j < 2 := hj
  rcases (show j = 0 ∨ j = 1 by omega) with rfl | rfl <;> exact hs _ (by decide +kernel)
set_option maxHeartbeats 1000000 in
set_option maxRecDepth 100000 in
theorem gT_1 {b : Nat} {s : State} (hgv : (Jvm.Cond.and given_1 narrow_1).before #[Value.ref b] s = true) (hts : ∀ w ∈ lw_tbl, w.before #[Value.ref b] s = true) : ∃ a v : Nat, (Term.string "GreyBoxes" 150).eval #[Value.ref b] s none [] s = some (.ref a) ∧ gT1 a v (sgB 1) (fun q : Nat => s.heap.size ≤ q) s s.heap := by
  have hs := flat_of_before _ hgv
  refine gT_of (by decide) (hs _ (by decide +kernel)) (hs _ (by decide +kernel)) (hs _ (by decide +kernel)) (hs _ (by decide +kernel)) (fun j hj => ?_) (fun a h => Nat.not_le.mpr h)
  have hj2 : j < 9 := hj
  rcases (show j = 0 ∨ j = 1 ∨ j = 2 ∨ j = 3 ∨ j = 4 ∨ j = 5 ∨ j = 6 ∨ j = 7 ∨ j = 8 by omega) with rfl | rfl | rfl | rfl | rfl | rfl | rfl | rfl | rfl <;> exact hs _ (by decide +kernel)
set_option maxHeartbeats 1000000 in
set_option maxRecDepth 100000 in
theorem gSW_of {b : Nat} {s : State} (hgv : (Jvm.Cond.and given_1 narrow_1).before #[Value.ref b] s = true) (hts : ∀ w ∈ lw_tbl, w.before #[Value.ref b] s = true) : ∃ a0 a1 a2 a3 a4 a5 a6 a7 : Nat, ∀ ad : Nat → Nat, ad 100 = a0 → ad 101 = a1 → ad 102 = a2 → ad 103 = a3 → ad 104 = a4 → ad 105 = a5 → ad 106 = a6 → ad 107 = a7 → gSW ad (fun q : Nat => s.heap.size ≤ q) s s.heap := by
  obtain ⟨a0, z0⟩ := gZ_0 hgv hts
  obtain ⟨a1, z1⟩ := gZ_1 hgv hts
  obtain ⟨a2, z2⟩ := gZ_2 hgv hts
  obtain ⟨a3, z3⟩ := gZ_3 hgv hts
  obtain ⟨a4, a6, x4, t4⟩ := gT_0 hgv hts
  obtain ⟨a5, a7, x5, t5⟩ := gT_1 hgv hts
  have hs := flat_of_before _ hgv
  refine ⟨a0, a1, a2, a3, a4, a5, a6, a7, fun ad e0 e1 e2 e3 e4 e5 e6 e7 => ⟨⟨by rw [e0]; exact z0, by rw [e1]; exact z1, by rw [e2]; exact z2, by rw [e3]; exact z3⟩, ⟨va_Nw.of rfl (hts _ (by decide +kernel)), va_Nw.of rfl (hts _ (by decide +kernel)), va_Nw.of rfl (hts _ (by decide +kernel))⟩, ⟨va_Zof (hts _ (by decide +kernel)) (hts _ (by decide +kernel)) (va_eqi (hs _ (by decide +kernel))) (fun a h => Nat.not_le.mpr h), fun z => ?_⟩, ⟨by rw [e4]; exact vk_R.of (A := #[Value.ref b]) (hts _ (by decide +kernel)) x4, by rw [e5]; exact vk_R.of (A := #[Value.ref b]) (hts _ (by decide +kernel)) x5⟩⟩⟩
  match z with
  | 0 => show gT1 (ad 104) (ad 106) (sgB 0) (fun q : Nat => s.heap.size ≤ q) s s.heap; rw [e4, e6]; exact t4
  | 1 => show gT1 (ad 105) (ad 107) (sgB 1) (fun q : Nat => s.heap.size ≤ q) s s.heap; rw [e5, e7]; exact t5

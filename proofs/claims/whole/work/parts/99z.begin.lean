/-! the world in which the two are made -/
def gSx (ad : Nat → Nat) (A : Nat → Prop) (s : State) (H : Heap) : Prop := gT1 (ad 108) (ad 109) wdB A s H ∧ vk_R "GreyBoxes$Tokens" 23 wdS (ad 108) s ∧ vk_R "GreyBoxes$Tokens" 13 ";-" (ad 110) s ∧ va_Z "jdk/internal/util/Preconditions" "SIOOBE_FORMATTER" "Ljava/util/function/BiFunction;" (rfv (ad 111)) A s H ∧ va_AO RX5 s
def gSB (ad : Nat → Nat) (A : Nat → Prop) (s : State) (H : Heap) : Prop := gSW ad A s H ∧ gSx ad A s H
def GB (D : va_G) (ad : Nat → Nat) (tc : Nat → ClassId) (A : Nat → Prop) : Wd := (D, ad, tc, A, gSB ad A)
set_option maxHeartbeats 200000 in
theorem okG_GB {D : va_G} {ad : Nat → Nat} {tc : Nat → ClassId} {A : Nat → Prop} : okG (GB D ad tc A) := by
  have hW := okG_GW (D := D) (ad := ad) (tc := tc) (A := A)
  refine ⟨fun s U H w h => ?_, fun s U H e h => ?_, fun U H H1 hs hq h => ?_⟩
  · have g : gSB ad A s H := h
    obtain ⟨g0, g1, g2, g3, g4, g5⟩ := g
    exact ⟨hW.1 s U H w g0, g1.mv w.alike, vk_R.warm w g2, vk_R.warm w g3, va_Z.moved w.alike g4, va_AO.moved w.alike g5⟩
  · have g : gSB ad A s H := h
    obtain ⟨g0, g1, g2, g3, g4, g5⟩ := g
    have hv : s.vm.Alike U.vm := by rw [e]; exact Vm.Alike.refl _
    exact ⟨hW.2.1 s U H e g0, g1.mv hv, vk_R.same e g2, vk_R.same e g3, va_Z.moved hv g4, va_AO.moved hv g5⟩
  · have g : gSB ad A U H := h
    have hq2 : ∀ a : Nat, a < H.size → ¬ A a → H1[a]? = H[a]? := hq
    obtain ⟨g0, g1, g2, g3, g4, g5⟩ := g
    exact ⟨hW.2.2 U H H1 hs hq g0, g1.kp hq2, g2, g3, g4.kept hq2, g5⟩
set_option maxHeartbeats 200000 in
theorem okWd_GB {D : va_G} {ad : Nat → Nat} {tc : Nat → ClassId} {A : Nat → Prop} : okWd (GB D ad tc A) := by
  intro s H h
  have g : gSB ad A s H := h
  obtain ⟨⟨-, -, ⟨g0, -⟩, -⟩, g1, g2, g3, g4, g5⟩ := g
  exact ⟨g0, g1, g2, g3, g4, g5⟩
set_option maxHeartbeats 200000 in
theorem gSB.nr {ad : Nat → Nat} {A B : Nat → Prop} {s : State} {H : Heap} (h : gSB ad A s H) (hAB : ∀ q, B q → A q) : gSB ad B s H := by
  obtain ⟨g0, g1, g2, g3, g4, g5⟩ := h
  exact ⟨g0.nr hAB, ⟨g1.1.narrow hAB, g1.2.1.narrow hAB, g1.2.2.1.narrow hAB, g1.2.2.2.narrow hAB⟩, g2, g3, g4.narrow hAB, g5⟩
/-- addresses: cells from a base on; the start's own texts and rows by their numbers -/
def cad (b0 : Nat) (f : Nat → Nat) : Nat → Nat := fun i => if i < 100 then b0 + i else f i
set_option maxHeartbeats 200000 in
theorem cad_lo {b0 i : Nat} {f : Nat → Nat} (h : i < 100) : cad b0 f i = b0 + i := if_pos h
set_option maxHeartbeats 200000 in
theorem cad_hi {b0 i : Nat} {f : Nat → Nat} (h : 100 ≤ i) : cad b0 f i = f i := if_neg (Nat.not_lt.mpr h)
set_option maxHeartbeats 200000 in
theorem okB_GB {D : va_G} {b0 : Nat} {f : Nat → Nat} {tc : Nat → ClassId} : okB (GB D (cad b0 f) tc (fun q => b0 ≤ q)) := by
  have h0 : gA (GB D (cad b0 f) tc (fun q => b0 ≤ q)) 0 = b0 := cad_lo (i := 0) (f := f) (by omega)
  refine ⟨fun i hi => ?_, fun q => ?_⟩
  · rw [h0]
    exact cad_lo (by omega)
  · rw [h0]
    exact Iff.rfl
set_option maxHeartbeats 200000 in
theorem rfv_of {v : Value} (h : v.isRef = true) : ∃ k, rfv k = v := by
  cases v with
  | null => exact ⟨0, rfl⟩
  | ref a => exact ⟨a + 1, rfl⟩
  | _ => cases h
/-- the letters of the words among the premises -/
def wdC (j : Nat) : Cond := Cond.eq (.elem (.field (.string "GreyBoxes$Tokens" 23) "java/lang/String" "value" "[B") (.int (Int32.ofNat j))) (.int (wdB.getD j 0))
set_option maxHeartbeats 4000000 in
set_option maxRecDepth 100000 in
theorem wdC_in : ∀ j : Fin 121, wdC j.val ∈ flatC (Jvm.Cond.and given_1 narrow_1) := by decide +kernel
set_option maxHeartbeats 1000000 in
set_option maxRecDepth 100000 in
theorem gSx_of {b : Nat} {s : State} (hgv : (Jvm.Cond.and given_1 narrow_1).before #[Value.ref b] s = true) (hts : ∀ w ∈ lw_tbl, w.before #[Value.ref b] s = true) : ∃ a8 a9 a10 a11 : Nat, ∀ ad : Nat → Nat, ad 108 = a8 → ad 109 = a9 → ad 110 = a10 → ad 111 = a11 → gSx ad (fun q : Nat => s.heap.size ≤ q) s s.heap := by
  have hs := flat_of_before _ hgv
  obtain ⟨a8, a9, x8, t8⟩ := gT_of (A := fun q : Nat => s.heap.size ≤ q) (tm := Term.string "GreyBoxes$Tokens" 23) (w := wdB) (by decide) (hs _ (by decide +kernel)) (hs _ (by decide +kernel)) (hs _ (by decide +kernel)) (hs _ (by decide +kernel)) (fun j hj => hs _ (wdC_in ⟨j, hj⟩)) (fun a h => Nat.not_le.mpr h)
  obtain ⟨a10, a12, x10, t10⟩ := gT_of (A := fun q : Nat => s.heap.size ≤ q) (tm := Term.string "GreyBoxes$Tokens" 13) (w := sgB 0) (by decide) (hs _ (by decide +kernel)) (hs _ (by decide +kernel)) (hs _ (by decide +kernel)) (hs _ (by decide +kernel)) (fun j hj => by
    have hj2 : j < 2 := hj
    rcases (show j = 0 ∨ j = 1 by omega) with rfl | rfl <;> exact hs _ (by decide +kernel)) (fun a h => Nat.not_le.mpr h)
  obtain ⟨v, hv, hr⟩ := Cond.isRef_spec (hs (Cond.isRef (.static "jdk/internal/util/Preconditions" "SIOOBE_FORMATTER" "Ljava/util/function/BiFunction;")) (by decide +kernel))
  obtain ⟨a11, e11⟩ := rfv_of hr
  refine ⟨a8, a9, a10, a11, fun ad e8 e9 e10 e12 => ⟨by rw [e8, e9]; exact t8, by rw [e8]; exact vk_R.of (A := #[Value.ref b]) (hts _ (by decide +kernel)) x8, by rw [e10]; exact vk_R.of (A := #[Value.ref b]) (hts _ (by decide +kernel)) x10, ?_, va_AO.of (A := #[Value.ref b]) (hts (.arrayOver (.object RX5)) (by decide +kernel))⟩⟩
  rw [e12, e11]
  exact va_Zof (hts _ (by decide +kernel)) (hts _ (by decide +kernel)) hv (fun a h => Nat.not_le.mpr h)
set_option maxHeartbeats 400000 in
theorem start_of {b : Nat} {s : State} (hgv : (Jvm.Cond.and given_1 narrow_1).before #[Value.ref b] s = true) (hts : ∀ w ∈ lw_tbl, w.before #[Value.ref b] s = true) : ∃ f : Nat → Nat, ∀ ad : Nat → Nat, (∀ i, 100 ≤ i → ad i = f i) → gSB ad (fun q : Nat => s.heap.size ≤ q) s s.heap := by
  obtain ⟨a0, a1, a2, a3, a4, a5, a6, a7, h1⟩ := gSW_of hgv hts
  obtain ⟨a8, a9, a10, a11, h2⟩ := gSx_of hgv hts
  refine ⟨fun i => [a0, a1, a2, a3, a4, a5, a6, a7, a8, a9, a10, a11].getD (i - 100) 0, fun ad h => ⟨h1 ad (h 100 (by omega)) (h 101 (by omega)) (h 102 (by omega)) (h 103 (by omega)) (h 104 (by omega)) (h 105 (by omega)) (h 106 (by omega)) (h 107 (by omega)), h2 ad (h 108 (by omega)) (h 109 (by omega)) (h 110 (by omega)) (h 111 (by omega))⟩⟩
set_option maxHeartbeats 400000 in
set_option maxRecDepth 100000 in
/-- the array classes, as the tables have them -/
theorem T_of {s : State} {args : Array Value} (hts : ∀ w ∈ lw_tbl, w.before args s = true) : ∃ tc : Nat → ClassId, ∀ (k : Nat) (q : ClassId × FieldType), ([(tc 1, .int), (tc 2, .long), (tc 3, .byte), (tc 4, .boolean), (tc 5, .object RX5)] : List (ClassId × FieldType))[k]? = some q → ArrOfT s q.1 q.2 ∧ va_RA s q.1 q.2 := by
  obtain ⟨c1, k1, m1, p1, p2, p3⟩ := Cond.arrayClass_spec (hts _ (wsG_tbl ac_int))
  obtain ⟨c2, k2, m2, q1, q2, q3⟩ := Cond.arrayClass_spec (hts _ (wsG_tbl ac_long))
  obtain ⟨c3, k3, m3, r1, r2, r3⟩ := Cond.arrayClass_spec (hts _ (wsG_tbl ac_byte))
  obtain ⟨c4, k4, m4, t1, t2, t3⟩ := Cond.arrayClass_spec (hts _ (wsG_tbl ac_boolean))
  obtain ⟨m5, c5, k5, u1, -, u3, u4, u5⟩ := Cond.arrayOver_spec (hts (.arrayOver (.object RX5)) (by decide +kernel))
  refine ⟨fun i => if i = 1 then c1 else if i = 2 then c2 else if i = 3 then c3 else if i = 4 then c4 else c5, fun k q hq => ?_⟩
  match k, hq with
  | 0, hq => cases hq; exact ⟨fun n z => ⟨fun k h => (by cases h), k1, p2, m1, p3⟩, p1⟩
  | 1, hq => cases hq; exact ⟨fun n z => ⟨fun k h => (by cases h), k2, q2, m2, q3⟩, q1⟩
  | 2, hq => cases hq; exact ⟨fun n z => ⟨fun k h => (by cases h), k3, r2, m3, r3⟩, r1⟩
  | 3, hq => cases hq; exact ⟨fun n z => ⟨fun k h => (by cases h), k4, t2, m4, t3⟩, t1⟩
  | 4, hq => cases hq; exact ⟨fun n z => ⟨fun k h => (by cases h), k5, u3, m5, u4⟩, ⟨k5, m5, u3, u4, u1, u5⟩⟩
  | k + 5, hq => simp at hq
/-! the law's own makings -/
section LMake
variable {p : Program} {l : Launch} {e : Env} {R : Room} {s : State} {m : MethodId} {args : Array Value} {below : List Frame} {meth : Method} {c : Code} {H H0 : Heap} {locs : List Loc} {cs sl : Nat} {Q : State → Prop} {cc : ByteArray} {pc : Nat} {la : Array Slot} {st : List Value} {G : Wd} {K : List Kd} {μ : Mem} {L : Lp} {n : Nat} {own : String}
set_option maxHeartbeats 400000 in
theorem LW_new {idx ci : Nat} {fs : List (Nat × Nat)} (hx : p.tables.exec = Jvm.exec) (hb : c.code = cc) (hown : s.vm.findClass own = some m.cls) (hts : ∀ w ∈ wsG, w.before args s = true) (hO : okB G) (hC : Cn own idx ci fs) (hk : K[n]? = some (0, ci, fs)) (h90 : K.length ≤ 90) (hB : NIv μ L n) (hK : va_K (gD G) vwCl (tyG G) s) (hP : va_P (gD G) vwCl (bcs G K μ L n) H) (hD : va_D (gP G) (bcs G K μ L n)) (hS : va_S (gP G) H0 H locs) (hA : ∀ q, H0.size ≤ q → gP G q) (hz : s.heap.size + cs = gA G 0 + n) (hc : cs + 1 ≤ R.cells) (hs : sl + fs.length ≤ R.slots) (hd : decode cc pc = .ok (.new idx, 3))
    (kk : ∀ H1 : Heap, va_P (gD G) vwCl (bcs G K μ L (n + 1)) H1 → va_D (gP G) (bcs G K μ L (n + 1)) → va_S (gP G) H0 H1 locs → H1.size = gA G 0 + (n + 1) → (∀ q, q < H.size → ¬ gP G q → H0.size ≤ q → H1[q]? = H[q]?) → W p l e R s m args below meth c H1 locs (cs + 1) (sl + fs.length) Q (F0 m (pc + 3) la (.ref (gA G n) :: st))) : W p l e R s m args below meth c H locs cs sl Q (F0 m pc la st) := by
  have hkl : n < K.length := (List.getElem?_eq_some_iff.mp hk).1
  obtain ⟨C, T, N, ty0, h1, h6, h7, h2, h3, h4, h5⟩ := hC
  have hN : fs.length = N := by
    have := congrArg List.length h7
    simpa using this
  refine va_new (D := gD G) (cl := vwCl) (tys := tyG G) (ci := ci) (fs := bvls G μ L n fs) hx hb hts h5 ty0 h6 hown (hts _ h2) (hts _ h3) (hts _ h4) hK hP hD hS hA h1 (bvls_new hB h7) hc (by rw [← hN]; exact hs) hd (fun q H1 hP1 hD1 hS1 => ?_)
  rw [← hN]
  refine W.sz (fun hz1 => ?_)
  have hq : q = gA G n := b_adr hO (by omega) h90 hP1 hD1 (by omega)
  rw [hq] at hP1 hD1 ⊢
  have ep := bcs_push (G := G) (μ := μ) (L := L) hk
  have hP2 : va_P (gD G) vwCl (bcs G K μ L (n + 1)) H1 := by rw [← ep]; exact hP1
  have hD2 : va_D (gP G) (bcs G K μ L (n + 1)) := by rw [← ep]; exact hD1
  have hsz : H1.size = gA G 0 + (n + 1) := b_size hO hP2 (by omega) (by omega) h90 (by omega)
  exact kk H1 hP2 hD2 hS1 hsz (fun q _ hng hge => absurd (hA q hge) hng)
set_option maxHeartbeats 400000 in
theorem LW_call {st0 rest : List Value} {a : Array Value} {mcy msy : Nat} {A0 : Nat → Prop} {Qy : Option Value → Mem → Lp → Nat → Prop} (hr : va_Run p l e R s m args below meth c H locs cs sl mcy msy (F0 m pc la st0) rest (Qb G K Qy a) (gP G)) (hS : va_S A0 H0 H locs) (hA : ∀ q, gP G q → A0 q)
    (kk : ∀ (r : Option Value) (μ' : Mem) (L' : Lp) (n' : Nat) (H1 : Heap) (locs1 : List Loc), Qy r μ' L' n' → va_P (gD G) vwCl (bcs G K μ' L' n') H1 → va_D (gP G) (bcs G K μ' L' n') → H1.size = gA G 0 + n' → H.size ≤ H1.size → (∀ q : Nat, q < H.size → ¬ gP G q → H1[q]? = H[q]?) → va_S A0 H0 H1 locs1 → W p l e R s m args below meth c H1 locs1 (cs + mcy) (sl + msy) Q (F0 m (pc + 3) la (r.toList ++ rest))) : W p l e R s m args below meth c H locs cs sl Q (F0 m pc la st0) := by
  intro T hT X
  obtain ⟨v, st₀, t, T', Lo, h0, X', hL, e1, e2, ⟨⟨r, μ', L', n', hv, hq, hw⟩, hz, hk⟩, stp⟩ := hr T hT X
  cases hv
  rw [h0] at hz hk
  obtain ⟨w1, w2, w3, w4, w5⟩ := hw
  obtain ⟨t2, a1, b1⟩ := kk v μ' L' n' T'.heap (locs ++ Lo) hq (by rw [e1]; exact w1) w2 (by rw [e1]; exact w4) (by rw [e1]; exact hz) (fun q h1 h2 => by rw [e1]; exact hk q h1 h2)
    ⟨Nat.le_trans hS.1 (by rw [e1]; exact hz), fun q h1 h2 => by rw [e1, hk q (Nat.lt_of_lt_of_le h1 hS.1) (fun z => h2 (hA q z))]; exact hS.2.1 q h1 h2, fun q hq => by
      rcases List.mem_append.mp hq with h | h
      · exact hS.2.2 q h
      · exact hA _ (hL q h)⟩ T' rfl X'
  exact ⟨t2, stp t2 a1, b1⟩
end LMake
set_option maxHeartbeats 200000 in
theorem bcs_0 {G : Wd} {K : List Kd} {μ : Mem} {L : Lp} : bcs G K μ L 0 = [] := rfl
/-- nothing written -/
def mz (g : Nat) : Mem := (fun _ _ => 0, fun _ _ => 0, g)
set_option maxHeartbeats 200000 in
theorem NIv_mz {g n : Nat} : NIv (mz g) [] n := ⟨fun z hz => absurd hz List.not_mem_nil, fun i _ => ⟨fun _ => rfl, fun _ => rfl⟩⟩
set_option maxHeartbeats 1000000 in
theorem mu0_eq {g : Nat} : wI (wI (wI (wI (wI (kmem (wI (mz g) 0 3 (-1)) (wdK.map e27)) 48 3 0) 53 3 1) 58 3 2) 63 3 3) 68 3 4 = mu0 g := by
  have h1 : (wI (wI (wI (wI (wI (kmem (wI (mz g) 0 3 (-1)) (wdK.map e27)) 48 3 0) 53 3 1) 58 3 2) 63 3 3) 68 3 4).1 = (mu0 g).1 := by
    funext i j
    show (if i = 68 ∧ j = 3 then (4 : Int32) else if i = 63 ∧ j = 3 then 3 else if i = 58 ∧ j = 3 then 2 else if i = 53 ∧ j = 3 then 1 else if i = 48 ∧ j = 3 then 0 else if i = 0 ∧ j = 3 then -1 else 0) = if i = 0 ∧ j = 3 then -1 else if 48 ≤ i ∧ i < 73 ∧ (i - 48) % 5 = 0 ∧ j = 3 then nI ((i - 48) / 5) else 0
    by_cases e3 : j = 3
    · by_cases c0 : i = 0
      · rw [if_neg (by omega), if_neg (by omega), if_neg (by omega), if_neg (by omega), if_neg (by omega), if_pos (by omega), if_pos (by omega)]
      · by_cases c1 : 48 ≤ i ∧ i < 73 ∧ (i - 48) % 5 = 0
        · rw [if_neg (c := i = 0 ∧ j = 3) (by omega), if_pos (c := 48 ≤ i ∧ i < 73 ∧ (i - 48) % 5 = 0 ∧ j = 3) (by omega)]
          rcases (show i = 48 ∨ i = 53 ∨ i = 58 ∨ i = 63 ∨ i = 68 by omega) with q | q | q | q | q
          · rw [q, if_neg (by omega), if_neg (by omega), if_neg (by omega), if_neg (by omega), if_pos (by omega), if_neg (by omega)]; decide
          · rw [q, if_neg (by omega), if_neg (by omega), if_neg (by omega), if_pos (by omega), if_neg (by omega)]; decide
          · rw [q, if_neg (by omega), if_neg (by omega), if_pos (by omega), if_neg (by omega)]; decide
          · rw [q, if_neg (by omega), if_pos (by omega), if_neg (by omega)]; decide
          · rw [q, if_pos (by omega), if_neg (by omega)]; decide
        · rw [if_neg (by omega), if_neg (by omega), if_neg (by omega), if_neg (by omega), if_neg (by omega), if_neg (by omega), if_neg (by omega), if_neg (by omega)]
    · rw [if_neg (by omega), if_neg (by omega), if_neg (by omega), if_neg (by omega), if_neg (by omega), if_neg (by omega), if_neg (by omega), if_neg (by omega)]
  have h2 : (wI (wI (wI (wI (wI (kmem (wI (mz g) 0 3 (-1)) (wdK.map e27)) 48 3 0) 53 3 1) 58 3 2) 63 3 3) 68 3 4).2.1 = (mu0 g).2.1 := by
    funext i j
    show (if i = 3 then (wdK.map e27).getD j 0 else 0) = if i = 3 then e27 (wdK.getD j []) else 0
    by_cases e3 : i = 3
    · rw [if_pos e3, if_pos e3, List.getD_eq_getElem?_getD, List.getD_eq_getElem?_getD, List.getElem?_map]
      cases wdK[j]? with
      | none => rfl
      | some z => rfl
    · rw [if_neg e3, if_neg e3]
  exact Prod.ext h1 (Prod.ext h2 rfl)
set_option maxHeartbeats 200000 in
theorem sg0_eq : wI (mz 0) 0 3 (-1) = sg0 := rfl


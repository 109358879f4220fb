/-! THE CLAIM OUT OF ONE WALK OF THE LAW'S BODY. Your part is whole_start (and what it stands on); all else here is the same for every law, but numbers. -/
def R_law : String := "GreyBoxesLaw"
def lw_P (b : Addr) (xs : List Int32) (args : Array Value) (s : State) : Prop := args = #[.ref b] ∧ s.IntsAt b xs ∧ xs.length ≤ 3072 ∧ (Jvm.Cond.and given_1 narrow_1).before args s = true
def lw_Q (_ : Array Value) (s : State) (o : Outcome) (t : State) : Prop := o = .returned (some (.int 1)) ∧ Framed s o t [] 600000 7302250
def lw_Z (below : List Frame) (a : Array Value) (s : State) : State → Prop := fun t => ∃ o, t.status = .running ∧ Ended t below o ∧ lw_Q a s o t
/-- the law's own end, with 1 on the stack, nothing written that was there before, its room as the claim has it -/
theorem lw_ret {p : Program} {l : Launch} {e : Env} {s : State} {m : MethodId} {below : List Frame} {meth : Method} {c : Code} {b : Nat} (hx : p.tables.exec = Jvm.exec) (hb : c.code = code) (hr : meth.sig.returnType = ret) (hlocks : meth.locks = false) {pc : Nat} {H : Heap} {ls : Array Slot} (hdg : decode code pc = .ok (.ireturn, 1)) : W p l e room_1 s m #[Value.ref b] below meth c H [] 600000 7302250 (lw_Z below #[Value.ref b] s) (F0 m pc ls [.int 1]) := by
  intro T hT X
  obtain ⟨fs, hret, hrun, hended, hW, hframe⟩ := X.leave (v := some (.int 1)) (hlocks := hlocks) (fun h => by rw [hr] at h; cases h)
  have hmeth' : T.vm.method? m = some meth := X.method'
  refine ⟨T.setFrames fs, ?_, .returned (some (.int 1)), hrun, hended, rfl, ⟨_, rfl⟩, hW, hframe⟩
  jvm_step X.here [X.here.top, hx, hb, hdg, hmeth', hr, ret, narrow_b1]
  (try refine ⟨rfl, ?_⟩); (try refine ⟨rfl, ?_⟩)
  first | (intro acts; rw [hret _ acts rfl rfl rfl]) | rw [hret _ _ rfl rfl rfl]
  exact Steps.refl _
/-- what holds at the law's entry: the machine, the code, the tables' words (any of lw_tbl by 'hts w (by decide +kernel)'), the script of L ints xs at the cell b, what the Statement gives of the start (any of its parts by flat_of_before) -/
def lw_At (p : Program) (s : State) (m : MethodId) (meth : Method) (c : Code) (b L : Nat) (xs : Nat → Int32) : Prop :=
  p.tables.exec = Jvm.exec ∧ c.code = code ∧ meth.sig.returnType = ret ∧ c.maxLocals = 4 ∧ s.vm.findClass R_law = some m.cls ∧ (∀ w ∈ lw_tbl, w.before #[Value.ref b] s = true) ∧ va_X b L xs s s.heap ∧ b < s.heap.size ∧ meth.locks = false ∧ (Jvm.Cond.and given_1 narrow_1).before #[Value.ref b] s = true
/-! the law's own walk: the two worlds, the script, the place in it -/
def LH (p : Program) (s : State) (m : MethodId) (meth : Method) (c : Code) (b L : Nat) (xs : Nat → Int32) (G M : Wd) : Prop := lw_At p s m meth c b L xs ∧ En G s ∧ En M s ∧ (∀ q, gP G q → s.heap.size ≤ q) ∧ (∀ q, gP M q → s.heap.size ≤ q) ∧ ∀ q, gP G q → ¬ gP M q
def AL (l : Launch) (p : Program) (e : Env) (s : State) (m : MethodId) (below : List Frame) (meth : Method) (c : Code) (b : Nat) (G M : Wd) (pc : Nat) (x : Int32) (st : List Value) (μ τ : Mem) : Prop :=
  ∀ (H : Heap) (locs : List Loc) (la : Array Slot), va_P (gD G) vwCl (cells G KC μ) H → va_D (gP G) (cells G KC μ) → va_P (gD M) vwCl (cells M KM τ) H → va_D (gP M) (cells M KM τ) → va_S (fun q : Nat => s.heap.size ≤ q) s.heap H locs → lrel 4 [some (.ref b), some (.ref (gA G 0)), some (.ref (gA M 0)), some (.int x)] la →
    W p l e room_1 s m #[Value.ref b] below meth c H locs 600000 7302250 (lw_Z below #[Value.ref b] s) (F0 m pc la st)
section LRules
variable {l : Launch} {p : Program} {e : Env} {s : State} {m : MethodId} {below : List Frame} {meth : Method} {c : Code} {b L : Nat} {xs : Nat → Int32} {G M : Wd} {pc : Nat} {x : Int32} {st : List Value} {μ τ : Mem}
set_option maxHeartbeats 200000 in
theorem L_iadd {u v : Int32} (h0 : LH p s m meth c b L xs G M) (hd : decode code pc = .ok (.iadd, 1)) (k : AL l p e s m below meth c b G M (pc + 1) x (.int (u + v) :: st) μ τ) : AL l p e s m below meth c b G M pc x (.int v :: .int u :: st) μ τ := by
  intro H locs la h1 h2 h3 h4 h5 h6
  obtain ⟨⟨hx, hb, hr, hml, hown, hts, hX, hbl, hlocks, hgv⟩, -⟩ := h0
  exact lv_iadd hx hb hd (k H locs la h1 h2 h3 h4 h5 h6)
set_option maxHeartbeats 200000 in
theorem L_isub {u v : Int32} (h0 : LH p s m meth c b L xs G M) (hd : decode code pc = .ok (.isub, 1)) (k : AL l p e s m below meth c b G M (pc + 1) x (.int (u - v) :: st) μ τ) : AL l p e s m below meth c b G M pc x (.int v :: .int u :: st) μ τ := by
  intro H locs la h1 h2 h3 h4 h5 h6
  obtain ⟨⟨hx, hb, hr, hml, hown, hts, hX, hbl, hlocks, hgv⟩, -⟩ := h0
  exact lv_isub hx hb hd (k H locs la h1 h2 h3 h4 h5 h6)
set_option maxHeartbeats 200000 in
theorem L_iand {u v : Int32} (h0 : LH p s m meth c b L xs G M) (hd : decode code pc = .ok (.iand, 1)) (k : AL l p e s m below meth c b G M (pc + 1) x (.int (u &&& v) :: st) μ τ) : AL l p e s m below meth c b G M pc x (.int v :: .int u :: st) μ τ := by
  intro H locs la h1 h2 h3 h4 h5 h6
  obtain ⟨⟨hx, hb, hr, hml, hown, hts, hX, hbl, hlocks, hgv⟩, -⟩ := h0
  exact lv_iand hx hb hd (k H locs la h1 h2 h3 h4 h5 h6)
set_option maxHeartbeats 200000 in
theorem L_lcmp {u v : Int64} (h0 : LH p s m meth c b L xs G M) (hd : decode code pc = .ok (.lcmp, 1)) (k : AL l p e s m below meth c b G M (pc + 1) x (.int (lg_cmp u v) :: st) μ τ) : AL l p e s m below meth c b G M pc x (.long v :: .long u :: st) μ τ := by
  intro H locs la h1 h2 h3 h4 h5 h6
  obtain ⟨⟨hx, hb, hr, hml, hown, hts, hX, hbl, hlocks, hgv⟩, -⟩ := h0
  exact W.lcmp hx hb hd (k H locs la h1 h2 h3 h4 h5 h6)
set_option maxHeartbeats 200000 in
theorem L_a0  (h0 : LH p s m meth c b L xs G M) (hd : decode code pc = .ok (.aload_n 0, 1)) (k : AL l p e s m below meth c b G M (pc + 1) x (.ref b :: st) μ τ) : AL l p e s m below meth c b G M pc x st μ τ := by
  intro H locs la h1 h2 h3 h4 h5 h6
  obtain ⟨⟨hx, hb, hr, hml, hown, hts, hX, hbl, hlocks, hgv⟩, -⟩ := h0
  exact lv_aload_n (i := 0) hx hb hd rfl (h6.2.2 0 _ rfl) (k H locs la h1 h2 h3 h4 h5 h6)
set_option maxHeartbeats 200000 in
theorem L_a1  (h0 : LH p s m meth c b L xs G M) (hd : decode code pc = .ok (.aload_n 1, 1)) (k : AL l p e s m below meth c b G M (pc + 1) x (.ref (gA G 0) :: st) μ τ) : AL l p e s m below meth c b G M pc x st μ τ := by
  intro H locs la h1 h2 h3 h4 h5 h6
  obtain ⟨⟨hx, hb, hr, hml, hown, hts, hX, hbl, hlocks, hgv⟩, -⟩ := h0
  exact lv_aload_n (i := 1) hx hb hd rfl (h6.2.2 1 _ rfl) (k H locs la h1 h2 h3 h4 h5 h6)
set_option maxHeartbeats 200000 in
theorem L_a2  (h0 : LH p s m meth c b L xs G M) (hd : decode code pc = .ok (.aload_n 2, 1)) (k : AL l p e s m below meth c b G M (pc + 1) x (.ref (gA M 0) :: st) μ τ) : AL l p e s m below meth c b G M pc x st μ τ := by
  intro H locs la h1 h2 h3 h4 h5 h6
  obtain ⟨⟨hx, hb, hr, hml, hown, hts, hX, hbl, hlocks, hgv⟩, -⟩ := h0
  exact lv_aload_n (i := 2) hx hb hd rfl (h6.2.2 2 _ rfl) (k H locs la h1 h2 h3 h4 h5 h6)
set_option maxHeartbeats 200000 in
theorem L_i3  (h0 : LH p s m meth c b L xs G M) (hd : decode code pc = .ok (.iload_n 3, 1)) (k : AL l p e s m below meth c b G M (pc + 1) x (.int x :: st) μ τ) : AL l p e s m below meth c b G M pc x st μ τ := by
  intro H locs la h1 h2 h3 h4 h5 h6
  obtain ⟨⟨hx, hb, hr, hml, hown, hts, hX, hbl, hlocks, hgv⟩, -⟩ := h0
  exact lv_iload_n (i := 3) hx hb hd rfl (h6.2.2 3 _ rfl) (k H locs la h1 h2 h3 h4 h5 h6)
set_option maxHeartbeats 200000 in
theorem L_len  (h0 : LH p s m meth c b L xs G M) (hd : decode code pc = .ok (.arraylength, 1)) (k : AL l p e s m below meth c b G M (pc + 1) x (.int (Int32.ofNat L) :: st) μ τ) : AL l p e s m below meth c b G M pc x (.ref b :: st) μ τ := by
  intro H locs la h1 h2 h3 h4 h5 h6
  obtain ⟨⟨hx, hb, hr, hml, hown, hts, hX, hbl, hlocks, hgv⟩, -⟩ := h0
  exact va_slen hx hb hX hbl (Nat.not_le.mpr hbl) h5 hd (k H locs la h1 h2 h3 h4 h5 h6)
set_option maxHeartbeats 200000 in
theorem L_sld {i : Int32} (h0 : LH p s m meth c b L xs G M) (hd : decode code pc = .ok (.iaload, 1)) (hin : vp_in i L) (k : AL l p e s m below meth c b G M (pc + 1) x (.int (xs i.toNatClampNeg) :: st) μ τ) : AL l p e s m below meth c b G M pc x (.int i :: .ref b :: st) μ τ := by
  intro H locs la h1 h2 h3 h4 h5 h6
  obtain ⟨⟨hx, hb, hr, hml, hown, hts, hX, hbl, hlocks, hgv⟩, -⟩ := h0
  exact va_sld hx hb hX hbl (Nat.not_le.mpr hbl) h5 hin hd (k H locs la h1 h2 h3 h4 h5 h6)
set_option maxHeartbeats 200000 in
theorem L_goto {off : Int} {tgt : Nat} (h0 : LH p s m meth c b L xs G M) (hd : decode code pc = .ok (.goto off, 3)) (ht : (pc : Int) + off = (tgt : Int)) (k : AL l p e s m below meth c b G M tgt x st μ τ) : AL l p e s m below meth c b G M pc x st μ τ := by
  intro H locs la h1 h2 h3 h4 h5 h6
  obtain ⟨⟨hx, hb, hr, hml, hown, hts, hX, hbl, hlocks, hgv⟩, -⟩ := h0
  exact lv_goto hx hb hd ht (k H locs la h1 h2 h3 h4 h5 h6)
set_option maxHeartbeats 200000 in
theorem L_icmp_gt {u v : Int32} {off : Int} {tgt : Nat} (h0 : LH p s m meth c b L xs G M) (hd : decode code pc = .ok (.if_icmp .gt off, 3)) (ht : (pc : Int) + off = (tgt : Int)) (kt : v < u → AL l p e s m below meth c b G M tgt x st μ τ) (kf : ¬ (v < u) → AL l p e s m below meth c b G M (pc + 3) x st μ τ) : AL l p e s m below meth c b G M pc x (.int v :: .int u :: st) μ τ := by
  intro H locs la h1 h2 h3 h4 h5 h6
  obtain ⟨⟨hx, hb, hr, hml, hown, hts, hX, hbl, hlocks, hgv⟩, -⟩ := h0
  exact lv_icmp_gt hx hb hd ht (fun h => kt h H locs la h1 h2 h3 h4 h5 h6) (fun h => kf h H locs la h1 h2 h3 h4 h5 h6)
set_option maxHeartbeats 200000 in
theorem L_icmp_eq {u v : Int32} {off : Int} {tgt : Nat} (h0 : LH p s m meth c b L xs G M) (hd : decode code pc = .ok (.if_icmp .eq off, 3)) (ht : (pc : Int) + off = (tgt : Int)) (kt : u = v → AL l p e s m below meth c b G M tgt x st μ τ) (kf : ¬ (u = v) → AL l p e s m below meth c b G M (pc + 3) x st μ τ) : AL l p e s m below meth c b G M pc x (.int v :: .int u :: st) μ τ := by
  intro H locs la h1 h2 h3 h4 h5 h6
  obtain ⟨⟨hx, hb, hr, hml, hown, hts, hX, hbl, hlocks, hgv⟩, -⟩ := h0
  exact lv_icmp_eq hx hb hd ht (fun h => kt h H locs la h1 h2 h3 h4 h5 h6) (fun h => kf h H locs la h1 h2 h3 h4 h5 h6)
set_option maxHeartbeats 200000 in
theorem L_if_eq {u : Int32} {off : Int} {tgt : Nat} (h0 : LH p s m meth c b L xs G M) (hd : decode code pc = .ok (.ifCond .eq off, 3)) (ht : (pc : Int) + off = (tgt : Int)) (kt : u = 0 → AL l p e s m below meth c b G M tgt x st μ τ) (kf : ¬ (u = 0) → AL l p e s m below meth c b G M (pc + 3) x st μ τ) : AL l p e s m below meth c b G M pc x (.int u :: st) μ τ := by
  intro H locs la h1 h2 h3 h4 h5 h6
  obtain ⟨⟨hx, hb, hr, hml, hown, hts, hX, hbl, hlocks, hgv⟩, -⟩ := h0
  exact lv_if_eq hx hb hd ht (fun h => kt h H locs la h1 h2 h3 h4 h5 h6) (fun h => kf h H locs la h1 h2 h3 h4 h5 h6)
set_option maxHeartbeats 200000 in
theorem L_iconst {n : Int} {v : Int32} (h0 : LH p s m meth c b L xs G M) (hd : decode code pc = .ok (.iconst n, 1)) (hv : Int32.ofInt n = v) (k : AL l p e s m below meth c b G M (pc + 1) x (.int v :: st) μ τ) : AL l p e s m below meth c b G M pc x st μ τ := by
  intro H locs la h1 h2 h3 h4 h5 h6
  obtain ⟨⟨hx, hb, hr, hml, hown, hts, hX, hbl, hlocks, hgv⟩, -⟩ := h0
  exact lv_iconst hx hb hd hv (k H locs la h1 h2 h3 h4 h5 h6)
set_option maxHeartbeats 200000 in
theorem L_bipush {n : Int} {v : Int32} (h0 : LH p s m meth c b L xs G M) (hd : decode code pc = .ok (.bipush n, 2)) (hv : (Int8.ofInt n).toInt32 = v) (k : AL l p e s m below meth c b G M (pc + 2) x (.int v :: st) μ τ) : AL l p e s m below meth c b G M pc x st μ τ := by
  intro H locs la h1 h2 h3 h4 h5 h6
  obtain ⟨⟨hx, hb, hr, hml, hown, hts, hX, hbl, hlocks, hgv⟩, -⟩ := h0
  exact lv_bipush hx hb hd hv (k H locs la h1 h2 h3 h4 h5 h6)
set_option maxHeartbeats 200000 in
theorem L_ret (h0 : LH p s m meth c b L xs G M) (hd : decode code pc = .ok (.ireturn, 1)) : AL l p e s m below meth c b G M pc x [.int 1] μ τ := by
  intro H locs la h1 h2 h3 h4 h5 h6
  obtain ⟨⟨hx, hb, hr, hml, hown, hts, hX, hbl, hlocks, hgv⟩, -⟩ := h0
  refine va_forget (fun q hq => h5.2.2 q hq) ?_
  exact lw_ret hx hb hr hlocks hd
set_option maxHeartbeats 200000 in
theorem L_invC {y : MethodName} {cy : ByteArray} {nLy dy n ci idx : Nat} {rty : Option FieldType} {As rest : List Value} {Qy : Option Value → Mem → Prop} (h0 : LH p s m meth c b L xs G M) (hM : Mt l G KC y cy nLy rty dy (.ref (gA G 0) :: As) μ Qy) (hL : Cond.methodLink R_law idx y ∈ wsG) (hY : Yv y cy nLy rty n) (hrec : oc KC 0 = some ci) (hcl : (vwCl[ci]?).map (fun z => z.1) = some y.cls) (hn : As.length = n) (hdep : dy ≤ 100) (hW : (rest.map fun v => v.category).sum ≤ 8) (hd : decode code pc = .ok (.invokevirtual idx, 3))
    (kk : ∀ (r : Option Value) (μ' : Mem), Qy r μ' → AL l p e s m below meth c b G M (pc + 3) x (r.toList ++ rest) μ' τ) : AL l p e s m below meth c b G M pc x (As.reverse ++ .ref (gA G 0) :: rest) μ τ := by
  intro H locs la h1 h2 h3 h4 h5 h6
  obtain ⟨⟨hx, hb, hr, hml, hown, hts0, hX, hbl, hlocks, hgv⟩, hE, hE2, hGA, hMA, hGM⟩ := h0
  have hts : ∀ w ∈ wsG, w.before #[Value.ref b] s = true := fun w hw => hts0 w (wsG_tbl hw)
  obtain ⟨y1, y2, y3, y4, y5, y6⟩ := hY
  obtain ⟨fs, hk⟩ := oc_spec hrec
  have hS : va_S (gP G) s.heap H [] := ⟨h5.1, fun q a1 _ => h5.2.1 q a1 (Nat.not_le.mpr a1), fun _ h => by cases h⟩
  have hrecv : ∃ cell : Cell, H[gA G 0]? = some cell ∧ cell.vm.isStatics = false ∧ s.vm.findClass y.cls = some cell.cls := by
    cases hq : vwCl[ci]? with
    | none => rw [hq] at hcl; cases hcl
    | some q =>
      rw [hq] at hcl
      have e0 : q.1 = y.cls := Option.some.inj hcl
      rw [← e0]
      exact va_recv hE.1 h1 hq (cells_at hk)
  have hroom : (rmd dy).frames + 1 ≤ room_1.frames ∧ 8 + (nLy + 11) + (rmd dy).locals ≤ room_1.locals := by
    constructor
    · show dy + 1 ≤ 2048
      omega
    · show 8 + (nLy + 11) + 80 * dy ≤ 84000
      omega
  intro T hT X
  obtain ⟨v, st₀, t, T', Lc, e0, X', hLc, e1, e2, ⟨⟨r, m2, hv, hq, hw⟩, hz, hk1⟩, stp⟩ := va_runV (C := y.cls) (As := As) (rest := rest) ⟨hx, hb, hml, hown, hts⟩ hM ⟨callB_of n hts (wsG_goodIn y4) rfl rfl rfl (hts _ y3) (hts _ hL) y5 hroom, hts _ y1, hts _ y2⟩ ⟨Wl.blind, hrecv, fun U hU hWU => ⟨rfl, Wl.to h1 h2 hE hS hU hWU⟩⟩ rfl hn h6.1 rfl (lv_room hW) hd ⟨Nat.le_refl _, Nat.le_refl _⟩ T hT X
  cases hv
  rw [e0] at hz hk1
  have hP1 : va_P (gD G) vwCl (cells G KC m2) T'.heap := by rw [e1]; exact hw.1
  have hP2 : va_P (gD M) vwCl (cells M KM τ) T'.heap := h3.kept (fun k q hq2 => by
    rw [e1]
    exact hk1 q.1 (va_at.lt (h3 k q hq2)) (fun z => hGM _ z (h4.2 k q hq2)))
  have hS2 : va_S (fun q : Nat => s.heap.size ≤ q) s.heap T'.heap (locs ++ Lc) := ⟨Nat.le_trans h5.1 (by rw [e1]; exact hz), fun q a1 a2 => by rw [e1, hk1 q (Nat.lt_of_lt_of_le a1 h5.1) (fun z => a2 (hGA q z))]; exact h5.2.1 q a1 a2, fun q hq3 => by
    rcases List.mem_append.mp hq3 with h | h
    · exact h5.2.2 q h
    · exact hGA _ (hLc q h)⟩
  obtain ⟨t2, a1, b1⟩ := kk v m2 hq T'.heap (locs ++ Lc) la hP1 hw.2.1 hP2 h4 hS2 h6 T' rfl X'
  exact ⟨t2, stp t2 a1, b1⟩
set_option maxHeartbeats 200000 in
theorem L_invM {y : MethodName} {cy : ByteArray} {nLy dy n ci idx : Nat} {rty : Option FieldType} {As rest : List Value} {Qy : Option Value → Mem → Prop} (h0 : LH p s m meth c b L xs G M) (hM : Mt l M KM y cy nLy rty dy (.ref (gA M 0) :: As) τ Qy) (hL : Cond.methodLink R_law idx y ∈ wsG) (hY : Yv y cy nLy rty n) (hrec : oc KM 0 = some ci) (hcl : (vwCl[ci]?).map (fun z => z.1) = some y.cls) (hn : As.length = n) (hdep : dy ≤ 100) (hW : (rest.map fun v => v.category).sum ≤ 8) (hd : decode code pc = .ok (.invokevirtual idx, 3))
    (kk : ∀ (r : Option Value) (τ' : Mem), Qy r τ' → AL l p e s m below meth c b G M (pc + 3) x (r.toList ++ rest) μ τ') : AL l p e s m below meth c b G M pc x (As.reverse ++ .ref (gA M 0) :: rest) μ τ := by
  intro H locs la h1 h2 h3 h4 h5 h6
  obtain ⟨⟨hx, hb, hr, hml, hown, hts0, hX, hbl, hlocks, hgv⟩, hE, hE2, hGA, hMA, hGM⟩ := h0
  have hts : ∀ w ∈ wsG, w.before #[Value.ref b] s = true := fun w hw => hts0 w (wsG_tbl hw)
  obtain ⟨y1, y2, y3, y4, y5, y6⟩ := hY
  obtain ⟨fs, hk⟩ := oc_spec hrec
  have hS : va_S (gP M) s.heap H [] := ⟨h5.1, fun q a1 _ => h5.2.1 q a1 (Nat.not_le.mpr a1), fun _ h => by cases h⟩
  have hrecv : ∃ cell : Cell, H[gA M 0]? = some cell ∧ cell.vm.isStatics = false ∧ s.vm.findClass y.cls = some cell.cls := by
    cases hq : vwCl[ci]? with
    | none => rw [hq] at hcl; cases hcl
    | some q =>
      rw [hq] at hcl
      have e0 : q.1 = y.cls := Option.some.inj hcl
      rw [← e0]
      exact va_recv hE2.1 h3 hq (cells_at hk)
  have hroom : (rmd dy).frames + 1 ≤ room_1.frames ∧ 8 + (nLy + 11) + (rmd dy).locals ≤ room_1.locals := by
    constructor
    · show dy + 1 ≤ 2048
      omega
    · show 8 + (nLy + 11) + 80 * dy ≤ 84000
      omega
  intro T hT X
  obtain ⟨v, st₀, t, T', Lc, e0, X', hLc, e1, e2, ⟨⟨r, m2, hv, hq, hw⟩, hz, hk1⟩, stp⟩ := va_runV (C := y.cls) (As := As) (rest := rest) ⟨hx, hb, hml, hown, hts⟩ hM ⟨callB_of n hts (wsG_goodIn y4) rfl rfl rfl (hts _ y3) (hts _ hL) y5 hroom, hts _ y1, hts _ y2⟩ ⟨Wl.blind, hrecv, fun U hU hWU => ⟨rfl, Wl.to h3 h4 hE2 hS hU hWU⟩⟩ rfl hn h6.1 rfl (lv_room hW) hd ⟨Nat.le_refl _, Nat.le_refl _⟩ T hT X
  cases hv
  rw [e0] at hz hk1
  have hP1 : va_P (gD M) vwCl (cells M KM m2) T'.heap := by rw [e1]; exact hw.1
  have hP2 : va_P (gD G) vwCl (cells G KC μ) T'.heap := h1.kept (fun k q hq2 => by
    rw [e1]
    exact hk1 q.1 (va_at.lt (h1 k q hq2)) (fun z => hGM _ (h2.2 k q hq2) z))
  have hS2 : va_S (fun q : Nat => s.heap.size ≤ q) s.heap T'.heap (locs ++ Lc) := ⟨Nat.le_trans h5.1 (by rw [e1]; exact hz), fun q a1 a2 => by rw [e1, hk1 q (Nat.lt_of_lt_of_le a1 h5.1) (fun z => a2 (hMA q z))]; exact h5.2.1 q a1 a2, fun q hq3 => by
    rcases List.mem_append.mp hq3 with h | h
    · exact h5.2.2 q h
    · exact hMA _ (hLc q h)⟩
  obtain ⟨t2, a1, b1⟩ := kk v m2 hq T'.heap (locs ++ Lc) la hP2 h2 hP1 hw.2.1 hS2 h6 T' rfl X'
  exact ⟨t2, stp t2 a1, b1⟩
set_option maxHeartbeats 200000 in
theorem L_iinc {n : Int} {v : Int32} (h0 : LH p s m meth c b L xs G M) (hd : decode code pc = .ok (.iinc 3 n, 3)) (hv : x + Int32.ofInt n = v) (k : AL l p e s m below meth c b G M (pc + 3) v st μ τ) : AL l p e s m below meth c b G M pc x st μ τ := by
  intro H locs la h1 h2 h3 h4 h5 h6
  obtain ⟨⟨hx, hb, hr, hml, hown, hts, hX, hbl, hlocks, hgv⟩, -⟩ := h0
  obtain ⟨q, hq⟩ := List.getElem?_of_mem (prs_mem.mpr (show ([some (.ref b), some (.ref (gA G 0)), some (.ref (gA M 0)), some (Value.int x)] : List (Option Value))[3]? = some (some (.int x)) from rfl))
  refine lv_iinc hx hb hd h6.has hq hv (by decide) rfl (fun la2 hl2 => ?_)
  exact k H locs la2 h1 h2 h3 h4 h5 (lrel.set1 hl2 (isLp (i := 2) rfl rfl))
set_option maxHeartbeats 200000 in
theorem L_tab {u : Int32} {dflt lo hi : Int} {offs : Array Int} {len : Nat} {off : Int} {tgt : Nat} (h0 : LH p s m meth c b L xs G M) (hd : decode code pc = .ok (.tableswitch dflt lo hi offs, len)) (g1 : ¬ u.toInt < lo) (g2 : ¬ hi < u.toInt) (ho : offs[(u.toInt - lo).toNat]? = some off) (ht : (pc : Int) + off = (tgt : Int)) (k : AL l p e s m below meth c b G M tgt x st μ τ) : AL l p e s m below meth c b G M pc x (.int u :: st) μ τ := by
  intro H locs la h1 h2 h3 h4 h5 h6
  obtain ⟨⟨hx, hb, hr, hml, hown, hts, hX, hbl, hlocks, hgv⟩, -⟩ := h0
  exact lv_tableIn hx hb hd g1 g2 ho ht (k H locs la h1 h2 h3 h4 h5 h6)
set_option maxHeartbeats 200000 in
/-- an argument out of the script: at i + a -/
theorem L_arg {i a : Nat} {n : Int} (h0 : LH p s m meth c b L xs G M) (hL : L ≤ 3072) (hi : i + a < L) (hx : x = nI i) (ha : Int32.ofInt n = nI a) (hd0 : decode code pc = .ok (.aload_n 0, 1)) (hd1 : decode code (pc + 1) = .ok (.iload_n 3, 1)) (hd2 : decode code (pc + 2) = .ok (.iconst n, 1)) (hd3 : decode code (pc + 3) = .ok (.iadd, 1)) (hd4 : decode code (pc + 4) = .ok (.iaload, 1)) (k : AL l p e s m below meth c b G M (pc + 5) x (.int (xs (i + a)) :: st) μ τ) : AL l p e s m below meth c b G M pc x st μ τ := by
  refine L_a0 h0 hd0 ?_
  refine L_i3 h0 hd1 ?_
  refine L_iconst h0 hd2 ha ?_
  refine L_iadd h0 hd3 ?_
  have e1 : x + nI a = nI (i + a) := by rw [hx, nI_add]
  rw [e1]
  have e2 : (nI (i + a)).toNatClampNeg = i + a := nI_c (by omega)
  refine L_sld h0 hd4 (vp_in_nI hi (by omega)) ?_
  rw [e2]
  exact k
end LRules

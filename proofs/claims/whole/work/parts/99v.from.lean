/-! from the two made objects on -/
set_option maxHeartbeats 400000 in
theorem law_from {l : Launch} {p : Program} {e : Env} {s : State} {m : MethodId} {below : List Frame} {meth : Method} {c : Code} {b L g : Nat} {xs : Nat → Int32} {G M : Wd} (h0 : LH p s m meth c b L xs G M) (oS : okS G) (oZ : okZ G) (oN : okN G) (hL : L ≤ 3072) {H : Heap} {locs : List Loc} {la : Array Slot} (h1 : va_P (gD G) vwCl (cells G KC (mu0 g)) H) (h2 : va_D (gP G) (cells G KC (mu0 g))) (h3 : va_P (gD M) vwCl (cells M KM sg0) H) (h4 : va_D (gP M) (cells M KM sg0)) (h5 : va_S (fun q : Nat => s.heap.size ≤ q) s.heap H locs) (h6 : lrel 4 [some (.ref b), some (.ref (gA G 0)), some (.ref (gA M 0)), none] la) : W p l e room_1 s m #[Value.ref b] below meth c H locs 600000 7302250 (lw_Z below #[Value.ref b] s) (F0 m 16 la []) := by
  have h00 := h0
  obtain ⟨⟨hx, hb, hr, hml, hown, hts, hX, hbl, hlocks, hgv⟩, -⟩ := h00
  refine lv_iconst (v := 0) hx hb dL_law_16 (by decide) ?_
  refine lv_istore_n (i := 3) hx hb dL_law_17 rfl h6.has (by decide) rfl (fun la2 hl2 => ?_)
  exact law_run h0 oS oZ oN hL 512 0 0 0 (mu0 g) sg0 (by omega) (by omega) (by omega) rfl ⟨Rc_new, WFk_new⟩ H locs la2 h1 h2 h3 h4 h5 (lrel.set1 hl2 (isLp (i := 2) rfl rfl))

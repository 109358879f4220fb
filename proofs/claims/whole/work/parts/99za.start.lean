/-! the law's beginning: the two objects are made -/
/-- a world that is being made from an address on; the class's, the reference's when they are made -/
def wB1 (D : va_G) (f : Nat → Nat) (tc : Nat → ClassId) (z : Nat) : Wd := GB D (cad z f) tc (fun q => z ≤ q)
def wG2 (D : va_G) (f : Nat → Nat) (tc : Nat → ClassId) (z : Nat) : Wd := GW D (cad z f) tc (fun q => z ≤ q ∧ q < z + 85)
def wM2 (D : va_G) (f : Nat → Nat) (tc : Nat → ClassId) (z : Nat) : Wd := GW D (cad z f) tc (fun q => z ≤ q)
section LBegin
variable {D : va_G} {f : Nat → Nat} {tc : Nat → ClassId} {z : Nat}
set_option maxHeartbeats 200000 in
theorem wB1_0 : gA (wB1 D f tc z) 0 = z := cad_lo (i := 0) (f := f) (by omega)
set_option maxHeartbeats 200000 in
theorem wB1_110 : gA (wB1 D f tc z) 110 = f 110 := cad_hi (i := 110) (b0 := z) (f := f) (by omega)
set_option maxHeartbeats 200000 in
theorem wB1_okB : okB (wB1 D f tc z) := okB_GB
set_option maxHeartbeats 200000 in
theorem wB1_okW : okWd (wB1 D f tc z) := okWd_GB
set_option maxHeartbeats 200000 in
theorem cells_adr {G : Wd} {K : List Kd} {μ : Mem} {k : Nat} {q : Nat × va_E} (h : (cells G K μ)[k]? = some q) : q.1 = gA G k ∧ k < K.length := by
  unfold cells at h
  rw [List.getElem?_mapIdx] at h
  cases hk : K[k]? with
  | none => rw [hk] at h; cases h
  | some d =>
    rw [hk] at h
    cases h
    exact ⟨rfl, (List.getElem?_eq_some_iff.mp hk).1⟩
set_option maxHeartbeats 200000 in
theorem mval_w {G M : Wd} {μ : Mem} {i k : Nat} {w : Nat × Nat} (ha : ∀ j, gA G j = gA M j) : mval G μ i k w = mval M μ i k w := by
  unfold mval
  split <;> first | rfl | rw [ha]
set_option maxHeartbeats 200000 in
theorem cells_w {G M : Wd} {K : List Kd} {μ : Mem} (ha : ∀ j, gA G j = gA M j) (ht : ∀ j, gT G j = gT M j) : cells G K μ = cells M K μ := by
  have hv : ∀ i fs, mvals G μ i fs = mvals M μ i fs := by
    intro i fs
    unfold mvals
    congr 1
    funext k w
    exact mval_w ha
  have hc : ∀ i q, cel G μ i q = cel M μ i q := by
    intro i q
    unfold cel
    rw [ht 1, ht 2, ht 3, ht 4, ht 5]
    split <;> first | rfl | (rw [hv]) | (simp only [ha])
  unfold cells
  congr 1
  funext i q
  rw [ha i, hc i q]
end LBegin
set_option maxHeartbeats 4000000 in
set_option maxRecDepth 100000 in
/-- THE LAW, from its entry -/
theorem whole_start {p : Program} {e : Env} {s : State} {m : MethodId} {below : List Frame} {meth : Method} {c : Code} (l : Launch) {b L : Nat} {xs : Nat → Int32} (hL : L ≤ 3072) (C0 : lw_At p s m meth c b L xs) : W p l e room_1 s m #[Value.ref b] below meth c s.heap [] 0 0 (lw_Z below #[Value.ref b] s) (entryFrame m ([Value.ref b] : List Value).toArray 4) := by
  obtain ⟨hx, hb, hr, hml, hown0, hts, hX, hbl, hlocks, hgv⟩ := id C0
  have hown : s.vm.findClass RL = some m.cls := hown0
  have htG : ∀ w ∈ wsG, w.before #[Value.ref b] s = true := fun w hw => hts w (wsG_tbl hw)
  obtain ⟨dC, dI, hKc⟩ := D_of hts
  obtain ⟨tc, hT⟩ := T_of hts
  obtain ⟨f, hf⟩ := start_of hgv hts
  have hGc : gSB (cad s.heap.size f) (fun q : Nat => s.heap.size ≤ q) s s.heap := hf _ (fun i hi => cad_hi hi)
  have hMc : gSB (cad (s.heap.size + 85) f) (fun q : Nat => s.heap.size ≤ q) s s.heap := hf _ (fun i hi => cad_hi hi)
  have hge : ∀ q : Nat, s.heap.size + 85 ≤ q → s.heap.size ≤ q := fun q h => by omega
  have hE1 : En (wB1 (dC, dI) f tc s.heap.size) s := ⟨⟨hKc, hT⟩, okG_GB, hGc⟩
  have hE2 : En (wB1 (dC, dI) f tc (s.heap.size + 85)) s := ⟨⟨hKc, hT⟩, okG_GB, hMc.nr hge⟩
  have hF1 : En (wG2 (dC, dI) f tc s.heap.size) s := ⟨⟨hKc, hT⟩, okG_GW, hGc.1.nr (fun q h => h.1)⟩
  have hF2 : En (wM2 (dC, dI) f tc (s.heap.size + 85)) s := ⟨⟨hKc, hT⟩, okG_GW, hMc.1.nr hge⟩
  have h0 : LH p s m meth c b L xs (wG2 (dC, dI) f tc s.heap.size) (wM2 (dC, dI) f tc (s.heap.size + 85)) := ⟨C0, hF1, hF2, fun q h => h.1, hge, fun q h1 h2 => absurd h1.2 (Nat.not_lt.mpr h2)⟩
  generalize hD : (dC, dI) = D at hE1 hE2 hF1 hF2 h0
  clear hKc hT hf hGc hMc
  have hl := lv_entry ([.ref b]) (n := 4) (Nat.le_of_ble_eq_true rfl)
  rw [lg_entry_eq]
  generalize (lg_sl ([.ref b]) ++ List.replicate (4 - (lg_sl ([.ref b])).length) Slot.unset).toArray = la at hl ⊢
  have hlr : lrel 4 [some (.ref b), none, none, none] la := ⟨hl.1, hl.2.1, fun i v h => by
    have h1 := lsOf_in 3 [.ref b] 0 i v h
    rw [Nat.zero_add] at h1
    exact hl.2.2 (i, v) h1⟩
  have hnil : ∀ (G : Wd) (K : List Kd) (μ : Mem) (H : Heap), va_P (gD G) vwCl (bcs G K μ [] 0) H ∧ va_D (gP G) (bcs G K μ [] 0) := by
    intro G K μ H
    rw [bcs_0]
    exact ⟨fun k q h => by simp at h, fun i j p q h => by simp at h, fun k q h => by simp at h⟩
  obtain ⟨G1, eG1⟩ : ∃ G1 : Wd, G1 = wB1 D f tc s.heap.size := ⟨_, rfl⟩
  obtain ⟨M1, eM1⟩ : ∃ M1 : Wd, M1 = wB1 D f tc (s.heap.size + 85) := ⟨_, rfl⟩
  have oG : okB G1 := by rw [eG1]; exact wB1_okB
  have oM : okB M1 := by rw [eM1]; exact wB1_okB
  have oW : okWd G1 := by rw [eG1]; exact wB1_okW
  have gG : gA G1 0 = s.heap.size := by rw [eG1]; exact wB1_0
  have gM : gA M1 0 = s.heap.size + 85 := by rw [eM1]; exact wB1_0
  have gg : gA G1 110 = f 110 := by rw [eG1]; exact wB1_110
  have dG : gD G1 = gD (wG2 D f tc s.heap.size) := by rw [eG1]; rfl
  have dM : gD M1 = gD (wM2 D f tc (s.heap.size + 85)) := by rw [eM1]; rfl
  have cG : ∀ μ, cells G1 KC μ = cells (wG2 D f tc s.heap.size) KC μ := fun μ => by rw [eG1]; exact cells_w (fun _ => rfl) (fun _ => rfl)
  have cM : ∀ μ, cells M1 KM μ = cells (wM2 D f tc (s.heap.size + 85)) KM μ := fun μ => by rw [eM1]; exact cells_w (fun _ => rfl) (fun _ => rfl)
  have aG : gA G1 0 = gA (wG2 D f tc s.heap.size) 0 := by rw [eG1]; rfl
  have aM : gA M1 0 = gA (wM2 D f tc (s.heap.size + 85)) 0 := by rw [eM1]; rfl
  rw [← eG1] at hE1
  rw [← eM1] at hE2
  clear eG1 eM1
  refine LW_new (G := G1) (K := KC) (μ := mz (f 110)) (L := []) (n := 0) (own := RL) (H0 := s.heap) hx hb hown htG oG (cn_X11 rfl) rfl (by decide) NIv_mz hE1.1 (hnil _ _ _ _).1 (hnil _ _ _ s.heap).2 va_S.rf (fun q h => (oG.2 q).mpr (by rw [gG]; exact h)) (by rw [gG]) (Nat.le_of_ble_eq_true rfl) (Nat.le_of_ble_eq_true rfl) dL_law_0 (fun H1 hP1 hD1 hS1 hz1 _ => ?_)
  refine lv_dup hx hb dL_law_3 rfl ?_
  have hY1 := yi_X11
  obtain ⟨y1, y3, y4, y5, y6, y7⟩ := hY1
  refine LW_call (G := G1) (K := KC) (H0 := s.heap) (A0 := fun q => s.heap.size ≤ q) (va_runI (As := []) (rest := [.ref (gA G1 0)]) ⟨hx, hb, hml, hown, htG⟩ (M_X11 (μ := mz (f 110)) oG oW gg.symm (fun _ => rfl)) ⟨callB_of 0 htG (wsG_goodIn y4) rfl rfl rfl (htG _ y3) (htG _ lk_L_9) y5 ⟨Nat.le_of_ble_eq_true rfl, Nat.le_of_ble_eq_true rfl⟩, y7, htG _ y1⟩ ⟨Wb.blind, fun U hU hWU => ⟨rfl, by rw [hU]; exact hP1, hD1, hE1.go hWU hU hS1, by rw [hU]; exact hz1, NIv_mz, by decide, by decide, by decide⟩⟩ rfl rfl hlr.1 rfl (lv_room (Nat.le_of_ble_eq_true rfl)) dL_law_4 ⟨Nat.le_of_ble_eq_true rfl, Nat.le_of_ble_eq_true rfl⟩) ⟨hS1.1, fun q h1 h2 => hS1.2.1 q h1 (fun y => h2 (by have := (oG.2 q).mp y; omega)), fun q hq => by cases hq⟩ (fun q h => by have := (oG.2 q).mp h; omega) (fun r μ' L' n' H2 locs2 hq hP2 hD2 hz2 hsz2 hk2 hS2 => ?_)
  obtain ⟨q1, q2, q3, q4⟩ := hq
  rw [q2, q3, q4, mu0_eq] at hP2 hD2
  rw [q4] at hz2
  rw [q1]
  clear q1 q2 q3 q4
  have e85 : bcs G1 KC (mu0 (f 110)) LC11 85 = cells G1 KC (mu0 (f 110)) := bcs_all LC11_all
  rw [e85] at hP2 hD2
  rw [cG] at hP2 hD2
  rw [dG] at hP2
  rw [gG] at hz2
  have hD2b : va_D (gP (wG2 D f tc s.heap.size)) (cells (wG2 D f tc s.heap.size) KC (mu0 (f 110))) := hD2.weaken (fun k q hk _ => by
    obtain ⟨a1, a2⟩ := cells_adr hk
    have a3 : k < 85 := a2
    have a4 : gA (wG2 D f tc s.heap.size) k = s.heap.size + k := cad_lo (by omega)
    rw [a1, a4]
    exact ⟨Nat.le_add_right _ _, by omega⟩)
  refine lv_astore_n (i := 1) hx hb dL_law_7 rfl hlr.has (by decide) rfl (fun la1 hl1 => ?_)
  have hlr1 : lrel 4 [some (.ref b), some (.ref (gA G1 0)), none, none] la1 := lrel.set1 hl1 (isLp (i := 0) rfl rfl)
  refine va_forget (fun q hq => hS2.2.2 q hq) ?_
  refine W.widen (k := 85) (n := 20000) (Nat.le_of_ble_eq_true rfl) (Nat.le_of_ble_eq_true rfl) ?_
  refine LW_new (G := M1) (K := KM) (μ := mz 0) (L := []) (n := 0) (own := RL) (H0 := H2) hx hb hown htG oM (cn_X12 rfl) rfl (by decide) NIv_mz hE2.1 (hnil _ _ _ _).1 (hnil _ _ _ s.heap).2 va_S.rf (fun q h => (oM.2 q).mpr (by rw [gM]; omega)) (by rw [gM]) (Nat.le_of_ble_eq_true rfl) (Nat.le_of_ble_eq_true rfl) dL_law_8 (fun H3 hP3 hD3 hS3 hz3 _ => ?_)
  refine lv_dup hx hb dL_law_11 rfl ?_
  have hY2 := yi_X12
  obtain ⟨u1, u3, u4, u5, u6, u7⟩ := hY2
  have hnM : ∀ q : Nat, q < s.heap.size + 85 → ¬ gP M1 q := fun q h y => by have := (oM.2 q).mp y; omega
  have hSM : va_S (gP M1) s.heap H3 [] := ⟨Nat.le_trans hS2.1 hS3.1, fun q h1 _ => (hS3.2.1 q (by omega) (hnM q (by omega))).trans (hS2.2.1 q h1 (by omega)), fun q hq => by cases hq⟩
  have hSA : va_S (fun q : Nat => s.heap.size ≤ q) s.heap H3 [] := ⟨Nat.le_trans hS2.1 hS3.1, fun q h1 h2 => (hS3.2.1 q (by omega) (hnM q (by omega))).trans (hS2.2.1 q h1 h2), fun q hq => by cases hq⟩
  refine LW_call (G := M1) (K := KM) (H0 := s.heap) (A0 := fun q => s.heap.size ≤ q) (va_runI (As := []) (rest := [.ref (gA M1 0)]) ⟨hx, hb, hml, hown, htG⟩ (M_X12 (μ := mz 0) oM) ⟨callB_of 0 htG (wsG_goodIn u4) rfl rfl rfl (htG _ u3) (htG _ lk_L_12) u5 ⟨Nat.le_of_ble_eq_true rfl, Nat.le_of_ble_eq_true rfl⟩, u7, htG _ u1⟩ ⟨Wb.blind, fun U hU hWU => ⟨rfl, by rw [hU]; exact hP3, hD3, hE2.go hWU hU hSM, by rw [hU]; exact hz3, NIv_mz, by decide, by decide, by decide⟩⟩ rfl rfl hlr1.1 rfl (lv_room (Nat.le_of_ble_eq_true rfl)) dL_law_12 ⟨Nat.le_of_ble_eq_true rfl, Nat.le_of_ble_eq_true rfl⟩) hSA (fun q h => by have := (oM.2 q).mp h; omega) (fun r μ' L' n' H4 locs4 hq hP4 hD4 hz4 hsz4 hk4 hS4 => ?_)
  obtain ⟨q1, q2, q3, q4⟩ := hq
  rw [q2, q3, q4, sg0_eq] at hP4 hD4
  rw [q1]
  clear q1 q2 q3 q4
  have e51 : bcs M1 KM sg0 LC12 51 = cells M1 KM sg0 := bcs_all LC12_all
  rw [e51] at hP4 hD4
  rw [cM] at hP4 hD4
  rw [dM] at hP4
  have hD4b : va_D (gP (wM2 D f tc (s.heap.size + 85))) (cells (wM2 D f tc (s.heap.size + 85)) KM sg0) := hD4.weaken (fun k q hk hp => by
    have := (oM.2 q.1).mp hp
    rw [gM] at this
    exact this)
  have hP5 : va_P (gD (wG2 D f tc s.heap.size)) vwCl (cells (wG2 D f tc s.heap.size) KC (mu0 (f 110))) H4 := hP2.kept (fun k q hk => by
    have h1 := (hD2b.2 k q hk).2
    have h2 : q.1 < H2.size := (hP2 k q hk).lt
    have h3 : q.1 < H3.size := Nat.lt_of_lt_of_le h2 hS3.1
    exact (hk4 q.1 h3 (hnM q.1 h1)).trans (hS3.2.1 q.1 h2 (hnM q.1 h1)))
  refine lv_astore_n (i := 2) hx hb dL_law_15 rfl hlr1.has (by decide) rfl (fun la2 hl2 => ?_)
  have hlr2 : lrel 4 [some (.ref b), some (.ref (gA G1 0)), some (.ref (gA M1 0)), none] la2 := lrel.set1 hl2 (isLp (i := 1) rfl rfl)
  rw [aG, aM] at hlr2
  refine W.widen (k := 600000) (n := 7302250) (Nat.le_of_ble_eq_true rfl) (Nat.le_of_ble_eq_true rfl) ?_
  exact law_from h0 okS_GW okZ_GW okN_GW hL hP5 hD2b hP4 hD4b hS4 hlr2

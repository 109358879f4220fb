/-! making: the cells as the constructors make them, one behind another -/
abbrev Lp : Type := List (Nat × Nat)
/-- a field while its object is being made: a reference is null until it is set -/
def bvl (G : Wd) (μ : Mem) (L : Lp) (i k : Nat) (z : Nat × Nat) : Value := if z.1 < 2 ∨ (i, k) ∈ L then mval G μ i k z else .null
def bvls (G : Wd) (μ : Mem) (L : Lp) (i : Nat) (fs : List (Nat × Nat)) : List Value := fs.mapIdx (fun k z => bvl G μ L i k z)
def bce (G : Wd) (μ : Mem) (L : Lp) (i : Nat) (q : Kd) : va_E := match q with
  | (0, ci, fs) => .inr (ci, bvls G μ L i fs)
  | (1, n, _) => .inl (gT G 1, n, .inl (μ.1 i))
  | (2, n, _) => .inl (gT G 2, n, .inr (.inl (μ.2.1 i)))
  | (3, n, _) => .inl (gT G 3, n, .inl (μ.1 i))
  | (4, n, _) => .inl (gT G 4, n, .inl (μ.1 i))
  | (_, n, fs) => .inl (gT G 5, n, .inr (.inr (.inr (.inr (fun j => if (i, j) ∈ L then (fs[j]?).map (fun z => gA G z.2) else none)))))
def bcs (G : Wd) (K : List Kd) (μ : Mem) (L : Lp) (n : Nat) : va_W := (K.take n).mapIdx (fun i q => (gA G i, bce G μ L i q))
section BCells
variable {G : Wd} {K : List Kd} {μ μ' : Mem} {L L' : Lp} {n : Nat}
set_option maxHeartbeats 200000 in
theorem bvls_len {i : Nat} {fs : List (Nat × Nat)} : (bvls G μ L i fs).length = fs.length := by simp [bvls]
set_option maxHeartbeats 200000 in
theorem bvls_at {i k : Nat} {fs : List (Nat × Nat)} {z : Nat × Nat} (h : fs[k]? = some z) : (bvls G μ L i fs)[k]? = some (bvl G μ L i k z) := by
  unfold bvls
  rw [List.getElem?_mapIdx, h]
  rfl
set_option maxHeartbeats 200000 in
theorem bce_off {a : Nat} (h1 : μ'.1 a = μ.1 a) (h2 : μ'.2.1 a = μ.2.1 a) (h3 : μ'.2.2 = μ.2.2) (hL : ∀ k, (a, k) ∈ L' ↔ (a, k) ∈ L) (q : Kd) : bce G μ' L' a q = bce G μ L a q := by
  have hm : ∀ k z, mval G μ' a k z = mval G μ a k z := by
    intro k z
    unfold mval
    rw [h1, h2, h3]
  have hb : ∀ k z, bvl G μ' L' a k z = bvl G μ L a k z := by
    intro k z
    unfold bvl
    simp only [hm, hL]
  have hv : ∀ fs, bvls G μ' L' a fs = bvls G μ L a fs := by
    intro fs
    unfold bvls
    congr 1
    funext k z
    exact hb k z
  unfold bce
  rw [h1, h2]
  split <;> first | rfl | (rw [hv]) | (simp only [hL])
set_option maxHeartbeats 200000 in
theorem bcs_at {i : Nat} {q : Kd} (hn : i < n) (h : K[i]? = some q) : (bcs G K μ L n)[i]? = some (gA G i, bce G μ L i q) := by
  unfold bcs
  rw [List.getElem?_mapIdx, List.getElem?_take, if_pos hn, h]
  rfl
set_option maxHeartbeats 200000 in
theorem bcs_len (h : n ≤ K.length) : (bcs G K μ L n).length = n := by
  unfold bcs
  rw [List.length_mapIdx, List.length_take]
  omega
set_option maxHeartbeats 200000 in
theorem bcs_set {i : Nat} {q : Kd} {E : va_E} (hn : i < n) (hl : n ≤ K.length) (h : K[i]? = some q) (he : E = bce G μ' L' i q) (ho : ∀ (a : Nat) (q' : Kd), a ≠ i → K[a]? = some q' → bce G μ' L' a q' = bce G μ L a q') : (bcs G K μ L n).set i (gA G i, E) = bcs G K μ' L' n := by
  apply List.ext_getElem?
  intro a
  rw [List.getElem?_set]
  by_cases e : i = a
  · subst e
    rw [if_pos rfl, if_pos (by rw [bcs_len hl]; exact hn), bcs_at hn h, he]
  · rw [if_neg e]
    by_cases hn2 : a < n
    · have hk : a < K.length := by omega
      rw [bcs_at hn2 (List.getElem?_eq_getElem hk), bcs_at hn2 (List.getElem?_eq_getElem hk), ho a _ (fun x => e x.symm) (List.getElem?_eq_getElem hk)]
    · rw [List.getElem?_eq_none (by rw [bcs_len hl]; omega), List.getElem?_eq_none (by rw [bcs_len hl]; omega)]
set_option maxHeartbeats 200000 in
theorem bcs_push {q : Kd} (h : K[n]? = some q) : bcs G K μ L n ++ [(gA G n, bce G μ L n q)] = bcs G K μ L (n + 1) := by
  have hk : n < K.length := (List.getElem?_eq_some_iff.mp h).1
  have hl : (bcs G K μ L n).length = n := bcs_len (by omega)
  have hl1 : (bcs G K μ L (n + 1)).length = n + 1 := bcs_len (by omega)
  apply List.ext_getElem?
  intro a
  rcases Nat.lt_trichotomy a n with e | e | e
  · have ha : a < K.length := by omega
    rw [List.getElem?_append_left (by rw [hl]; exact e), bcs_at e (List.getElem?_eq_getElem ha), bcs_at (Nat.lt_succ_of_lt e) (List.getElem?_eq_getElem ha)]
  · rw [e, List.getElem?_append_right (by rw [hl]; exact Nat.le_refl n), hl, Nat.sub_self, bcs_at (Nat.lt_succ_self n) h]
    rfl
  · rw [List.getElem?_eq_none (by rw [List.length_append, hl, List.length_singleton]; omega), List.getElem?_eq_none (by rw [hl1]; omega)]
/-- every reference of the cells is set -/
def bAll (K : List Kd) (L : Lp) : Bool := K.zipIdx.all (fun w => w.1.2.2.zipIdx.all (fun z => (decide (w.1.1 = 0) && decide (z.1.1 < 2)) || decide ((w.2, z.2) ∈ L)))
set_option maxHeartbeats 200000 in
theorem bAll_at (h : bAll K L = true) {a k : Nat} {q : Kd} {z : Nat × Nat} (hq : K[a]? = some q) (hz : q.2.2[k]? = some z) : (q.1 = 0 ∧ z.1 < 2) ∨ (a, k) ∈ L := by
  unfold bAll at h
  have h1 := List.all_eq_true.mp h (q, a) (List.mk_mem_zipIdx_iff_getElem?.mpr hq)
  have h2 := List.all_eq_true.mp h1 (z, k) (List.mk_mem_zipIdx_iff_getElem?.mpr hz)
  simpa using h2
set_option maxHeartbeats 200000 in
theorem bce_all (h : bAll K L = true) {a : Nat} {q : Kd} (hq : K[a]? = some q) : bce G μ L a q = cel G μ a q := by
  obtain ⟨t, m, fs⟩ := q
  match t, hq with
  | 0, hq =>
    have hv : bvls G μ L a fs = mvals G μ a fs := by
      apply List.ext_getElem?
      intro k
      unfold bvls mvals
      rw [List.getElem?_mapIdx, List.getElem?_mapIdx]
      cases hz : fs[k]? with
      | none => rfl
      | some z =>
        have hb : bvl G μ L a k z = mval G μ a k z := if_pos (by
          rcases bAll_at h hq hz with g | g
          · exact Or.inl g.2
          · exact Or.inr g)
        simp only [Option.map_some, hb]
    show (Sum.inr (m, bvls G μ L a fs) : va_E) = .inr (m, mvals G μ a fs)
    rw [hv]
  | 1, _ => rfl
  | 2, _ => rfl
  | 3, _ => rfl
  | 4, _ => rfl
  | t + 5, hq =>
    have hv : (fun j => if (a, j) ∈ L then (fs[j]?).map (fun z => gA G z.2) else none) = (fun j => (fs[j]?).map (fun z : Nat × Nat => gA G z.2)) := by
      funext j
      cases hz : fs[j]? with
      | none => simp only [Option.map_none]; split <;> rfl
      | some z =>
        rcases bAll_at h hq hz with g | g
        · exact absurd g.1 (by show ¬ (t + 5 = 0); omega)
        · exact if_pos g
    show (Sum.inl (gT G 5, m, .inr (.inr (.inr (.inr (fun j => if (a, j) ∈ L then (fs[j]?).map (fun z => gA G z.2) else none))))) : va_E) = .inl (gT G 5, m, .inr (.inr (.inr (.inr (fun j => (fs[j]?).map (fun z : Nat × Nat => gA G z.2))))))
    rw [hv]
set_option maxHeartbeats 200000 in
theorem bcs_all (h : bAll K L = true) : bcs G K μ L K.length = cells G K μ := by
  apply List.ext_getElem?
  intro a
  unfold bcs cells
  rw [List.take_length, List.getElem?_mapIdx, List.getElem?_mapIdx]
  cases hq : K[a]? with
  | none => rfl
  | some q => simp only [Option.map_some, bce_all h hq]
end BCells
/-- what holds of the marks and of the cells to come -/
def NIv (μ : Mem) (L : Lp) (n : Nat) : Prop := (∀ z ∈ L, z.1 < n) ∧ ∀ i, n ≤ i → (∀ k, μ.1 i k = 0) ∧ ∀ k, μ.2.1 i k = 0
/-- a world that is being made: its cells lie one behind another, and all from its first on is its own -/
def okB (G : Wd) : Prop := (∀ i, i ≤ 90 → gA G i = gA G 0 + i) ∧ ∀ q, gP G q ↔ gA G 0 ≤ q
def Xb (G : Wd) (K : List Kd) (nm : String) (kc : Nat) (μ : Mem) (L : Lp) (n : Nat) (s : State) (meth : Method) : Prop := meth.name = nm ∧ (s.heap.size + kc = gA G 0 + n ∧ gA G 0 ≤ s.heap.size) ∧ NIv μ L n ∧ 1 ≤ n ∧ n ≤ K.length ∧ K.length ≤ 90
def Wb (G : Wd) (K : List Kd) (μ : Mem) (L : Lp) (n : Nat) (U : State) : Prop := va_P (gD G) vwCl (bcs G K μ L n) U.heap ∧ va_D (gP G) (bcs G K μ L n) ∧ En G U ∧ U.heap.size = gA G 0 + n ∧ NIv μ L n ∧ 1 ≤ n ∧ n ≤ K.length ∧ K.length ≤ 90
def Qb (G : Wd) (K : List Kd) (Q : Option Value → Mem → Lp → Nat → Prop) : Array Value → State → Outcome → State → Prop := fun _ st oc t => (∃ (r : Option Value) (μ : Mem) (L : Lp) (n : Nat), oc = .returned r ∧ Q r μ L n ∧ Wb G K μ L n t) ∧ va_F (gP G) st t
def rmb (d mc ms : Nat) : Room := { frames := d, cells := mc, slots := ms, locals := 80 * d }
def NWk (l : Launch) (G : Wd) (K : List Kd) (own : String) (cc : ByteArray) (nL d : Nat) (rt : Option FieldType) (nm : String) (mc ms : Nat) (Q : Option Value → Mem → Lp → Nat → Prop) (kc sl : Nat) (L : Lp) (n pc : Nat) (ls : List (Option Value)) (st : List Value) (μ : Mem) : Prop :=
  ∀ (p : Program) (e : Env) (s : State) (m : MethodId) (args : Array Value) (below : List Frame) (meth : Method) (c : Code) (H : Heap) (locs : List Loc) (la : Array Slot),
    Fx p s m args meth c own cc nL rt → va_P (gD G) vwCl (bcs G K μ L n) H → va_D (gP G) (bcs G K μ L n) → En G s → va_S (gP G) s.heap H locs → lrel nL ls la → Xb G K nm kc μ L n s meth →
    W p l e (rmb d mc ms) s m args below meth c H locs kc sl (MQ below (Qb G K Q) args s mc ms (gP G)) (F0 m pc la st)
def Mb (l : Launch) (G : Wd) (K : List Kd) (y : MethodName) (cy : ByteArray) (nL : Nat) (rt : Option FieldType) (d mc ms : Nat) (av : List Value) (μ : Mem) (L : Lp) (n : Nat) (Q : Option Value → Mem → Lp → Nat → Prop) : Prop :=
  Met l y (Cond.code y cy nL rt :: wsG) (rmb d mc ms) (va_Pc av (Wb G K μ L n)) (Qb G K Q) mc ms (gP G)
set_option maxHeartbeats 200000 in
theorem W.sz {p : Program} {l : Launch} {e : Env} {R : Room} {s : State} {m : MethodId} {args : Array Value} {below : List Frame} {meth : Method} {c : Code} {H : Heap} {locs : List Loc} {cs sl : Nat} {Q : State → Prop} {g : JFrame} (kk : H.size ≤ s.heap.size + cs → W p l e R s m args below meth c H locs cs sl Q g) : W p l e R s m args below meth c H locs cs sl Q g := by
  intro T hT X
  have h1 : T.heap.size ≤ s.heap.size + cs := X.same.2.2.1
  rw [hT] at h1
  exact kk h1 T hT X
set_option maxHeartbeats 200000 in
theorem b_size {G : Wd} {K : List Kd} {μ : Mem} {L : Lp} {n : Nat} {H : Heap} (hO : okB G) (hP : va_P (gD G) vwCl (bcs G K μ L n) H) (h1 : 1 ≤ n) (hl : n ≤ K.length) (h90 : K.length ≤ 90) (hz : H.size ≤ gA G 0 + n) : H.size = gA G 0 + n := by
  have hk : n - 1 < K.length := by omega
  have h2 : gA G (n - 1) < H.size := (hP (n - 1) _ (bcs_at (by omega) (List.getElem?_eq_getElem hk))).lt
  rw [hO.1 _ (by omega)] at h2
  omega
set_option maxHeartbeats 200000 in
theorem b_adr {G : Wd} {K : List Kd} {μ : Mem} {L : Lp} {n q : Nat} {E : va_E} {H : Heap} (hO : okB G) (hl : n ≤ K.length) (h90 : K.length ≤ 90) (hP : va_P (gD G) vwCl (bcs G K μ L n ++ [(q, E)]) H) (hD : va_D (gP G) (bcs G K μ L n ++ [(q, E)])) (hz : H.size ≤ gA G 0 + n + 1) : q = gA G n := by
  have hlen : (bcs G K μ L n).length = n := bcs_len hl
  have hlast : (bcs G K μ L n ++ [(q, E)])[n]? = some (q, E) := by
    rw [List.getElem?_append_right (by rw [hlen]; exact Nat.le_refl n), hlen, Nat.sub_self]
    rfl
  have h1 : q < H.size := (hP n _ hlast).lt
  have h2 : gA G 0 ≤ q := (hO.2 q).mp (hD.2 n _ hlast)
  rw [hO.1 n (by omega)]
  rcases Nat.lt_or_ge q (gA G 0 + n) with h3 | h3
  · have hk : q - gA G 0 < K.length := by omega
    have h4 : (bcs G K μ L n ++ [(q, E)])[q - gA G 0]? = some (gA G (q - gA G 0), bce G μ L (q - gA G 0) K[q - gA G 0]) := by
      rw [List.getElem?_append_left (by rw [hlen]; omega)]
      exact bcs_at (by omega) (List.getElem?_eq_getElem hk)
    have h5 := hD.1 _ _ _ _ h4 hlast (by show gA G (q - gA G 0) = q; rw [hO.1 _ (by omega)]; omega)
    omega
  · omega
set_option maxHeartbeats 200000 in
theorem Mb.of {l : Launch} {G : Wd} {K : List Kd} {y : MethodName} {cy : ByteArray} {nL : Nat} {rt : Option FieldType} {d mc ms : Nat} {av : List Value} {μ : Mem} {L : Lp} {n0 : Nat} {Q : Option Value → Mem → Lp → Nat → Prop} {own nm : String} (hy : plainFor y = true) (ho : y.cls = own) (hnm : y.name = nm) (ls : List (Option Value)) {n : Nat} (hls : lsOf n av = ls) (hn : (lg_sl av).length ≤ nL)
    (k : NWk l G K own cy nL d rt nm mc ms Q 0 0 L n0 0 ls [] μ) : Mb l G K y cy nL rt d mc ms av μ L n0 Q := by
  refine Met.ofWF (cc := cy) (maxL := nL) (ret := rt) hy rfl ?_
  intro p e s m args below meth c s₁ B hml hv
  obtain ⟨rfl, hP, hD, hE, hz, hB⟩ := hv
  have hts := atoms_spec (ws := Cond.code y cy nL rt :: wsG) B.pre
  have hown : s.vm.findClass own = some m.cls := by rw [← ho]; exact findClass_of_methodNamed B.named
  have hl := lv_entry av (n := nL) hn
  rw [lg_entry_eq]
  refine k p e s m av.toArray below meth c s.heap [] _ ⟨B.exec, B.bytes, B.returns, hml, hown, fun w hw => hts w (List.mem_cons_of_mem _ hw), B.notSynchronized⟩ hP hD hE va_S.rf ⟨hl.1, hl.2.1, fun i v h => ?_⟩ ⟨((name_of_methodNamed B.named B.method).1).trans hnm, ⟨hz, by omega⟩, hB⟩
  subst hls
  have h1 := lsOf_in n av 0 i v h
  rw [Nat.zero_add] at h1
  exact hl.2.2 (i, v) h1
section BRules
variable {l : Launch} {G : Wd} {K : List Kd} {own : String} {cc : ByteArray} {nL d : Nat} {rt : Option FieldType} {nm : String} {mc ms : Nat} {Q : Option Value → Mem → Lp → Nat → Prop} {kc sl : Nat} {L : Lp} {n : Nat} {pc : Nat} {ls : List (Option Value)} {st : List Value} {μ : Mem}
set_option maxHeartbeats 200000 in
theorem B_iadd {x y : Int32} (hd : decode cc pc = .ok (.iadd, 1))  (k : NWk l G K own cc nL d rt nm mc ms Q kc sl L n (pc + 1) ls (.int (x + y) :: st) μ) : NWk l G K own cc nL d rt nm mc ms Q kc sl L n pc ls (.int y :: .int x :: st) μ := by
  intro p e s m args below meth c H locs la F hP hD hE hS hl hX
  obtain ⟨hx, hb, hr, hml, hown, hts, hlk⟩ := F
  exact lv_iadd hx hb hd (k p e s m args below meth c H locs la ⟨hx, hb, hr, hml, hown, hts, hlk⟩ hP hD hE hS hl hX)
set_option maxHeartbeats 200000 in
theorem B_isub {x y : Int32} (hd : decode cc pc = .ok (.isub, 1))  (k : NWk l G K own cc nL d rt nm mc ms Q kc sl L n (pc + 1) ls (.int (x - y) :: st) μ) : NWk l G K own cc nL d rt nm mc ms Q kc sl L n pc ls (.int y :: .int x :: st) μ := by
  intro p e s m args below meth c H locs la F hP hD hE hS hl hX
  obtain ⟨hx, hb, hr, hml, hown, hts, hlk⟩ := F
  exact lv_isub hx hb hd (k p e s m args below meth c H locs la ⟨hx, hb, hr, hml, hown, hts, hlk⟩ hP hD hE hS hl hX)
set_option maxHeartbeats 200000 in
theorem B_iand {x y : Int32} (hd : decode cc pc = .ok (.iand, 1))  (k : NWk l G K own cc nL d rt nm mc ms Q kc sl L n (pc + 1) ls (.int (x &&& y) :: st) μ) : NWk l G K own cc nL d rt nm mc ms Q kc sl L n pc ls (.int y :: .int x :: st) μ := by
  intro p e s m args below meth c H locs la F hP hD hE hS hl hX
  obtain ⟨hx, hb, hr, hml, hown, hts, hlk⟩ := F
  exact lv_iand hx hb hd (k p e s m args below meth c H locs la ⟨hx, hb, hr, hml, hown, hts, hlk⟩ hP hD hE hS hl hX)
set_option maxHeartbeats 200000 in
theorem B_ishr {x y : Int32} (hd : decode cc pc = .ok (.ishr, 1))  (k : NWk l G K own cc nL d rt nm mc ms Q kc sl L n (pc + 1) ls (.int (x >>> (y &&& 31)) :: st) μ) : NWk l G K own cc nL d rt nm mc ms Q kc sl L n pc ls (.int y :: .int x :: st) μ := by
  intro p e s m args below meth c H locs la F hP hD hE hS hl hX
  obtain ⟨hx, hb, hr, hml, hown, hts, hlk⟩ := F
  exact lv_ishr hx hb hd (k p e s m args below meth c H locs la ⟨hx, hb, hr, hml, hown, hts, hlk⟩ hP hD hE hS hl hX)
set_option maxHeartbeats 200000 in
theorem B_ladd {x y : Int64} (hd : decode cc pc = .ok (.ladd, 1))  (k : NWk l G K own cc nL d rt nm mc ms Q kc sl L n (pc + 1) ls (.long (x + y) :: st) μ) : NWk l G K own cc nL d rt nm mc ms Q kc sl L n pc ls (.long y :: .long x :: st) μ := by
  intro p e s m args below meth c H locs la F hP hD hE hS hl hX
  obtain ⟨hx, hb, hr, hml, hown, hts, hlk⟩ := F
  exact lv_ladd hx hb hd (k p e s m args below meth c H locs la ⟨hx, hb, hr, hml, hown, hts, hlk⟩ hP hD hE hS hl hX)
set_option maxHeartbeats 200000 in
theorem B_lmul {x y : Int64} (hd : decode cc pc = .ok (.lmul, 1))  (k : NWk l G K own cc nL d rt nm mc ms Q kc sl L n (pc + 1) ls (.long (x * y) :: st) μ) : NWk l G K own cc nL d rt nm mc ms Q kc sl L n pc ls (.long y :: .long x :: st) μ := by
  intro p e s m args below meth c H locs la F hP hD hE hS hl hX
  obtain ⟨hx, hb, hr, hml, hown, hts, hlk⟩ := F
  exact lv_lmul hx hb hd (k p e s m args below meth c H locs la ⟨hx, hb, hr, hml, hown, hts, hlk⟩ hP hD hE hS hl hX)
set_option maxHeartbeats 200000 in
theorem B_i2l {x : Int32} (hd : decode cc pc = .ok (.i2l, 1))  (k : NWk l G K own cc nL d rt nm mc ms Q kc sl L n (pc + 1) ls (.long x.toInt64 :: st) μ) : NWk l G K own cc nL d rt nm mc ms Q kc sl L n pc ls (.int x :: st) μ := by
  intro p e s m args below meth c H locs la F hP hD hE hS hl hX
  obtain ⟨hx, hb, hr, hml, hown, hts, hlk⟩ := F
  exact lv_i2l hx hb hd rfl (k p e s m args below meth c H locs la ⟨hx, hb, hr, hml, hown, hts, hlk⟩ hP hD hE hS hl hX)
set_option maxHeartbeats 200000 in
theorem B_i2c {x : Int32} (hd : decode cc pc = .ok (.i2c, 1))  (k : NWk l G K own cc nL d rt nm mc ms Q kc sl L n (pc + 1) ls (.int (x.toUInt32 % 65536).toInt32 :: st) μ) : NWk l G K own cc nL d rt nm mc ms Q kc sl L n pc ls (.int x :: st) μ := by
  intro p e s m args below meth c H locs la F hP hD hE hS hl hX
  obtain ⟨hx, hb, hr, hml, hown, hts, hlk⟩ := F
  exact lv_i2c hx hb hd rfl (k p e s m args below meth c H locs la ⟨hx, hb, hr, hml, hown, hts, hlk⟩ hP hD hE hS hl hX)
set_option maxHeartbeats 200000 in
theorem B_iconst {nn : Int} {v : Int32} (hd : decode cc pc = .ok (.iconst nn, 1)) (hv : Int32.ofInt nn = v) (k : NWk l G K own cc nL d rt nm mc ms Q kc sl L n (pc + 1) ls (.int v :: st) μ) : NWk l G K own cc nL d rt nm mc ms Q kc sl L n pc ls (st) μ := by
  intro p e s m args below meth c H locs la F hP hD hE hS hl hX
  obtain ⟨hx, hb, hr, hml, hown, hts, hlk⟩ := F
  exact lv_iconst hx hb hd hv (k p e s m args below meth c H locs la ⟨hx, hb, hr, hml, hown, hts, hlk⟩ hP hD hE hS hl hX)
set_option maxHeartbeats 200000 in
theorem B_bipush {nn : Int} {v : Int32} (hd : decode cc pc = .ok (.bipush nn, 2)) (hv : (Int8.ofInt nn).toInt32 = v) (k : NWk l G K own cc nL d rt nm mc ms Q kc sl L n (pc + 2) ls (.int v :: st) μ) : NWk l G K own cc nL d rt nm mc ms Q kc sl L n pc ls (st) μ := by
  intro p e s m args below meth c H locs la F hP hD hE hS hl hX
  obtain ⟨hx, hb, hr, hml, hown, hts, hlk⟩ := F
  exact lv_bipush hx hb hd hv (k p e s m args below meth c H locs la ⟨hx, hb, hr, hml, hown, hts, hlk⟩ hP hD hE hS hl hX)
set_option maxHeartbeats 200000 in
theorem B_sipush {nn : Int} {v : Int32} (hd : decode cc pc = .ok (.sipush nn, 3)) (hv : (Int16.ofInt nn).toInt32 = v) (k : NWk l G K own cc nL d rt nm mc ms Q kc sl L n (pc + 3) ls (.int v :: st) μ) : NWk l G K own cc nL d rt nm mc ms Q kc sl L n pc ls (st) μ := by
  intro p e s m args below meth c H locs la F hP hD hE hS hl hX
  obtain ⟨hx, hb, hr, hml, hown, hts, hlk⟩ := F
  exact lv_sipush hx hb hd hv (k p e s m args below meth c H locs la ⟨hx, hb, hr, hml, hown, hts, hlk⟩ hP hD hE hS hl hX)
set_option maxHeartbeats 200000 in
theorem B_ldc2 {idx : Nat} {v : Int64} (hd : decode cc pc = .ok (.ldc2_w idx, 3)) (hw : Cond.constantLong own idx v ∈ wsG) (k : NWk l G K own cc nL d rt nm mc ms Q kc sl L n (pc + 3) ls (.long v :: st) μ) : NWk l G K own cc nL d rt nm mc ms Q kc sl L n pc ls (st) μ := by
  intro p e s m args below meth c H locs la F hP hD hE hS hl hX
  obtain ⟨hx, hb, hr, hml, hown, hts, hlk⟩ := F
  exact lv_ldc2 hx hb hown (hts _ hw) hd (k p e s m args below meth c H locs la ⟨hx, hb, hr, hml, hown, hts, hlk⟩ hP hD hE hS hl hX)
set_option maxHeartbeats 200000 in
theorem B_dup {v : Value} (hd : decode cc pc = .ok (.dup, 1)) (hc : v.category = 1) (k : NWk l G K own cc nL d rt nm mc ms Q kc sl L n (pc + 1) ls (v :: v :: st) μ) : NWk l G K own cc nL d rt nm mc ms Q kc sl L n pc ls (v :: st) μ := by
  intro p e s m args below meth c H locs la F hP hD hE hS hl hX
  obtain ⟨hx, hb, hr, hml, hown, hts, hlk⟩ := F
  exact lv_dup hx hb hd hc (k p e s m args below meth c H locs la ⟨hx, hb, hr, hml, hown, hts, hlk⟩ hP hD hE hS hl hX)
set_option maxHeartbeats 200000 in
theorem B_pop {v : Value} (hd : decode cc pc = .ok (.pop, 1)) (hc : v.category = 1) (k : NWk l G K own cc nL d rt nm mc ms Q kc sl L n (pc + 1) ls (st) μ) : NWk l G K own cc nL d rt nm mc ms Q kc sl L n pc ls (v :: st) μ := by
  intro p e s m args below meth c H locs la F hP hD hE hS hl hX
  obtain ⟨hx, hb, hr, hml, hown, hts, hlk⟩ := F
  exact lv_pop hx hb hd hc (k p e s m args below meth c H locs la ⟨hx, hb, hr, hml, hown, hts, hlk⟩ hP hD hE hS hl hX)
set_option maxHeartbeats 200000 in
theorem B_icmp_ge {x y : Int32} {off : Int} {tgt : Nat} (hd : decode cc pc = .ok (.if_icmp .ge off, 3)) (ht : (pc : Int) + off = (tgt : Int)) (kt : y ≤ x → NWk l G K own cc nL d rt nm mc ms Q kc sl L n tgt ls st μ) (kf : ¬ (y ≤ x) → NWk l G K own cc nL d rt nm mc ms Q kc sl L n (pc + 3) ls st μ) : NWk l G K own cc nL d rt nm mc ms Q kc sl L n pc ls (.int y :: .int x :: st) μ := by
  intro p e s m args below meth c H locs la F hP hD hE hS hl hX
  obtain ⟨hx, hb, hr, hml, hown, hts, hlk⟩ := F
  exact lv_icmp_ge hx hb hd ht (fun h => kt h p e s m args below meth c H locs la ⟨hx, hb, hr, hml, hown, hts, hlk⟩ hP hD hE hS hl hX) (fun h => kf h p e s m args below meth c H locs la ⟨hx, hb, hr, hml, hown, hts, hlk⟩ hP hD hE hS hl hX)
set_option maxHeartbeats 200000 in
theorem B_icmp_ne {x y : Int32} {off : Int} {tgt : Nat} (hd : decode cc pc = .ok (.if_icmp .ne off, 3)) (ht : (pc : Int) + off = (tgt : Int)) (kt : ¬ x = y → NWk l G K own cc nL d rt nm mc ms Q kc sl L n tgt ls st μ) (kf : x = y → NWk l G K own cc nL d rt nm mc ms Q kc sl L n (pc + 3) ls st μ) : NWk l G K own cc nL d rt nm mc ms Q kc sl L n pc ls (.int y :: .int x :: st) μ := by
  intro p e s m args below meth c H locs la F hP hD hE hS hl hX
  obtain ⟨hx, hb, hr, hml, hown, hts, hlk⟩ := F
  exact lv_icmp_ne hx hb hd ht (fun h => kt h p e s m args below meth c H locs la ⟨hx, hb, hr, hml, hown, hts, hlk⟩ hP hD hE hS hl hX) (fun h => kf h p e s m args below meth c H locs la ⟨hx, hb, hr, hml, hown, hts, hlk⟩ hP hD hE hS hl hX)
set_option maxHeartbeats 200000 in
theorem B_icmp_lt {x y : Int32} {off : Int} {tgt : Nat} (hd : decode cc pc = .ok (.if_icmp .lt off, 3)) (ht : (pc : Int) + off = (tgt : Int)) (kt : x < y → NWk l G K own cc nL d rt nm mc ms Q kc sl L n tgt ls st μ) (kf : ¬ (x < y) → NWk l G K own cc nL d rt nm mc ms Q kc sl L n (pc + 3) ls st μ) : NWk l G K own cc nL d rt nm mc ms Q kc sl L n pc ls (.int y :: .int x :: st) μ := by
  intro p e s m args below meth c H locs la F hP hD hE hS hl hX
  obtain ⟨hx, hb, hr, hml, hown, hts, hlk⟩ := F
  exact lv_icmp_lt hx hb hd ht (fun h => kt h p e s m args below meth c H locs la ⟨hx, hb, hr, hml, hown, hts, hlk⟩ hP hD hE hS hl hX) (fun h => kf h p e s m args below meth c H locs la ⟨hx, hb, hr, hml, hown, hts, hlk⟩ hP hD hE hS hl hX)
set_option maxHeartbeats 200000 in
theorem B_if_eq {x : Int32} {off : Int} {tgt : Nat} (hd : decode cc pc = .ok (.ifCond .eq off, 3)) (ht : (pc : Int) + off = (tgt : Int)) (kt : x = 0 → NWk l G K own cc nL d rt nm mc ms Q kc sl L n tgt ls st μ) (kf : ¬ (x = 0) → NWk l G K own cc nL d rt nm mc ms Q kc sl L n (pc + 3) ls st μ) : NWk l G K own cc nL d rt nm mc ms Q kc sl L n pc ls (.int x :: st) μ := by
  intro p e s m args below meth c H locs la F hP hD hE hS hl hX
  obtain ⟨hx, hb, hr, hml, hown, hts, hlk⟩ := F
  exact lv_if_eq hx hb hd ht (fun h => kt h p e s m args below meth c H locs la ⟨hx, hb, hr, hml, hown, hts, hlk⟩ hP hD hE hS hl hX) (fun h => kf h p e s m args below meth c H locs la ⟨hx, hb, hr, hml, hown, hts, hlk⟩ hP hD hE hS hl hX)
set_option maxHeartbeats 200000 in
theorem B_if_ne {x : Int32} {off : Int} {tgt : Nat} (hd : decode cc pc = .ok (.ifCond .ne off, 3)) (ht : (pc : Int) + off = (tgt : Int)) (kt : ¬ x = 0 → NWk l G K own cc nL d rt nm mc ms Q kc sl L n tgt ls st μ) (kf : x = 0 → NWk l G K own cc nL d rt nm mc ms Q kc sl L n (pc + 3) ls st μ) : NWk l G K own cc nL d rt nm mc ms Q kc sl L n pc ls (.int x :: st) μ := by
  intro p e s m args below meth c H locs la F hP hD hE hS hl hX
  obtain ⟨hx, hb, hr, hml, hown, hts, hlk⟩ := F
  exact lv_if_ne hx hb hd ht (fun h => kt h p e s m args below meth c H locs la ⟨hx, hb, hr, hml, hown, hts, hlk⟩ hP hD hE hS hl hX) (fun h => kf h p e s m args below meth c H locs la ⟨hx, hb, hr, hml, hown, hts, hlk⟩ hP hD hE hS hl hX)
set_option maxHeartbeats 200000 in
theorem B_if_lt {x : Int32} {off : Int} {tgt : Nat} (hd : decode cc pc = .ok (.ifCond .lt off, 3)) (ht : (pc : Int) + off = (tgt : Int)) (kt : x < 0 → NWk l G K own cc nL d rt nm mc ms Q kc sl L n tgt ls st μ) (kf : ¬ (x < 0) → NWk l G K own cc nL d rt nm mc ms Q kc sl L n (pc + 3) ls st μ) : NWk l G K own cc nL d rt nm mc ms Q kc sl L n pc ls (.int x :: st) μ := by
  intro p e s m args below meth c H locs la F hP hD hE hS hl hX
  obtain ⟨hx, hb, hr, hml, hown, hts, hlk⟩ := F
  exact lv_if_lt hx hb hd ht (fun h => kt h p e s m args below meth c H locs la ⟨hx, hb, hr, hml, hown, hts, hlk⟩ hP hD hE hS hl hX) (fun h => kf h p e s m args below meth c H locs la ⟨hx, hb, hr, hml, hown, hts, hlk⟩ hP hD hE hS hl hX)
set_option maxHeartbeats 200000 in
theorem B_goto {off : Int} {tgt : Nat} (hd : decode cc pc = .ok (.goto off, 3)) (ht : (pc : Int) + off = (tgt : Int)) (k : NWk l G K own cc nL d rt nm mc ms Q kc sl L n tgt ls st μ) : NWk l G K own cc nL d rt nm mc ms Q kc sl L n pc ls st μ := by
  intro p e s m args below meth c H locs la F hP hD hE hS hl hX
  obtain ⟨hx, hb, hr, hml, hown, hts, hlk⟩ := F
  exact lv_goto hx hb hd ht (k p e s m args below meth c H locs la ⟨hx, hb, hr, hml, hown, hts, hlk⟩ hP hD hE hS hl hX)
set_option maxHeartbeats 200000 in
theorem B_aload0 {v : Nat} (hd : decode cc pc = .ok (.aload_n 0, 1)) (k : NWk l G K own cc nL d rt nm mc ms Q kc sl L n (pc + 1) (some (.ref v) :: ls) (.ref v :: st) μ) : NWk l G K own cc nL d rt nm mc ms Q kc sl L n pc (some (.ref v) :: ls) st μ := by
  intro p e s m args below meth c H locs la F hP hD hE hS hl hX
  obtain ⟨hx, hb, hr, hml, hown, hts, hlk⟩ := F
  exact lv_aload_n (i := 0) hx hb hd rfl (hl.2.2 0 _ rfl) (k p e s m args below meth c H locs la ⟨hx, hb, hr, hml, hown, hts, hlk⟩ hP hD hE hS hl hX)
set_option maxHeartbeats 200000 in
theorem B_aload1 {x0 : Option Value} {v : Nat} (hd : decode cc pc = .ok (.aload_n 1, 1)) (k : NWk l G K own cc nL d rt nm mc ms Q kc sl L n (pc + 1) (x0 :: some (.ref v) :: ls) (.ref v :: st) μ) : NWk l G K own cc nL d rt nm mc ms Q kc sl L n pc (x0 :: some (.ref v) :: ls) st μ := by
  intro p e s m args below meth c H locs la F hP hD hE hS hl hX
  obtain ⟨hx, hb, hr, hml, hown, hts, hlk⟩ := F
  exact lv_aload_n (i := 1) hx hb hd rfl (hl.2.2 1 _ rfl) (k p e s m args below meth c H locs la ⟨hx, hb, hr, hml, hown, hts, hlk⟩ hP hD hE hS hl hX)
set_option maxHeartbeats 200000 in
theorem B_aload2 {x0 x1 : Option Value} {v : Nat} (hd : decode cc pc = .ok (.aload_n 2, 1)) (k : NWk l G K own cc nL d rt nm mc ms Q kc sl L n (pc + 1) (x0 :: x1 :: some (.ref v) :: ls) (.ref v :: st) μ) : NWk l G K own cc nL d rt nm mc ms Q kc sl L n pc (x0 :: x1 :: some (.ref v) :: ls) st μ := by
  intro p e s m args below meth c H locs la F hP hD hE hS hl hX
  obtain ⟨hx, hb, hr, hml, hown, hts, hlk⟩ := F
  exact lv_aload_n (i := 2) hx hb hd rfl (hl.2.2 2 _ rfl) (k p e s m args below meth c H locs la ⟨hx, hb, hr, hml, hown, hts, hlk⟩ hP hD hE hS hl hX)
set_option maxHeartbeats 200000 in
theorem B_aload3 {x0 x1 x2 : Option Value} {v : Nat} (hd : decode cc pc = .ok (.aload_n 3, 1)) (k : NWk l G K own cc nL d rt nm mc ms Q kc sl L n (pc + 1) (x0 :: x1 :: x2 :: some (.ref v) :: ls) (.ref v :: st) μ) : NWk l G K own cc nL d rt nm mc ms Q kc sl L n pc (x0 :: x1 :: x2 :: some (.ref v) :: ls) st μ := by
  intro p e s m args below meth c H locs la F hP hD hE hS hl hX
  obtain ⟨hx, hb, hr, hml, hown, hts, hlk⟩ := F
  exact lv_aload_n (i := 3) hx hb hd rfl (hl.2.2 3 _ rfl) (k p e s m args below meth c H locs la ⟨hx, hb, hr, hml, hown, hts, hlk⟩ hP hD hE hS hl hX)
set_option maxHeartbeats 200000 in
theorem B_iload0 {v : Int32} (hd : decode cc pc = .ok (.iload_n 0, 1)) (k : NWk l G K own cc nL d rt nm mc ms Q kc sl L n (pc + 1) (some (.int v) :: ls) (.int v :: st) μ) : NWk l G K own cc nL d rt nm mc ms Q kc sl L n pc (some (.int v) :: ls) st μ := by
  intro p e s m args below meth c H locs la F hP hD hE hS hl hX
  obtain ⟨hx, hb, hr, hml, hown, hts, hlk⟩ := F
  exact lv_iload_n (i := 0) hx hb hd rfl (hl.2.2 0 _ rfl) (k p e s m args below meth c H locs la ⟨hx, hb, hr, hml, hown, hts, hlk⟩ hP hD hE hS hl hX)
set_option maxHeartbeats 200000 in
theorem B_iload1 {x0 : Option Value} {v : Int32} (hd : decode cc pc = .ok (.iload_n 1, 1)) (k : NWk l G K own cc nL d rt nm mc ms Q kc sl L n (pc + 1) (x0 :: some (.int v) :: ls) (.int v :: st) μ) : NWk l G K own cc nL d rt nm mc ms Q kc sl L n pc (x0 :: some (.int v) :: ls) st μ := by
  intro p e s m args below meth c H locs la F hP hD hE hS hl hX
  obtain ⟨hx, hb, hr, hml, hown, hts, hlk⟩ := F
  exact lv_iload_n (i := 1) hx hb hd rfl (hl.2.2 1 _ rfl) (k p e s m args below meth c H locs la ⟨hx, hb, hr, hml, hown, hts, hlk⟩ hP hD hE hS hl hX)
set_option maxHeartbeats 200000 in
theorem B_iload2 {x0 x1 : Option Value} {v : Int32} (hd : decode cc pc = .ok (.iload_n 2, 1)) (k : NWk l G K own cc nL d rt nm mc ms Q kc sl L n (pc + 1) (x0 :: x1 :: some (.int v) :: ls) (.int v :: st) μ) : NWk l G K own cc nL d rt nm mc ms Q kc sl L n pc (x0 :: x1 :: some (.int v) :: ls) st μ := by
  intro p e s m args below meth c H locs la F hP hD hE hS hl hX
  obtain ⟨hx, hb, hr, hml, hown, hts, hlk⟩ := F
  exact lv_iload_n (i := 2) hx hb hd rfl (hl.2.2 2 _ rfl) (k p e s m args below meth c H locs la ⟨hx, hb, hr, hml, hown, hts, hlk⟩ hP hD hE hS hl hX)
set_option maxHeartbeats 200000 in
theorem B_iload3 {x0 x1 x2 : Option Value} {v : Int32} (hd : decode cc pc = .ok (.iload_n 3, 1)) (k : NWk l G K own cc nL d rt nm mc ms Q kc sl L n (pc + 1) (x0 :: x1 :: x2 :: some (.int v) :: ls) (.int v :: st) μ) : NWk l G K own cc nL d rt nm mc ms Q kc sl L n pc (x0 :: x1 :: x2 :: some (.int v) :: ls) st μ := by
  intro p e s m args below meth c H locs la F hP hD hE hS hl hX
  obtain ⟨hx, hb, hr, hml, hown, hts, hlk⟩ := F
  exact lv_iload_n (i := 3) hx hb hd rfl (hl.2.2 3 _ rfl) (k p e s m args below meth c H locs la ⟨hx, hb, hr, hml, hown, hts, hlk⟩ hP hD hE hS hl hX)
set_option maxHeartbeats 200000 in
theorem B_iload4 {x0 x1 x2 x3 : Option Value} {v : Int32} (hd : decode cc pc = .ok (.iload 4, 2)) (k : NWk l G K own cc nL d rt nm mc ms Q kc sl L n (pc + 2) (x0 :: x1 :: x2 :: x3 :: some (.int v) :: ls) (.int v :: st) μ) : NWk l G K own cc nL d rt nm mc ms Q kc sl L n pc (x0 :: x1 :: x2 :: x3 :: some (.int v) :: ls) st μ := by
  intro p e s m args below meth c H locs la F hP hD hE hS hl hX
  obtain ⟨hx, hb, hr, hml, hown, hts, hlk⟩ := F
  exact lv_iload hx hb hd (hl.2.2 4 _ rfl) (k p e s m args below meth c H locs la ⟨hx, hb, hr, hml, hown, hts, hlk⟩ hP hD hE hS hl hX)
set_option maxHeartbeats 200000 in
theorem B_istore1 {x0 : Option Value} {y0 : Option Value} {v : Int32} (hd : decode cc pc = .ok (.istore_n 1, 1)) (hn : isL x0 = false) (hi : 1 < nL) (k : NWk l G K own cc nL d rt nm mc ms Q kc sl L n (pc + 1) (x0 :: some (.int v) :: ls) st μ) : NWk l G K own cc nL d rt nm mc ms Q kc sl L n pc (x0 :: y0 :: ls) (.int v :: st) μ := by
  intro p e s m args below meth c H locs la F hP hD hE hS hl hX
  obtain ⟨hx, hb, hr, hml, hown, hts, hlk⟩ := F
  refine lv_istore_n (i := 1) hx hb hd rfl hl.has hi rfl (fun la2 hl2 => ?_)
  exact k p e s m args below meth c H locs la2 ⟨hx, hb, hr, hml, hown, hts, hlk⟩ hP hD hE hS (lrel.set1 hl2 (isLp (i := 0) rfl hn)) hX
set_option maxHeartbeats 200000 in
theorem B_istore2 {x0 x1 : Option Value} {y0 : Option Value} {v : Int32} (hd : decode cc pc = .ok (.istore_n 2, 1)) (hn : isL x1 = false) (hi : 2 < nL) (k : NWk l G K own cc nL d rt nm mc ms Q kc sl L n (pc + 1) (x0 :: x1 :: some (.int v) :: ls) st μ) : NWk l G K own cc nL d rt nm mc ms Q kc sl L n pc (x0 :: x1 :: y0 :: ls) (.int v :: st) μ := by
  intro p e s m args below meth c H locs la F hP hD hE hS hl hX
  obtain ⟨hx, hb, hr, hml, hown, hts, hlk⟩ := F
  refine lv_istore_n (i := 2) hx hb hd rfl hl.has hi rfl (fun la2 hl2 => ?_)
  exact k p e s m args below meth c H locs la2 ⟨hx, hb, hr, hml, hown, hts, hlk⟩ hP hD hE hS (lrel.set1 hl2 (isLp (i := 1) rfl hn)) hX
set_option maxHeartbeats 200000 in
theorem B_istore3 {x0 x1 x2 : Option Value} {y0 : Option Value} {v : Int32} (hd : decode cc pc = .ok (.istore_n 3, 1)) (hn : isL x2 = false) (hi : 3 < nL) (k : NWk l G K own cc nL d rt nm mc ms Q kc sl L n (pc + 1) (x0 :: x1 :: x2 :: some (.int v) :: ls) st μ) : NWk l G K own cc nL d rt nm mc ms Q kc sl L n pc (x0 :: x1 :: x2 :: y0 :: ls) (.int v :: st) μ := by
  intro p e s m args below meth c H locs la F hP hD hE hS hl hX
  obtain ⟨hx, hb, hr, hml, hown, hts, hlk⟩ := F
  refine lv_istore_n (i := 3) hx hb hd rfl hl.has hi rfl (fun la2 hl2 => ?_)
  exact k p e s m args below meth c H locs la2 ⟨hx, hb, hr, hml, hown, hts, hlk⟩ hP hD hE hS (lrel.set1 hl2 (isLp (i := 2) rfl hn)) hX
set_option maxHeartbeats 200000 in
theorem B_istore4 {x0 x1 x2 x3 : Option Value} {y0 : Option Value} {v : Int32} (hd : decode cc pc = .ok (.istore 4, 2)) (hn : isL x3 = false) (hi : 4 < nL) (k : NWk l G K own cc nL d rt nm mc ms Q kc sl L n (pc + 2) (x0 :: x1 :: x2 :: x3 :: some (.int v) :: ls) st μ) : NWk l G K own cc nL d rt nm mc ms Q kc sl L n pc (x0 :: x1 :: x2 :: x3 :: y0 :: ls) (.int v :: st) μ := by
  intro p e s m args below meth c H locs la F hP hD hE hS hl hX
  obtain ⟨hx, hb, hr, hml, hown, hts, hlk⟩ := F
  refine lv_istore hx hb hd hl.has hi rfl (fun la2 hl2 => ?_)
  exact k p e s m args below meth c H locs la2 ⟨hx, hb, hr, hml, hown, hts, hlk⟩ hP hD hE hS (lrel.set1 hl2 (isLp (i := 3) rfl hn)) hX
set_option maxHeartbeats 200000 in
theorem B_iinc1 {x0 : Option Value} {x v : Int32} {nn : Int} (hd : decode cc pc = .ok (.iinc 1 nn, 3)) (hv : x + Int32.ofInt nn = v) (hn : isL x0 = false) (hi : 1 < nL) (k : NWk l G K own cc nL d rt nm mc ms Q kc sl L n (pc + 3) (x0 :: some (.int v) :: ls) st μ) : NWk l G K own cc nL d rt nm mc ms Q kc sl L n pc (x0 :: some (.int x) :: ls) st μ := by
  intro p e s m args below meth c H locs la F hP hD hE hS hl hX
  obtain ⟨hx, hb, hr, hml, hown, hts, hlk⟩ := F
  obtain ⟨q, hq⟩ := List.getElem?_of_mem (prs_mem.mpr (show (x0 :: some (Value.int x) :: ls)[1]? = some (some (.int x)) from rfl))
  refine lv_iinc hx hb hd hl.has hq hv hi rfl (fun la2 hl2 => ?_)
  exact k p e s m args below meth c H locs la2 ⟨hx, hb, hr, hml, hown, hts, hlk⟩ hP hD hE hS (lrel.set1 hl2 (isLp (i := 0) rfl hn)) hX
set_option maxHeartbeats 200000 in
theorem B_iinc2 {x0 x1 : Option Value} {x v : Int32} {nn : Int} (hd : decode cc pc = .ok (.iinc 2 nn, 3)) (hv : x + Int32.ofInt nn = v) (hn : isL x1 = false) (hi : 2 < nL) (k : NWk l G K own cc nL d rt nm mc ms Q kc sl L n (pc + 3) (x0 :: x1 :: some (.int v) :: ls) st μ) : NWk l G K own cc nL d rt nm mc ms Q kc sl L n pc (x0 :: x1 :: some (.int x) :: ls) st μ := by
  intro p e s m args below meth c H locs la F hP hD hE hS hl hX
  obtain ⟨hx, hb, hr, hml, hown, hts, hlk⟩ := F
  obtain ⟨q, hq⟩ := List.getElem?_of_mem (prs_mem.mpr (show (x0 :: x1 :: some (Value.int x) :: ls)[2]? = some (some (.int x)) from rfl))
  refine lv_iinc hx hb hd hl.has hq hv hi rfl (fun la2 hl2 => ?_)
  exact k p e s m args below meth c H locs la2 ⟨hx, hb, hr, hml, hown, hts, hlk⟩ hP hD hE hS (lrel.set1 hl2 (isLp (i := 1) rfl hn)) hX
set_option maxHeartbeats 200000 in
theorem B_iinc3 {x0 x1 x2 : Option Value} {x v : Int32} {nn : Int} (hd : decode cc pc = .ok (.iinc 3 nn, 3)) (hv : x + Int32.ofInt nn = v) (hn : isL x2 = false) (hi : 3 < nL) (k : NWk l G K own cc nL d rt nm mc ms Q kc sl L n (pc + 3) (x0 :: x1 :: x2 :: some (.int v) :: ls) st μ) : NWk l G K own cc nL d rt nm mc ms Q kc sl L n pc (x0 :: x1 :: x2 :: some (.int x) :: ls) st μ := by
  intro p e s m args below meth c H locs la F hP hD hE hS hl hX
  obtain ⟨hx, hb, hr, hml, hown, hts, hlk⟩ := F
  obtain ⟨q, hq⟩ := List.getElem?_of_mem (prs_mem.mpr (show (x0 :: x1 :: x2 :: some (Value.int x) :: ls)[3]? = some (some (.int x)) from rfl))
  refine lv_iinc hx hb hd hl.has hq hv hi rfl (fun la2 hl2 => ?_)
  exact k p e s m args below meth c H locs la2 ⟨hx, hb, hr, hml, hown, hts, hlk⟩ hP hD hE hS (lrel.set1 hl2 (isLp (i := 2) rfl hn)) hX
set_option maxHeartbeats 200000 in
theorem B_lload0 {v : Int64} (hd : decode cc pc = .ok (.lload_n 0, 1)) (k : NWk l G K own cc nL d rt nm mc ms Q kc sl L n (pc + 1) (some (.long v) :: ls) (.long v :: st) μ) : NWk l G K own cc nL d rt nm mc ms Q kc sl L n pc (some (.long v) :: ls) st μ := by
  intro p e s m args below meth c H locs la F hP hD hE hS hl hX
  obtain ⟨hx, hb, hr, hml, hown, hts, hlk⟩ := F
  exact lv_lload_n (i := 0) hx hb hd rfl (hl.2.2 0 _ rfl) (k p e s m args below meth c H locs la ⟨hx, hb, hr, hml, hown, hts, hlk⟩ hP hD hE hS hl hX)
set_option maxHeartbeats 200000 in
theorem B_gets {C nn ds : String} {v : Value} {idx : Nat} (hz : ∀ (s : State) (H : Heap), gS G s H → va_Z C nn ds v (gP G) s H) (hl : Cond.fieldLink own idx C nn ds ∈ wsG) (hd : decode cc pc = .ok (.getstatic idx, 3)) (kk : NWk l G K own cc nL d rt nm mc ms Q kc sl L n (pc + 3) ls (v :: st) μ) : NWk l G K own cc nL d rt nm mc ms Q kc sl L n pc ls st μ := by
  intro p e s m args below meth c H locs la F hP hD hE hS hlr hX
  obtain ⟨hx, hb, hr, hml, hown, hts, hlk⟩ := F
  exact va_gets hx hb (hz s s.heap hE.2.2) hS hown (hts _ hl) (fun _ h => h) hd (kk p e s m args below meth c H locs la ⟨hx, hb, hr, hml, hown, hts, hlk⟩ hP hD hE hS hlr hX)
set_option maxHeartbeats 200000 in
theorem B_getO {idx q : Nat} {nn ds : String} {v : Value} (hz : ∀ (s : State) (H : Heap), gS G s H → va_OF own nn ds v q (gP G) s H) (hl : Cond.fieldLink own idx own nn ds ∈ wsG) (hd : decode cc pc = .ok (.getfield idx, 3)) (kk : NWk l G K own cc nL d rt nm mc ms Q kc sl L n (pc + 3) ls (v :: st) μ) : NWk l G K own cc nL d rt nm mc ms Q kc sl L n pc ls (.ref q :: st) μ := by
  intro p e s m args below meth c H locs la F hP hD hE hS hlr hX
  obtain ⟨hx, hb, hr, hml, hown, hts, hlk⟩ := F
  exact vk_getf hx hb (hz s s.heap hE.2.2) hS hown (hts _ hl) (fun _ h => h) hd (kk p e s m args below meth c H locs la ⟨hx, hb, hr, hml, hown, hts, hlk⟩ hP hD hE hS hlr hX)
set_option maxHeartbeats 200000 in
theorem B_tbl {t N : Nat} {f : Nat → Int32} {x : Int32} (ht : ∀ (s : State) (H : Heap), gS G s H → va_T .byte t N (fun j => .int (f j)) (gP G) s H) (hin : vp_in x N) (hd : decode cc pc = .ok (.baload, 1)) (kk : NWk l G K own cc nL d rt nm mc ms Q kc sl L n (pc + 1) ls (.int (f x.toNatClampNeg) :: st) μ) : NWk l G K own cc nL d rt nm mc ms Q kc sl L n pc ls (.int x :: .ref t :: st) μ := by
  intro p e s m args below meth c H locs la F hP hD hE hS hlr hX
  obtain ⟨hx, hb, hr, hml, hown, hts, hlk⟩ := F
  exact va_tb hx hb (ht s s.heap hE.2.2) hS hin rfl hd (kk p e s m args below meth c H locs la ⟨hx, hb, hr, hml, hown, hts, hlk⟩ hP hD hE hS hlr hX)
set_option maxHeartbeats 200000 in
theorem B_tln {ty : FieldType} {t N : Nat} {f : Nat → Value} (ht : ∀ (s : State) (H : Heap), gS G s H → va_T ty t N f (gP G) s H) (hd : decode cc pc = .ok (.arraylength, 1)) (kk : NWk l G K own cc nL d rt nm mc ms Q kc sl L n (pc + 1) ls (.int (nI N) :: st) μ) : NWk l G K own cc nL d rt nm mc ms Q kc sl L n pc ls (.ref t :: st) μ := by
  intro p e s m args below meth c H locs la F hP hD hE hS hlr hX
  obtain ⟨hx, hb, hr, hml, hown, hts, hlk⟩ := F
  exact va_tlen hx hb (ht s s.heap hE.2.2) hS rfl hd (kk p e s m args below meth c H locs la ⟨hx, hb, hr, hml, hown, hts, hlk⟩ hP hD hE hS hlr hX)
set_option maxHeartbeats 200000 in
theorem B_ldcS {idx q : Nat} {tx : String} (hz : ∀ (s : State) (H : Heap), gS G s H → vk_R own idx tx q s) (hd : decode cc pc = .ok (.ldc idx, 2)) (kk : NWk l G K own cc nL d rt nm mc ms Q kc sl L n (pc + 2) ls (.ref q :: st) μ) : NWk l G K own cc nL d rt nm mc ms Q kc sl L n pc ls st μ := by
  intro p e s m args below meth c H locs la F hP hD hE hS hlr hX
  obtain ⟨hx, hb, hr, hml, hown, hts, hlk⟩ := F
  exact va_ldcS hx hb hown (hz s s.heap hE.2.2) hd (kk p e s m args below meth c H locs la ⟨hx, hb, hr, hml, hown, hts, hlk⟩ hP hD hE hS hlr hX)
set_option maxHeartbeats 200000 in
theorem B_val {x y : Int32} (e : x = y) (k : NWk l G K own cc nL d rt nm mc ms Q kc sl L n pc ls (.int y :: st) μ) : NWk l G K own cc nL d rt nm mc ms Q kc sl L n pc ls (.int x :: st) μ := by
  subst e
  exact k
set_option maxHeartbeats 200000 in
theorem B_vall {x y : Int64} (e : x = y) (k : NWk l G K own cc nL d rt nm mc ms Q kc sl L n pc ls (.long y :: st) μ) : NWk l G K own cc nL d rt nm mc ms Q kc sl L n pc ls (.long x :: st) μ := by
  subst e
  exact k
set_option maxHeartbeats 200000 in
theorem B_mem {μ' : Mem} (e : μ = μ') (k : NWk l G K own cc nL d rt nm mc ms Q kc sl L n pc ls st μ') : NWk l G K own cc nL d rt nm mc ms Q kc sl L n pc ls st μ := by
  rw [e]
  exact k
set_option maxHeartbeats 200000 in
theorem B_getR {idx i ci k j : Nat} {ty : FieldType} {fin : Bool} (hg : Gf own idx ci k ty fin) (hk : fk K i ci k = some (2, j)) (hi : i < n) (hL : (i, k) ∈ L) (hd : decode cc pc = .ok (.getfield idx, 3)) (kk : NWk l G K own cc nL d rt nm mc ms Q kc sl L n (pc + 3) ls (.ref (gA G j) :: st) μ) : NWk l G K own cc nL d rt nm mc ms Q kc sl L n pc ls (.ref (gA G i) :: st) μ := by
  intro p e s m args below meth c H locs la F hP hD hE hS hl hX
  obtain ⟨hx, hb, hr, hml, hown, hts, hlk⟩ := F
  obtain ⟨C, T, N, ty0, h1, h2, h3, h4, -, -, -, -⟩ := hg
  obtain ⟨fs, g1, g2⟩ := fk_spec hk
  have hv : (bvls G μ L i fs)[k]? = some (.ref (gA G j)) := (bvls_at g2).trans (congrArg some (if_pos (Or.inr hL)))
  exact va_get (D := gD G) (cl := vwCl) (tys := tyG G) hx hb hts h4 hown hE.1 hP i (bcs_at hi g1) h1 k h2 (hts _ h3) (fun _ h9 => h9) hv hd (kk p e s m args below meth c H locs la ⟨hx, hb, hr, hml, hown, hts, hlk⟩ hP hD hE hS hl hX)
set_option maxHeartbeats 400000 in
theorem B_putf {idx i ci k : Nat} {ty : FieldType} {fin : Bool} {z : Nat × Nat} {v : Value} {μ' : Mem} {L' : Lp} (hg : Gf own idx ci k ty fin) (hdc : ∀ (C : String) (T : u_T) (N : Nat), vwCl[ci]? = some (C, T, N) → (T k).1 = own) (hnm : fin = true → nm = "<init>") (hk : fk K i ci k = some z) (hi : i < n) (hn : narrow ty v = v) (hf : fits ty v = true) (hv : v = bvl G μ' L' i k z) (hs : ∀ b z', b ≠ k → bvl G μ' L' i b z' = bvl G μ L i b z') (ho : ∀ (a : Nat) (q' : Kd), a ≠ i → K[a]? = some q' → bce G μ' L' a q' = bce G μ L a q') (hB : NIv μ L n → NIv μ' L' n) (hd : decode cc pc = .ok (.putfield idx, 3)) (kk : NWk l G K own cc nL d rt nm mc ms Q kc sl L' n (pc + 3) ls st μ') : NWk l G K own cc nL d rt nm mc ms Q kc sl L n pc ls (v :: .ref (gA G i) :: st) μ := by
  intro p e s m args below meth c H locs la F hP hD hE hS hl hX
  obtain ⟨hx, hb, hr, hml, hown, hts, hlk⟩ := F
  obtain ⟨C, T, N, ty0, h1, h2, h3, h4, h5, h6, h7, h8⟩ := hg
  obtain ⟨fs, g1, g2⟩ := fk_spec hk
  obtain ⟨x1, x2, x3, x4, x5, x6⟩ := hX
  have hset : (bcs G K μ L n).set i (gA G i, .inr (ci, (bvls G μ L i fs).set k v)) = bcs G K μ' L' n := by
    refine bcs_set hi x5 g1 ?_ ho
    show (Sum.inr (ci, (bvls G μ L i fs).set k v) : va_E) = .inr (ci, bvls G μ' L' i fs)
    congr 2
    apply List.ext_getElem?
    intro b
    have hkl : k < fs.length := (List.getElem?_eq_some_iff.mp g2).1
    rw [List.getElem?_set]
    by_cases e1 : k = b
    · subst e1
      rw [if_pos rfl, if_pos (by rw [bvls_len]; exact hkl), bvls_at g2, hv]
    · rw [if_neg e1]
      unfold bvls
      rw [List.getElem?_mapIdx, List.getElem?_mapIdx]
      cases hq : fs[b]? with
      | none => rfl
      | some z' => simp only [Option.map_some, hs b z' (fun x => e1 x.symm)]
  have hlen : k < (bvls G μ L i fs).length := by rw [bvls_len]; exact (List.getElem?_eq_some_iff.mp g2).1
  have go : ∀ (H1 : Heap) (locs1 : List Loc), va_P (gD G) vwCl ((bcs G K μ L n).set i (gA G i, .inr (ci, (bvls G μ L i fs).set k v))) H1 → va_D (gP G) ((bcs G K μ L n).set i (gA G i, .inr (ci, (bvls G μ L i fs).set k v))) → va_S (gP G) s.heap H1 locs1 → W p l e (rmb d mc ms) s m args below meth c H1 locs1 kc sl (MQ below (Qb G K Q) args s mc ms (gP G)) (F0 m (pc + 3) la st) := by
    intro H1 locs1 hP1 hD1 hS1
    rw [hset] at hP1 hD1
    exact kk p e s m args below meth c H1 locs1 la ⟨hx, hb, hr, hml, hown, hts, hlk⟩ hP1 hD1 hE hS1 hl ⟨x1, x2, hB x3, x4, x5, x6⟩
  cases fin with
  | false => exact va_put (D := gD G) (cl := vwCl) (tys := tyG G) (ty := ty) hx hb hts h4 ty0 h5 h6 hown hE.1 hP hD hS i (bcs_at hi g1) h1 k h2 (hts _ h3) (fun _ h9 => h9) h8 (by rw [h5 k h2, h7]) hn hf hlen hd go
  | true => exact va_putF (D := gD G) (cl := vwCl) (tys := tyG G) (ty := ty) hx hb hts h4 ty0 h5 h6 hown hE.1 hP hD hS i (bcs_at hi g1) h1 k h2 (hts _ h3) (fun _ h9 => h9) h8 (x1.trans (hnm rfl)) (hdc C T N h1) (by rw [h5 k h2, h7]) hn hf hlen hd go
set_option maxHeartbeats 200000 in
theorem NIv.mark {i k : Nat} (hi : i < n) (h : NIv μ L n) : NIv μ ((i, k) :: L) n := by
  refine ⟨fun z hz => ?_, h.2⟩
  rcases List.mem_cons.mp hz with e | e
  · rw [e]; exact hi
  · exact h.1 z e
set_option maxHeartbeats 200000 in
theorem NIv.wr {i k : Nat} {v : Int32} (hi : i < n) (h : NIv μ L n) : NIv (wI μ i k v) L n := by
  refine ⟨h.1, fun a ha => ⟨fun b => ?_, (h.2 a ha).2⟩⟩
  exact (w2_ne (Or.inl (by omega))).trans ((h.2 a ha).1 b)
set_option maxHeartbeats 200000 in
theorem NIv.wrl {i k : Nat} {v : Int64} (hi : i < n) (h : NIv μ L n) : NIv (wL μ i k v) L n := by
  refine ⟨h.1, fun a ha => ⟨(h.2 a ha).1, fun b => ?_⟩⟩
  exact (w2_ne (Or.inl (by omega))).trans ((h.2 a ha).2 b)
set_option maxHeartbeats 200000 in
theorem mark_ne {i k a b : Nat} (h : a ≠ i ∨ b ≠ k) : (a, b) ∈ (i, k) :: L ↔ (a, b) ∈ L := by
  constructor
  · intro q
    rcases List.mem_cons.mp q with e | e
    · injection e with e1 e2
      rcases h with h | h
      · exact absurd e1 h
      · exact absurd e2 h
    · exact e
  · exact fun q => List.mem_cons_of_mem _ q
set_option maxHeartbeats 200000 in
theorem bvl_mark {i k b : Nat} {z : Nat × Nat} (h : b ≠ k) : bvl G μ ((i, k) :: L) i b z = bvl G μ L i b z := by
  unfold bvl
  simp only [mark_ne (L := L) (i := i) (k := k) (a := i) (b := b) (Or.inr h)]
set_option maxHeartbeats 200000 in
theorem bvl_wr {i k b : Nat} {v : Int32} {z : Nat × Nat} (h : b ≠ k) : bvl G (wI μ i k v) L i b z = bvl G μ L i b z := by
  unfold bvl
  simp only [mval_wI (G := G) (μ := μ) (i := i) (v := v) h]
/-- a reference field is set -/
theorem B_putR {idx i ci k j : Nat} {ty : FieldType} {fin : Bool} (hg : Gf own idx ci k ty fin) (hdc : ∀ (C : String) (T : u_T) (N : Nat), vwCl[ci]? = some (C, T, N) → (T k).1 = own) (hnm : fin = true → nm = "<init>") (hk : fk K i ci k = some (2, j)) (hi : i < n) (hn : narrow ty (.ref (gA G j)) = .ref (gA G j)) (hf : fits ty (.ref (gA G j)) = true) (hd : decode cc pc = .ok (.putfield idx, 3)) (kk : NWk l G K own cc nL d rt nm mc ms Q kc sl ((i, k) :: L) n (pc + 3) ls st μ) : NWk l G K own cc nL d rt nm mc ms Q kc sl L n pc ls (.ref (gA G j) :: .ref (gA G i) :: st) μ :=
  B_putf (μ' := μ) (L' := (i, k) :: L) hg hdc hnm hk hi hn hf (show Value.ref (gA G j) = bvl G μ ((i, k) :: L) i k (2, j) from (if_pos (Or.inr List.mem_cons_self)).symm) (fun b z' h => bvl_mark h) (fun a q' h _ => bce_off rfl rfl rfl (fun b => mark_ne (Or.inl h)) q') (fun h => h.mark hi) hd kk
/-- the text field is set -/
theorem B_putT {idx i ci k j : Nat} {ty : FieldType} {fin : Bool} (hg : Gf own idx ci k ty fin) (hdc : ∀ (C : String) (T : u_T) (N : Nat), vwCl[ci]? = some (C, T, N) → (T k).1 = own) (hnm : fin = true → nm = "<init>") (hk : fk K i ci k = some (3, j)) (hi : i < n) (hn : narrow ty (.ref μ.2.2) = .ref μ.2.2) (hf : fits ty (.ref μ.2.2) = true) (hd : decode cc pc = .ok (.putfield idx, 3)) (kk : NWk l G K own cc nL d rt nm mc ms Q kc sl ((i, k) :: L) n (pc + 3) ls st μ) : NWk l G K own cc nL d rt nm mc ms Q kc sl L n pc ls (.ref μ.2.2 :: .ref (gA G i) :: st) μ :=
  B_putf (μ' := μ) (L' := (i, k) :: L) hg hdc hnm hk hi hn hf (show Value.ref μ.2.2 = bvl G μ ((i, k) :: L) i k (3, j) from (if_pos (Or.inr List.mem_cons_self)).symm) (fun b z' h => bvl_mark h) (fun a q' h _ => bce_off rfl rfl rfl (fun b => mark_ne (Or.inl h)) q') (fun h => h.mark hi) hd kk
theorem B_putI {idx i ci k j : Nat} {fin : Bool} {x : Int32} (hg : Gf own idx ci k .int fin) (hdc : ∀ (C : String) (T : u_T) (N : Nat), vwCl[ci]? = some (C, T, N) → (T k).1 = own) (hnm : fin = true → nm = "<init>") (hk : fk K i ci k = some (0, j)) (hi : i < n) (hd : decode cc pc = .ok (.putfield idx, 3)) (kk : NWk l G K own cc nL d rt nm mc ms Q kc sl L n (pc + 3) ls st (wI μ i k x)) : NWk l G K own cc nL d rt nm mc ms Q kc sl L n pc ls (.int x :: .ref (gA G i) :: st) μ :=
  B_putf (μ' := wI μ i k x) (L' := L) hg hdc hnm hk hi rfl rfl (show Value.int x = bvl G (wI μ i k x) L i k (0, j) from ((if_pos (Or.inl (by show (0 : Nat) < 2; decide))).trans (congrArg Value.int w2_same)).symm) (fun b z' h => bvl_wr h) (fun a q' h _ => bce_off (μ := μ) (μ' := wI μ i k x) (L := L) (L' := L) (w2_off h) rfl rfl (fun b => Iff.rfl) q') (fun h => h.wr hi) hd kk
set_option maxHeartbeats 200000 in
theorem B_lald {i N : Nat} {fs : List (Nat × Nat)} {x : Int32} (hk : K[i]? = some (2, N, fs)) (hi : i < n) (hin : vp_in x N) (hd : decode cc pc = .ok (.laload, 1)) (kk : NWk l G K own cc nL d rt nm mc ms Q kc sl L n (pc + 1) ls (.long (μ.2.1 i x.toNatClampNeg) :: st) μ) : NWk l G K own cc nL d rt nm mc ms Q kc sl L n pc ls (.int x :: .ref (gA G i) :: st) μ := by
  intro p e s m args below meth c H locs la F hP hD hE hS hl hX
  obtain ⟨hx, hb, hr, hml, hown, hts, hlk⟩ := F
  exact va_lald (D := gD G) (cl := vwCl) (tys := tyG G) hx hb hE.1 hP i 1 (bcs_at hi hk) rfl hin hd (kk p e s m args below meth c H locs la ⟨hx, hb, hr, hml, hown, hts, hlk⟩ hP hD hE hS hl hX)
set_option maxHeartbeats 200000 in
theorem B_last {i N : Nat} {fs : List (Nat × Nat)} {x : Int32} {v : Int64} (hk : K[i]? = some (2, N, fs)) (hi : i < n) (hin : vp_in x N) (hd : decode cc pc = .ok (.lastore, 1)) (kk : NWk l G K own cc nL d rt nm mc ms Q kc sl L n (pc + 1) ls st (wL μ i x.toNatClampNeg v)) : NWk l G K own cc nL d rt nm mc ms Q kc sl L n pc ls (.long v :: .int x :: .ref (gA G i) :: st) μ := by
  intro p e s m args below meth c H locs la F hP hD hE hS hl hX
  obtain ⟨hx, hb, hr, hml, hown, hts, hlk⟩ := F
  obtain ⟨x1, x2, x3, x4, x5, x6⟩ := hX
  refine va_last (D := gD G) (cl := vwCl) (tys := tyG G) hx hb hE.1 hP hD hS i 1 (bcs_at hi hk) rfl hin hd (fun H1 locs1 hP1 hD1 hS1 => ?_)
  have hset : (bcs G K μ L n).set i (gA G i, (Sum.inl (gT G 2, N, Sum.inr (Sum.inl (vp_updL (μ.2.1 i) x.toNatClampNeg v))) : va_E)) = bcs G K (wL μ i x.toNatClampNeg v) L n := by
    refine bcs_set hi x5 hk ?_ (fun a q' h _ => bce_off (μ := μ) (μ' := wL μ i x.toNatClampNeg v) (L := L) (L' := L) rfl (w2_off h) rfl (fun b => Iff.rfl) q')
    show _ = (Sum.inl (gT G 2, N, .inr (.inl (w2 μ.2.1 i x.toNatClampNeg v i))) : va_E)
    rw [w2_rowL]
  rw [hset] at hP1 hD1
  exact kk p e s m args below meth c H1 locs1 la ⟨hx, hb, hr, hml, hown, hts, hlk⟩ hP1 hD1 hE hS1 hl ⟨x1, x2, x3.wrl hi, x4, x5, x6⟩
/-- a class as new meets it -/
def dfl (z : Nat × Nat) : Value := if z.1 = 0 then .int 0 else if z.1 = 1 then .long 0 else .null
def Cn (own : String) (idx ci : Nat) (fs : List (Nat × Nat)) : Prop := ∃ (C : String) (T : u_T) (N : Nat) (ty0 : Nat → FieldType), vwCl[ci]? = some (C, T, N) ∧ (∀ k, k < N → parseFieldDescriptor (T k).2.2.1 = some (ty0 k)) ∧ fs.map dfl = (List.range N).map (fun j => defaultValue (ty0 j)) ∧ Cond.classLink own idx C ∈ wsG ∧ Cond.instantiable C N ∈ wsG ∧ Cond.initialized C ∈ wsG ∧ ∀ w ∈ u_ws C T N, w ∈ wsG
set_option maxHeartbeats 200000 in
theorem bvls_new {fs : List (Nat × Nat)} {N : Nat} {ty0 : Nat → FieldType} (hB : NIv μ L n) (hf : fs.map dfl = (List.range N).map (fun j => defaultValue (ty0 j))) : ∀ j, j < N → defaultValue (ty0 j) = vp_V (bvls G μ L n fs) j := by
  intro j hj
  have h1 : (fs.map dfl)[j]? = some (defaultValue (ty0 j)) := by
    rw [hf, List.getElem?_map, List.getElem?_range hj]
    rfl
  rw [List.getElem?_map] at h1
  cases hz : fs[j]? with
  | none => rw [hz] at h1; cases h1
  | some z =>
    rw [hz] at h1
    have h2 : dfl z = defaultValue (ty0 j) := Option.some.inj h1
    have h3 : vp_V (bvls G μ L n fs) j = bvl G μ L n j z := by
      unfold vp_V
      rw [List.getD_eq_getElem?_getD, bvls_at hz]
      rfl
    rw [h3, ← h2]
    have hno : (n, j) ∉ L := fun q => absurd (hB.1 _ q) (Nat.lt_irrefl n)
    have hmu := hB.2 n (Nat.le_refl n)
    obtain ⟨t, w⟩ := z
    match t with
    | 0 => exact (congrArg Value.int (hmu.1 j)).symm
    | 1 => exact (congrArg Value.long (hmu.2 j)).symm
    | t + 2 => exact (if_neg (fun q => by
        rcases q with q | q
        · exact absurd q (by show ¬ (t + 2 < 2); omega)
        · exact hno q)).symm
set_option maxHeartbeats 400000 in
theorem B_new {idx ci n' kc' sl' : Nat} {fs : List (Nat × Nat)} (hO : okB G) (hC : Cn own idx ci fs) (hk : K[n]? = some (0, ci, fs)) (en : n + 1 = n') (ek : kc + 1 = kc') (es : sl + fs.length = sl') (hc : kc' ≤ mc) (hs : sl' ≤ ms) (hd : decode cc pc = .ok (.new idx, 3)) (kk : NWk l G K own cc nL d rt nm mc ms Q kc' sl' L n' (pc + 3) ls (.ref (gA G n) :: st) μ) : NWk l G K own cc nL d rt nm mc ms Q kc sl L n pc ls st μ := by
  subst en
  subst ek
  subst es
  intro p e s m args below meth c H locs la F hP hD hE hS hl hX
  obtain ⟨hx, hb, hr, hml, hown, hts, hlk⟩ := F
  obtain ⟨x1, x2, x3, x4, x5, x6⟩ := hX
  have hkl : n < K.length := (List.getElem?_eq_some_iff.mp hk).1
  obtain ⟨C, T, N, ty0, h1, h6, h7, h2, h3, h4, h5⟩ := hC
  have hN : fs.length = N := by
    have := congrArg List.length h7
    simpa using this
  have x20 := x2.1
  have hAll : ∀ q, s.heap.size ≤ q → gP G q := fun q hq => (hO.2 q).mpr (Nat.le_trans x2.2 hq)
  refine va_new (D := gD G) (cl := vwCl) (tys := tyG G) (ci := ci) (fs := bvls G μ L n fs) hx hb hts h5 ty0 h6 hown (hts _ h2) (hts _ h3) (hts _ h4) hE.1 hP hD hS hAll h1 (bvls_new x3 h7) hc (by rw [← hN]; exact hs) hd (fun q H1 hP1 hD1 hS1 => ?_)
  rw [← hN]
  refine W.sz (fun hz1 => ?_)
  have hq : q = gA G n := b_adr hO x5 x6 hP1 hD1 (by omega)
  rw [hq] at hP1 hD1 ⊢
  have ep := bcs_push (G := G) (μ := μ) (L := L) hk
  have hP2 : va_P (gD G) vwCl (bcs G K μ L (n + 1)) H1 := by rw [← ep]; exact hP1
  have hD2 : va_D (gP G) (bcs G K μ L (n + 1)) := by rw [← ep]; exact hD1
  exact kk p e s m args below meth c H1 locs la ⟨hx, hb, hr, hml, hown, hts, hlk⟩ hP2 hD2 hE hS1 hl ⟨x1, ⟨by omega, x2.2⟩, ⟨fun z hz => Nat.lt_succ_of_lt (x3.1 z hz), fun i hi => x3.2 i (by omega)⟩, by omega, hkl, x6⟩
set_option maxHeartbeats 400000 in
theorem B_newi {N n' kc' sl' : Nat} {x : Int32} (hO : okB G) (hac : Cond.arrayClass .int ∈ wsG) (hk : K[n]? = some (1, N, [])) (hn : ¬ x < 0) (hN : x.toNatClampNeg = N) (hby : N * componentBytes .int ≤ 536870912) (en : n + 1 = n') (ek : kc + 1 = kc') (es : sl + N = sl') (hc : kc' ≤ mc) (hs : sl' ≤ ms) (hd : decode cc pc = .ok (.newarray .int, 2)) (kk : NWk l G K own cc nL d rt nm mc ms Q kc' sl' L n' (pc + 2) ls (.ref (gA G n) :: st) μ) : NWk l G K own cc nL d rt nm mc ms Q kc sl L n pc ls (.int x :: st) μ := by
  subst en
  subst ek
  subst es
  intro p e s m args below meth c H locs la F hP hD hE hS hl hX
  obtain ⟨hx, hb, hr, hml, hown, hts, hlk⟩ := F
  obtain ⟨x1, x2, x3, x4, x5, x6⟩ := hX
  have hkl : n < K.length := (List.getElem?_eq_some_iff.mp hk).1
  have x20 := x2.1
  have hAll : ∀ q, s.heap.size ≤ q → gP G q := fun q hq => (hO.2 q).mpr (Nat.le_trans x2.2 hq)
  refine va_newa (D := gD G) (cl := vwCl) (tys := tyG G) (atype := .int) (ty := .int) (a0 := (N, .inl (fun _ => 0))) hx hb (hts _ hac) rfl hE.1 hP hD hS hAll (fun _ => rfl) hn hN hby hc hs hd (fun q cA H1 hK1 hP1 hD1 hS1 => ?_)
  refine W.sz (fun hz1 => ?_)
  have hq : q = gA G n := b_adr hO x5 x6 hP1 hD1 (by omega)
  have hcA : cA = gT G 1 := by
    have h1 : s.vm.findClass ("[" ++ (FieldType.int).toString) = some cA := (hK1.2 5 (cA, .int) rfl).2
    have h2 : s.vm.findClass ("[" ++ (FieldType.int).toString) = some (gT G 1) := (hE.1.2 0 (gT G 1, .int) rfl).2
    exact Option.some.inj (h1.symm.trans h2)
  have hmu : μ.1 n = fun _ => 0 := funext (fun k => (x3.2 n (Nat.le_refl n)).1 k)
  have ep := bcs_push (G := G) (μ := μ) (L := L) hk
  have ec : bce G μ L n (1, N, []) = .inl (gT G 1, N, .inl (fun _ => 0)) := by
    show (Sum.inl (gT G 1, N, .inl (μ.1 n)) : va_E) = _
    rw [hmu]
  rw [hq, hcA] at hP1 hD1
  rw [hq]
  rw [ec] at ep
  have hP2 : va_P (gD G) vwCl (bcs G K μ L (n + 1)) H1 := by rw [← ep]; exact hP1
  have hD2 : va_D (gP G) (bcs G K μ L (n + 1)) := by rw [← ep]; exact hD1
  exact kk p e s m args below meth c H1 locs la ⟨hx, hb, hr, hml, hown, hts, hlk⟩ hP2 hD2 hE hS1 hl ⟨x1, ⟨by omega, x2.2⟩, ⟨fun z hz => Nat.lt_succ_of_lt (x3.1 z hz), fun i hi => x3.2 i (by omega)⟩, by omega, hkl, x6⟩
set_option maxHeartbeats 400000 in
theorem B_newl {N n' kc' sl' : Nat} {x : Int32} (hO : okB G) (hac : Cond.arrayClass .long ∈ wsG) (hk : K[n]? = some (2, N, [])) (hn : ¬ x < 0) (hN : x.toNatClampNeg = N) (hby : N * componentBytes .long ≤ 536870912) (en : n + 1 = n') (ek : kc + 1 = kc') (es : sl + N = sl') (hc : kc' ≤ mc) (hs : sl' ≤ ms) (hd : decode cc pc = .ok (.newarray .long, 2)) (kk : NWk l G K own cc nL d rt nm mc ms Q kc' sl' L n' (pc + 2) ls (.ref (gA G n) :: st) μ) : NWk l G K own cc nL d rt nm mc ms Q kc sl L n pc ls (.int x :: st) μ := by
  subst en
  subst ek
  subst es
  intro p e s m args below meth c H locs la F hP hD hE hS hl hX
  obtain ⟨hx, hb, hr, hml, hown, hts, hlk⟩ := F
  obtain ⟨x1, x2, x3, x4, x5, x6⟩ := hX
  have hkl : n < K.length := (List.getElem?_eq_some_iff.mp hk).1
  have x20 := x2.1
  have hAll : ∀ q, s.heap.size ≤ q → gP G q := fun q hq => (hO.2 q).mpr (Nat.le_trans x2.2 hq)
  refine va_newa (D := gD G) (cl := vwCl) (tys := tyG G) (atype := .long) (ty := .long) (a0 := (N, .inr (.inl (fun _ => 0)))) hx hb (hts _ hac) rfl hE.1 hP hD hS hAll (fun _ => rfl) hn hN hby hc hs hd (fun q cA H1 hK1 hP1 hD1 hS1 => ?_)
  refine W.sz (fun hz1 => ?_)
  have hq : q = gA G n := b_adr hO x5 x6 hP1 hD1 (by omega)
  have hcA : cA = gT G 2 := by
    have h1 : s.vm.findClass ("[" ++ (FieldType.long).toString) = some cA := (hK1.2 5 (cA, .long) rfl).2
    have h2 : s.vm.findClass ("[" ++ (FieldType.long).toString) = some (gT G 2) := (hE.1.2 1 (gT G 2, .long) rfl).2
    exact Option.some.inj (h1.symm.trans h2)
  have hmu : μ.2.1 n = fun _ => 0 := funext (fun k => (x3.2 n (Nat.le_refl n)).2 k)
  have ep := bcs_push (G := G) (μ := μ) (L := L) hk
  have ec : bce G μ L n (2, N, []) = .inl (gT G 2, N, .inr (.inl (fun _ => 0))) := by
    show (Sum.inl (gT G 2, N, .inr (.inl (μ.2.1 n))) : va_E) = _
    rw [hmu]
  rw [hq, hcA] at hP1 hD1
  rw [hq]
  rw [ec] at ep
  have hP2 : va_P (gD G) vwCl (bcs G K μ L (n + 1)) H1 := by rw [← ep]; exact hP1
  have hD2 : va_D (gP G) (bcs G K μ L (n + 1)) := by rw [← ep]; exact hD1
  exact kk p e s m args below meth c H1 locs la ⟨hx, hb, hr, hml, hown, hts, hlk⟩ hP2 hD2 hE hS1 hl ⟨x1, ⟨by omega, x2.2⟩, ⟨fun z hz => Nat.lt_succ_of_lt (x3.1 z hz), fun i hi => x3.2 i (by omega)⟩, by omega, hkl, x6⟩
set_option maxHeartbeats 400000 in
theorem B_newb {N n' kc' sl' : Nat} {x : Int32} (hO : okB G) (hac : Cond.arrayClass .byte ∈ wsG) (hk : K[n]? = some (3, N, [])) (hn : ¬ x < 0) (hN : x.toNatClampNeg = N) (hby : N * componentBytes .byte ≤ 536870912) (en : n + 1 = n') (ek : kc + 1 = kc') (es : sl + N = sl') (hc : kc' ≤ mc) (hs : sl' ≤ ms) (hd : decode cc pc = .ok (.newarray .byte, 2)) (kk : NWk l G K own cc nL d rt nm mc ms Q kc' sl' L n' (pc + 2) ls (.ref (gA G n) :: st) μ) : NWk l G K own cc nL d rt nm mc ms Q kc sl L n pc ls (.int x :: st) μ := by
  subst en
  subst ek
  subst es
  intro p e s m args below meth c H locs la F hP hD hE hS hl hX
  obtain ⟨hx, hb, hr, hml, hown, hts, hlk⟩ := F
  obtain ⟨x1, x2, x3, x4, x5, x6⟩ := hX
  have hkl : n < K.length := (List.getElem?_eq_some_iff.mp hk).1
  have x20 := x2.1
  have hAll : ∀ q, s.heap.size ≤ q → gP G q := fun q hq => (hO.2 q).mpr (Nat.le_trans x2.2 hq)
  refine va_newa (D := gD G) (cl := vwCl) (tys := tyG G) (atype := .byte) (ty := .byte) (a0 := (N, .inl (fun _ => 0))) hx hb (hts _ hac) rfl hE.1 hP hD hS hAll (fun _ => rfl) hn hN hby hc hs hd (fun q cA H1 hK1 hP1 hD1 hS1 => ?_)
  refine W.sz (fun hz1 => ?_)
  have hq : q = gA G n := b_adr hO x5 x6 hP1 hD1 (by omega)
  have hcA : cA = gT G 3 := by
    have h1 : s.vm.findClass ("[" ++ (FieldType.byte).toString) = some cA := (hK1.2 5 (cA, .byte) rfl).2
    have h2 : s.vm.findClass ("[" ++ (FieldType.byte).toString) = some (gT G 3) := (hE.1.2 2 (gT G 3, .byte) rfl).2
    exact Option.some.inj (h1.symm.trans h2)
  have hmu : μ.1 n = fun _ => 0 := funext (fun k => (x3.2 n (Nat.le_refl n)).1 k)
  have ep := bcs_push (G := G) (μ := μ) (L := L) hk
  have ec : bce G μ L n (3, N, []) = .inl (gT G 3, N, .inl (fun _ => 0)) := by
    show (Sum.inl (gT G 3, N, .inl (μ.1 n)) : va_E) = _
    rw [hmu]
  rw [hq, hcA] at hP1 hD1
  rw [hq]
  rw [ec] at ep
  have hP2 : va_P (gD G) vwCl (bcs G K μ L (n + 1)) H1 := by rw [← ep]; exact hP1
  have hD2 : va_D (gP G) (bcs G K μ L (n + 1)) := by rw [← ep]; exact hD1
  exact kk p e s m args below meth c H1 locs la ⟨hx, hb, hr, hml, hown, hts, hlk⟩ hP2 hD2 hE hS1 hl ⟨x1, ⟨by omega, x2.2⟩, ⟨fun z hz => Nat.lt_succ_of_lt (x3.1 z hz), fun i hi => x3.2 i (by omega)⟩, by omega, hkl, x6⟩
set_option maxHeartbeats 400000 in
theorem B_newz {N n' kc' sl' : Nat} {x : Int32} (hO : okB G) (hac : Cond.arrayClass .boolean ∈ wsG) (hk : K[n]? = some (4, N, [])) (hn : ¬ x < 0) (hN : x.toNatClampNeg = N) (hby : N * componentBytes .boolean ≤ 536870912) (en : n + 1 = n') (ek : kc + 1 = kc') (es : sl + N = sl') (hc : kc' ≤ mc) (hs : sl' ≤ ms) (hd : decode cc pc = .ok (.newarray .boolean, 2)) (kk : NWk l G K own cc nL d rt nm mc ms Q kc' sl' L n' (pc + 2) ls (.ref (gA G n) :: st) μ) : NWk l G K own cc nL d rt nm mc ms Q kc sl L n pc ls (.int x :: st) μ := by
  subst en
  subst ek
  subst es
  intro p e s m args below meth c H locs la F hP hD hE hS hl hX
  obtain ⟨hx, hb, hr, hml, hown, hts, hlk⟩ := F
  obtain ⟨x1, x2, x3, x4, x5, x6⟩ := hX
  have hkl : n < K.length := (List.getElem?_eq_some_iff.mp hk).1
  have x20 := x2.1
  have hAll : ∀ q, s.heap.size ≤ q → gP G q := fun q hq => (hO.2 q).mpr (Nat.le_trans x2.2 hq)
  refine va_newa (D := gD G) (cl := vwCl) (tys := tyG G) (atype := .boolean) (ty := .boolean) (a0 := (N, .inl (fun _ => 0))) hx hb (hts _ hac) rfl hE.1 hP hD hS hAll (fun _ => rfl) hn hN hby hc hs hd (fun q cA H1 hK1 hP1 hD1 hS1 => ?_)
  refine W.sz (fun hz1 => ?_)
  have hq : q = gA G n := b_adr hO x5 x6 hP1 hD1 (by omega)
  have hcA : cA = gT G 4 := by
    have h1 : s.vm.findClass ("[" ++ (FieldType.boolean).toString) = some cA := (hK1.2 5 (cA, .boolean) rfl).2
    have h2 : s.vm.findClass ("[" ++ (FieldType.boolean).toString) = some (gT G 4) := (hE.1.2 3 (gT G 4, .boolean) rfl).2
    exact Option.some.inj (h1.symm.trans h2)
  have hmu : μ.1 n = fun _ => 0 := funext (fun k => (x3.2 n (Nat.le_refl n)).1 k)
  have ep := bcs_push (G := G) (μ := μ) (L := L) hk
  have ec : bce G μ L n (4, N, []) = .inl (gT G 4, N, .inl (fun _ => 0)) := by
    show (Sum.inl (gT G 4, N, .inl (μ.1 n)) : va_E) = _
    rw [hmu]
  rw [hq, hcA] at hP1 hD1
  rw [hq]
  rw [ec] at ep
  have hP2 : va_P (gD G) vwCl (bcs G K μ L (n + 1)) H1 := by rw [← ep]; exact hP1
  have hD2 : va_D (gP G) (bcs G K μ L (n + 1)) := by rw [← ep]; exact hD1
  exact kk p e s m args below meth c H1 locs la ⟨hx, hb, hr, hml, hown, hts, hlk⟩ hP2 hD2 hE hS1 hl ⟨x1, ⟨by omega, x2.2⟩, ⟨fun z hz => Nat.lt_succ_of_lt (x3.1 z hz), fun i hi => x3.2 i (by omega)⟩, by omega, hkl, x6⟩
set_option maxHeartbeats 400000 in
theorem B_newq {idx N n' kc' sl' : Nat} {fs : List (Nat × Nat)} {x : Int32} (hO : okB G) (hAO : ∀ (s : State) (H : Heap), gS G s H → va_AO RX5 s) (hcl : Cond.classLink own idx RX5 ∈ wsG) (hk : K[n]? = some (5, N, fs)) (hn : ¬ x < 0) (hN : x.toNatClampNeg = N) (hby : N * 4 ≤ 536870912) (en : n + 1 = n') (ek : kc + 1 = kc') (es : sl + N = sl') (hc : kc' ≤ mc) (hs : sl' ≤ ms) (hd : decode cc pc = .ok (.anewarray idx, 3)) (kk : NWk l G K own cc nL d rt nm mc ms Q kc' sl' L n' (pc + 3) ls (.ref (gA G n) :: st) μ) : NWk l G K own cc nL d rt nm mc ms Q kc sl L n pc ls (.int x :: st) μ := by
  subst en
  subst ek
  subst es
  intro p e s m args below meth c H locs la F hP hD hE hS hl hX
  obtain ⟨hx, hb, hr, hml, hown, hts, hlk⟩ := F
  obtain ⟨x1, x2, x3, x4, x5, x6⟩ := hX
  have hkl : n < K.length := (List.getElem?_eq_some_iff.mp hk).1
  have x20 := x2.1
  have hAll : ∀ q, s.heap.size ≤ q → gP G q := fun q hq => (hO.2 q).mpr (Nat.le_trans x2.2 hq)
  refine va_newq (D := gD G) (cl := vwCl) (tys := tyG G) (C := RX5) hx hb hown (hts _ hcl) (hAO s s.heap hE.2.2) hE.1 hP hD hS hAll hn hN hby hc hs hd (fun q cA H1 hK1 hP1 hD1 hS1 => ?_)
  refine W.sz (fun hz1 => ?_)
  have hq : q = gA G n := b_adr hO x5 x6 hP1 hD1 (by omega)
  have hcA : cA = gT G 5 := by
    obtain ⟨_, _, _, _, _, h1⟩ := (hK1.2 5 (cA, .object RX5) rfl).2
    obtain ⟨_, _, _, _, _, h2⟩ := (hE.1.2 4 (gT G 5, .object RX5) rfl).2
    exact Option.some.inj (h1.symm.trans h2)
  have hno : ∀ j, (n, j) ∉ L := fun j q => absurd (x3.1 _ q) (Nat.lt_irrefl n)
  have ep := bcs_push (G := G) (μ := μ) (L := L) hk
  have ec : bce G μ L n (5, N, fs) = .inl (gT G 5, N, .inr (.inr (.inr (.inr (fun _ => none))))) := by
    have hf : (fun j => if (n, j) ∈ L then (fs[j]?).map (fun z : Nat × Nat => gA G z.2) else none) = fun _ => none := funext (fun j => if_neg (hno j))
    show (Sum.inl (gT G 5, N, .inr (.inr (.inr (.inr (fun j => if (n, j) ∈ L then (fs[j]?).map (fun z : Nat × Nat => gA G z.2) else none))))) : va_E) = _
    rw [hf]
  rw [hq, hcA] at hP1 hD1
  rw [hq]
  rw [ec] at ep
  have hP2 : va_P (gD G) vwCl (bcs G K μ L (n + 1)) H1 := by rw [← ep]; exact hP1
  have hD2 : va_D (gP G) (bcs G K μ L (n + 1)) := by rw [← ep]; exact hD1
  exact kk p e s m args below meth c H1 locs la ⟨hx, hb, hr, hml, hown, hts, hlk⟩ hP2 hD2 hE hS1 hl ⟨x1, ⟨by omega, x2.2⟩, ⟨fun z hz => Nat.lt_succ_of_lt (x3.1 z hz), fun i hi => x3.2 i (by omega)⟩, by omega, hkl, x6⟩
set_option maxHeartbeats 400000 in
theorem B_astq {i N t j : Nat} {fs fs' : List (Nat × Nat)} {x : Int32} (hk : K[i]? = some (5, N, fs)) (hv : K[t]? = some (0, 5, fs')) (hx0 : x.toNatClampNeg = j) (hj : fs[j]? = some (2, t)) (hi : i < n) (ht : t < n) (hin : vp_in x N) (hd : decode cc pc = .ok (.aastore, 1)) (kk : NWk l G K own cc nL d rt nm mc ms Q kc sl ((i, j) :: L) n (pc + 1) ls st μ) : NWk l G K own cc nL d rt nm mc ms Q kc sl L n pc ls (.ref (gA G t) :: .int x :: .ref (gA G i) :: st) μ := by
  intro p e s m args below meth c H locs la F hP hD hE hS hl hX
  obtain ⟨hx, hb, hr, hml, hown, hts, hlk⟩ := F
  obtain ⟨x1, x2, x3, x4, x5, x6⟩ := hX
  refine va_astq (D := gD G) (cl := vwCl) (tys := tyG G) (r := (RX5, TX5, 15)) hx hb hE.1 hP hD hS i 4 t 5 (bcs_at hi hk) rfl (bcs_at ht hv) rfl hin hd (fun H1 locs1 hP1 hD1 hS1 => ?_)
  have hfn : va_up (fun j => if (i, j) ∈ L then (fs[j]?).map (fun z : Nat × Nat => gA G z.2) else none) x.toNatClampNeg (some (gA G t)) = fun b => if (i, b) ∈ (i, j) :: L then (fs[b]?).map (fun z : Nat × Nat => gA G z.2) else none := by
    rw [hx0]
    funext b
    by_cases e1 : b = j
    · subst e1
      rw [va_up_self, if_pos List.mem_cons_self, hj]
      rfl
    · rw [va_up_ne _ _ e1]
      simp only [mark_ne (L := L) (i := i) (k := j) (a := i) (b := b) (Or.inr e1)]
  rw [hfn] at hP1 hD1
  have hset : (bcs G K μ L n).set i (gA G i, (Sum.inl (gT G 5, N, Sum.inr (Sum.inr (Sum.inr (Sum.inr (fun b => if (i, b) ∈ (i, j) :: L then (fs[b]?).map (fun z : Nat × Nat => gA G z.2) else none))))) : va_E)) = bcs G K μ ((i, j) :: L) n := bcs_set hi x5 hk rfl (fun a q' h _ => bce_off (μ := μ) (μ' := μ) (L := L) (L' := (i, j) :: L) rfl rfl rfl (fun b => mark_ne (Or.inl h)) q')
  rw [hset] at hP1 hD1
  exact kk p e s m args below meth c H1 locs1 la ⟨hx, hb, hr, hml, hown, hts, hlk⟩ hP1 hD1 hE hS1 hl ⟨x1, x2, x3.mark hi, x4, x5, x6⟩
theorem oi_inst : Cond.instanceMethod objectInit ∈ wsG := wsG_1 29 (by decide +kernel) (by decide +kernel)
theorem oi_code : Cond.code objectInit ⟨#[0xb1]⟩ 1 none ∈ wsG := wsG_1 30 (by decide +kernel) (by decide +kernel)
set_option maxHeartbeats 200000 in
theorem B_obj {idx a : Nat} (hL : Cond.methodLink own idx objectInit ∈ wsG) (h1 : 1 ≤ d) (hd : decode cc pc = .ok (.invokespecial idx, 3)) (kk : NWk l G K own cc nL d rt nm mc ms Q kc sl L n (pc + 3) ls [] μ) : NWk l G K own cc nL d rt nm mc ms Q kc sl L n pc ls [.ref a] μ := by
  intro p e s m args below meth c H locs la F hP hD hE hS hl hX
  obtain ⟨hx, hb, hr, hml, hown, hts, hlk⟩ := F
  refine W.objInit hx hb hown (hts _ hL) (hts _ oi_inst) (hts _ oi_code) rfl (by rw [hml]; exact hl.1) rfl hd h1 (by show 2 * 0 + 0 + 12 ≤ 80 * d; omega) ?_
  exact W.eq (g2 := F0 m (pc + 3) la []) rfl (kk p e s m args below meth c H locs la ⟨hx, hb, hr, hml, hown, hts, hlk⟩ hP hD hE hS hl hX)
set_option maxHeartbeats 200000 in
theorem b_end {s t : State} {H : Heap} {locs : List Loc} {meth : Method} (hO : okB G) (hP : va_P (gD G) vwCl (bcs G K μ L n) H) (hD : va_D (gP G) (bcs G K μ L n)) (hE : En G s) (hS : va_S (gP G) s.heap H locs) (hX : Xb G K nm kc μ L n s meth) (hz : H.size ≤ s.heap.size + kc) (ht : t.heap = H) (hW : s.WarmedH t.vm) : Wb G K μ L n t := by
  obtain ⟨x1, x2, x3, x4, x5, x6⟩ := hX
  refine ⟨by rw [ht]; exact hP, hD, hE.go hW ht hS, ?_, x3, x4, x5, x6⟩
  rw [ht]
  exact b_size hO hP x4 x5 x6 (by have := x2.1; omega)
set_option maxHeartbeats 200000 in
theorem B_vret (hO : okB G) (hc : kc ≤ mc) (hs : sl ≤ ms) (hd : decode cc pc = .ok (.return_, 1)) (hq : Q none μ L n) : NWk l G K own cc nL d none nm mc ms Q kc sl L n pc ls [] μ := by
  intro p e s m args below meth c H locs la F hP hD hE hS hl hX
  obtain ⟨hx, hb, hr, hml, hown, hts, hlk⟩ := F
  refine W.sz (fun hz => ?_)
  refine W.widen (k := mc) (n := ms) hc hs ?_
  exact W.vret hx hb hr (fun t ht hW => ⟨⟨none, μ, L, n, rfl, hq, b_end hO hP hD hE hS hX hz ht hW⟩, hS.F ht⟩) hS.2.2 hd hlk
set_option maxHeartbeats 200000 in
theorem B_nret {ty : FieldType} {v : Int32} (hO : okB G) (hc : kc ≤ mc) (hs : sl ≤ ms) (hd : decode cc pc = .ok (.ireturn, 1)) (hn : narrow ty (.int v) = .int v) (hq : Q (some (.int v)) μ L n) : NWk l G K own cc nL d (some ty) nm mc ms Q kc sl L n pc ls [.int v] μ := by
  intro p e s m args below meth c H locs la F hP hD hE hS hl hX
  obtain ⟨hx, hb, hr, hml, hown, hts, hlk⟩ := F
  refine W.sz (fun hz => ?_)
  refine W.widen (k := mc) (n := ms) hc hs ?_
  exact W.zret hx hb hr hn (fun t ht hW => ⟨⟨some (.int v), μ, L, n, rfl, hq, b_end hO hP hD hE hS hX hz ht hW⟩, hS.F ht⟩) hS.2.2 hd hlk
set_option maxHeartbeats 200000 in
theorem B_iret {v : Int32} (hO : okB G) (hc : kc ≤ mc) (hs : sl ≤ ms) (hd : decode cc pc = .ok (.ireturn, 1)) (hq : Q (some (.int v)) μ L n) : NWk l G K own cc nL d (some .int) nm mc ms Q kc sl L n pc ls [.int v] μ := by
  intro p e s m args below meth c H locs la F hP hD hE hS hl hX
  obtain ⟨hx, hb, hr, hml, hown, hts, hlk⟩ := F
  refine W.sz (fun hz => ?_)
  refine W.widen (k := mc) (n := ms) hc hs ?_
  exact W.iret hx hb hr (fun t ht hW => ⟨⟨some (.int v), μ, L, n, rfl, hq, b_end hO hP hD hE hS hX hz ht hW⟩, hS.F ht⟩) hS.2.2 hd hlk
set_option maxHeartbeats 200000 in
theorem B_lret {v : Int64} (hO : okB G) (hc : kc ≤ mc) (hs : sl ≤ ms) (hd : decode cc pc = .ok (.lreturn, 1)) (hq : Q (some (.long v)) μ L n) : NWk l G K own cc nL d (some .long) nm mc ms Q kc sl L n pc ls [.long v] μ := by
  intro p e s m args below meth c H locs la F hP hD hE hS hl hX
  obtain ⟨hx, hb, hr, hml, hown, hts, hlk⟩ := F
  refine W.sz (fun hz => ?_)
  refine W.widen (k := mc) (n := ms) hc hs ?_
  exact W.lret hx hb hr (fun t ht hW => ⟨⟨some (.long v), μ, L, n, rfl, hq, b_end hO hP hD hE hS hX hz ht hW⟩, hS.F ht⟩) hS.2.2 hd hlk
set_option maxHeartbeats 200000 in
theorem Wb.blind {av : List Value} : FrameBlind (va_Pc av (Wb G K μ L n)) := by
  intro a U g mk h
  obtain ⟨h0, h1, h2, h3, h4⟩ := h
  exact ⟨h0, h1, h2, ⟨va_K.moved (u := U) (U := U.calling g mk a) (Vm.Alike.refl U.vm) h3.1, h3.2.1, h3.2.1.2.1 U (U.calling g mk a) U.heap rfl h3.2.2⟩, h4⟩
set_option maxHeartbeats 400000 in
theorem NWk.back {p : Program} {e : Env} {s : State} {m : MethodId} {args : Array Value} {below : List Frame} {meth : Method} {c : Code} {H : Heap} {locs : List Loc} {la : Array Slot} {st0 rest : List Value} {a : Array Value} {mcy msy kc' sl' : Nat} {Qy : Option Value → Mem → Lp → Nat → Prop} (hr : va_Run p l e (rmb d mc ms) s m args below meth c H locs kc sl mcy msy (F0 m pc la st0) rest (Qb G K Qy a) (gP G))
    (hF : Fx p s m args meth c own cc nL rt) (hE : En G s) (hS : va_S (gP G) s.heap H locs) (hl : lrel nL ls la) (hX : Xb G K nm kc μ L n s meth) (ek : kc + mcy = kc') (es : sl + msy = sl') (hnn : ∀ (r : Option Value) (μ' : Mem) (L' : Lp) (n' : Nat), Qy r μ' L' n' → n' = n + mcy) (kk : ∀ (r : Option Value) (μ' : Mem) (L' : Lp) (n' : Nat), Qy r μ' L' n' → NWk l G K own cc nL d rt nm mc ms Q kc' sl' L' n' (pc + 3) ls (r.toList ++ rest) μ') : W p l e (rmb d mc ms) s m args below meth c H locs kc sl (MQ below (Qb G K Q) args s mc ms (gP G)) (F0 m pc la st0) := by
  subst ek
  subst es
  intro T hT X
  obtain ⟨v, st₀, t, T', Lo, h0, X', hL, e1, e2, ⟨⟨r, μ', L', n', hv, hq, hw⟩, hz, hk⟩, stp⟩ := hr T hT X
  cases hv
  rw [h0] at hz hk
  have hn' := hnn v μ' L' n' hq
  obtain ⟨w1, w2, w3, w4, w5, w6, w7, w8⟩ := hw
  have hP1 : va_P (gD G) vwCl (bcs G K μ' L' n') T'.heap := by rw [e1]; exact w1
  obtain ⟨t2, a1, b1⟩ := kk v μ' L' n' hq p e s m args below meth c T'.heap (locs ++ Lo) la hF hP1 w2 hE
    ⟨Nat.le_trans hS.1 (by rw [e1]; exact hz), fun q h1 h2 => by rw [e1, hk q (Nat.lt_of_lt_of_le h1 hS.1) h2]; exact hS.2.1 q h1 h2, fun q hq => by
      rcases List.mem_append.mp hq with h | h
      · exact hS.2.2 q h
      · exact hL q h⟩ hl ⟨hX.1, ⟨by have := hX.2.1.1; omega, hX.2.1.2⟩, w5, w6, w7, w8⟩ T' rfl X'
  exact ⟨t2, stp t2 a1, b1⟩
set_option maxHeartbeats 200000 in
theorem roomb_ok {nLy dy mcy msy : Nat} (h : dy < d) (hn : nLy ≤ 60) : (rmb dy mcy msy).frames + 1 ≤ (rmb d mc ms).frames ∧ 8 + (nLy + 11) + (rmb dy mcy msy).locals ≤ (rmb d mc ms).locals := by
  unfold rmb
  constructor
  · show dy + 1 ≤ d
    exact h
  · show 8 + (nLy + 11) + 80 * dy ≤ 80 * d
    omega
/-- what the tables say of a constructor -/
def Yi (y : MethodName) (cy : ByteArray) (nLy n : Nat) : Prop := Cond.instanceMethod y ∈ wsG ∧ Cond.initialized y.cls ∈ wsG ∧ Cond.code y cy nLy none ∈ wsG ∧ (y.cls ≠ "java/lang/invoke/MethodHandle" ∧ y.cls ≠ "java/lang/invoke/VarHandle" ∧ (parseMethodDescriptor y.desc).map (fun d => d.parameters.length) = some n) ∧ nLy ≤ 60 ∧ y.name = "<init>"
set_option maxHeartbeats 400000 in
theorem B_invI {y : MethodName} {cy : ByteArray} {nLy dy nA mcy msy kc' sl' i idx : Nat} {As rest : List Value} {Qy : Option Value → Mem → Lp → Nat → Prop} (hO : okB G) (hM : Mb l G K y cy nLy none dy mcy msy (.ref (gA G i) :: As) μ L n Qy) (hL : Cond.methodLink own idx y ∈ wsG) (hY : Yi y cy nLy nA) (hn : As.length = nA) (hdep : dy < d) (ek : kc + mcy = kc') (es : sl + msy = sl') (hc : kc' ≤ mc) (hs : sl' ≤ ms) (hnn : ∀ (r : Option Value) (μ' : Mem) (L' : Lp) (n' : Nat), Qy r μ' L' n' → n' = n + mcy) (hW : (rest.map fun v => v.category).sum ≤ 8) (hd : decode cc pc = .ok (.invokespecial idx, 3))
    (kk : ∀ (r : Option Value) (μ' : Mem) (L' : Lp) (n' : Nat), Qy r μ' L' n' → NWk l G K own cc nL d rt nm mc ms Q kc' sl' L' n' (pc + 3) ls (r.toList ++ rest) μ') : NWk l G K own cc nL d rt nm mc ms Q kc sl L n pc ls (As.reverse ++ .ref (gA G i) :: rest) μ := by
  intro p e s m args below meth c H locs la F hP hD hE hS hl hX
  obtain ⟨hx, hb, hr, hml, hown, hts, hlk⟩ := F
  obtain ⟨y1, y3, y4, y5, y6, y7⟩ := hY
  refine W.sz (fun hz => ?_)
  exact NWk.back (va_runI (As := As) (rest := rest) ⟨hx, hb, hml, hown, hts⟩ hM ⟨callB_of nA hts (wsG_goodIn y4) rfl rfl rfl (hts _ y3) (hts _ hL) y5 (roomb_ok hdep y6), y7, hts _ y1⟩ ⟨Wb.blind, fun U hU hWU => ⟨rfl, b_end hO hP hD hE hS hX hz hU hWU⟩⟩ rfl hn hl.1 rfl (lv_room hW) hd ⟨by show kc + mcy ≤ mc; omega, by show sl + msy ≤ ms; omega⟩) ⟨hx, hb, hr, hml, hown, hts, hlk⟩ hE hS hl hX ek es hnn kk
set_option maxHeartbeats 400000 in
theorem B_invS {y : MethodName} {cy : ByteArray} {nLy dy nA idx : Nat} {rty : Option FieldType} {As rest : List Value} {Qy : Option Value → Mem → Lp → Nat → Prop} (hO : okB G) (hM : Mb l G K y cy nLy rty dy 0 0 As μ L n Qy) (hL : Cond.methodLink own idx y ∈ wsG) (hY : Ys y cy nLy rty nA) (hn : As.length = nA) (hdep : dy < d) (hc : kc ≤ mc) (hs : sl ≤ ms) (hnn : ∀ (r : Option Value) (μ' : Mem) (L' : Lp) (n' : Nat), Qy r μ' L' n' → n' = n + 0) (hW : (rest.map fun v => v.category).sum ≤ 8) (hd : decode cc pc = .ok (.invokestatic idx, 3))
    (kk : ∀ (r : Option Value) (μ' : Mem) (L' : Lp) (n' : Nat), Qy r μ' L' n' → NWk l G K own cc nL d rt nm mc ms Q kc sl L' n' (pc + 3) ls (r.toList ++ rest) μ') : NWk l G K own cc nL d rt nm mc ms Q kc sl L n pc ls (As.reverse ++ rest) μ := by
  intro p e s m args below meth c H locs la F hP hD hE hS hl hX
  obtain ⟨hx, hb, hr, hml, hown, hts, hlk⟩ := F
  obtain ⟨y1, y3, y4, y5, y6⟩ := hY
  refine W.sz (fun hz => ?_)
  exact NWk.back (va_runS (As := As) (rest := rest) ⟨hx, hb, hml, hown, hts⟩ hM ⟨callB_of nA hts (wsG_goodIn y4) rfl rfl rfl (hts _ y3) (hts _ hL) y5 (roomb_ok hdep y6), hts _ y1⟩ ⟨Wb.blind, fun U hU hWU => ⟨rfl, b_end hO hP hD hE hS hX hz hU hWU⟩⟩ rfl hn hl.1 rfl (lv_room hW) hd ⟨by show kc + 0 ≤ mc; omega, by show sl + 0 ≤ ms; omega⟩) ⟨hx, hb, hr, hml, hown, hts, hlk⟩ hE hS hl hX rfl rfl hnn kk
set_option maxHeartbeats 400000 in
theorem B_invT {y : MethodName} {cy : ByteArray} {nLy dy nA q idx : Nat} {rty : Option FieldType} {As rest : List Value} {Qy : Option Value → Mem → Lp → Nat → Prop} (hO : okB G) (hOb : ∀ (s : State) (H : Heap), gS G s H → va_O y.cls q (gP G) s H) (hM : Mb l G K y cy nLy rty dy 0 0 (.ref q :: As) μ L n Qy) (hL : Cond.methodLink own idx y ∈ wsG) (hY : Yv y cy nLy rty nA) (hn : As.length = nA) (hdep : dy < d) (hc : kc ≤ mc) (hs : sl ≤ ms) (hnn : ∀ (r : Option Value) (μ' : Mem) (L' : Lp) (n' : Nat), Qy r μ' L' n' → n' = n + 0) (hW : (rest.map fun v => v.category).sum ≤ 8) (hd : decode cc pc = .ok (.invokevirtual idx, 3))
    (kk : ∀ (r : Option Value) (μ' : Mem) (L' : Lp) (n' : Nat), Qy r μ' L' n' → NWk l G K own cc nL d rt nm mc ms Q kc sl L' n' (pc + 3) ls (r.toList ++ rest) μ') : NWk l G K own cc nL d rt nm mc ms Q kc sl L n pc ls (As.reverse ++ .ref q :: rest) μ := by
  intro p e s m args below meth c H locs la F hP hD hE hS hl hX
  obtain ⟨hx, hb, hr, hml, hown, hts, hlk⟩ := F
  obtain ⟨y1, y2, y3, y4, y5, y6⟩ := hY
  have hrecv : ∃ cell : Cell, H[q]? = some cell ∧ cell.vm.isStatics = false ∧ s.vm.findClass y.cls = some cell.cls := by
    obtain ⟨cell, h1, h2, h3, -⟩ := (hOb s s.heap hE.2.2).kept hS.2.1
    exact ⟨cell, h1, h2, h3⟩
  refine W.sz (fun hz => ?_)
  exact NWk.back (va_runV (C := y.cls) (As := As) (rest := rest) ⟨hx, hb, hml, hown, hts⟩ hM ⟨callB_of nA hts (wsG_goodIn y4) rfl rfl rfl (hts _ y3) (hts _ hL) y5 (roomb_ok hdep y6), hts _ y1, hts _ y2⟩ ⟨Wb.blind, hrecv, fun U hU hWU => ⟨rfl, b_end hO hP hD hE hS hX hz hU hWU⟩⟩ rfl hn hl.1 rfl (lv_room hW) hd ⟨by show kc + 0 ≤ mc; omega, by show sl + 0 ≤ ms; omega⟩) ⟨hx, hb, hr, hml, hown, hts, hlk⟩ hE hS hl hX rfl rfl hnn kk
end BRules

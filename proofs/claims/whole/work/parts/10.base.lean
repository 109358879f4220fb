/-! A method's walk over ONE fixed world: the cells stand in a list K (what each cell is), their contents in a memory of numbers. -/
def wsG : List Cond := lw_tbl.filter goodWord
theorem wsG_in {w : Cond} (i : Nat) (h : (lw_tbl[i]?).any (fun z => decide (z = w)) = true) (hg : goodWord w = true) : w ∈ wsG := by
  cases hz : lw_tbl[i]? with
  | none => rw [hz] at h; cases h
  | some z =>
    rw [hz] at h
    have e : z = w := by simpa using h
    subst e
    exact List.mem_filter.mpr ⟨List.mem_of_getElem? hz, hg⟩
theorem wsG_tbl {w : Cond} (h : w ∈ wsG) : w ∈ lw_tbl := (List.mem_filter.mp h).1
theorem wsG_good {w : Cond} (h : w ∈ wsG) : (w.onTables && w.keeps) = true ∨ ∃ ty, w = .arrayClass ty := good_of_word (List.mem_filter.mp h).2
theorem wsG_goodIn {y : MethodName} {cy : ByteArray} {nLy : Nat} {rty : Option FieldType} (h : Cond.code y cy nLy rty ∈ wsG) : GoodIn wsG (Cond.code y cy nLy rty :: wsG) := by
  intro w hw
  rcases List.mem_cons.mp hw with rfl | hw
  · exact ⟨h, wsG_good h⟩
  · exact ⟨hw, wsG_good hw⟩
abbrev vwCl : List vw_C := [(RX0, TX0, 6), (RX1, TX1, 11), (RX2, TX2, 11), (RX3, TX3, 2), (RX4, TX4, 8), (RX5, TX5, 15), (RX6, TX6, 6), (RX7, TX7, 4), (RX8, TX8, 7), (RX9, TX9, 11), (RX10, TX10, 12), (RX11, TX11, 17), (RX12, TX12, 81)]
/-- what cells hold: ints by cell and place, longs by cell and place, and the one text reference -/
abbrev Mem : Type := (Nat → Nat → Int32) × (Nat → Nat → Int64) × Nat
/-- a cell's kind: 0 an object (class number, fields), 1 int, 2 long, 3 byte, 4 boolean array (length), 5 array of objects -/
abbrev Kd : Type := Nat × Nat × List (Nat × Nat)
/-- a world's constants: class numbers and slots, addresses, array classes, which addresses are its own, what holds of the start -/
abbrev Wd : Type := va_G × (Nat → Nat) × (Nat → ClassId) × (Nat → Prop) × (State → Heap → Prop)
def gD (G : Wd) : va_G := G.1
def gA (G : Wd) (i : Nat) : Nat := G.2.1 i
def gT (G : Wd) (i : Nat) : ClassId := G.2.2.1 i
def gS (G : Wd) : State → Heap → Prop := G.2.2.2.2
def gP (G : Wd) : Nat → Prop := G.2.2.2.1
def tyG (G : Wd) : List (ClassId × FieldType) := [(gT G 1, .int), (gT G 2, .long), (gT G 3, .byte), (gT G 4, .boolean), (gT G 5, .object RX5)]
def okG (G : Wd) : Prop := (∀ (s U : State) (H : Heap), s.WarmedH U.vm → gS G s H → gS G U H) ∧ (∀ (s U : State) (H : Heap), U.vm = s.vm → gS G s H → gS G U H) ∧ (∀ (U : State) (H H1 : Heap), H.size ≤ H1.size → (∀ a : Nat, a < H.size → ¬ gP G a → H1[a]? = H[a]?) → gS G U H → gS G U H1)
def mval (G : Wd) (μ : Mem) (i k : Nat) (z : Nat × Nat) : Value := match z with
  | (0, _) => .int (μ.1 i k)
  | (1, _) => .long (μ.2.1 i k)
  | (2, j) => .ref (gA G j)
  | _ => .ref μ.2.2
def mvals (G : Wd) (μ : Mem) (i : Nat) (fs : List (Nat × Nat)) : List Value := fs.mapIdx (fun k z => mval G μ i k z)
def cel (G : Wd) (μ : Mem) (i : Nat) (q : Kd) : va_E := match q with
  | (0, ci, fs) => .inr (ci, mvals G μ i fs)
  | (1, n, _) => .inl (gT G 1, n, .inl (μ.1 i))
  | (2, n, _) => .inl (gT G 2, n, .inr (.inl (μ.2.1 i)))
  | (3, n, _) => .inl (gT G 3, n, .inl (μ.1 i))
  | (4, n, _) => .inl (gT G 4, n, .inl (μ.1 i))
  | (_, n, fs) => .inl (gT G 5, n, .inr (.inr (.inr (.inr (fun j => (fs[j]?).map (fun z => gA G z.2))))))
def cells (G : Wd) (K : List Kd) (μ : Mem) : va_W := K.mapIdx (fun i q => (gA G i, cel G μ i q))
theorem cells_at {G : Wd} {K : List Kd} {μ : Mem} {i : Nat} {q : Kd} (h : K[i]? = some q) : (cells G K μ)[i]? = some (gA G i, cel G μ i q) := by
  unfold cells
  rw [List.getElem?_mapIdx, h]
  rfl
def w2 {α : Type} (f : Nat → Nat → α) (i k : Nat) (v : α) : Nat → Nat → α := fun a b => if a = i ∧ b = k then v else f a b
def wI (μ : Mem) (i k : Nat) (v : Int32) : Mem := (w2 μ.1 i k v, μ.2.1, μ.2.2)
def wL (μ : Mem) (i k : Nat) (v : Int64) : Mem := (μ.1, w2 μ.2.1 i k v, μ.2.2)
def wR (μ : Mem) (v : Nat) : Mem := (μ.1, μ.2.1, v)
theorem w2_row {f : Nat → Nat → Int32} {i k : Nat} {v : Int32} : w2 f i k v i = upd (f i) k v := by
  funext b
  by_cases h : b = k <;> simp [w2, upd, h]
theorem w2_rowL {f : Nat → Nat → Int64} {i k : Nat} {v : Int64} : w2 f i k v i = vp_updL (f i) k v := by
  funext b
  by_cases h : b = k <;> simp [w2, vp_updL, h]
theorem w2_off {α : Type} {f : Nat → Nat → α} {i k a : Nat} {v : α} (h : a ≠ i) : w2 f i k v a = f a := by
  funext b
  simp [w2, h]
theorem w2_same {α : Type} {f : Nat → Nat → α} {i k : Nat} {v : α} : w2 f i k v i k = v := by simp [w2]
theorem w2_ne {α : Type} {f : Nat → Nat → α} {i k a b : Nat} {v : α} (h : a ≠ i ∨ b ≠ k) : w2 f i k v a b = f a b := by
  unfold w2
  rw [if_neg]
  rintro ⟨h1, h2⟩
  rcases h with h | h
  · exact h h1
  · exact h h2
theorem mvals_at {G : Wd} {μ : Mem} {i k : Nat} {fs : List (Nat × Nat)} {z : Nat × Nat} (h : fs[k]? = some z) : (mvals G μ i fs)[k]? = some (mval G μ i k z) := by
  unfold mvals
  rw [List.getElem?_mapIdx, h]
  rfl
theorem mvals_len {G : Wd} {μ : Mem} {i : Nat} {fs : List (Nat × Nat)} : (mvals G μ i fs).length = fs.length := by simp [mvals]
/-- which field a cell has at a place -/
def fk (K : List Kd) (i ci k : Nat) : Option (Nat × Nat) := match K[i]? with
  | some (0, c, fs) => if c = ci then fs[k]? else none
  | _ => none
theorem fk_spec {K : List Kd} {i ci k : Nat} {z : Nat × Nat} (h : fk K i ci k = some z) : ∃ fs, K[i]? = some (0, ci, fs) ∧ fs[k]? = some z := by
  unfold fk at h
  split at h
  · next c fs hq =>
    split at h
    · next e => subst e; exact ⟨fs, hq, h⟩
    · cases h
  · cases h
theorem cells_set {G : Wd} {K : List Kd} {μ μ' : Mem} {i : Nat} {q : Kd} {E : va_E} (h : K[i]? = some q) (he : E = cel G μ' i q) (ho : ∀ (a : Nat) (q' : Kd), a ≠ i → K[a]? = some q' → cel G μ' a q' = cel G μ a q') : (cells G K μ).set i (gA G i, E) = cells G K μ' := by
  apply List.ext_getElem?
  intro a
  have hi : i < K.length := (List.getElem?_eq_some_iff.mp h).1
  have hl : (cells G K μ).length = K.length := by simp [cells]
  rw [List.getElem?_set]
  by_cases e : i = a
  · subst e
    rw [if_pos rfl, if_pos (by omega), cells_at h, he]
  · rw [if_neg e]
    unfold cells
    rw [List.getElem?_mapIdx, List.getElem?_mapIdx]
    cases hq : K[a]? with
    | none => rfl
    | some q' => simp only [Option.map_some, ho a q' (fun x => e x.symm) hq]
theorem cel_off {G : Wd} {μ μ' : Mem} {a : Nat} (h1 : μ'.1 a = μ.1 a) (h2 : μ'.2.1 a = μ.2.1 a) (h3 : μ'.2.2 = μ.2.2) (q : Kd) : cel G μ' a q = cel G μ a q := by
  have hm : ∀ k z, mval G μ' a k z = mval G μ a k z := by
    intro k z
    unfold mval
    rw [h1, h2, h3]
  have hv : ∀ fs, mvals G μ' a fs = mvals G μ a fs := by
    intro fs
    unfold mvals
    congr 1
    funext k z
    exact hm k z
  unfold cel
  rw [h1, h2]
  split <;> first | rfl | (rw [hv])
theorem cells_setF {G : Wd} {K : List Kd} {μ μ' : Mem} {i ci k : Nat} {fs : List (Nat × Nat)} {z : Nat × Nat} {v : Value} (h : K[i]? = some (0, ci, fs)) (hk : fs[k]? = some z) (hv : v = mval G μ' i k z) (hs : ∀ b z', b ≠ k → mval G μ' i b z' = mval G μ i b z') (ho : ∀ (a : Nat) (q' : Kd), a ≠ i → K[a]? = some q' → cel G μ' a q' = cel G μ a q') :
    (cells G K μ).set i (gA G i, .inr (ci, (mvals G μ i fs).set k v)) = cells G K μ' := by
  refine cells_set h ?_ ho
  show (Sum.inr (ci, (mvals G μ i fs).set k v) : va_E) = .inr (ci, mvals G μ' i fs)
  congr 2
  apply List.ext_getElem?
  intro b
  have hl : k < fs.length := (List.getElem?_eq_some_iff.mp hk).1
  rw [List.getElem?_set]
  by_cases e : k = b
  · subst e
    rw [if_pos rfl, if_pos (by rw [mvals_len]; exact hl), mvals_at hk, hv]
  · rw [if_neg e]
    unfold mvals
    rw [List.getElem?_mapIdx, List.getElem?_mapIdx]
    cases hq : fs[b]? with
    | none => rfl
    | some z' => simp only [Option.map_some, hs b z' (fun x => e x.symm)]

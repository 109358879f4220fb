/-! AW: the machine, at pc of a method, with these locals, this stack and this memory, comes to an end that Q holds of. -/
def lrel (nL : Nat) (ls : List (Option Value)) (la : Array Slot) : Prop := la.size = nL ∧ lv_wf la ∧ ∀ (i : Nat) (v : Value), ls[i]? = some (some v) → la[i]? = some (.val v)
def rmd (d : Nat) : Room := { frames := d, cells := 0, slots := 0, locals := 80 * d }
def Fx (p : Program) (s : State) (m : MethodId) (args : Array Value) (meth : Method) (c : Code) (own : String) (cc : ByteArray) (nL : Nat) (rt : Option FieldType) : Prop :=
  p.tables.exec = Jvm.exec ∧ c.code = cc ∧ meth.sig.returnType = rt ∧ c.maxLocals = nL ∧ s.vm.findClass own = some m.cls ∧ (∀ w ∈ wsG, w.before args s = true) ∧ meth.locks = false
def En (G : Wd) (s : State) : Prop := va_K (gD G) vwCl (tyG G) s ∧ okG G ∧ gS G s s.heap
/-- a world as a method meets it -/
def Wl (G : Wd) (K : List Kd) (μ : Mem) (U : State) : Prop := va_P (gD G) vwCl (cells G K μ) U.heap ∧ va_D (gP G) (cells G K μ) ∧ En G U
def Qz (G : Wd) (K : List Kd) (Q : Option Value → Mem → Prop) : Array Value → State → Outcome → State → Prop := fun _ st oc t => (∃ (r : Option Value) (μ : Mem), oc = .returned r ∧ Q r μ ∧ Wl G K μ t) ∧ va_F (gP G) st t
def AW (l : Launch) (G : Wd) (K : List Kd) (own : String) (cc : ByteArray) (nL d : Nat) (rt : Option FieldType) (Q : Option Value → Mem → Prop) (pc : Nat) (ls : List (Option Value)) (st : List Value) (μ : Mem) : Prop :=
  ∀ (p : Program) (e : Env) (s : State) (m : MethodId) (args : Array Value) (below : List Frame) (meth : Method) (c : Code) (H : Heap) (locs : List Loc) (la : Array Slot),
    Fx p s m args meth c own cc nL rt → va_P (gD G) vwCl (cells G K μ) H → va_D (gP G) (cells G K μ) → En G s → va_S (gP G) s.heap H locs → lrel nL ls la →
    W p l e (rmd d) s m args below meth c H locs 0 0 (MQ below (Qz G K Q) args s 0 0 (gP G)) (F0 m pc la st)
def Mt (l : Launch) (G : Wd) (K : List Kd) (y : MethodName) (cy : ByteArray) (nL : Nat) (rt : Option FieldType) (d : Nat) (av : List Value) (μ : Mem) (Q : Option Value → Mem → Prop) : Prop :=
  Met l y (Cond.code y cy nL rt :: wsG) (rmd d) (va_Pc av (Wl G K μ)) (Qz G K Q) 0 0 (gP G)
abbrev Qi (post : Int32 → Mem → Prop) : Option Value → Mem → Prop := fun r μ => ∃ v : Int32, r = some (.int v) ∧ post v μ
abbrev Ql (post : Int64 → Mem → Prop) : Option Value → Mem → Prop := fun r μ => ∃ v : Int64, r = some (.long v) ∧ post v μ
abbrev Qv (post : Mem → Prop) : Option Value → Mem → Prop := fun r μ => r = none ∧ post μ
def lsOf (n : Nat) (vs : List Value) : List (Option Value) := (vs.flatMap fun v => if v.category = 2 then [some v, none] else [some v]) ++ List.replicate n none
theorem lsOf_in (n : Nat) : ∀ (vs : List Value) (b i : Nat) (v : Value), (lsOf n vs)[i]? = some (some v) → (b + i, v) ∈ lv_args b vs := by
  intro vs
  induction vs with
  | nil =>
    intro b i v h
    have h2 := List.mem_of_getElem? h
    simp [lsOf] at h2
  | cons a r ih =>
    intro b i v h
    unfold lsOf at h
    rw [List.flatMap_cons, List.append_assoc] at h
    unfold lv_args
    by_cases hc : a.category = 2
    · rw [if_pos hc] at h
      rw [if_pos hc]
      match i, h with
      | 0, h => simp at h; subst h; exact List.mem_cons_self
      | 1, h => simp at h
      | i + 2, h =>
        have h3 : (lsOf n r)[i]? = some (some v) := by simpa [lsOf] using h
        have h4 := ih (b + 2) i v h3
        rw [show b + (i + 2) = b + 2 + i by omega]
        exact List.mem_cons_of_mem _ h4
    · rw [if_neg hc] at h
      rw [if_neg hc]
      match i, h with
      | 0, h => simp at h; subst h; exact List.mem_cons_self
      | i + 1, h =>
        have h3 : (lsOf n r)[i]? = some (some v) := by simpa [lsOf] using h
        have h4 := ih (b + 1) i v h3
        rw [show b + (i + 1) = b + 1 + i by omega]
        exact List.mem_cons_of_mem _ h4
theorem Mt.of {l : Launch} {G : Wd} {K : List Kd} {y : MethodName} {cy : ByteArray} {nL : Nat} {rt : Option FieldType} {d : Nat} {av : List Value} {μ : Mem} {Q : Option Value → Mem → Prop} {own : String} (hy : plainName y.cls = true) (ho : y.cls = own) (ls : List (Option Value)) {n : Nat} (hls : lsOf n av = ls) (hn : (lg_sl av).length ≤ nL)
    (k : AW l G K own cy nL d rt Q 0 ls [] μ) : Mt l G K y cy nL rt d av μ Q := by
  refine Met.ofW (cc := cy) (maxL := nL) (ret := rt) hy rfl ?_
  intro p e s m args below meth c s₁ B hml hv
  obtain ⟨rfl, hP, hD, hE⟩ := hv
  have hts := atoms_spec (ws := Cond.code y cy nL rt :: wsG) B.pre
  have hown : s.vm.findClass own = some m.cls := by rw [← ho]; exact findClass_of_methodNamed B.named
  have hl := lv_entry av (n := nL) hn
  rw [lg_entry_eq]
  refine k p e s m av.toArray below meth c s.heap [] _ ⟨B.exec, B.bytes, B.returns, hml, hown, fun w hw => hts w (List.mem_cons_of_mem _ hw), B.notSynchronized⟩ hP hD hE va_S.rf ⟨hl.1, hl.2.1, fun i v h => ?_⟩
  subst hls
  have h1 := lsOf_in n av 0 i v h
  rw [Nat.zero_add] at h1
  exact hl.2.2 (i, v) h1

section ARules
variable {l : Launch} {G : Wd} {K : List Kd} {own : String} {cc : ByteArray} {nL d : Nat} {rt : Option FieldType} {Q : Option Value → Mem → Prop} {pc : Nat} {ls : List (Option Value)} {st : List Value} {μ : Mem}
theorem A_iadd {x y : Int32} (hd : decode cc pc = .ok (.iadd, 1))  (k : AW l G K own cc nL d rt Q (pc + 1) ls (.int (x + y) :: st) μ) : AW l G K own cc nL d rt Q pc ls (.int y :: .int x :: st) μ := by
  intro p e s m args below meth c H locs la F hP hD hE hS hl
  obtain ⟨hx, hb, hr, hml, hown, hts, hlk⟩ := F
  exact lv_iadd hx hb hd (k p e s m args below meth c H locs la ⟨hx, hb, hr, hml, hown, hts, hlk⟩ hP hD hE hS hl)
theorem A_isub {x y : Int32} (hd : decode cc pc = .ok (.isub, 1))  (k : AW l G K own cc nL d rt Q (pc + 1) ls (.int (x - y) :: st) μ) : AW l G K own cc nL d rt Q pc ls (.int y :: .int x :: st) μ := by
  intro p e s m args below meth c H locs la F hP hD hE hS hl
  obtain ⟨hx, hb, hr, hml, hown, hts, hlk⟩ := F
  exact lv_isub hx hb hd (k p e s m args below meth c H locs la ⟨hx, hb, hr, hml, hown, hts, hlk⟩ hP hD hE hS hl)
theorem A_imul {x y : Int32} (hd : decode cc pc = .ok (.imul, 1))  (k : AW l G K own cc nL d rt Q (pc + 1) ls (.int (x * y) :: st) μ) : AW l G K own cc nL d rt Q pc ls (.int y :: .int x :: st) μ := by
  intro p e s m args below meth c H locs la F hP hD hE hS hl
  obtain ⟨hx, hb, hr, hml, hown, hts, hlk⟩ := F
  exact lv_imul hx hb hd (k p e s m args below meth c H locs la ⟨hx, hb, hr, hml, hown, hts, hlk⟩ hP hD hE hS hl)
theorem A_iand {x y : Int32} (hd : decode cc pc = .ok (.iand, 1))  (k : AW l G K own cc nL d rt Q (pc + 1) ls (.int (x &&& y) :: st) μ) : AW l G K own cc nL d rt Q pc ls (.int y :: .int x :: st) μ := by
  intro p e s m args below meth c H locs la F hP hD hE hS hl
  obtain ⟨hx, hb, hr, hml, hown, hts, hlk⟩ := F
  exact lv_iand hx hb hd (k p e s m args below meth c H locs la ⟨hx, hb, hr, hml, hown, hts, hlk⟩ hP hD hE hS hl)
theorem A_ior {x y : Int32} (hd : decode cc pc = .ok (.ior, 1))  (k : AW l G K own cc nL d rt Q (pc + 1) ls (.int (x ||| y) :: st) μ) : AW l G K own cc nL d rt Q pc ls (.int y :: .int x :: st) μ := by
  intro p e s m args below meth c H locs la F hP hD hE hS hl
  obtain ⟨hx, hb, hr, hml, hown, hts, hlk⟩ := F
  exact lv_ior hx hb hd (k p e s m args below meth c H locs la ⟨hx, hb, hr, hml, hown, hts, hlk⟩ hP hD hE hS hl)
theorem A_ixor {x y : Int32} (hd : decode cc pc = .ok (.ixor, 1))  (k : AW l G K own cc nL d rt Q (pc + 1) ls (.int (x ^^^ y) :: st) μ) : AW l G K own cc nL d rt Q pc ls (.int y :: .int x :: st) μ := by
  intro p e s m args below meth c H locs la F hP hD hE hS hl
  obtain ⟨hx, hb, hr, hml, hown, hts, hlk⟩ := F
  exact lv_ixor hx hb hd (k p e s m args below meth c H locs la ⟨hx, hb, hr, hml, hown, hts, hlk⟩ hP hD hE hS hl)
theorem A_ishl {x y : Int32} (hd : decode cc pc = .ok (.ishl, 1))  (k : AW l G K own cc nL d rt Q (pc + 1) ls (.int (x <<< (y &&& 31)) :: st) μ) : AW l G K own cc nL d rt Q pc ls (.int y :: .int x :: st) μ := by
  intro p e s m args below meth c H locs la F hP hD hE hS hl
  obtain ⟨hx, hb, hr, hml, hown, hts, hlk⟩ := F
  exact lv_ishl hx hb hd (k p e s m args below meth c H locs la ⟨hx, hb, hr, hml, hown, hts, hlk⟩ hP hD hE hS hl)
theorem A_ishr {x y : Int32} (hd : decode cc pc = .ok (.ishr, 1))  (k : AW l G K own cc nL d rt Q (pc + 1) ls (.int (x >>> (y &&& 31)) :: st) μ) : AW l G K own cc nL d rt Q pc ls (.int y :: .int x :: st) μ := by
  intro p e s m args below meth c H locs la F hP hD hE hS hl
  obtain ⟨hx, hb, hr, hml, hown, hts, hlk⟩ := F
  exact lv_ishr hx hb hd (k p e s m args below meth c H locs la ⟨hx, hb, hr, hml, hown, hts, hlk⟩ hP hD hE hS hl)
theorem A_iushr {x y : Int32} (hd : decode cc pc = .ok (.iushr, 1))  (k : AW l G K own cc nL d rt Q (pc + 1) ls (.int (x.toUInt32 >>> (y.toUInt32 &&& Int32.toUInt32 31)).toInt32 :: st) μ) : AW l G K own cc nL d rt Q pc ls (.int y :: .int x :: st) μ := by
  intro p e s m args below meth c H locs la F hP hD hE hS hl
  obtain ⟨hx, hb, hr, hml, hown, hts, hlk⟩ := F
  exact lv_iushr hx hb hd rfl (k p e s m args below meth c H locs la ⟨hx, hb, hr, hml, hown, hts, hlk⟩ hP hD hE hS hl)
theorem A_idiv {x y : Int32} (hd : decode cc pc = .ok (.idiv, 1)) (hne : ¬ y = 0) (k : AW l G K own cc nL d rt Q (pc + 1) ls (.int (x / y) :: st) μ) : AW l G K own cc nL d rt Q pc ls (.int y :: .int x :: st) μ := by
  intro p e s m args below meth c H locs la F hP hD hE hS hl
  obtain ⟨hx, hb, hr, hml, hown, hts, hlk⟩ := F
  exact lv_idiv hx hb hd hne (k p e s m args below meth c H locs la ⟨hx, hb, hr, hml, hown, hts, hlk⟩ hP hD hE hS hl)
theorem A_irem {x y : Int32} (hd : decode cc pc = .ok (.irem, 1)) (hne : ¬ y = 0) (k : AW l G K own cc nL d rt Q (pc + 1) ls (.int (x - x / y * y) :: st) μ) : AW l G K own cc nL d rt Q pc ls (.int y :: .int x :: st) μ := by
  intro p e s m args below meth c H locs la F hP hD hE hS hl
  obtain ⟨hx, hb, hr, hml, hown, hts, hlk⟩ := F
  exact lv_irem hx hb hd hne (k p e s m args below meth c H locs la ⟨hx, hb, hr, hml, hown, hts, hlk⟩ hP hD hE hS hl)
theorem A_ineg {x : Int32} (hd : decode cc pc = .ok (.ineg, 1))  (k : AW l G K own cc nL d rt Q (pc + 1) ls (.int (-x) :: st) μ) : AW l G K own cc nL d rt Q pc ls (.int x :: st) μ := by
  intro p e s m args below meth c H locs la F hP hD hE hS hl
  obtain ⟨hx, hb, hr, hml, hown, hts, hlk⟩ := F
  exact lv_ineg hx hb hd (k p e s m args below meth c H locs la ⟨hx, hb, hr, hml, hown, hts, hlk⟩ hP hD hE hS hl)
theorem A_ladd {x y : Int64} (hd : decode cc pc = .ok (.ladd, 1))  (k : AW l G K own cc nL d rt Q (pc + 1) ls (.long (x + y) :: st) μ) : AW l G K own cc nL d rt Q pc ls (.long y :: .long x :: st) μ := by
  intro p e s m args below meth c H locs la F hP hD hE hS hl
  obtain ⟨hx, hb, hr, hml, hown, hts, hlk⟩ := F
  exact lv_ladd hx hb hd (k p e s m args below meth c H locs la ⟨hx, hb, hr, hml, hown, hts, hlk⟩ hP hD hE hS hl)
theorem A_lsub {x y : Int64} (hd : decode cc pc = .ok (.lsub, 1))  (k : AW l G K own cc nL d rt Q (pc + 1) ls (.long (x - y) :: st) μ) : AW l G K own cc nL d rt Q pc ls (.long y :: .long x :: st) μ := by
  intro p e s m args below meth c H locs la F hP hD hE hS hl
  obtain ⟨hx, hb, hr, hml, hown, hts, hlk⟩ := F
  exact lv_lsub hx hb hd (k p e s m args below meth c H locs la ⟨hx, hb, hr, hml, hown, hts, hlk⟩ hP hD hE hS hl)
theorem A_lmul {x y : Int64} (hd : decode cc pc = .ok (.lmul, 1))  (k : AW l G K own cc nL d rt Q (pc + 1) ls (.long (x * y) :: st) μ) : AW l G K own cc nL d rt Q pc ls (.long y :: .long x :: st) μ := by
  intro p e s m args below meth c H locs la F hP hD hE hS hl
  obtain ⟨hx, hb, hr, hml, hown, hts, hlk⟩ := F
  exact lv_lmul hx hb hd (k p e s m args below meth c H locs la ⟨hx, hb, hr, hml, hown, hts, hlk⟩ hP hD hE hS hl)
theorem A_land {x y : Int64} (hd : decode cc pc = .ok (.land, 1))  (k : AW l G K own cc nL d rt Q (pc + 1) ls (.long (x &&& y) :: st) μ) : AW l G K own cc nL d rt Q pc ls (.long y :: .long x :: st) μ := by
  intro p e s m args below meth c H locs la F hP hD hE hS hl
  obtain ⟨hx, hb, hr, hml, hown, hts, hlk⟩ := F
  exact lv_land hx hb hd (k p e s m args below meth c H locs la ⟨hx, hb, hr, hml, hown, hts, hlk⟩ hP hD hE hS hl)
theorem A_lor {x y : Int64} (hd : decode cc pc = .ok (.lor, 1))  (k : AW l G K own cc nL d rt Q (pc + 1) ls (.long (x ||| y) :: st) μ) : AW l G K own cc nL d rt Q pc ls (.long y :: .long x :: st) μ := by
  intro p e s m args below meth c H locs la F hP hD hE hS hl
  obtain ⟨hx, hb, hr, hml, hown, hts, hlk⟩ := F
  exact lv_lor hx hb hd (k p e s m args below meth c H locs la ⟨hx, hb, hr, hml, hown, hts, hlk⟩ hP hD hE hS hl)
theorem A_lxor {x y : Int64} (hd : decode cc pc = .ok (.lxor, 1))  (k : AW l G K own cc nL d rt Q (pc + 1) ls (.long (x ^^^ y) :: st) μ) : AW l G K own cc nL d rt Q pc ls (.long y :: .long x :: st) μ := by
  intro p e s m args below meth c H locs la F hP hD hE hS hl
  obtain ⟨hx, hb, hr, hml, hown, hts, hlk⟩ := F
  exact lv_lxor hx hb hd (k p e s m args below meth c H locs la ⟨hx, hb, hr, hml, hown, hts, hlk⟩ hP hD hE hS hl)
theorem A_ldiv {x y : Int64} (hd : decode cc pc = .ok (.ldiv, 1)) (hne : ¬ y = 0) (k : AW l G K own cc nL d rt Q (pc + 1) ls (.long (x / y) :: st) μ) : AW l G K own cc nL d rt Q pc ls (.long y :: .long x :: st) μ := by
  intro p e s m args below meth c H locs la F hP hD hE hS hl
  obtain ⟨hx, hb, hr, hml, hown, hts, hlk⟩ := F
  exact lv_ldiv hx hb hd hne (k p e s m args below meth c H locs la ⟨hx, hb, hr, hml, hown, hts, hlk⟩ hP hD hE hS hl)
theorem A_lrem {x y : Int64} (hd : decode cc pc = .ok (.lrem, 1)) (hne : ¬ y = 0) (k : AW l G K own cc nL d rt Q (pc + 1) ls (.long (x - x / y * y) :: st) μ) : AW l G K own cc nL d rt Q pc ls (.long y :: .long x :: st) μ := by
  intro p e s m args below meth c H locs la F hP hD hE hS hl
  obtain ⟨hx, hb, hr, hml, hown, hts, hlk⟩ := F
  exact lv_lrem hx hb hd hne (k p e s m args below meth c H locs la ⟨hx, hb, hr, hml, hown, hts, hlk⟩ hP hD hE hS hl)
theorem A_lshl {x : Int64} {y : Int32} (hd : decode cc pc = .ok (.lshl, 1))  (k : AW l G K own cc nL d rt Q (pc + 1) ls (.long (x <<< (y.toInt64 &&& 63)) :: st) μ) : AW l G K own cc nL d rt Q pc ls (.int y :: .long x :: st) μ := by
  intro p e s m args below meth c H locs la F hP hD hE hS hl
  obtain ⟨hx, hb, hr, hml, hown, hts, hlk⟩ := F
  exact lv_lshl hx hb hd rfl (k p e s m args below meth c H locs la ⟨hx, hb, hr, hml, hown, hts, hlk⟩ hP hD hE hS hl)
theorem A_lushr {x : Int64} {y : Int32} (hd : decode cc pc = .ok (.lushr, 1))  (k : AW l G K own cc nL d rt Q (pc + 1) ls (.long (x.toUInt64 >>> (y.toInt64.toUInt64 &&& Int64.toUInt64 63)).toInt64 :: st) μ) : AW l G K own cc nL d rt Q pc ls (.int y :: .long x :: st) μ := by
  intro p e s m args below meth c H locs la F hP hD hE hS hl
  obtain ⟨hx, hb, hr, hml, hown, hts, hlk⟩ := F
  exact lv_lushr hx hb hd rfl (k p e s m args below meth c H locs la ⟨hx, hb, hr, hml, hown, hts, hlk⟩ hP hD hE hS hl)
theorem A_lcmp {x y : Int64} (hd : decode cc pc = .ok (.lcmp, 1))  (k : AW l G K own cc nL d rt Q (pc + 1) ls (.int (lg_cmp x y) :: st) μ) : AW l G K own cc nL d rt Q pc ls (.long y :: .long x :: st) μ := by
  intro p e s m args below meth c H locs la F hP hD hE hS hl
  obtain ⟨hx, hb, hr, hml, hown, hts, hlk⟩ := F
  exact W.lcmp hx hb hd (k p e s m args below meth c H locs la ⟨hx, hb, hr, hml, hown, hts, hlk⟩ hP hD hE hS hl)
theorem A_i2l {x : Int32} (hd : decode cc pc = .ok (.i2l, 1))  (k : AW l G K own cc nL d rt Q (pc + 1) ls (.long x.toInt64 :: st) μ) : AW l G K own cc nL d rt Q pc ls (.int x :: st) μ := by
  intro p e s m args below meth c H locs la F hP hD hE hS hl
  obtain ⟨hx, hb, hr, hml, hown, hts, hlk⟩ := F
  exact lv_i2l hx hb hd rfl (k p e s m args below meth c H locs la ⟨hx, hb, hr, hml, hown, hts, hlk⟩ hP hD hE hS hl)
theorem A_l2i {x : Int64} (hd : decode cc pc = .ok (.l2i, 1))  (k : AW l G K own cc nL d rt Q (pc + 1) ls (.int x.toInt32 :: st) μ) : AW l G K own cc nL d rt Q pc ls (.long x :: st) μ := by
  intro p e s m args below meth c H locs la F hP hD hE hS hl
  obtain ⟨hx, hb, hr, hml, hown, hts, hlk⟩ := F
  exact lv_l2i hx hb hd rfl (k p e s m args below meth c H locs la ⟨hx, hb, hr, hml, hown, hts, hlk⟩ hP hD hE hS hl)
theorem A_i2c {x : Int32} (hd : decode cc pc = .ok (.i2c, 1))  (k : AW l G K own cc nL d rt Q (pc + 1) ls (.int (x.toUInt32 % 65536).toInt32 :: st) μ) : AW l G K own cc nL d rt Q pc ls (.int x :: st) μ := by
  intro p e s m args below meth c H locs la F hP hD hE hS hl
  obtain ⟨hx, hb, hr, hml, hown, hts, hlk⟩ := F
  exact lv_i2c hx hb hd rfl (k p e s m args below meth c H locs la ⟨hx, hb, hr, hml, hown, hts, hlk⟩ hP hD hE hS hl)
theorem A_i2b {x : Int32} (hd : decode cc pc = .ok (.i2b, 1))  (k : AW l G K own cc nL d rt Q (pc + 1) ls (.int x.toInt8.toInt32 :: st) μ) : AW l G K own cc nL d rt Q pc ls (.int x :: st) μ := by
  intro p e s m args below meth c H locs la F hP hD hE hS hl
  obtain ⟨hx, hb, hr, hml, hown, hts, hlk⟩ := F
  exact lv_i2b hx hb hd rfl (k p e s m args below meth c H locs la ⟨hx, hb, hr, hml, hown, hts, hlk⟩ hP hD hE hS hl)
theorem A_iconst {n : Int} {v : Int32} (hd : decode cc pc = .ok (.iconst n, 1)) (hv : Int32.ofInt n = v) (k : AW l G K own cc nL d rt Q (pc + 1) ls (.int v :: st) μ) : AW l G K own cc nL d rt Q pc ls (st) μ := by
  intro p e s m args below meth c H locs la F hP hD hE hS hl
  obtain ⟨hx, hb, hr, hml, hown, hts, hlk⟩ := F
  exact lv_iconst hx hb hd hv (k p e s m args below meth c H locs la ⟨hx, hb, hr, hml, hown, hts, hlk⟩ hP hD hE hS hl)
theorem A_bipush {n : Int} {v : Int32} (hd : decode cc pc = .ok (.bipush n, 2)) (hv : (Int8.ofInt n).toInt32 = v) (k : AW l G K own cc nL d rt Q (pc + 2) ls (.int v :: st) μ) : AW l G K own cc nL d rt Q pc ls (st) μ := by
  intro p e s m args below meth c H locs la F hP hD hE hS hl
  obtain ⟨hx, hb, hr, hml, hown, hts, hlk⟩ := F
  exact lv_bipush hx hb hd hv (k p e s m args below meth c H locs la ⟨hx, hb, hr, hml, hown, hts, hlk⟩ hP hD hE hS hl)
theorem A_sipush {n : Int} {v : Int32} (hd : decode cc pc = .ok (.sipush n, 3)) (hv : (Int16.ofInt n).toInt32 = v) (k : AW l G K own cc nL d rt Q (pc + 3) ls (.int v :: st) μ) : AW l G K own cc nL d rt Q pc ls (st) μ := by
  intro p e s m args below meth c H locs la F hP hD hE hS hl
  obtain ⟨hx, hb, hr, hml, hown, hts, hlk⟩ := F
  exact lv_sipush hx hb hd hv (k p e s m args below meth c H locs la ⟨hx, hb, hr, hml, hown, hts, hlk⟩ hP hD hE hS hl)
theorem A_lconst {n : Fin 2} {v : Int64} (hd : decode cc pc = .ok (.lconst n, 1)) (hv : Int64.ofNat (n : Nat) = v) (k : AW l G K own cc nL d rt Q (pc + 1) ls (.long v :: st) μ) : AW l G K own cc nL d rt Q pc ls (st) μ := by
  intro p e s m args below meth c H locs la F hP hD hE hS hl
  obtain ⟨hx, hb, hr, hml, hown, hts, hlk⟩ := F
  exact lv_lconst hx hb hd hv (k p e s m args below meth c H locs la ⟨hx, hb, hr, hml, hown, hts, hlk⟩ hP hD hE hS hl)
theorem A_ldc {idx : Nat} {v : Int32} (hd : decode cc pc = .ok (.ldc idx, 2)) (hw : Cond.constant own idx v ∈ wsG) (k : AW l G K own cc nL d rt Q (pc + 2) ls (.int v :: st) μ) : AW l G K own cc nL d rt Q pc ls (st) μ := by
  intro p e s m args below meth c H locs la F hP hD hE hS hl
  obtain ⟨hx, hb, hr, hml, hown, hts, hlk⟩ := F
  exact lv_ldc hx hb hown (hts _ hw) hd (k p e s m args below meth c H locs la ⟨hx, hb, hr, hml, hown, hts, hlk⟩ hP hD hE hS hl)
theorem A_ldcw {idx : Nat} {v : Int32} (hd : decode cc pc = .ok (.ldc_w idx, 3)) (hw : Cond.constant own idx v ∈ wsG) (k : AW l G K own cc nL d rt Q (pc + 3) ls (.int v :: st) μ) : AW l G K own cc nL d rt Q pc ls (st) μ := by
  intro p e s m args below meth c H locs la F hP hD hE hS hl
  obtain ⟨hx, hb, hr, hml, hown, hts, hlk⟩ := F
  exact lv_ldcw hx hb hown (hts _ hw) hd (k p e s m args below meth c H locs la ⟨hx, hb, hr, hml, hown, hts, hlk⟩ hP hD hE hS hl)
theorem A_ldc2 {idx : Nat} {v : Int64} (hd : decode cc pc = .ok (.ldc2_w idx, 3)) (hw : Cond.constantLong own idx v ∈ wsG) (k : AW l G K own cc nL d rt Q (pc + 3) ls (.long v :: st) μ) : AW l G K own cc nL d rt Q pc ls (st) μ := by
  intro p e s m args below meth c H locs la F hP hD hE hS hl
  obtain ⟨hx, hb, hr, hml, hown, hts, hlk⟩ := F
  exact lv_ldc2 hx hb hown (hts _ hw) hd (k p e s m args below meth c H locs la ⟨hx, hb, hr, hml, hown, hts, hlk⟩ hP hD hE hS hl)
theorem A_dup {v : Value} (hd : decode cc pc = .ok (.dup, 1)) (hc : v.category = 1) (k : AW l G K own cc nL d rt Q (pc + 1) ls (v :: v :: st) μ) : AW l G K own cc nL d rt Q pc ls (v :: st) μ := by
  intro p e s m args below meth c H locs la F hP hD hE hS hl
  obtain ⟨hx, hb, hr, hml, hown, hts, hlk⟩ := F
  exact lv_dup hx hb hd hc (k p e s m args below meth c H locs la ⟨hx, hb, hr, hml, hown, hts, hlk⟩ hP hD hE hS hl)
theorem A_pop {v : Value} (hd : decode cc pc = .ok (.pop, 1)) (hc : v.category = 1) (k : AW l G K own cc nL d rt Q (pc + 1) ls (st) μ) : AW l G K own cc nL d rt Q pc ls (v :: st) μ := by
  intro p e s m args below meth c H locs la F hP hD hE hS hl
  obtain ⟨hx, hb, hr, hml, hown, hts, hlk⟩ := F
  exact lv_pop hx hb hd hc (k p e s m args below meth c H locs la ⟨hx, hb, hr, hml, hown, hts, hlk⟩ hP hD hE hS hl)
theorem A_dup2 {v w : Value} (hd : decode cc pc = .ok (.dup2, 1)) (hc : v.category = 1) (hc2 : w.category = 1) (k : AW l G K own cc nL d rt Q (pc + 1) ls (v :: w :: v :: w :: st) μ) : AW l G K own cc nL d rt Q pc ls (v :: w :: st) μ := by
  intro p e s m args below meth c H locs la F hP hD hE hS hl
  obtain ⟨hx, hb, hr, hml, hown, hts, hlk⟩ := F
  exact lv_dup2_11 hx hb hd hc hc2 (k p e s m args below meth c H locs la ⟨hx, hb, hr, hml, hown, hts, hlk⟩ hP hD hE hS hl)
theorem A_if_eq {x : Int32} {off : Int} {tgt : Nat} (hd : decode cc pc = .ok (.ifCond .eq off, 3)) (ht : (pc : Int) + off = (tgt : Int)) (kt : x = 0 → AW l G K own cc nL d rt Q tgt ls st μ) (kf : ¬ (x = 0) → AW l G K own cc nL d rt Q (pc + 3) ls st μ) : AW l G K own cc nL d rt Q pc ls (.int x :: st) μ := by
  intro p e s m args below meth c H locs la F hP hD hE hS hl
  obtain ⟨hx, hb, hr, hml, hown, hts, hlk⟩ := F
  exact lv_if_eq hx hb hd ht (fun h => kt h p e s m args below meth c H locs la ⟨hx, hb, hr, hml, hown, hts, hlk⟩ hP hD hE hS hl) (fun h => kf h p e s m args below meth c H locs la ⟨hx, hb, hr, hml, hown, hts, hlk⟩ hP hD hE hS hl)
theorem A_if_ne {x : Int32} {off : Int} {tgt : Nat} (hd : decode cc pc = .ok (.ifCond .ne off, 3)) (ht : (pc : Int) + off = (tgt : Int)) (kt : ¬ x = 0 → AW l G K own cc nL d rt Q tgt ls st μ) (kf : x = 0 → AW l G K own cc nL d rt Q (pc + 3) ls st μ) : AW l G K own cc nL d rt Q pc ls (.int x :: st) μ := by
  intro p e s m args below meth c H locs la F hP hD hE hS hl
  obtain ⟨hx, hb, hr, hml, hown, hts, hlk⟩ := F
  exact lv_if_ne hx hb hd ht (fun h => kt h p e s m args below meth c H locs la ⟨hx, hb, hr, hml, hown, hts, hlk⟩ hP hD hE hS hl) (fun h => kf h p e s m args below meth c H locs la ⟨hx, hb, hr, hml, hown, hts, hlk⟩ hP hD hE hS hl)
theorem A_if_lt {x : Int32} {off : Int} {tgt : Nat} (hd : decode cc pc = .ok (.ifCond .lt off, 3)) (ht : (pc : Int) + off = (tgt : Int)) (kt : x < 0 → AW l G K own cc nL d rt Q tgt ls st μ) (kf : ¬ (x < 0) → AW l G K own cc nL d rt Q (pc + 3) ls st μ) : AW l G K own cc nL d rt Q pc ls (.int x :: st) μ := by
  intro p e s m args below meth c H locs la F hP hD hE hS hl
  obtain ⟨hx, hb, hr, hml, hown, hts, hlk⟩ := F
  exact lv_if_lt hx hb hd ht (fun h => kt h p e s m args below meth c H locs la ⟨hx, hb, hr, hml, hown, hts, hlk⟩ hP hD hE hS hl) (fun h => kf h p e s m args below meth c H locs la ⟨hx, hb, hr, hml, hown, hts, hlk⟩ hP hD hE hS hl)
theorem A_if_ge {x : Int32} {off : Int} {tgt : Nat} (hd : decode cc pc = .ok (.ifCond .ge off, 3)) (ht : (pc : Int) + off = (tgt : Int)) (kt : 0 ≤ x → AW l G K own cc nL d rt Q tgt ls st μ) (kf : ¬ (0 ≤ x) → AW l G K own cc nL d rt Q (pc + 3) ls st μ) : AW l G K own cc nL d rt Q pc ls (.int x :: st) μ := by
  intro p e s m args below meth c H locs la F hP hD hE hS hl
  obtain ⟨hx, hb, hr, hml, hown, hts, hlk⟩ := F
  exact lv_if_ge hx hb hd ht (fun h => kt h p e s m args below meth c H locs la ⟨hx, hb, hr, hml, hown, hts, hlk⟩ hP hD hE hS hl) (fun h => kf h p e s m args below meth c H locs la ⟨hx, hb, hr, hml, hown, hts, hlk⟩ hP hD hE hS hl)
theorem A_if_gt {x : Int32} {off : Int} {tgt : Nat} (hd : decode cc pc = .ok (.ifCond .gt off, 3)) (ht : (pc : Int) + off = (tgt : Int)) (kt : 0 < x → AW l G K own cc nL d rt Q tgt ls st μ) (kf : ¬ (0 < x) → AW l G K own cc nL d rt Q (pc + 3) ls st μ) : AW l G K own cc nL d rt Q pc ls (.int x :: st) μ := by
  intro p e s m args below meth c H locs la F hP hD hE hS hl
  obtain ⟨hx, hb, hr, hml, hown, hts, hlk⟩ := F
  exact lv_if_gt hx hb hd ht (fun h => kt h p e s m args below meth c H locs la ⟨hx, hb, hr, hml, hown, hts, hlk⟩ hP hD hE hS hl) (fun h => kf h p e s m args below meth c H locs la ⟨hx, hb, hr, hml, hown, hts, hlk⟩ hP hD hE hS hl)
theorem A_if_le {x : Int32} {off : Int} {tgt : Nat} (hd : decode cc pc = .ok (.ifCond .le off, 3)) (ht : (pc : Int) + off = (tgt : Int)) (kt : x ≤ 0 → AW l G K own cc nL d rt Q tgt ls st μ) (kf : ¬ (x ≤ 0) → AW l G K own cc nL d rt Q (pc + 3) ls st μ) : AW l G K own cc nL d rt Q pc ls (.int x :: st) μ := by
  intro p e s m args below meth c H locs la F hP hD hE hS hl
  obtain ⟨hx, hb, hr, hml, hown, hts, hlk⟩ := F
  exact lv_if_le hx hb hd ht (fun h => kt h p e s m args below meth c H locs la ⟨hx, hb, hr, hml, hown, hts, hlk⟩ hP hD hE hS hl) (fun h => kf h p e s m args below meth c H locs la ⟨hx, hb, hr, hml, hown, hts, hlk⟩ hP hD hE hS hl)
theorem A_icmp_eq {x y : Int32} {off : Int} {tgt : Nat} (hd : decode cc pc = .ok (.if_icmp .eq off, 3)) (ht : (pc : Int) + off = (tgt : Int)) (kt : x = y → AW l G K own cc nL d rt Q tgt ls st μ) (kf : ¬ (x = y) → AW l G K own cc nL d rt Q (pc + 3) ls st μ) : AW l G K own cc nL d rt Q pc ls (.int y :: .int x :: st) μ := by
  intro p e s m args below meth c H locs la F hP hD hE hS hl
  obtain ⟨hx, hb, hr, hml, hown, hts, hlk⟩ := F
  exact lv_icmp_eq hx hb hd ht (fun h => kt h p e s m args below meth c H locs la ⟨hx, hb, hr, hml, hown, hts, hlk⟩ hP hD hE hS hl) (fun h => kf h p e s m args below meth c H locs la ⟨hx, hb, hr, hml, hown, hts, hlk⟩ hP hD hE hS hl)
theorem A_icmp_ne {x y : Int32} {off : Int} {tgt : Nat} (hd : decode cc pc = .ok (.if_icmp .ne off, 3)) (ht : (pc : Int) + off = (tgt : Int)) (kt : ¬ x = y → AW l G K own cc nL d rt Q tgt ls st μ) (kf : x = y → AW l G K own cc nL d rt Q (pc + 3) ls st μ) : AW l G K own cc nL d rt Q pc ls (.int y :: .int x :: st) μ := by
  intro p e s m args below meth c H locs la F hP hD hE hS hl
  obtain ⟨hx, hb, hr, hml, hown, hts, hlk⟩ := F
  exact lv_icmp_ne hx hb hd ht (fun h => kt h p e s m args below meth c H locs la ⟨hx, hb, hr, hml, hown, hts, hlk⟩ hP hD hE hS hl) (fun h => kf h p e s m args below meth c H locs la ⟨hx, hb, hr, hml, hown, hts, hlk⟩ hP hD hE hS hl)
theorem A_icmp_lt {x y : Int32} {off : Int} {tgt : Nat} (hd : decode cc pc = .ok (.if_icmp .lt off, 3)) (ht : (pc : Int) + off = (tgt : Int)) (kt : x < y → AW l G K own cc nL d rt Q tgt ls st μ) (kf : ¬ (x < y) → AW l G K own cc nL d rt Q (pc + 3) ls st μ) : AW l G K own cc nL d rt Q pc ls (.int y :: .int x :: st) μ := by
  intro p e s m args below meth c H locs la F hP hD hE hS hl
  obtain ⟨hx, hb, hr, hml, hown, hts, hlk⟩ := F
  exact lv_icmp_lt hx hb hd ht (fun h => kt h p e s m args below meth c H locs la ⟨hx, hb, hr, hml, hown, hts, hlk⟩ hP hD hE hS hl) (fun h => kf h p e s m args below meth c H locs la ⟨hx, hb, hr, hml, hown, hts, hlk⟩ hP hD hE hS hl)
theorem A_icmp_ge {x y : Int32} {off : Int} {tgt : Nat} (hd : decode cc pc = .ok (.if_icmp .ge off, 3)) (ht : (pc : Int) + off = (tgt : Int)) (kt : y ≤ x → AW l G K own cc nL d rt Q tgt ls st μ) (kf : ¬ (y ≤ x) → AW l G K own cc nL d rt Q (pc + 3) ls st μ) : AW l G K own cc nL d rt Q pc ls (.int y :: .int x :: st) μ := by
  intro p e s m args below meth c H locs la F hP hD hE hS hl
  obtain ⟨hx, hb, hr, hml, hown, hts, hlk⟩ := F
  exact lv_icmp_ge hx hb hd ht (fun h => kt h p e s m args below meth c H locs la ⟨hx, hb, hr, hml, hown, hts, hlk⟩ hP hD hE hS hl) (fun h => kf h p e s m args below meth c H locs la ⟨hx, hb, hr, hml, hown, hts, hlk⟩ hP hD hE hS hl)
theorem A_icmp_gt {x y : Int32} {off : Int} {tgt : Nat} (hd : decode cc pc = .ok (.if_icmp .gt off, 3)) (ht : (pc : Int) + off = (tgt : Int)) (kt : y < x → AW l G K own cc nL d rt Q tgt ls st μ) (kf : ¬ (y < x) → AW l G K own cc nL d rt Q (pc + 3) ls st μ) : AW l G K own cc nL d rt Q pc ls (.int y :: .int x :: st) μ := by
  intro p e s m args below meth c H locs la F hP hD hE hS hl
  obtain ⟨hx, hb, hr, hml, hown, hts, hlk⟩ := F
  exact lv_icmp_gt hx hb hd ht (fun h => kt h p e s m args below meth c H locs la ⟨hx, hb, hr, hml, hown, hts, hlk⟩ hP hD hE hS hl) (fun h => kf h p e s m args below meth c H locs la ⟨hx, hb, hr, hml, hown, hts, hlk⟩ hP hD hE hS hl)
theorem A_icmp_le {x y : Int32} {off : Int} {tgt : Nat} (hd : decode cc pc = .ok (.if_icmp .le off, 3)) (ht : (pc : Int) + off = (tgt : Int)) (kt : x ≤ y → AW l G K own cc nL d rt Q tgt ls st μ) (kf : ¬ (x ≤ y) → AW l G K own cc nL d rt Q (pc + 3) ls st μ) : AW l G K own cc nL d rt Q pc ls (.int y :: .int x :: st) μ := by
  intro p e s m args below meth c H locs la F hP hD hE hS hl
  obtain ⟨hx, hb, hr, hml, hown, hts, hlk⟩ := F
  exact lv_icmp_le hx hb hd ht (fun h => kt h p e s m args below meth c H locs la ⟨hx, hb, hr, hml, hown, hts, hlk⟩ hP hD hE hS hl) (fun h => kf h p e s m args below meth c H locs la ⟨hx, hb, hr, hml, hown, hts, hlk⟩ hP hD hE hS hl)
theorem A_goto {off : Int} {tgt : Nat} (hd : decode cc pc = .ok (.goto off, 3)) (ht : (pc : Int) + off = (tgt : Int)) (k : AW l G K own cc nL d rt Q tgt ls st μ) : AW l G K own cc nL d rt Q pc ls st μ := by
  intro p e s m args below meth c H locs la F hP hD hE hS hl
  obtain ⟨hx, hb, hr, hml, hown, hts, hlk⟩ := F
  exact lv_goto hx hb hd ht (k p e s m args below meth c H locs la ⟨hx, hb, hr, hml, hown, hts, hlk⟩ hP hD hE hS hl)
theorem A_tableIn {dflt lo hi : Int} {offs : Array Int} {len : Nat} {x : Int32} {off : Int} {tgt : Nat} (hd : decode cc pc = .ok (.tableswitch dflt lo hi offs, len)) (h1 : ¬ x.toInt < lo) (h2 : ¬ hi < x.toInt) (ho : offs[(x.toInt - lo).toNat]? = some off) (ht : (pc : Int) + off = (tgt : Int)) (k : AW l G K own cc nL d rt Q tgt ls st μ) : AW l G K own cc nL d rt Q pc ls (.int x :: st) μ := by
  intro p e s m args below meth c H locs la F hP hD hE hS hl
  obtain ⟨hx, hb, hr, hml, hown, hts, hlk⟩ := F
  exact lv_tableIn hx hb hd h1 h2 ho ht (k p e s m args below meth c H locs la ⟨hx, hb, hr, hml, hown, hts, hlk⟩ hP hD hE hS hl)
theorem A_tableOut {dflt lo hi : Int} {offs : Array Int} {len : Nat} {x : Int32} {tgt : Nat} (hd : decode cc pc = .ok (.tableswitch dflt lo hi offs, len)) (h : x.toInt < lo ∨ hi < x.toInt) (ht : (pc : Int) + dflt = (tgt : Int)) (k : AW l G K own cc nL d rt Q tgt ls st μ) : AW l G K own cc nL d rt Q pc ls (.int x :: st) μ := by
  intro p e s m args below meth c H locs la F hP hD hE hS hl
  obtain ⟨hx, hb, hr, hml, hown, hts, hlk⟩ := F
  exact lv_tableOut hx hb hd h ht (k p e s m args below meth c H locs la ⟨hx, hb, hr, hml, hown, hts, hlk⟩ hP hD hE hS hl)
theorem A_lookup {dflt : Int} {ps : Array (Int × Int)} {len : Nat} {x : Int32} {off : Int} {tgt : Nat} (hd : decode cc pc = .ok (.lookupswitch dflt ps, len)) (hp : (ps.toList.zip (ps.toList.drop 1)).all (fun (a, next) => a.1 < next.1) = true) (ho : Op.lookupswitch.offset ps.toList dflt x.toInt = off) (ht : (pc : Int) + off = (tgt : Int)) (k : AW l G K own cc nL d rt Q tgt ls st μ) : AW l G K own cc nL d rt Q pc ls (.int x :: st) μ := by
  intro p e s m args below meth c H locs la F hP hD hE hS hl
  obtain ⟨hx, hb, hr, hml, hown, hts, hlk⟩ := F
  exact lv_lookup hx hb hd hp ho ht (k p e s m args below meth c H locs la ⟨hx, hb, hr, hml, hown, hts, hlk⟩ hP hD hE hS hl)
def isL : Option Value → Bool
  | some v => v.category == 2
  | none => false
theorem isLp {ls : List (Option Value)} {i : Nat} {x0 : Option Value} (h : ls[i]? = some x0) (hn : isL x0 = false) : ∀ (j : Nat) (x : Option Value), j + 1 = i + 1 → ls[j]? = some x → isL x = false := by
  intro j x h1 h2
  have e : j = i := by omega
  subst e
  rw [h] at h2
  cases h2
  exact hn
def prs (ls : List (Option Value)) : List (Nat × Value) := (List.range ls.length).filterMap fun i => match ls[i]? with
  | some (some v) => some (i, v)
  | _ => none
theorem prs_mem {ls : List (Option Value)} {i : Nat} {v : Value} : (i, v) ∈ prs ls ↔ ls[i]? = some (some v) := by
  unfold prs
  rw [List.mem_filterMap]
  constructor
  · rintro ⟨j, -, h⟩
    split at h
    · next w hw => cases h; exact hw
    · cases h
  · intro h
    exact ⟨i, List.mem_range.mpr (List.getElem?_eq_some_iff.mp h).1, by rw [h]⟩
theorem lrel.has {nL : Nat} {ls : List (Option Value)} {la : Array Slot} (h : lrel nL ls la) : lv_has la nL (prs ls) := ⟨h.1, h.2.1, fun q hq => h.2.2 q.1 q.2 (prs_mem.mp hq)⟩
theorem lrel.set1 {nL i : Nat} {ls : List (Option Value)} {la' : Array Slot} {v : Value} (h : lv_has la' nL ((i, v) :: (prs ls).filter (fun q => !(q.1 == i) && !(q.1 + 1 == i && q.2.category == 2)))) (hp : ∀ (j : Nat) (x : Option Value), j + 1 = i → ls[j]? = some x → isL x = false) : lrel nL (ls.set i (some v)) la' := by
  refine ⟨h.1, h.2.1, fun j w hj => ?_⟩
  rw [List.getElem?_set] at hj
  by_cases e : i = j
  · subst e
    rw [if_pos rfl] at hj
    split at hj
    · cases hj
      exact h.2.2 _ List.mem_cons_self
    · cases hj
  · rw [if_neg e] at hj
    refine h.2.2 (j, w) (List.mem_cons_of_mem _ (List.mem_filter.mpr ⟨prs_mem.mpr hj, ?_⟩))
    have e1 : (j == i) = false := by simpa using fun x => e x.symm
    by_cases e2 : j + 1 = i
    · have h3 := hp j _ e2 hj
      have h4 : (w.category == 2) = false := h3
      simp only [e1, h4, Bool.and_false, Bool.not_false, Bool.and_self]
    · have e3 : (j + 1 == i) = false := by simpa using e2
      simp only [e1, e3, Bool.false_and, Bool.not_false, Bool.and_self]
theorem lrel.set2 {nL i : Nat} {ls : List (Option Value)} {la' : Array Slot} {v : Value} (h : lv_has la' nL ((i, v) :: (prs ls).filter (fun q => !(q.1 == i) && (!(q.1 == i + 1) && !(q.1 + 1 == i && q.2.category == 2))))) (hp : ∀ (j : Nat) (x : Option Value), j + 1 = i → ls[j]? = some x → isL x = false) : lrel nL ((ls.set i (some v)).set (i + 1) none) la' := by
  refine ⟨h.1, h.2.1, fun j w hj => ?_⟩
  rw [List.getElem?_set] at hj
  by_cases e : i + 1 = j
  · subst e
    rw [if_pos rfl] at hj
    split at hj <;> cases hj
  rw [if_neg e, List.getElem?_set] at hj
  by_cases e : i = j
  · subst e
    rw [if_pos rfl] at hj
    split at hj
    · cases hj
      exact h.2.2 _ List.mem_cons_self
    · cases hj
  · rw [if_neg e] at hj
    refine h.2.2 (j, w) (List.mem_cons_of_mem _ (List.mem_filter.mpr ⟨prs_mem.mpr hj, ?_⟩))
    have e1 : (j == i) = false := by simpa using fun x => e x.symm
    have e0 : (j == i + 1) = false := by simpa using fun x => (by assumption : ¬ i + 1 = j) x.symm
    by_cases e2 : j + 1 = i
    · have h3 := hp j _ e2 hj
      have h4 : (w.category == 2) = false := h3
      simp only [e0, e1, h4, Bool.and_false, Bool.not_false, Bool.and_self]
    · have e3 : (j + 1 == i) = false := by simpa using e2
      simp only [e0, e1, e3, Bool.false_and, Bool.not_false, Bool.and_self]
theorem A_iload0 {v : Int32} (hd : decode cc pc = .ok (.iload_n 0, 1)) (k : AW l G K own cc nL d rt Q (pc + 1) (some (.int v) :: ls) (.int v :: st) μ) : AW l G K own cc nL d rt Q pc (some (.int v) :: ls) st μ := by
  intro p e s m args below meth c H locs la F hP hD hE hS hl
  obtain ⟨hx, hb, hr, hml, hown, hts, hlk⟩ := F
  exact lv_iload_n (i := 0) hx hb hd rfl (hl.2.2 0 _ rfl) (k p e s m args below meth c H locs la ⟨hx, hb, hr, hml, hown, hts, hlk⟩ hP hD hE hS hl)
theorem A_istore0 {y0 : Option Value} {v : Int32} (hd : decode cc pc = .ok (.istore_n 0, 1)) (hi : 0 < nL) (k : AW l G K own cc nL d rt Q (pc + 1) (some (.int v) :: ls) st μ) : AW l G K own cc nL d rt Q pc (y0 :: ls) (.int v :: st) μ := by
  intro p e s m args below meth c H locs la F hP hD hE hS hl
  obtain ⟨hx, hb, hr, hml, hown, hts, hlk⟩ := F
  refine lv_istore_n (i := 0) hx hb hd rfl hl.has hi rfl (fun la2 hl2 => ?_)
  exact k p e s m args below meth c H locs la2 ⟨hx, hb, hr, hml, hown, hts, hlk⟩ hP hD hE hS (lrel.set1 hl2 (fun j x h1 _ => absurd h1 (by omega)))
theorem A_lload0 {v : Int64} (hd : decode cc pc = .ok (.lload_n 0, 1)) (k : AW l G K own cc nL d rt Q (pc + 1) (some (.long v) :: ls) (.long v :: st) μ) : AW l G K own cc nL d rt Q pc (some (.long v) :: ls) st μ := by
  intro p e s m args below meth c H locs la F hP hD hE hS hl
  obtain ⟨hx, hb, hr, hml, hown, hts, hlk⟩ := F
  exact lv_lload_n (i := 0) hx hb hd rfl (hl.2.2 0 _ rfl) (k p e s m args below meth c H locs la ⟨hx, hb, hr, hml, hown, hts, hlk⟩ hP hD hE hS hl)
theorem A_lstore0 {y0 y1 : Option Value} {v : Int64} (hd : decode cc pc = .ok (.lstore_n 0, 1)) (hi : 0 + 1 < nL) (k : AW l G K own cc nL d rt Q (pc + 1) (some (.long v) :: none :: ls) st μ) : AW l G K own cc nL d rt Q pc (y0 :: y1 :: ls) (.long v :: st) μ := by
  intro p e s m args below meth c H locs la F hP hD hE hS hl
  obtain ⟨hx, hb, hr, hml, hown, hts, hlk⟩ := F
  refine lv_lstore_n (i := 0) hx hb hd rfl hl.has hi rfl (fun la2 hl2 => ?_)
  exact k p e s m args below meth c H locs la2 ⟨hx, hb, hr, hml, hown, hts, hlk⟩ hP hD hE hS (lrel.set2 hl2 (fun j x h1 _ => absurd h1 (by omega)))
theorem A_aload0 {v : Nat} (hd : decode cc pc = .ok (.aload_n 0, 1)) (k : AW l G K own cc nL d rt Q (pc + 1) (some (.ref v) :: ls) (.ref v :: st) μ) : AW l G K own cc nL d rt Q pc (some (.ref v) :: ls) st μ := by
  intro p e s m args below meth c H locs la F hP hD hE hS hl
  obtain ⟨hx, hb, hr, hml, hown, hts, hlk⟩ := F
  exact lv_aload_n (i := 0) hx hb hd rfl (hl.2.2 0 _ rfl) (k p e s m args below meth c H locs la ⟨hx, hb, hr, hml, hown, hts, hlk⟩ hP hD hE hS hl)
theorem A_astore0 {y0 : Option Value} {v : Nat} (hd : decode cc pc = .ok (.astore_n 0, 1)) (hi : 0 < nL) (k : AW l G K own cc nL d rt Q (pc + 1) (some (.ref v) :: ls) st μ) : AW l G K own cc nL d rt Q pc (y0 :: ls) (.ref v :: st) μ := by
  intro p e s m args below meth c H locs la F hP hD hE hS hl
  obtain ⟨hx, hb, hr, hml, hown, hts, hlk⟩ := F
  refine lv_astore_n (i := 0) hx hb hd rfl hl.has hi rfl (fun la2 hl2 => ?_)
  exact k p e s m args below meth c H locs la2 ⟨hx, hb, hr, hml, hown, hts, hlk⟩ hP hD hE hS (lrel.set1 hl2 (fun j x h1 _ => absurd h1 (by omega)))
theorem A_iinc0 {x v : Int32} {n : Int} (hd : decode cc pc = .ok (.iinc 0 n, 3)) (hv : x + Int32.ofInt n = v) (hi : 0 < nL) (k : AW l G K own cc nL d rt Q (pc + 3) (some (.int v) :: ls) st μ) : AW l G K own cc nL d rt Q pc (some (.int x) :: ls) st μ := by
  intro p e s m args below meth c H locs la F hP hD hE hS hl
  obtain ⟨hx, hb, hr, hml, hown, hts, hlk⟩ := F
  obtain ⟨q, hq⟩ := List.getElem?_of_mem (prs_mem.mpr (show (some (Value.int x) :: ls)[0]? = some (some (.int x)) from rfl))
  refine lv_iinc hx hb hd hl.has hq hv hi rfl (fun la2 hl2 => ?_)
  exact k p e s m args below meth c H locs la2 ⟨hx, hb, hr, hml, hown, hts, hlk⟩ hP hD hE hS (lrel.set1 hl2 (fun j x h1 _ => absurd h1 (by omega)))
theorem A_iload1 {x0 : Option Value} {v : Int32} (hd : decode cc pc = .ok (.iload_n 1, 1)) (k : AW l G K own cc nL d rt Q (pc + 1) (x0 :: some (.int v) :: ls) (.int v :: st) μ) : AW l G K own cc nL d rt Q pc (x0 :: some (.int v) :: ls) st μ := by
  intro p e s m args below meth c H locs la F hP hD hE hS hl
  obtain ⟨hx, hb, hr, hml, hown, hts, hlk⟩ := F
  exact lv_iload_n (i := 1) hx hb hd rfl (hl.2.2 1 _ rfl) (k p e s m args below meth c H locs la ⟨hx, hb, hr, hml, hown, hts, hlk⟩ hP hD hE hS hl)
theorem A_istore1 {x0 : Option Value} {y0 : Option Value} {v : Int32} (hd : decode cc pc = .ok (.istore_n 1, 1)) (hn : isL x0 = false) (hi : 1 < nL) (k : AW l G K own cc nL d rt Q (pc + 1) (x0 :: some (.int v) :: ls) st μ) : AW l G K own cc nL d rt Q pc (x0 :: y0 :: ls) (.int v :: st) μ := by
  intro p e s m args below meth c H locs la F hP hD hE hS hl
  obtain ⟨hx, hb, hr, hml, hown, hts, hlk⟩ := F
  refine lv_istore_n (i := 1) hx hb hd rfl hl.has hi rfl (fun la2 hl2 => ?_)
  exact k p e s m args below meth c H locs la2 ⟨hx, hb, hr, hml, hown, hts, hlk⟩ hP hD hE hS (lrel.set1 hl2 (isLp (i := 0) rfl hn))
theorem A_lload1 {x0 : Option Value} {v : Int64} (hd : decode cc pc = .ok (.lload_n 1, 1)) (k : AW l G K own cc nL d rt Q (pc + 1) (x0 :: some (.long v) :: ls) (.long v :: st) μ) : AW l G K own cc nL d rt Q pc (x0 :: some (.long v) :: ls) st μ := by
  intro p e s m args below meth c H locs la F hP hD hE hS hl
  obtain ⟨hx, hb, hr, hml, hown, hts, hlk⟩ := F
  exact lv_lload_n (i := 1) hx hb hd rfl (hl.2.2 1 _ rfl) (k p e s m args below meth c H locs la ⟨hx, hb, hr, hml, hown, hts, hlk⟩ hP hD hE hS hl)
theorem A_lstore1 {x0 : Option Value} {y0 y1 : Option Value} {v : Int64} (hd : decode cc pc = .ok (.lstore_n 1, 1)) (hn : isL x0 = false) (hi : 1 + 1 < nL) (k : AW l G K own cc nL d rt Q (pc + 1) (x0 :: some (.long v) :: none :: ls) st μ) : AW l G K own cc nL d rt Q pc (x0 :: y0 :: y1 :: ls) (.long v :: st) μ := by
  intro p e s m args below meth c H locs la F hP hD hE hS hl
  obtain ⟨hx, hb, hr, hml, hown, hts, hlk⟩ := F
  refine lv_lstore_n (i := 1) hx hb hd rfl hl.has hi rfl (fun la2 hl2 => ?_)
  exact k p e s m args below meth c H locs la2 ⟨hx, hb, hr, hml, hown, hts, hlk⟩ hP hD hE hS (lrel.set2 hl2 (isLp (i := 0) rfl hn))
theorem A_aload1 {x0 : Option Value} {v : Nat} (hd : decode cc pc = .ok (.aload_n 1, 1)) (k : AW l G K own cc nL d rt Q (pc + 1) (x0 :: some (.ref v) :: ls) (.ref v :: st) μ) : AW l G K own cc nL d rt Q pc (x0 :: some (.ref v) :: ls) st μ := by
  intro p e s m args below meth c H locs la F hP hD hE hS hl
  obtain ⟨hx, hb, hr, hml, hown, hts, hlk⟩ := F
  exact lv_aload_n (i := 1) hx hb hd rfl (hl.2.2 1 _ rfl) (k p e s m args below meth c H locs la ⟨hx, hb, hr, hml, hown, hts, hlk⟩ hP hD hE hS hl)
theorem A_astore1 {x0 : Option Value} {y0 : Option Value} {v : Nat} (hd : decode cc pc = .ok (.astore_n 1, 1)) (hn : isL x0 = false) (hi : 1 < nL) (k : AW l G K own cc nL d rt Q (pc + 1) (x0 :: some (.ref v) :: ls) st μ) : AW l G K own cc nL d rt Q pc (x0 :: y0 :: ls) (.ref v :: st) μ := by
  intro p e s m args below meth c H locs la F hP hD hE hS hl
  obtain ⟨hx, hb, hr, hml, hown, hts, hlk⟩ := F
  refine lv_astore_n (i := 1) hx hb hd rfl hl.has hi rfl (fun la2 hl2 => ?_)
  exact k p e s m args below meth c H locs la2 ⟨hx, hb, hr, hml, hown, hts, hlk⟩ hP hD hE hS (lrel.set1 hl2 (isLp (i := 0) rfl hn))
theorem A_iinc1 {x0 : Option Value} {x v : Int32} {n : Int} (hd : decode cc pc = .ok (.iinc 1 n, 3)) (hv : x + Int32.ofInt n = v) (hn : isL x0 = false) (hi : 1 < nL) (k : AW l G K own cc nL d rt Q (pc + 3) (x0 :: some (.int v) :: ls) st μ) : AW l G K own cc nL d rt Q pc (x0 :: some (.int x) :: ls) st μ := by
  intro p e s m args below meth c H locs la F hP hD hE hS hl
  obtain ⟨hx, hb, hr, hml, hown, hts, hlk⟩ := F
  obtain ⟨q, hq⟩ := List.getElem?_of_mem (prs_mem.mpr (show (x0 :: some (Value.int x) :: ls)[1]? = some (some (.int x)) from rfl))
  refine lv_iinc hx hb hd hl.has hq hv hi rfl (fun la2 hl2 => ?_)
  exact k p e s m args below meth c H locs la2 ⟨hx, hb, hr, hml, hown, hts, hlk⟩ hP hD hE hS (lrel.set1 hl2 (isLp (i := 0) rfl hn))
theorem A_iload2 {x0 x1 : Option Value} {v : Int32} (hd : decode cc pc = .ok (.iload_n 2, 1)) (k : AW l G K own cc nL d rt Q (pc + 1) (x0 :: x1 :: some (.int v) :: ls) (.int v :: st) μ) : AW l G K own cc nL d rt Q pc (x0 :: x1 :: some (.int v) :: ls) st μ := by
  intro p e s m args below meth c H locs la F hP hD hE hS hl
  obtain ⟨hx, hb, hr, hml, hown, hts, hlk⟩ := F
  exact lv_iload_n (i := 2) hx hb hd rfl (hl.2.2 2 _ rfl) (k p e s m args below meth c H locs la ⟨hx, hb, hr, hml, hown, hts, hlk⟩ hP hD hE hS hl)
theorem A_istore2 {x0 x1 : Option Value} {y0 : Option Value} {v : Int32} (hd : decode cc pc = .ok (.istore_n 2, 1)) (hn : isL x1 = false) (hi : 2 < nL) (k : AW l G K own cc nL d rt Q (pc + 1) (x0 :: x1 :: some (.int v) :: ls) st μ) : AW l G K own cc nL d rt Q pc (x0 :: x1 :: y0 :: ls) (.int v :: st) μ := by
  intro p e s m args below meth c H locs la F hP hD hE hS hl
  obtain ⟨hx, hb, hr, hml, hown, hts, hlk⟩ := F
  refine lv_istore_n (i := 2) hx hb hd rfl hl.has hi rfl (fun la2 hl2 => ?_)
  exact k p e s m args below meth c H locs la2 ⟨hx, hb, hr, hml, hown, hts, hlk⟩ hP hD hE hS (lrel.set1 hl2 (isLp (i := 1) rfl hn))
theorem A_lload2 {x0 x1 : Option Value} {v : Int64} (hd : decode cc pc = .ok (.lload_n 2, 1)) (k : AW l G K own cc nL d rt Q (pc + 1) (x0 :: x1 :: some (.long v) :: ls) (.long v :: st) μ) : AW l G K own cc nL d rt Q pc (x0 :: x1 :: some (.long v) :: ls) st μ := by
  intro p e s m args below meth c H locs la F hP hD hE hS hl
  obtain ⟨hx, hb, hr, hml, hown, hts, hlk⟩ := F
  exact lv_lload_n (i := 2) hx hb hd rfl (hl.2.2 2 _ rfl) (k p e s m args below meth c H locs la ⟨hx, hb, hr, hml, hown, hts, hlk⟩ hP hD hE hS hl)
theorem A_lstore2 {x0 x1 : Option Value} {y0 y1 : Option Value} {v : Int64} (hd : decode cc pc = .ok (.lstore_n 2, 1)) (hn : isL x1 = false) (hi : 2 + 1 < nL) (k : AW l G K own cc nL d rt Q (pc + 1) (x0 :: x1 :: some (.long v) :: none :: ls) st μ) : AW l G K own cc nL d rt Q pc (x0 :: x1 :: y0 :: y1 :: ls) (.long v :: st) μ := by
  intro p e s m args below meth c H locs la F hP hD hE hS hl
  obtain ⟨hx, hb, hr, hml, hown, hts, hlk⟩ := F
  refine lv_lstore_n (i := 2) hx hb hd rfl hl.has hi rfl (fun la2 hl2 => ?_)
  exact k p e s m args below meth c H locs la2 ⟨hx, hb, hr, hml, hown, hts, hlk⟩ hP hD hE hS (lrel.set2 hl2 (isLp (i := 1) rfl hn))
theorem A_aload2 {x0 x1 : Option Value} {v : Nat} (hd : decode cc pc = .ok (.aload_n 2, 1)) (k : AW l G K own cc nL d rt Q (pc + 1) (x0 :: x1 :: some (.ref v) :: ls) (.ref v :: st) μ) : AW l G K own cc nL d rt Q pc (x0 :: x1 :: some (.ref v) :: ls) st μ := by
  intro p e s m args below meth c H locs la F hP hD hE hS hl
  obtain ⟨hx, hb, hr, hml, hown, hts, hlk⟩ := F
  exact lv_aload_n (i := 2) hx hb hd rfl (hl.2.2 2 _ rfl) (k p e s m args below meth c H locs la ⟨hx, hb, hr, hml, hown, hts, hlk⟩ hP hD hE hS hl)
theorem A_astore2 {x0 x1 : Option Value} {y0 : Option Value} {v : Nat} (hd : decode cc pc = .ok (.astore_n 2, 1)) (hn : isL x1 = false) (hi : 2 < nL) (k : AW l G K own cc nL d rt Q (pc + 1) (x0 :: x1 :: some (.ref v) :: ls) st μ) : AW l G K own cc nL d rt Q pc (x0 :: x1 :: y0 :: ls) (.ref v :: st) μ := by
  intro p e s m args below meth c H locs la F hP hD hE hS hl
  obtain ⟨hx, hb, hr, hml, hown, hts, hlk⟩ := F
  refine lv_astore_n (i := 2) hx hb hd rfl hl.has hi rfl (fun la2 hl2 => ?_)
  exact k p e s m args below meth c H locs la2 ⟨hx, hb, hr, hml, hown, hts, hlk⟩ hP hD hE hS (lrel.set1 hl2 (isLp (i := 1) rfl hn))
theorem A_iinc2 {x0 x1 : Option Value} {x v : Int32} {n : Int} (hd : decode cc pc = .ok (.iinc 2 n, 3)) (hv : x + Int32.ofInt n = v) (hn : isL x1 = false) (hi : 2 < nL) (k : AW l G K own cc nL d rt Q (pc + 3) (x0 :: x1 :: some (.int v) :: ls) st μ) : AW l G K own cc nL d rt Q pc (x0 :: x1 :: some (.int x) :: ls) st μ := by
  intro p e s m args below meth c H locs la F hP hD hE hS hl
  obtain ⟨hx, hb, hr, hml, hown, hts, hlk⟩ := F
  obtain ⟨q, hq⟩ := List.getElem?_of_mem (prs_mem.mpr (show (x0 :: x1 :: some (Value.int x) :: ls)[2]? = some (some (.int x)) from rfl))
  refine lv_iinc hx hb hd hl.has hq hv hi rfl (fun la2 hl2 => ?_)
  exact k p e s m args below meth c H locs la2 ⟨hx, hb, hr, hml, hown, hts, hlk⟩ hP hD hE hS (lrel.set1 hl2 (isLp (i := 1) rfl hn))
theorem A_iload3 {x0 x1 x2 : Option Value} {v : Int32} (hd : decode cc pc = .ok (.iload_n 3, 1)) (k : AW l G K own cc nL d rt Q (pc + 1) (x0 :: x1 :: x2 :: some (.int v) :: ls) (.int v :: st) μ) : AW l G K own cc nL d rt Q pc (x0 :: x1 :: x2 :: some (.int v) :: ls) st μ := by
  intro p e s m args below meth c H locs la F hP hD hE hS hl
  obtain ⟨hx, hb, hr, hml, hown, hts, hlk⟩ := F
  exact lv_iload_n (i := 3) hx hb hd rfl (hl.2.2 3 _ rfl) (k p e s m args below meth c H locs la ⟨hx, hb, hr, hml, hown, hts, hlk⟩ hP hD hE hS hl)
theorem A_istore3 {x0 x1 x2 : Option Value} {y0 : Option Value} {v : Int32} (hd : decode cc pc = .ok (.istore_n 3, 1)) (hn : isL x2 = false) (hi : 3 < nL) (k : AW l G K own cc nL d rt Q (pc + 1) (x0 :: x1 :: x2 :: some (.int v) :: ls) st μ) : AW l G K own cc nL d rt Q pc (x0 :: x1 :: x2 :: y0 :: ls) (.int v :: st) μ := by
  intro p e s m args below meth c H locs la F hP hD hE hS hl
  obtain ⟨hx, hb, hr, hml, hown, hts, hlk⟩ := F
  refine lv_istore_n (i := 3) hx hb hd rfl hl.has hi rfl (fun la2 hl2 => ?_)
  exact k p e s m args below meth c H locs la2 ⟨hx, hb, hr, hml, hown, hts, hlk⟩ hP hD hE hS (lrel.set1 hl2 (isLp (i := 2) rfl hn))
theorem A_lload3 {x0 x1 x2 : Option Value} {v : Int64} (hd : decode cc pc = .ok (.lload_n 3, 1)) (k : AW l G K own cc nL d rt Q (pc + 1) (x0 :: x1 :: x2 :: some (.long v) :: ls) (.long v :: st) μ) : AW l G K own cc nL d rt Q pc (x0 :: x1 :: x2 :: some (.long v) :: ls) st μ := by
  intro p e s m args below meth c H locs la F hP hD hE hS hl
  obtain ⟨hx, hb, hr, hml, hown, hts, hlk⟩ := F
  exact lv_lload_n (i := 3) hx hb hd rfl (hl.2.2 3 _ rfl) (k p e s m args below meth c H locs la ⟨hx, hb, hr, hml, hown, hts, hlk⟩ hP hD hE hS hl)
theorem A_lstore3 {x0 x1 x2 : Option Value} {y0 y1 : Option Value} {v : Int64} (hd : decode cc pc = .ok (.lstore_n 3, 1)) (hn : isL x2 = false) (hi : 3 + 1 < nL) (k : AW l G K own cc nL d rt Q (pc + 1) (x0 :: x1 :: x2 :: some (.long v) :: none :: ls) st μ) : AW l G K own cc nL d rt Q pc (x0 :: x1 :: x2 :: y0 :: y1 :: ls) (.long v :: st) μ := by
  intro p e s m args below meth c H locs la F hP hD hE hS hl
  obtain ⟨hx, hb, hr, hml, hown, hts, hlk⟩ := F
  refine lv_lstore_n (i := 3) hx hb hd rfl hl.has hi rfl (fun la2 hl2 => ?_)
  exact k p e s m args below meth c H locs la2 ⟨hx, hb, hr, hml, hown, hts, hlk⟩ hP hD hE hS (lrel.set2 hl2 (isLp (i := 2) rfl hn))
theorem A_aload3 {x0 x1 x2 : Option Value} {v : Nat} (hd : decode cc pc = .ok (.aload_n 3, 1)) (k : AW l G K own cc nL d rt Q (pc + 1) (x0 :: x1 :: x2 :: some (.ref v) :: ls) (.ref v :: st) μ) : AW l G K own cc nL d rt Q pc (x0 :: x1 :: x2 :: some (.ref v) :: ls) st μ := by
  intro p e s m args below meth c H locs la F hP hD hE hS hl
  obtain ⟨hx, hb, hr, hml, hown, hts, hlk⟩ := F
  exact lv_aload_n (i := 3) hx hb hd rfl (hl.2.2 3 _ rfl) (k p e s m args below meth c H locs la ⟨hx, hb, hr, hml, hown, hts, hlk⟩ hP hD hE hS hl)
theorem A_astore3 {x0 x1 x2 : Option Value} {y0 : Option Value} {v : Nat} (hd : decode cc pc = .ok (.astore_n 3, 1)) (hn : isL x2 = false) (hi : 3 < nL) (k : AW l G K own cc nL d rt Q (pc + 1) (x0 :: x1 :: x2 :: some (.ref v) :: ls) st μ) : AW l G K own cc nL d rt Q pc (x0 :: x1 :: x2 :: y0 :: ls) (.ref v :: st) μ := by
  intro p e s m args below meth c H locs la F hP hD hE hS hl
  obtain ⟨hx, hb, hr, hml, hown, hts, hlk⟩ := F
  refine lv_astore_n (i := 3) hx hb hd rfl hl.has hi rfl (fun la2 hl2 => ?_)
  exact k p e s m args below meth c H locs la2 ⟨hx, hb, hr, hml, hown, hts, hlk⟩ hP hD hE hS (lrel.set1 hl2 (isLp (i := 2) rfl hn))
theorem A_iinc3 {x0 x1 x2 : Option Value} {x v : Int32} {n : Int} (hd : decode cc pc = .ok (.iinc 3 n, 3)) (hv : x + Int32.ofInt n = v) (hn : isL x2 = false) (hi : 3 < nL) (k : AW l G K own cc nL d rt Q (pc + 3) (x0 :: x1 :: x2 :: some (.int v) :: ls) st μ) : AW l G K own cc nL d rt Q pc (x0 :: x1 :: x2 :: some (.int x) :: ls) st μ := by
  intro p e s m args below meth c H locs la F hP hD hE hS hl
  obtain ⟨hx, hb, hr, hml, hown, hts, hlk⟩ := F
  obtain ⟨q, hq⟩ := List.getElem?_of_mem (prs_mem.mpr (show (x0 :: x1 :: x2 :: some (Value.int x) :: ls)[3]? = some (some (.int x)) from rfl))
  refine lv_iinc hx hb hd hl.has hq hv hi rfl (fun la2 hl2 => ?_)
  exact k p e s m args below meth c H locs la2 ⟨hx, hb, hr, hml, hown, hts, hlk⟩ hP hD hE hS (lrel.set1 hl2 (isLp (i := 2) rfl hn))
theorem A_iload4 {x0 x1 x2 x3 : Option Value} {v : Int32} (hd : decode cc pc = .ok (.iload 4, 2)) (k : AW l G K own cc nL d rt Q (pc + 2) (x0 :: x1 :: x2 :: x3 :: some (.int v) :: ls) (.int v :: st) μ) : AW l G K own cc nL d rt Q pc (x0 :: x1 :: x2 :: x3 :: some (.int v) :: ls) st μ := by
  intro p e s m args below meth c H locs la F hP hD hE hS hl
  obtain ⟨hx, hb, hr, hml, hown, hts, hlk⟩ := F
  exact lv_iload hx hb hd (hl.2.2 4 _ rfl) (k p e s m args below meth c H locs la ⟨hx, hb, hr, hml, hown, hts, hlk⟩ hP hD hE hS hl)
theorem A_istore4 {x0 x1 x2 x3 : Option Value} {y0 : Option Value} {v : Int32} (hd : decode cc pc = .ok (.istore 4, 2)) (hn : isL x3 = false) (hi : 4 < nL) (k : AW l G K own cc nL d rt Q (pc + 2) (x0 :: x1 :: x2 :: x3 :: some (.int v) :: ls) st μ) : AW l G K own cc nL d rt Q pc (x0 :: x1 :: x2 :: x3 :: y0 :: ls) (.int v :: st) μ := by
  intro p e s m args below meth c H locs la F hP hD hE hS hl
  obtain ⟨hx, hb, hr, hml, hown, hts, hlk⟩ := F
  refine lv_istore hx hb hd hl.has hi rfl (fun la2 hl2 => ?_)
  exact k p e s m args below meth c H locs la2 ⟨hx, hb, hr, hml, hown, hts, hlk⟩ hP hD hE hS (lrel.set1 hl2 (isLp (i := 3) rfl hn))
theorem A_lload4 {x0 x1 x2 x3 : Option Value} {v : Int64} (hd : decode cc pc = .ok (.lload 4, 2)) (k : AW l G K own cc nL d rt Q (pc + 2) (x0 :: x1 :: x2 :: x3 :: some (.long v) :: ls) (.long v :: st) μ) : AW l G K own cc nL d rt Q pc (x0 :: x1 :: x2 :: x3 :: some (.long v) :: ls) st μ := by
  intro p e s m args below meth c H locs la F hP hD hE hS hl
  obtain ⟨hx, hb, hr, hml, hown, hts, hlk⟩ := F
  exact lv_lload hx hb hd (hl.2.2 4 _ rfl) (k p e s m args below meth c H locs la ⟨hx, hb, hr, hml, hown, hts, hlk⟩ hP hD hE hS hl)
theorem A_lstore4 {x0 x1 x2 x3 : Option Value} {y0 y1 : Option Value} {v : Int64} (hd : decode cc pc = .ok (.lstore 4, 2)) (hn : isL x3 = false) (hi : 4 + 1 < nL) (k : AW l G K own cc nL d rt Q (pc + 2) (x0 :: x1 :: x2 :: x3 :: some (.long v) :: none :: ls) st μ) : AW l G K own cc nL d rt Q pc (x0 :: x1 :: x2 :: x3 :: y0 :: y1 :: ls) (.long v :: st) μ := by
  intro p e s m args below meth c H locs la F hP hD hE hS hl
  obtain ⟨hx, hb, hr, hml, hown, hts, hlk⟩ := F
  refine lv_lstore hx hb hd hl.has hi rfl (fun la2 hl2 => ?_)
  exact k p e s m args below meth c H locs la2 ⟨hx, hb, hr, hml, hown, hts, hlk⟩ hP hD hE hS (lrel.set2 hl2 (isLp (i := 3) rfl hn))
theorem A_aload4 {x0 x1 x2 x3 : Option Value} {v : Nat} (hd : decode cc pc = .ok (.aload 4, 2)) (k : AW l G K own cc nL d rt Q (pc + 2) (x0 :: x1 :: x2 :: x3 :: some (.ref v) :: ls) (.ref v :: st) μ) : AW l G K own cc nL d rt Q pc (x0 :: x1 :: x2 :: x3 :: some (.ref v) :: ls) st μ := by
  intro p e s m args below meth c H locs la F hP hD hE hS hl
  obtain ⟨hx, hb, hr, hml, hown, hts, hlk⟩ := F
  exact lv_aload hx hb hd (hl.2.2 4 _ rfl) (k p e s m args below meth c H locs la ⟨hx, hb, hr, hml, hown, hts, hlk⟩ hP hD hE hS hl)
theorem A_astore4 {x0 x1 x2 x3 : Option Value} {y0 : Option Value} {v : Nat} (hd : decode cc pc = .ok (.astore 4, 2)) (hn : isL x3 = false) (hi : 4 < nL) (k : AW l G K own cc nL d rt Q (pc + 2) (x0 :: x1 :: x2 :: x3 :: some (.ref v) :: ls) st μ) : AW l G K own cc nL d rt Q pc (x0 :: x1 :: x2 :: x3 :: y0 :: ls) (.ref v :: st) μ := by
  intro p e s m args below meth c H locs la F hP hD hE hS hl
  obtain ⟨hx, hb, hr, hml, hown, hts, hlk⟩ := F
  refine lv_astore hx hb hd hl.has hi rfl (fun la2 hl2 => ?_)
  exact k p e s m args below meth c H locs la2 ⟨hx, hb, hr, hml, hown, hts, hlk⟩ hP hD hE hS (lrel.set1 hl2 (isLp (i := 3) rfl hn))
theorem A_iinc4 {x0 x1 x2 x3 : Option Value} {x v : Int32} {n : Int} (hd : decode cc pc = .ok (.iinc 4 n, 3)) (hv : x + Int32.ofInt n = v) (hn : isL x3 = false) (hi : 4 < nL) (k : AW l G K own cc nL d rt Q (pc + 3) (x0 :: x1 :: x2 :: x3 :: some (.int v) :: ls) st μ) : AW l G K own cc nL d rt Q pc (x0 :: x1 :: x2 :: x3 :: some (.int x) :: ls) st μ := by
  intro p e s m args below meth c H locs la F hP hD hE hS hl
  obtain ⟨hx, hb, hr, hml, hown, hts, hlk⟩ := F
  obtain ⟨q, hq⟩ := List.getElem?_of_mem (prs_mem.mpr (show (x0 :: x1 :: x2 :: x3 :: some (Value.int x) :: ls)[4]? = some (some (.int x)) from rfl))
  refine lv_iinc hx hb hd hl.has hq hv hi rfl (fun la2 hl2 => ?_)
  exact k p e s m args below meth c H locs la2 ⟨hx, hb, hr, hml, hown, hts, hlk⟩ hP hD hE hS (lrel.set1 hl2 (isLp (i := 3) rfl hn))
theorem A_iload5 {x0 x1 x2 x3 x4 : Option Value} {v : Int32} (hd : decode cc pc = .ok (.iload 5, 2)) (k : AW l G K own cc nL d rt Q (pc + 2) (x0 :: x1 :: x2 :: x3 :: x4 :: some (.int v) :: ls) (.int v :: st) μ) : AW l G K own cc nL d rt Q pc (x0 :: x1 :: x2 :: x3 :: x4 :: some (.int v) :: ls) st μ := by
  intro p e s m args below meth c H locs la F hP hD hE hS hl
  obtain ⟨hx, hb, hr, hml, hown, hts, hlk⟩ := F
  exact lv_iload hx hb hd (hl.2.2 5 _ rfl) (k p e s m args below meth c H locs la ⟨hx, hb, hr, hml, hown, hts, hlk⟩ hP hD hE hS hl)
theorem A_istore5 {x0 x1 x2 x3 x4 : Option Value} {y0 : Option Value} {v : Int32} (hd : decode cc pc = .ok (.istore 5, 2)) (hn : isL x4 = false) (hi : 5 < nL) (k : AW l G K own cc nL d rt Q (pc + 2) (x0 :: x1 :: x2 :: x3 :: x4 :: some (.int v) :: ls) st μ) : AW l G K own cc nL d rt Q pc (x0 :: x1 :: x2 :: x3 :: x4 :: y0 :: ls) (.int v :: st) μ := by
  intro p e s m args below meth c H locs la F hP hD hE hS hl
  obtain ⟨hx, hb, hr, hml, hown, hts, hlk⟩ := F
  refine lv_istore hx hb hd hl.has hi rfl (fun la2 hl2 => ?_)
  exact k p e s m args below meth c H locs la2 ⟨hx, hb, hr, hml, hown, hts, hlk⟩ hP hD hE hS (lrel.set1 hl2 (isLp (i := 4) rfl hn))
theorem A_lload5 {x0 x1 x2 x3 x4 : Option Value} {v : Int64} (hd : decode cc pc = .ok (.lload 5, 2)) (k : AW l G K own cc nL d rt Q (pc + 2) (x0 :: x1 :: x2 :: x3 :: x4 :: some (.long v) :: ls) (.long v :: st) μ) : AW l G K own cc nL d rt Q pc (x0 :: x1 :: x2 :: x3 :: x4 :: some (.long v) :: ls) st μ := by
  intro p e s m args below meth c H locs la F hP hD hE hS hl
  obtain ⟨hx, hb, hr, hml, hown, hts, hlk⟩ := F
  exact lv_lload hx hb hd (hl.2.2 5 _ rfl) (k p e s m args below meth c H locs la ⟨hx, hb, hr, hml, hown, hts, hlk⟩ hP hD hE hS hl)
theorem A_lstore5 {x0 x1 x2 x3 x4 : Option Value} {y0 y1 : Option Value} {v : Int64} (hd : decode cc pc = .ok (.lstore 5, 2)) (hn : isL x4 = false) (hi : 5 + 1 < nL) (k : AW l G K own cc nL d rt Q (pc + 2) (x0 :: x1 :: x2 :: x3 :: x4 :: some (.long v) :: none :: ls) st μ) : AW l G K own cc nL d rt Q pc (x0 :: x1 :: x2 :: x3 :: x4 :: y0 :: y1 :: ls) (.long v :: st) μ := by
  intro p e s m args below meth c H locs la F hP hD hE hS hl
  obtain ⟨hx, hb, hr, hml, hown, hts, hlk⟩ := F
  refine lv_lstore hx hb hd hl.has hi rfl (fun la2 hl2 => ?_)
  exact k p e s m args below meth c H locs la2 ⟨hx, hb, hr, hml, hown, hts, hlk⟩ hP hD hE hS (lrel.set2 hl2 (isLp (i := 4) rfl hn))
theorem A_aload5 {x0 x1 x2 x3 x4 : Option Value} {v : Nat} (hd : decode cc pc = .ok (.aload 5, 2)) (k : AW l G K own cc nL d rt Q (pc + 2) (x0 :: x1 :: x2 :: x3 :: x4 :: some (.ref v) :: ls) (.ref v :: st) μ) : AW l G K own cc nL d rt Q pc (x0 :: x1 :: x2 :: x3 :: x4 :: some (.ref v) :: ls) st μ := by
  intro p e s m args below meth c H locs la F hP hD hE hS hl
  obtain ⟨hx, hb, hr, hml, hown, hts, hlk⟩ := F
  exact lv_aload hx hb hd (hl.2.2 5 _ rfl) (k p e s m args below meth c H locs la ⟨hx, hb, hr, hml, hown, hts, hlk⟩ hP hD hE hS hl)
theorem A_astore5 {x0 x1 x2 x3 x4 : Option Value} {y0 : Option Value} {v : Nat} (hd : decode cc pc = .ok (.astore 5, 2)) (hn : isL x4 = false) (hi : 5 < nL) (k : AW l G K own cc nL d rt Q (pc + 2) (x0 :: x1 :: x2 :: x3 :: x4 :: some (.ref v) :: ls) st μ) : AW l G K own cc nL d rt Q pc (x0 :: x1 :: x2 :: x3 :: x4 :: y0 :: ls) (.ref v :: st) μ := by
  intro p e s m args below meth c H locs la F hP hD hE hS hl
  obtain ⟨hx, hb, hr, hml, hown, hts, hlk⟩ := F
  refine lv_astore hx hb hd hl.has hi rfl (fun la2 hl2 => ?_)
  exact k p e s m args below meth c H locs la2 ⟨hx, hb, hr, hml, hown, hts, hlk⟩ hP hD hE hS (lrel.set1 hl2 (isLp (i := 4) rfl hn))
theorem A_iinc5 {x0 x1 x2 x3 x4 : Option Value} {x v : Int32} {n : Int} (hd : decode cc pc = .ok (.iinc 5 n, 3)) (hv : x + Int32.ofInt n = v) (hn : isL x4 = false) (hi : 5 < nL) (k : AW l G K own cc nL d rt Q (pc + 3) (x0 :: x1 :: x2 :: x3 :: x4 :: some (.int v) :: ls) st μ) : AW l G K own cc nL d rt Q pc (x0 :: x1 :: x2 :: x3 :: x4 :: some (.int x) :: ls) st μ := by
  intro p e s m args below meth c H locs la F hP hD hE hS hl
  obtain ⟨hx, hb, hr, hml, hown, hts, hlk⟩ := F
  obtain ⟨q, hq⟩ := List.getElem?_of_mem (prs_mem.mpr (show (x0 :: x1 :: x2 :: x3 :: x4 :: some (Value.int x) :: ls)[5]? = some (some (.int x)) from rfl))
  refine lv_iinc hx hb hd hl.has hq hv hi rfl (fun la2 hl2 => ?_)
  exact k p e s m args below meth c H locs la2 ⟨hx, hb, hr, hml, hown, hts, hlk⟩ hP hD hE hS (lrel.set1 hl2 (isLp (i := 4) rfl hn))
theorem A_iload6 {x0 x1 x2 x3 x4 x5 : Option Value} {v : Int32} (hd : decode cc pc = .ok (.iload 6, 2)) (k : AW l G K own cc nL d rt Q (pc + 2) (x0 :: x1 :: x2 :: x3 :: x4 :: x5 :: some (.int v) :: ls) (.int v :: st) μ) : AW l G K own cc nL d rt Q pc (x0 :: x1 :: x2 :: x3 :: x4 :: x5 :: some (.int v) :: ls) st μ := by
  intro p e s m args below meth c H locs la F hP hD hE hS hl
  obtain ⟨hx, hb, hr, hml, hown, hts, hlk⟩ := F
  exact lv_iload hx hb hd (hl.2.2 6 _ rfl) (k p e s m args below meth c H locs la ⟨hx, hb, hr, hml, hown, hts, hlk⟩ hP hD hE hS hl)
theorem A_istore6 {x0 x1 x2 x3 x4 x5 : Option Value} {y0 : Option Value} {v : Int32} (hd : decode cc pc = .ok (.istore 6, 2)) (hn : isL x5 = false) (hi : 6 < nL) (k : AW l G K own cc nL d rt Q (pc + 2) (x0 :: x1 :: x2 :: x3 :: x4 :: x5 :: some (.int v) :: ls) st μ) : AW l G K own cc nL d rt Q pc (x0 :: x1 :: x2 :: x3 :: x4 :: x5 :: y0 :: ls) (.int v :: st) μ := by
  intro p e s m args below meth c H locs la F hP hD hE hS hl
  obtain ⟨hx, hb, hr, hml, hown, hts, hlk⟩ := F
  refine lv_istore hx hb hd hl.has hi rfl (fun la2 hl2 => ?_)
  exact k p e s m args below meth c H locs la2 ⟨hx, hb, hr, hml, hown, hts, hlk⟩ hP hD hE hS (lrel.set1 hl2 (isLp (i := 5) rfl hn))
theorem A_lload6 {x0 x1 x2 x3 x4 x5 : Option Value} {v : Int64} (hd : decode cc pc = .ok (.lload 6, 2)) (k : AW l G K own cc nL d rt Q (pc + 2) (x0 :: x1 :: x2 :: x3 :: x4 :: x5 :: some (.long v) :: ls) (.long v :: st) μ) : AW l G K own cc nL d rt Q pc (x0 :: x1 :: x2 :: x3 :: x4 :: x5 :: some (.long v) :: ls) st μ := by
  intro p e s m args below meth c H locs la F hP hD hE hS hl
  obtain ⟨hx, hb, hr, hml, hown, hts, hlk⟩ := F
  exact lv_lload hx hb hd (hl.2.2 6 _ rfl) (k p e s m args below meth c H locs la ⟨hx, hb, hr, hml, hown, hts, hlk⟩ hP hD hE hS hl)
theorem A_lstore6 {x0 x1 x2 x3 x4 x5 : Option Value} {y0 y1 : Option Value} {v : Int64} (hd : decode cc pc = .ok (.lstore 6, 2)) (hn : isL x5 = false) (hi : 6 + 1 < nL) (k : AW l G K own cc nL d rt Q (pc + 2) (x0 :: x1 :: x2 :: x3 :: x4 :: x5 :: some (.long v) :: none :: ls) st μ) : AW l G K own cc nL d rt Q pc (x0 :: x1 :: x2 :: x3 :: x4 :: x5 :: y0 :: y1 :: ls) (.long v :: st) μ := by
  intro p e s m args below meth c H locs la F hP hD hE hS hl
  obtain ⟨hx, hb, hr, hml, hown, hts, hlk⟩ := F
  refine lv_lstore hx hb hd hl.has hi rfl (fun la2 hl2 => ?_)
  exact k p e s m args below meth c H locs la2 ⟨hx, hb, hr, hml, hown, hts, hlk⟩ hP hD hE hS (lrel.set2 hl2 (isLp (i := 5) rfl hn))
theorem A_aload6 {x0 x1 x2 x3 x4 x5 : Option Value} {v : Nat} (hd : decode cc pc = .ok (.aload 6, 2)) (k : AW l G K own cc nL d rt Q (pc + 2) (x0 :: x1 :: x2 :: x3 :: x4 :: x5 :: some (.ref v) :: ls) (.ref v :: st) μ) : AW l G K own cc nL d rt Q pc (x0 :: x1 :: x2 :: x3 :: x4 :: x5 :: some (.ref v) :: ls) st μ := by
  intro p e s m args below meth c H locs la F hP hD hE hS hl
  obtain ⟨hx, hb, hr, hml, hown, hts, hlk⟩ := F
  exact lv_aload hx hb hd (hl.2.2 6 _ rfl) (k p e s m args below meth c H locs la ⟨hx, hb, hr, hml, hown, hts, hlk⟩ hP hD hE hS hl)
theorem A_astore6 {x0 x1 x2 x3 x4 x5 : Option Value} {y0 : Option Value} {v : Nat} (hd : decode cc pc = .ok (.astore 6, 2)) (hn : isL x5 = false) (hi : 6 < nL) (k : AW l G K own cc nL d rt Q (pc + 2) (x0 :: x1 :: x2 :: x3 :: x4 :: x5 :: some (.ref v) :: ls) st μ) : AW l G K own cc nL d rt Q pc (x0 :: x1 :: x2 :: x3 :: x4 :: x5 :: y0 :: ls) (.ref v :: st) μ := by
  intro p e s m args below meth c H locs la F hP hD hE hS hl
  obtain ⟨hx, hb, hr, hml, hown, hts, hlk⟩ := F
  refine lv_astore hx hb hd hl.has hi rfl (fun la2 hl2 => ?_)
  exact k p e s m args below meth c H locs la2 ⟨hx, hb, hr, hml, hown, hts, hlk⟩ hP hD hE hS (lrel.set1 hl2 (isLp (i := 5) rfl hn))
theorem A_iinc6 {x0 x1 x2 x3 x4 x5 : Option Value} {x v : Int32} {n : Int} (hd : decode cc pc = .ok (.iinc 6 n, 3)) (hv : x + Int32.ofInt n = v) (hn : isL x5 = false) (hi : 6 < nL) (k : AW l G K own cc nL d rt Q (pc + 3) (x0 :: x1 :: x2 :: x3 :: x4 :: x5 :: some (.int v) :: ls) st μ) : AW l G K own cc nL d rt Q pc (x0 :: x1 :: x2 :: x3 :: x4 :: x5 :: some (.int x) :: ls) st μ := by
  intro p e s m args below meth c H locs la F hP hD hE hS hl
  obtain ⟨hx, hb, hr, hml, hown, hts, hlk⟩ := F
  obtain ⟨q, hq⟩ := List.getElem?_of_mem (prs_mem.mpr (show (x0 :: x1 :: x2 :: x3 :: x4 :: x5 :: some (Value.int x) :: ls)[6]? = some (some (.int x)) from rfl))
  refine lv_iinc hx hb hd hl.has hq hv hi rfl (fun la2 hl2 => ?_)
  exact k p e s m args below meth c H locs la2 ⟨hx, hb, hr, hml, hown, hts, hlk⟩ hP hD hE hS (lrel.set1 hl2 (isLp (i := 5) rfl hn))
theorem A_iload7 {x0 x1 x2 x3 x4 x5 x6 : Option Value} {v : Int32} (hd : decode cc pc = .ok (.iload 7, 2)) (k : AW l G K own cc nL d rt Q (pc + 2) (x0 :: x1 :: x2 :: x3 :: x4 :: x5 :: x6 :: some (.int v) :: ls) (.int v :: st) μ) : AW l G K own cc nL d rt Q pc (x0 :: x1 :: x2 :: x3 :: x4 :: x5 :: x6 :: some (.int v) :: ls) st μ := by
  intro p e s m args below meth c H locs la F hP hD hE hS hl
  obtain ⟨hx, hb, hr, hml, hown, hts, hlk⟩ := F
  exact lv_iload hx hb hd (hl.2.2 7 _ rfl) (k p e s m args below meth c H locs la ⟨hx, hb, hr, hml, hown, hts, hlk⟩ hP hD hE hS hl)
theorem A_istore7 {x0 x1 x2 x3 x4 x5 x6 : Option Value} {y0 : Option Value} {v : Int32} (hd : decode cc pc = .ok (.istore 7, 2)) (hn : isL x6 = false) (hi : 7 < nL) (k : AW l G K own cc nL d rt Q (pc + 2) (x0 :: x1 :: x2 :: x3 :: x4 :: x5 :: x6 :: some (.int v) :: ls) st μ) : AW l G K own cc nL d rt Q pc (x0 :: x1 :: x2 :: x3 :: x4 :: x5 :: x6 :: y0 :: ls) (.int v :: st) μ := by
  intro p e s m args below meth c H locs la F hP hD hE hS hl
  obtain ⟨hx, hb, hr, hml, hown, hts, hlk⟩ := F
  refine lv_istore hx hb hd hl.has hi rfl (fun la2 hl2 => ?_)
  exact k p e s m args below meth c H locs la2 ⟨hx, hb, hr, hml, hown, hts, hlk⟩ hP hD hE hS (lrel.set1 hl2 (isLp (i := 6) rfl hn))
theorem A_lload7 {x0 x1 x2 x3 x4 x5 x6 : Option Value} {v : Int64} (hd : decode cc pc = .ok (.lload 7, 2)) (k : AW l G K own cc nL d rt Q (pc + 2) (x0 :: x1 :: x2 :: x3 :: x4 :: x5 :: x6 :: some (.long v) :: ls) (.long v :: st) μ) : AW l G K own cc nL d rt Q pc (x0 :: x1 :: x2 :: x3 :: x4 :: x5 :: x6 :: some (.long v) :: ls) st μ := by
  intro p e s m args below meth c H locs la F hP hD hE hS hl
  obtain ⟨hx, hb, hr, hml, hown, hts, hlk⟩ := F
  exact lv_lload hx hb hd (hl.2.2 7 _ rfl) (k p e s m args below meth c H locs la ⟨hx, hb, hr, hml, hown, hts, hlk⟩ hP hD hE hS hl)
theorem A_lstore7 {x0 x1 x2 x3 x4 x5 x6 : Option Value} {y0 y1 : Option Value} {v : Int64} (hd : decode cc pc = .ok (.lstore 7, 2)) (hn : isL x6 = false) (hi : 7 + 1 < nL) (k : AW l G K own cc nL d rt Q (pc + 2) (x0 :: x1 :: x2 :: x3 :: x4 :: x5 :: x6 :: some (.long v) :: none :: ls) st μ) : AW l G K own cc nL d rt Q pc (x0 :: x1 :: x2 :: x3 :: x4 :: x5 :: x6 :: y0 :: y1 :: ls) (.long v :: st) μ := by
  intro p e s m args below meth c H locs la F hP hD hE hS hl
  obtain ⟨hx, hb, hr, hml, hown, hts, hlk⟩ := F
  refine lv_lstore hx hb hd hl.has hi rfl (fun la2 hl2 => ?_)
  exact k p e s m args below meth c H locs la2 ⟨hx, hb, hr, hml, hown, hts, hlk⟩ hP hD hE hS (lrel.set2 hl2 (isLp (i := 6) rfl hn))
theorem A_aload7 {x0 x1 x2 x3 x4 x5 x6 : Option Value} {v : Nat} (hd : decode cc pc = .ok (.aload 7, 2)) (k : AW l G K own cc nL d rt Q (pc + 2) (x0 :: x1 :: x2 :: x3 :: x4 :: x5 :: x6 :: some (.ref v) :: ls) (.ref v :: st) μ) : AW l G K own cc nL d rt Q pc (x0 :: x1 :: x2 :: x3 :: x4 :: x5 :: x6 :: some (.ref v) :: ls) st μ := by
  intro p e s m args below meth c H locs la F hP hD hE hS hl
  obtain ⟨hx, hb, hr, hml, hown, hts, hlk⟩ := F
  exact lv_aload hx hb hd (hl.2.2 7 _ rfl) (k p e s m args below meth c H locs la ⟨hx, hb, hr, hml, hown, hts, hlk⟩ hP hD hE hS hl)
theorem A_astore7 {x0 x1 x2 x3 x4 x5 x6 : Option Value} {y0 : Option Value} {v : Nat} (hd : decode cc pc = .ok (.astore 7, 2)) (hn : isL x6 = false) (hi : 7 < nL) (k : AW l G K own cc nL d rt Q (pc + 2) (x0 :: x1 :: x2 :: x3 :: x4 :: x5 :: x6 :: some (.ref v) :: ls) st μ) : AW l G K own cc nL d rt Q pc (x0 :: x1 :: x2 :: x3 :: x4 :: x5 :: x6 :: y0 :: ls) (.ref v :: st) μ := by
  intro p e s m args below meth c H locs la F hP hD hE hS hl
  obtain ⟨hx, hb, hr, hml, hown, hts, hlk⟩ := F
  refine lv_astore hx hb hd hl.has hi rfl (fun la2 hl2 => ?_)
  exact k p e s m args below meth c H locs la2 ⟨hx, hb, hr, hml, hown, hts, hlk⟩ hP hD hE hS (lrel.set1 hl2 (isLp (i := 6) rfl hn))
theorem A_iinc7 {x0 x1 x2 x3 x4 x5 x6 : Option Value} {x v : Int32} {n : Int} (hd : decode cc pc = .ok (.iinc 7 n, 3)) (hv : x + Int32.ofInt n = v) (hn : isL x6 = false) (hi : 7 < nL) (k : AW l G K own cc nL d rt Q (pc + 3) (x0 :: x1 :: x2 :: x3 :: x4 :: x5 :: x6 :: some (.int v) :: ls) st μ) : AW l G K own cc nL d rt Q pc (x0 :: x1 :: x2 :: x3 :: x4 :: x5 :: x6 :: some (.int x) :: ls) st μ := by
  intro p e s m args below meth c H locs la F hP hD hE hS hl
  obtain ⟨hx, hb, hr, hml, hown, hts, hlk⟩ := F
  obtain ⟨q, hq⟩ := List.getElem?_of_mem (prs_mem.mpr (show (x0 :: x1 :: x2 :: x3 :: x4 :: x5 :: x6 :: some (Value.int x) :: ls)[7]? = some (some (.int x)) from rfl))
  refine lv_iinc hx hb hd hl.has hq hv hi rfl (fun la2 hl2 => ?_)
  exact k p e s m args below meth c H locs la2 ⟨hx, hb, hr, hml, hown, hts, hlk⟩ hP hD hE hS (lrel.set1 hl2 (isLp (i := 6) rfl hn))
theorem A_iload8 {x0 x1 x2 x3 x4 x5 x6 x7 : Option Value} {v : Int32} (hd : decode cc pc = .ok (.iload 8, 2)) (k : AW l G K own cc nL d rt Q (pc + 2) (x0 :: x1 :: x2 :: x3 :: x4 :: x5 :: x6 :: x7 :: some (.int v) :: ls) (.int v :: st) μ) : AW l G K own cc nL d rt Q pc (x0 :: x1 :: x2 :: x3 :: x4 :: x5 :: x6 :: x7 :: some (.int v) :: ls) st μ := by
  intro p e s m args below meth c H locs la F hP hD hE hS hl
  obtain ⟨hx, hb, hr, hml, hown, hts, hlk⟩ := F
  exact lv_iload hx hb hd (hl.2.2 8 _ rfl) (k p e s m args below meth c H locs la ⟨hx, hb, hr, hml, hown, hts, hlk⟩ hP hD hE hS hl)
theorem A_istore8 {x0 x1 x2 x3 x4 x5 x6 x7 : Option Value} {y0 : Option Value} {v : Int32} (hd : decode cc pc = .ok (.istore 8, 2)) (hn : isL x7 = false) (hi : 8 < nL) (k : AW l G K own cc nL d rt Q (pc + 2) (x0 :: x1 :: x2 :: x3 :: x4 :: x5 :: x6 :: x7 :: some (.int v) :: ls) st μ) : AW l G K own cc nL d rt Q pc (x0 :: x1 :: x2 :: x3 :: x4 :: x5 :: x6 :: x7 :: y0 :: ls) (.int v :: st) μ := by
  intro p e s m args below meth c H locs la F hP hD hE hS hl
  obtain ⟨hx, hb, hr, hml, hown, hts, hlk⟩ := F
  refine lv_istore hx hb hd hl.has hi rfl (fun la2 hl2 => ?_)
  exact k p e s m args below meth c H locs la2 ⟨hx, hb, hr, hml, hown, hts, hlk⟩ hP hD hE hS (lrel.set1 hl2 (isLp (i := 7) rfl hn))
theorem A_lload8 {x0 x1 x2 x3 x4 x5 x6 x7 : Option Value} {v : Int64} (hd : decode cc pc = .ok (.lload 8, 2)) (k : AW l G K own cc nL d rt Q (pc + 2) (x0 :: x1 :: x2 :: x3 :: x4 :: x5 :: x6 :: x7 :: some (.long v) :: ls) (.long v :: st) μ) : AW l G K own cc nL d rt Q pc (x0 :: x1 :: x2 :: x3 :: x4 :: x5 :: x6 :: x7 :: some (.long v) :: ls) st μ := by
  intro p e s m args below meth c H locs la F hP hD hE hS hl
  obtain ⟨hx, hb, hr, hml, hown, hts, hlk⟩ := F
  exact lv_lload hx hb hd (hl.2.2 8 _ rfl) (k p e s m args below meth c H locs la ⟨hx, hb, hr, hml, hown, hts, hlk⟩ hP hD hE hS hl)
theorem A_lstore8 {x0 x1 x2 x3 x4 x5 x6 x7 : Option Value} {y0 y1 : Option Value} {v : Int64} (hd : decode cc pc = .ok (.lstore 8, 2)) (hn : isL x7 = false) (hi : 8 + 1 < nL) (k : AW l G K own cc nL d rt Q (pc + 2) (x0 :: x1 :: x2 :: x3 :: x4 :: x5 :: x6 :: x7 :: some (.long v) :: none :: ls) st μ) : AW l G K own cc nL d rt Q pc (x0 :: x1 :: x2 :: x3 :: x4 :: x5 :: x6 :: x7 :: y0 :: y1 :: ls) (.long v :: st) μ := by
  intro p e s m args below meth c H locs la F hP hD hE hS hl
  obtain ⟨hx, hb, hr, hml, hown, hts, hlk⟩ := F
  refine lv_lstore hx hb hd hl.has hi rfl (fun la2 hl2 => ?_)
  exact k p e s m args below meth c H locs la2 ⟨hx, hb, hr, hml, hown, hts, hlk⟩ hP hD hE hS (lrel.set2 hl2 (isLp (i := 7) rfl hn))
theorem A_aload8 {x0 x1 x2 x3 x4 x5 x6 x7 : Option Value} {v : Nat} (hd : decode cc pc = .ok (.aload 8, 2)) (k : AW l G K own cc nL d rt Q (pc + 2) (x0 :: x1 :: x2 :: x3 :: x4 :: x5 :: x6 :: x7 :: some (.ref v) :: ls) (.ref v :: st) μ) : AW l G K own cc nL d rt Q pc (x0 :: x1 :: x2 :: x3 :: x4 :: x5 :: x6 :: x7 :: some (.ref v) :: ls) st μ := by
  intro p e s m args below meth c H locs la F hP hD hE hS hl
  obtain ⟨hx, hb, hr, hml, hown, hts, hlk⟩ := F
  exact lv_aload hx hb hd (hl.2.2 8 _ rfl) (k p e s m args below meth c H locs la ⟨hx, hb, hr, hml, hown, hts, hlk⟩ hP hD hE hS hl)
theorem A_astore8 {x0 x1 x2 x3 x4 x5 x6 x7 : Option Value} {y0 : Option Value} {v : Nat} (hd : decode cc pc = .ok (.astore 8, 2)) (hn : isL x7 = false) (hi : 8 < nL) (k : AW l G K own cc nL d rt Q (pc + 2) (x0 :: x1 :: x2 :: x3 :: x4 :: x5 :: x6 :: x7 :: some (.ref v) :: ls) st μ) : AW l G K own cc nL d rt Q pc (x0 :: x1 :: x2 :: x3 :: x4 :: x5 :: x6 :: x7 :: y0 :: ls) (.ref v :: st) μ := by
  intro p e s m args below meth c H locs la F hP hD hE hS hl
  obtain ⟨hx, hb, hr, hml, hown, hts, hlk⟩ := F
  refine lv_astore hx hb hd hl.has hi rfl (fun la2 hl2 => ?_)
  exact k p e s m args below meth c H locs la2 ⟨hx, hb, hr, hml, hown, hts, hlk⟩ hP hD hE hS (lrel.set1 hl2 (isLp (i := 7) rfl hn))
theorem A_iinc8 {x0 x1 x2 x3 x4 x5 x6 x7 : Option Value} {x v : Int32} {n : Int} (hd : decode cc pc = .ok (.iinc 8 n, 3)) (hv : x + Int32.ofInt n = v) (hn : isL x7 = false) (hi : 8 < nL) (k : AW l G K own cc nL d rt Q (pc + 3) (x0 :: x1 :: x2 :: x3 :: x4 :: x5 :: x6 :: x7 :: some (.int v) :: ls) st μ) : AW l G K own cc nL d rt Q pc (x0 :: x1 :: x2 :: x3 :: x4 :: x5 :: x6 :: x7 :: some (.int x) :: ls) st μ := by
  intro p e s m args below meth c H locs la F hP hD hE hS hl
  obtain ⟨hx, hb, hr, hml, hown, hts, hlk⟩ := F
  obtain ⟨q, hq⟩ := List.getElem?_of_mem (prs_mem.mpr (show (x0 :: x1 :: x2 :: x3 :: x4 :: x5 :: x6 :: x7 :: some (Value.int x) :: ls)[8]? = some (some (.int x)) from rfl))
  refine lv_iinc hx hb hd hl.has hq hv hi rfl (fun la2 hl2 => ?_)
  exact k p e s m args below meth c H locs la2 ⟨hx, hb, hr, hml, hown, hts, hlk⟩ hP hD hE hS (lrel.set1 hl2 (isLp (i := 7) rfl hn))
theorem A_iload9 {x0 x1 x2 x3 x4 x5 x6 x7 x8 : Option Value} {v : Int32} (hd : decode cc pc = .ok (.iload 9, 2)) (k : AW l G K own cc nL d rt Q (pc + 2) (x0 :: x1 :: x2 :: x3 :: x4 :: x5 :: x6 :: x7 :: x8 :: some (.int v) :: ls) (.int v :: st) μ) : AW l G K own cc nL d rt Q pc (x0 :: x1 :: x2 :: x3 :: x4 :: x5 :: x6 :: x7 :: x8 :: some (.int v) :: ls) st μ := by
  intro p e s m args below meth c H locs la F hP hD hE hS hl
  obtain ⟨hx, hb, hr, hml, hown, hts, hlk⟩ := F
  exact lv_iload hx hb hd (hl.2.2 9 _ rfl) (k p e s m args below meth c H locs la ⟨hx, hb, hr, hml, hown, hts, hlk⟩ hP hD hE hS hl)
theorem A_istore9 {x0 x1 x2 x3 x4 x5 x6 x7 x8 : Option Value} {y0 : Option Value} {v : Int32} (hd : decode cc pc = .ok (.istore 9, 2)) (hn : isL x8 = false) (hi : 9 < nL) (k : AW l G K own cc nL d rt Q (pc + 2) (x0 :: x1 :: x2 :: x3 :: x4 :: x5 :: x6 :: x7 :: x8 :: some (.int v) :: ls) st μ) : AW l G K own cc nL d rt Q pc (x0 :: x1 :: x2 :: x3 :: x4 :: x5 :: x6 :: x7 :: x8 :: y0 :: ls) (.int v :: st) μ := by
  intro p e s m args below meth c H locs la F hP hD hE hS hl
  obtain ⟨hx, hb, hr, hml, hown, hts, hlk⟩ := F
  refine lv_istore hx hb hd hl.has hi rfl (fun la2 hl2 => ?_)
  exact k p e s m args below meth c H locs la2 ⟨hx, hb, hr, hml, hown, hts, hlk⟩ hP hD hE hS (lrel.set1 hl2 (isLp (i := 8) rfl hn))
theorem A_lload9 {x0 x1 x2 x3 x4 x5 x6 x7 x8 : Option Value} {v : Int64} (hd : decode cc pc = .ok (.lload 9, 2)) (k : AW l G K own cc nL d rt Q (pc + 2) (x0 :: x1 :: x2 :: x3 :: x4 :: x5 :: x6 :: x7 :: x8 :: some (.long v) :: ls) (.long v :: st) μ) : AW l G K own cc nL d rt Q pc (x0 :: x1 :: x2 :: x3 :: x4 :: x5 :: x6 :: x7 :: x8 :: some (.long v) :: ls) st μ := by
  intro p e s m args below meth c H locs la F hP hD hE hS hl
  obtain ⟨hx, hb, hr, hml, hown, hts, hlk⟩ := F
  exact lv_lload hx hb hd (hl.2.2 9 _ rfl) (k p e s m args below meth c H locs la ⟨hx, hb, hr, hml, hown, hts, hlk⟩ hP hD hE hS hl)
theorem A_lstore9 {x0 x1 x2 x3 x4 x5 x6 x7 x8 : Option Value} {y0 y1 : Option Value} {v : Int64} (hd : decode cc pc = .ok (.lstore 9, 2)) (hn : isL x8 = false) (hi : 9 + 1 < nL) (k : AW l G K own cc nL d rt Q (pc + 2) (x0 :: x1 :: x2 :: x3 :: x4 :: x5 :: x6 :: x7 :: x8 :: some (.long v) :: none :: ls) st μ) : AW l G K own cc nL d rt Q pc (x0 :: x1 :: x2 :: x3 :: x4 :: x5 :: x6 :: x7 :: x8 :: y0 :: y1 :: ls) (.long v :: st) μ := by
  intro p e s m args below meth c H locs la F hP hD hE hS hl
  obtain ⟨hx, hb, hr, hml, hown, hts, hlk⟩ := F
  refine lv_lstore hx hb hd hl.has hi rfl (fun la2 hl2 => ?_)
  exact k p e s m args below meth c H locs la2 ⟨hx, hb, hr, hml, hown, hts, hlk⟩ hP hD hE hS (lrel.set2 hl2 (isLp (i := 8) rfl hn))
theorem A_aload9 {x0 x1 x2 x3 x4 x5 x6 x7 x8 : Option Value} {v : Nat} (hd : decode cc pc = .ok (.aload 9, 2)) (k : AW l G K own cc nL d rt Q (pc + 2) (x0 :: x1 :: x2 :: x3 :: x4 :: x5 :: x6 :: x7 :: x8 :: some (.ref v) :: ls) (.ref v :: st) μ) : AW l G K own cc nL d rt Q pc (x0 :: x1 :: x2 :: x3 :: x4 :: x5 :: x6 :: x7 :: x8 :: some (.ref v) :: ls) st μ := by
  intro p e s m args below meth c H locs la F hP hD hE hS hl
  obtain ⟨hx, hb, hr, hml, hown, hts, hlk⟩ := F
  exact lv_aload hx hb hd (hl.2.2 9 _ rfl) (k p e s m args below meth c H locs la ⟨hx, hb, hr, hml, hown, hts, hlk⟩ hP hD hE hS hl)
theorem A_astore9 {x0 x1 x2 x3 x4 x5 x6 x7 x8 : Option Value} {y0 : Option Value} {v : Nat} (hd : decode cc pc = .ok (.astore 9, 2)) (hn : isL x8 = false) (hi : 9 < nL) (k : AW l G K own cc nL d rt Q (pc + 2) (x0 :: x1 :: x2 :: x3 :: x4 :: x5 :: x6 :: x7 :: x8 :: some (.ref v) :: ls) st μ) : AW l G K own cc nL d rt Q pc (x0 :: x1 :: x2 :: x3 :: x4 :: x5 :: x6 :: x7 :: x8 :: y0 :: ls) (.ref v :: st) μ := by
  intro p e s m args below meth c H locs la F hP hD hE hS hl
  obtain ⟨hx, hb, hr, hml, hown, hts, hlk⟩ := F
  refine lv_astore hx hb hd hl.has hi rfl (fun la2 hl2 => ?_)
  exact k p e s m args below meth c H locs la2 ⟨hx, hb, hr, hml, hown, hts, hlk⟩ hP hD hE hS (lrel.set1 hl2 (isLp (i := 8) rfl hn))
theorem A_iinc9 {x0 x1 x2 x3 x4 x5 x6 x7 x8 : Option Value} {x v : Int32} {n : Int} (hd : decode cc pc = .ok (.iinc 9 n, 3)) (hv : x + Int32.ofInt n = v) (hn : isL x8 = false) (hi : 9 < nL) (k : AW l G K own cc nL d rt Q (pc + 3) (x0 :: x1 :: x2 :: x3 :: x4 :: x5 :: x6 :: x7 :: x8 :: some (.int v) :: ls) st μ) : AW l G K own cc nL d rt Q pc (x0 :: x1 :: x2 :: x3 :: x4 :: x5 :: x6 :: x7 :: x8 :: some (.int x) :: ls) st μ := by
  intro p e s m args below meth c H locs la F hP hD hE hS hl
  obtain ⟨hx, hb, hr, hml, hown, hts, hlk⟩ := F
  obtain ⟨q, hq⟩ := List.getElem?_of_mem (prs_mem.mpr (show (x0 :: x1 :: x2 :: x3 :: x4 :: x5 :: x6 :: x7 :: x8 :: some (Value.int x) :: ls)[9]? = some (some (.int x)) from rfl))
  refine lv_iinc hx hb hd hl.has hq hv hi rfl (fun la2 hl2 => ?_)
  exact k p e s m args below meth c H locs la2 ⟨hx, hb, hr, hml, hown, hts, hlk⟩ hP hD hE hS (lrel.set1 hl2 (isLp (i := 8) rfl hn))
theorem A_iload10 {x0 x1 x2 x3 x4 x5 x6 x7 x8 x9 : Option Value} {v : Int32} (hd : decode cc pc = .ok (.iload 10, 2)) (k : AW l G K own cc nL d rt Q (pc + 2) (x0 :: x1 :: x2 :: x3 :: x4 :: x5 :: x6 :: x7 :: x8 :: x9 :: some (.int v) :: ls) (.int v :: st) μ) : AW l G K own cc nL d rt Q pc (x0 :: x1 :: x2 :: x3 :: x4 :: x5 :: x6 :: x7 :: x8 :: x9 :: some (.int v) :: ls) st μ := by
  intro p e s m args below meth c H locs la F hP hD hE hS hl
  obtain ⟨hx, hb, hr, hml, hown, hts, hlk⟩ := F
  exact lv_iload hx hb hd (hl.2.2 10 _ rfl) (k p e s m args below meth c H locs la ⟨hx, hb, hr, hml, hown, hts, hlk⟩ hP hD hE hS hl)
theorem A_istore10 {x0 x1 x2 x3 x4 x5 x6 x7 x8 x9 : Option Value} {y0 : Option Value} {v : Int32} (hd : decode cc pc = .ok (.istore 10, 2)) (hn : isL x9 = false) (hi : 10 < nL) (k : AW l G K own cc nL d rt Q (pc + 2) (x0 :: x1 :: x2 :: x3 :: x4 :: x5 :: x6 :: x7 :: x8 :: x9 :: some (.int v) :: ls) st μ) : AW l G K own cc nL d rt Q pc (x0 :: x1 :: x2 :: x3 :: x4 :: x5 :: x6 :: x7 :: x8 :: x9 :: y0 :: ls) (.int v :: st) μ := by
  intro p e s m args below meth c H locs la F hP hD hE hS hl
  obtain ⟨hx, hb, hr, hml, hown, hts, hlk⟩ := F
  refine lv_istore hx hb hd hl.has hi rfl (fun la2 hl2 => ?_)
  exact k p e s m args below meth c H locs la2 ⟨hx, hb, hr, hml, hown, hts, hlk⟩ hP hD hE hS (lrel.set1 hl2 (isLp (i := 9) rfl hn))
theorem A_lload10 {x0 x1 x2 x3 x4 x5 x6 x7 x8 x9 : Option Value} {v : Int64} (hd : decode cc pc = .ok (.lload 10, 2)) (k : AW l G K own cc nL d rt Q (pc + 2) (x0 :: x1 :: x2 :: x3 :: x4 :: x5 :: x6 :: x7 :: x8 :: x9 :: some (.long v) :: ls) (.long v :: st) μ) : AW l G K own cc nL d rt Q pc (x0 :: x1 :: x2 :: x3 :: x4 :: x5 :: x6 :: x7 :: x8 :: x9 :: some (.long v) :: ls) st μ := by
  intro p e s m args below meth c H locs la F hP hD hE hS hl
  obtain ⟨hx, hb, hr, hml, hown, hts, hlk⟩ := F
  exact lv_lload hx hb hd (hl.2.2 10 _ rfl) (k p e s m args below meth c H locs la ⟨hx, hb, hr, hml, hown, hts, hlk⟩ hP hD hE hS hl)
theorem A_lstore10 {x0 x1 x2 x3 x4 x5 x6 x7 x8 x9 : Option Value} {y0 y1 : Option Value} {v : Int64} (hd : decode cc pc = .ok (.lstore 10, 2)) (hn : isL x9 = false) (hi : 10 + 1 < nL) (k : AW l G K own cc nL d rt Q (pc + 2) (x0 :: x1 :: x2 :: x3 :: x4 :: x5 :: x6 :: x7 :: x8 :: x9 :: some (.long v) :: none :: ls) st μ) : AW l G K own cc nL d rt Q pc (x0 :: x1 :: x2 :: x3 :: x4 :: x5 :: x6 :: x7 :: x8 :: x9 :: y0 :: y1 :: ls) (.long v :: st) μ := by
  intro p e s m args below meth c H locs la F hP hD hE hS hl
  obtain ⟨hx, hb, hr, hml, hown, hts, hlk⟩ := F
  refine lv_lstore hx hb hd hl.has hi rfl (fun la2 hl2 => ?_)
  exact k p e s m args below meth c H locs la2 ⟨hx, hb, hr, hml, hown, hts, hlk⟩ hP hD hE hS (lrel.set2 hl2 (isLp (i := 9) rfl hn))
theorem A_aload10 {x0 x1 x2 x3 x4 x5 x6 x7 x8 x9 : Option Value} {v : Nat} (hd : decode cc pc = .ok (.aload 10, 2)) (k : AW l G K own cc nL d rt Q (pc + 2) (x0 :: x1 :: x2 :: x3 :: x4 :: x5 :: x6 :: x7 :: x8 :: x9 :: some (.ref v) :: ls) (.ref v :: st) μ) : AW l G K own cc nL d rt Q pc (x0 :: x1 :: x2 :: x3 :: x4 :: x5 :: x6 :: x7 :: x8 :: x9 :: some (.ref v) :: ls) st μ := by
  intro p e s m args below meth c H locs la F hP hD hE hS hl
  obtain ⟨hx, hb, hr, hml, hown, hts, hlk⟩ := F
  exact lv_aload hx hb hd (hl.2.2 10 _ rfl) (k p e s m args below meth c H locs la ⟨hx, hb, hr, hml, hown, hts, hlk⟩ hP hD hE hS hl)
theorem A_astore10 {x0 x1 x2 x3 x4 x5 x6 x7 x8 x9 : Option Value} {y0 : Option Value} {v : Nat} (hd : decode cc pc = .ok (.astore 10, 2)) (hn : isL x9 = false) (hi : 10 < nL) (k : AW l G K own cc nL d rt Q (pc + 2) (x0 :: x1 :: x2 :: x3 :: x4 :: x5 :: x6 :: x7 :: x8 :: x9 :: some (.ref v) :: ls) st μ) : AW l G K own cc nL d rt Q pc (x0 :: x1 :: x2 :: x3 :: x4 :: x5 :: x6 :: x7 :: x8 :: x9 :: y0 :: ls) (.ref v :: st) μ := by
  intro p e s m args below meth c H locs la F hP hD hE hS hl
  obtain ⟨hx, hb, hr, hml, hown, hts, hlk⟩ := F
  refine lv_astore hx hb hd hl.has hi rfl (fun la2 hl2 => ?_)
  exact k p e s m args below meth c H locs la2 ⟨hx, hb, hr, hml, hown, hts, hlk⟩ hP hD hE hS (lrel.set1 hl2 (isLp (i := 9) rfl hn))
theorem A_iinc10 {x0 x1 x2 x3 x4 x5 x6 x7 x8 x9 : Option Value} {x v : Int32} {n : Int} (hd : decode cc pc = .ok (.iinc 10 n, 3)) (hv : x + Int32.ofInt n = v) (hn : isL x9 = false) (hi : 10 < nL) (k : AW l G K own cc nL d rt Q (pc + 3) (x0 :: x1 :: x2 :: x3 :: x4 :: x5 :: x6 :: x7 :: x8 :: x9 :: some (.int v) :: ls) st μ) : AW l G K own cc nL d rt Q pc (x0 :: x1 :: x2 :: x3 :: x4 :: x5 :: x6 :: x7 :: x8 :: x9 :: some (.int x) :: ls) st μ := by
  intro p e s m args below meth c H locs la F hP hD hE hS hl
  obtain ⟨hx, hb, hr, hml, hown, hts, hlk⟩ := F
  obtain ⟨q, hq⟩ := List.getElem?_of_mem (prs_mem.mpr (show (x0 :: x1 :: x2 :: x3 :: x4 :: x5 :: x6 :: x7 :: x8 :: x9 :: some (Value.int x) :: ls)[10]? = some (some (.int x)) from rfl))
  refine lv_iinc hx hb hd hl.has hq hv hi rfl (fun la2 hl2 => ?_)
  exact k p e s m args below meth c H locs la2 ⟨hx, hb, hr, hml, hown, hts, hlk⟩ hP hD hE hS (lrel.set1 hl2 (isLp (i := 9) rfl hn))
theorem A_iload11 {x0 x1 x2 x3 x4 x5 x6 x7 x8 x9 x10 : Option Value} {v : Int32} (hd : decode cc pc = .ok (.iload 11, 2)) (k : AW l G K own cc nL d rt Q (pc + 2) (x0 :: x1 :: x2 :: x3 :: x4 :: x5 :: x6 :: x7 :: x8 :: x9 :: x10 :: some (.int v) :: ls) (.int v :: st) μ) : AW l G K own cc nL d rt Q pc (x0 :: x1 :: x2 :: x3 :: x4 :: x5 :: x6 :: x7 :: x8 :: x9 :: x10 :: some (.int v) :: ls) st μ := by
  intro p e s m args below meth c H locs la F hP hD hE hS hl
  obtain ⟨hx, hb, hr, hml, hown, hts, hlk⟩ := F
  exact lv_iload hx hb hd (hl.2.2 11 _ rfl) (k p e s m args below meth c H locs la ⟨hx, hb, hr, hml, hown, hts, hlk⟩ hP hD hE hS hl)
theorem A_istore11 {x0 x1 x2 x3 x4 x5 x6 x7 x8 x9 x10 : Option Value} {y0 : Option Value} {v : Int32} (hd : decode cc pc = .ok (.istore 11, 2)) (hn : isL x10 = false) (hi : 11 < nL) (k : AW l G K own cc nL d rt Q (pc + 2) (x0 :: x1 :: x2 :: x3 :: x4 :: x5 :: x6 :: x7 :: x8 :: x9 :: x10 :: some (.int v) :: ls) st μ) : AW l G K own cc nL d rt Q pc (x0 :: x1 :: x2 :: x3 :: x4 :: x5 :: x6 :: x7 :: x8 :: x9 :: x10 :: y0 :: ls) (.int v :: st) μ := by
  intro p e s m args below meth c H locs la F hP hD hE hS hl
  obtain ⟨hx, hb, hr, hml, hown, hts, hlk⟩ := F
  refine lv_istore hx hb hd hl.has hi rfl (fun la2 hl2 => ?_)
  exact k p e s m args below meth c H locs la2 ⟨hx, hb, hr, hml, hown, hts, hlk⟩ hP hD hE hS (lrel.set1 hl2 (isLp (i := 10) rfl hn))
theorem A_lload11 {x0 x1 x2 x3 x4 x5 x6 x7 x8 x9 x10 : Option Value} {v : Int64} (hd : decode cc pc = .ok (.lload 11, 2)) (k : AW l G K own cc nL d rt Q (pc + 2) (x0 :: x1 :: x2 :: x3 :: x4 :: x5 :: x6 :: x7 :: x8 :: x9 :: x10 :: some (.long v) :: ls) (.long v :: st) μ) : AW l G K own cc nL d rt Q pc (x0 :: x1 :: x2 :: x3 :: x4 :: x5 :: x6 :: x7 :: x8 :: x9 :: x10 :: some (.long v) :: ls) st μ := by
  intro p e s m args below meth c H locs la F hP hD hE hS hl
  obtain ⟨hx, hb, hr, hml, hown, hts, hlk⟩ := F
  exact lv_lload hx hb hd (hl.2.2 11 _ rfl) (k p e s m args below meth c H locs la ⟨hx, hb, hr, hml, hown, hts, hlk⟩ hP hD hE hS hl)
theorem A_lstore11 {x0 x1 x2 x3 x4 x5 x6 x7 x8 x9 x10 : Option Value} {y0 y1 : Option Value} {v : Int64} (hd : decode cc pc = .ok (.lstore 11, 2)) (hn : isL x10 = false) (hi : 11 + 1 < nL) (k : AW l G K own cc nL d rt Q (pc + 2) (x0 :: x1 :: x2 :: x3 :: x4 :: x5 :: x6 :: x7 :: x8 :: x9 :: x10 :: some (.long v) :: none :: ls) st μ) : AW l G K own cc nL d rt Q pc (x0 :: x1 :: x2 :: x3 :: x4 :: x5 :: x6 :: x7 :: x8 :: x9 :: x10 :: y0 :: y1 :: ls) (.long v :: st) μ := by
  intro p e s m args below meth c H locs la F hP hD hE hS hl
  obtain ⟨hx, hb, hr, hml, hown, hts, hlk⟩ := F
  refine lv_lstore hx hb hd hl.has hi rfl (fun la2 hl2 => ?_)
  exact k p e s m args below meth c H locs la2 ⟨hx, hb, hr, hml, hown, hts, hlk⟩ hP hD hE hS (lrel.set2 hl2 (isLp (i := 10) rfl hn))
theorem A_aload11 {x0 x1 x2 x3 x4 x5 x6 x7 x8 x9 x10 : Option Value} {v : Nat} (hd : decode cc pc = .ok (.aload 11, 2)) (k : AW l G K own cc nL d rt Q (pc + 2) (x0 :: x1 :: x2 :: x3 :: x4 :: x5 :: x6 :: x7 :: x8 :: x9 :: x10 :: some (.ref v) :: ls) (.ref v :: st) μ) : AW l G K own cc nL d rt Q pc (x0 :: x1 :: x2 :: x3 :: x4 :: x5 :: x6 :: x7 :: x8 :: x9 :: x10 :: some (.ref v) :: ls) st μ := by
  intro p e s m args below meth c H locs la F hP hD hE hS hl
  obtain ⟨hx, hb, hr, hml, hown, hts, hlk⟩ := F
  exact lv_aload hx hb hd (hl.2.2 11 _ rfl) (k p e s m args below meth c H locs la ⟨hx, hb, hr, hml, hown, hts, hlk⟩ hP hD hE hS hl)
theorem A_astore11 {x0 x1 x2 x3 x4 x5 x6 x7 x8 x9 x10 : Option Value} {y0 : Option Value} {v : Nat} (hd : decode cc pc = .ok (.astore 11, 2)) (hn : isL x10 = false) (hi : 11 < nL) (k : AW l G K own cc nL d rt Q (pc + 2) (x0 :: x1 :: x2 :: x3 :: x4 :: x5 :: x6 :: x7 :: x8 :: x9 :: x10 :: some (.ref v) :: ls) st μ) : AW l G K own cc nL d rt Q pc (x0 :: x1 :: x2 :: x3 :: x4 :: x5 :: x6 :: x7 :: x8 :: x9 :: x10 :: y0 :: ls) (.ref v :: st) μ := by
  intro p e s m args below meth c H locs la F hP hD hE hS hl
  obtain ⟨hx, hb, hr, hml, hown, hts, hlk⟩ := F
  refine lv_astore hx hb hd hl.has hi rfl (fun la2 hl2 => ?_)
  exact k p e s m args below meth c H locs la2 ⟨hx, hb, hr, hml, hown, hts, hlk⟩ hP hD hE hS (lrel.set1 hl2 (isLp (i := 10) rfl hn))
theorem A_iinc11 {x0 x1 x2 x3 x4 x5 x6 x7 x8 x9 x10 : Option Value} {x v : Int32} {n : Int} (hd : decode cc pc = .ok (.iinc 11 n, 3)) (hv : x + Int32.ofInt n = v) (hn : isL x10 = false) (hi : 11 < nL) (k : AW l G K own cc nL d rt Q (pc + 3) (x0 :: x1 :: x2 :: x3 :: x4 :: x5 :: x6 :: x7 :: x8 :: x9 :: x10 :: some (.int v) :: ls) st μ) : AW l G K own cc nL d rt Q pc (x0 :: x1 :: x2 :: x3 :: x4 :: x5 :: x6 :: x7 :: x8 :: x9 :: x10 :: some (.int x) :: ls) st μ := by
  intro p e s m args below meth c H locs la F hP hD hE hS hl
  obtain ⟨hx, hb, hr, hml, hown, hts, hlk⟩ := F
  obtain ⟨q, hq⟩ := List.getElem?_of_mem (prs_mem.mpr (show (x0 :: x1 :: x2 :: x3 :: x4 :: x5 :: x6 :: x7 :: x8 :: x9 :: x10 :: some (Value.int x) :: ls)[11]? = some (some (.int x)) from rfl))
  refine lv_iinc hx hb hd hl.has hq hv hi rfl (fun la2 hl2 => ?_)
  exact k p e s m args below meth c H locs la2 ⟨hx, hb, hr, hml, hown, hts, hlk⟩ hP hD hE hS (lrel.set1 hl2 (isLp (i := 10) rfl hn))
theorem A_iload12 {x0 x1 x2 x3 x4 x5 x6 x7 x8 x9 x10 x11 : Option Value} {v : Int32} (hd : decode cc pc = .ok (.iload 12, 2)) (k : AW l G K own cc nL d rt Q (pc + 2) (x0 :: x1 :: x2 :: x3 :: x4 :: x5 :: x6 :: x7 :: x8 :: x9 :: x10 :: x11 :: some (.int v) :: ls) (.int v :: st) μ) : AW l G K own cc nL d rt Q pc (x0 :: x1 :: x2 :: x3 :: x4 :: x5 :: x6 :: x7 :: x8 :: x9 :: x10 :: x11 :: some (.int v) :: ls) st μ := by
  intro p e s m args below meth c H locs la F hP hD hE hS hl
  obtain ⟨hx, hb, hr, hml, hown, hts, hlk⟩ := F
  exact lv_iload hx hb hd (hl.2.2 12 _ rfl) (k p e s m args below meth c H locs la ⟨hx, hb, hr, hml, hown, hts, hlk⟩ hP hD hE hS hl)
theorem A_istore12 {x0 x1 x2 x3 x4 x5 x6 x7 x8 x9 x10 x11 : Option Value} {y0 : Option Value} {v : Int32} (hd : decode cc pc = .ok (.istore 12, 2)) (hn : isL x11 = false) (hi : 12 < nL) (k : AW l G K own cc nL d rt Q (pc + 2) (x0 :: x1 :: x2 :: x3 :: x4 :: x5 :: x6 :: x7 :: x8 :: x9 :: x10 :: x11 :: some (.int v) :: ls) st μ) : AW l G K own cc nL d rt Q pc (x0 :: x1 :: x2 :: x3 :: x4 :: x5 :: x6 :: x7 :: x8 :: x9 :: x10 :: x11 :: y0 :: ls) (.int v :: st) μ := by
  intro p e s m args below meth c H locs la F hP hD hE hS hl
  obtain ⟨hx, hb, hr, hml, hown, hts, hlk⟩ := F
  refine lv_istore hx hb hd hl.has hi rfl (fun la2 hl2 => ?_)
  exact k p e s m args below meth c H locs la2 ⟨hx, hb, hr, hml, hown, hts, hlk⟩ hP hD hE hS (lrel.set1 hl2 (isLp (i := 11) rfl hn))
theorem A_lload12 {x0 x1 x2 x3 x4 x5 x6 x7 x8 x9 x10 x11 : Option Value} {v : Int64} (hd : decode cc pc = .ok (.lload 12, 2)) (k : AW l G K own cc nL d rt Q (pc + 2) (x0 :: x1 :: x2 :: x3 :: x4 :: x5 :: x6 :: x7 :: x8 :: x9 :: x10 :: x11 :: some (.long v) :: ls) (.long v :: st) μ) : AW l G K own cc nL d rt Q pc (x0 :: x1 :: x2 :: x3 :: x4 :: x5 :: x6 :: x7 :: x8 :: x9 :: x10 :: x11 :: some (.long v) :: ls) st μ := by
  intro p e s m args below meth c H locs la F hP hD hE hS hl
  obtain ⟨hx, hb, hr, hml, hown, hts, hlk⟩ := F
  exact lv_lload hx hb hd (hl.2.2 12 _ rfl) (k p e s m args below meth c H locs la ⟨hx, hb, hr, hml, hown, hts, hlk⟩ hP hD hE hS hl)
theorem A_lstore12 {x0 x1 x2 x3 x4 x5 x6 x7 x8 x9 x10 x11 : Option Value} {y0 y1 : Option Value} {v : Int64} (hd : decode cc pc = .ok (.lstore 12, 2)) (hn : isL x11 = false) (hi : 12 + 1 < nL) (k : AW l G K own cc nL d rt Q (pc + 2) (x0 :: x1 :: x2 :: x3 :: x4 :: x5 :: x6 :: x7 :: x8 :: x9 :: x10 :: x11 :: some (.long v) :: none :: ls) st μ) : AW l G K own cc nL d rt Q pc (x0 :: x1 :: x2 :: x3 :: x4 :: x5 :: x6 :: x7 :: x8 :: x9 :: x10 :: x11 :: y0 :: y1 :: ls) (.long v :: st) μ := by
  intro p e s m args below meth c H locs la F hP hD hE hS hl
  obtain ⟨hx, hb, hr, hml, hown, hts, hlk⟩ := F
  refine lv_lstore hx hb hd hl.has hi rfl (fun la2 hl2 => ?_)
  exact k p e s m args below meth c H locs la2 ⟨hx, hb, hr, hml, hown, hts, hlk⟩ hP hD hE hS (lrel.set2 hl2 (isLp (i := 11) rfl hn))
theorem A_aload12 {x0 x1 x2 x3 x4 x5 x6 x7 x8 x9 x10 x11 : Option Value} {v : Nat} (hd : decode cc pc = .ok (.aload 12, 2)) (k : AW l G K own cc nL d rt Q (pc + 2) (x0 :: x1 :: x2 :: x3 :: x4 :: x5 :: x6 :: x7 :: x8 :: x9 :: x10 :: x11 :: some (.ref v) :: ls) (.ref v :: st) μ) : AW l G K own cc nL d rt Q pc (x0 :: x1 :: x2 :: x3 :: x4 :: x5 :: x6 :: x7 :: x8 :: x9 :: x10 :: x11 :: some (.ref v) :: ls) st μ := by
  intro p e s m args below meth c H locs la F hP hD hE hS hl
  obtain ⟨hx, hb, hr, hml, hown, hts, hlk⟩ := F
  exact lv_aload hx hb hd (hl.2.2 12 _ rfl) (k p e s m args below meth c H locs la ⟨hx, hb, hr, hml, hown, hts, hlk⟩ hP hD hE hS hl)
theorem A_astore12 {x0 x1 x2 x3 x4 x5 x6 x7 x8 x9 x10 x11 : Option Value} {y0 : Option Value} {v : Nat} (hd : decode cc pc = .ok (.astore 12, 2)) (hn : isL x11 = false) (hi : 12 < nL) (k : AW l G K own cc nL d rt Q (pc + 2) (x0 :: x1 :: x2 :: x3 :: x4 :: x5 :: x6 :: x7 :: x8 :: x9 :: x10 :: x11 :: some (.ref v) :: ls) st μ) : AW l G K own cc nL d rt Q pc (x0 :: x1 :: x2 :: x3 :: x4 :: x5 :: x6 :: x7 :: x8 :: x9 :: x10 :: x11 :: y0 :: ls) (.ref v :: st) μ := by
  intro p e s m args below meth c H locs la F hP hD hE hS hl
  obtain ⟨hx, hb, hr, hml, hown, hts, hlk⟩ := F
  refine lv_astore hx hb hd hl.has hi rfl (fun la2 hl2 => ?_)
  exact k p e s m args below meth c H locs la2 ⟨hx, hb, hr, hml, hown, hts, hlk⟩ hP hD hE hS (lrel.set1 hl2 (isLp (i := 11) rfl hn))
theorem A_iinc12 {x0 x1 x2 x3 x4 x5 x6 x7 x8 x9 x10 x11 : Option Value} {x v : Int32} {n : Int} (hd : decode cc pc = .ok (.iinc 12 n, 3)) (hv : x + Int32.ofInt n = v) (hn : isL x11 = false) (hi : 12 < nL) (k : AW l G K own cc nL d rt Q (pc + 3) (x0 :: x1 :: x2 :: x3 :: x4 :: x5 :: x6 :: x7 :: x8 :: x9 :: x10 :: x11 :: some (.int v) :: ls) st μ) : AW l G K own cc nL d rt Q pc (x0 :: x1 :: x2 :: x3 :: x4 :: x5 :: x6 :: x7 :: x8 :: x9 :: x10 :: x11 :: some (.int x) :: ls) st μ := by
  intro p e s m args below meth c H locs la F hP hD hE hS hl
  obtain ⟨hx, hb, hr, hml, hown, hts, hlk⟩ := F
  obtain ⟨q, hq⟩ := List.getElem?_of_mem (prs_mem.mpr (show (x0 :: x1 :: x2 :: x3 :: x4 :: x5 :: x6 :: x7 :: x8 :: x9 :: x10 :: x11 :: some (Value.int x) :: ls)[12]? = some (some (.int x)) from rfl))
  refine lv_iinc hx hb hd hl.has hq hv hi rfl (fun la2 hl2 => ?_)
  exact k p e s m args below meth c H locs la2 ⟨hx, hb, hr, hml, hown, hts, hlk⟩ hP hD hE hS (lrel.set1 hl2 (isLp (i := 11) rfl hn))
theorem A_iload13 {x0 x1 x2 x3 x4 x5 x6 x7 x8 x9 x10 x11 x12 : Option Value} {v : Int32} (hd : decode cc pc = .ok (.iload 13, 2)) (k : AW l G K own cc nL d rt Q (pc + 2) (x0 :: x1 :: x2 :: x3 :: x4 :: x5 :: x6 :: x7 :: x8 :: x9 :: x10 :: x11 :: x12 :: some (.int v) :: ls) (.int v :: st) μ) : AW l G K own cc nL d rt Q pc (x0 :: x1 :: x2 :: x3 :: x4 :: x5 :: x6 :: x7 :: x8 :: x9 :: x10 :: x11 :: x12 :: some (.int v) :: ls) st μ := by
  intro p e s m args below meth c H locs la F hP hD hE hS hl
  obtain ⟨hx, hb, hr, hml, hown, hts, hlk⟩ := F
  exact lv_iload hx hb hd (hl.2.2 13 _ rfl) (k p e s m args below meth c H locs la ⟨hx, hb, hr, hml, hown, hts, hlk⟩ hP hD hE hS hl)
theorem A_istore13 {x0 x1 x2 x3 x4 x5 x6 x7 x8 x9 x10 x11 x12 : Option Value} {y0 : Option Value} {v : Int32} (hd : decode cc pc = .ok (.istore 13, 2)) (hn : isL x12 = false) (hi : 13 < nL) (k : AW l G K own cc nL d rt Q (pc + 2) (x0 :: x1 :: x2 :: x3 :: x4 :: x5 :: x6 :: x7 :: x8 :: x9 :: x10 :: x11 :: x12 :: some (.int v) :: ls) st μ) : AW l G K own cc nL d rt Q pc (x0 :: x1 :: x2 :: x3 :: x4 :: x5 :: x6 :: x7 :: x8 :: x9 :: x10 :: x11 :: x12 :: y0 :: ls) (.int v :: st) μ := by
  intro p e s m args below meth c H locs la F hP hD hE hS hl
  obtain ⟨hx, hb, hr, hml, hown, hts, hlk⟩ := F
  refine lv_istore hx hb hd hl.has hi rfl (fun la2 hl2 => ?_)
  exact k p e s m args below meth c H locs la2 ⟨hx, hb, hr, hml, hown, hts, hlk⟩ hP hD hE hS (lrel.set1 hl2 (isLp (i := 12) rfl hn))
theorem A_lload13 {x0 x1 x2 x3 x4 x5 x6 x7 x8 x9 x10 x11 x12 : Option Value} {v : Int64} (hd : decode cc pc = .ok (.lload 13, 2)) (k : AW l G K own cc nL d rt Q (pc + 2) (x0 :: x1 :: x2 :: x3 :: x4 :: x5 :: x6 :: x7 :: x8 :: x9 :: x10 :: x11 :: x12 :: some (.long v) :: ls) (.long v :: st) μ) : AW l G K own cc nL d rt Q pc (x0 :: x1 :: x2 :: x3 :: x4 :: x5 :: x6 :: x7 :: x8 :: x9 :: x10 :: x11 :: x12 :: some (.long v) :: ls) st μ := by
  intro p e s m args below meth c H locs la F hP hD hE hS hl
  obtain ⟨hx, hb, hr, hml, hown, hts, hlk⟩ := F
  exact lv_lload hx hb hd (hl.2.2 13 _ rfl) (k p e s m args below meth c H locs la ⟨hx, hb, hr, hml, hown, hts, hlk⟩ hP hD hE hS hl)
theorem A_lstore13 {x0 x1 x2 x3 x4 x5 x6 x7 x8 x9 x10 x11 x12 : Option Value} {y0 y1 : Option Value} {v : Int64} (hd : decode cc pc = .ok (.lstore 13, 2)) (hn : isL x12 = false) (hi : 13 + 1 < nL) (k : AW l G K own cc nL d rt Q (pc + 2) (x0 :: x1 :: x2 :: x3 :: x4 :: x5 :: x6 :: x7 :: x8 :: x9 :: x10 :: x11 :: x12 :: some (.long v) :: none :: ls) st μ) : AW l G K own cc nL d rt Q pc (x0 :: x1 :: x2 :: x3 :: x4 :: x5 :: x6 :: x7 :: x8 :: x9 :: x10 :: x11 :: x12 :: y0 :: y1 :: ls) (.long v :: st) μ := by
  intro p e s m args below meth c H locs la F hP hD hE hS hl
  obtain ⟨hx, hb, hr, hml, hown, hts, hlk⟩ := F
  refine lv_lstore hx hb hd hl.has hi rfl (fun la2 hl2 => ?_)
  exact k p e s m args below meth c H locs la2 ⟨hx, hb, hr, hml, hown, hts, hlk⟩ hP hD hE hS (lrel.set2 hl2 (isLp (i := 12) rfl hn))
theorem A_aload13 {x0 x1 x2 x3 x4 x5 x6 x7 x8 x9 x10 x11 x12 : Option Value} {v : Nat} (hd : decode cc pc = .ok (.aload 13, 2)) (k : AW l G K own cc nL d rt Q (pc + 2) (x0 :: x1 :: x2 :: x3 :: x4 :: x5 :: x6 :: x7 :: x8 :: x9 :: x10 :: x11 :: x12 :: some (.ref v) :: ls) (.ref v :: st) μ) : AW l G K own cc nL d rt Q pc (x0 :: x1 :: x2 :: x3 :: x4 :: x5 :: x6 :: x7 :: x8 :: x9 :: x10 :: x11 :: x12 :: some (.ref v) :: ls) st μ := by
  intro p e s m args below meth c H locs la F hP hD hE hS hl
  obtain ⟨hx, hb, hr, hml, hown, hts, hlk⟩ := F
  exact lv_aload hx hb hd (hl.2.2 13 _ rfl) (k p e s m args below meth c H locs la ⟨hx, hb, hr, hml, hown, hts, hlk⟩ hP hD hE hS hl)
theorem A_astore13 {x0 x1 x2 x3 x4 x5 x6 x7 x8 x9 x10 x11 x12 : Option Value} {y0 : Option Value} {v : Nat} (hd : decode cc pc = .ok (.astore 13, 2)) (hn : isL x12 = false) (hi : 13 < nL) (k : AW l G K own cc nL d rt Q (pc + 2) (x0 :: x1 :: x2 :: x3 :: x4 :: x5 :: x6 :: x7 :: x8 :: x9 :: x10 :: x11 :: x12 :: some (.ref v) :: ls) st μ) : AW l G K own cc nL d rt Q pc (x0 :: x1 :: x2 :: x3 :: x4 :: x5 :: x6 :: x7 :: x8 :: x9 :: x10 :: x11 :: x12 :: y0 :: ls) (.ref v :: st) μ := by
  intro p e s m args below meth c H locs la F hP hD hE hS hl
  obtain ⟨hx, hb, hr, hml, hown, hts, hlk⟩ := F
  refine lv_astore hx hb hd hl.has hi rfl (fun la2 hl2 => ?_)
  exact k p e s m args below meth c H locs la2 ⟨hx, hb, hr, hml, hown, hts, hlk⟩ hP hD hE hS (lrel.set1 hl2 (isLp (i := 12) rfl hn))
theorem A_iinc13 {x0 x1 x2 x3 x4 x5 x6 x7 x8 x9 x10 x11 x12 : Option Value} {x v : Int32} {n : Int} (hd : decode cc pc = .ok (.iinc 13 n, 3)) (hv : x + Int32.ofInt n = v) (hn : isL x12 = false) (hi : 13 < nL) (k : AW l G K own cc nL d rt Q (pc + 3) (x0 :: x1 :: x2 :: x3 :: x4 :: x5 :: x6 :: x7 :: x8 :: x9 :: x10 :: x11 :: x12 :: some (.int v) :: ls) st μ) : AW l G K own cc nL d rt Q pc (x0 :: x1 :: x2 :: x3 :: x4 :: x5 :: x6 :: x7 :: x8 :: x9 :: x10 :: x11 :: x12 :: some (.int x) :: ls) st μ := by
  intro p e s m args below meth c H locs la F hP hD hE hS hl
  obtain ⟨hx, hb, hr, hml, hown, hts, hlk⟩ := F
  obtain ⟨q, hq⟩ := List.getElem?_of_mem (prs_mem.mpr (show (x0 :: x1 :: x2 :: x3 :: x4 :: x5 :: x6 :: x7 :: x8 :: x9 :: x10 :: x11 :: x12 :: some (Value.int x) :: ls)[13]? = some (some (.int x)) from rfl))
  refine lv_iinc hx hb hd hl.has hq hv hi rfl (fun la2 hl2 => ?_)
  exact k p e s m args below meth c H locs la2 ⟨hx, hb, hr, hml, hown, hts, hlk⟩ hP hD hE hS (lrel.set1 hl2 (isLp (i := 12) rfl hn))
theorem A_iload14 {x0 x1 x2 x3 x4 x5 x6 x7 x8 x9 x10 x11 x12 x13 : Option Value} {v : Int32} (hd : decode cc pc = .ok (.iload 14, 2)) (k : AW l G K own cc nL d rt Q (pc + 2) (x0 :: x1 :: x2 :: x3 :: x4 :: x5 :: x6 :: x7 :: x8 :: x9 :: x10 :: x11 :: x12 :: x13 :: some (.int v) :: ls) (.int v :: st) μ) : AW l G K own cc nL d rt Q pc (x0 :: x1 :: x2 :: x3 :: x4 :: x5 :: x6 :: x7 :: x8 :: x9 :: x10 :: x11 :: x12 :: x13 :: some (.int v) :: ls) st μ := by
  intro p e s m args below meth c H locs la F hP hD hE hS hl
  obtain ⟨hx, hb, hr, hml, hown, hts, hlk⟩ := F
  exact lv_iload hx hb hd (hl.2.2 14 _ rfl) (k p e s m args below meth c H locs la ⟨hx, hb, hr, hml, hown, hts, hlk⟩ hP hD hE hS hl)
theorem A_istore14 {x0 x1 x2 x3 x4 x5 x6 x7 x8 x9 x10 x11 x12 x13 : Option Value} {y0 : Option Value} {v : Int32} (hd : decode cc pc = .ok (.istore 14, 2)) (hn : isL x13 = false) (hi : 14 < nL) (k : AW l G K own cc nL d rt Q (pc + 2) (x0 :: x1 :: x2 :: x3 :: x4 :: x5 :: x6 :: x7 :: x8 :: x9 :: x10 :: x11 :: x12 :: x13 :: some (.int v) :: ls) st μ) : AW l G K own cc nL d rt Q pc (x0 :: x1 :: x2 :: x3 :: x4 :: x5 :: x6 :: x7 :: x8 :: x9 :: x10 :: x11 :: x12 :: x13 :: y0 :: ls) (.int v :: st) μ := by
  intro p e s m args below meth c H locs la F hP hD hE hS hl
  obtain ⟨hx, hb, hr, hml, hown, hts, hlk⟩ := F
  refine lv_istore hx hb hd hl.has hi rfl (fun la2 hl2 => ?_)
  exact k p e s m args below meth c H locs la2 ⟨hx, hb, hr, hml, hown, hts, hlk⟩ hP hD hE hS (lrel.set1 hl2 (isLp (i := 13) rfl hn))
theorem A_lload14 {x0 x1 x2 x3 x4 x5 x6 x7 x8 x9 x10 x11 x12 x13 : Option Value} {v : Int64} (hd : decode cc pc = .ok (.lload 14, 2)) (k : AW l G K own cc nL d rt Q (pc + 2) (x0 :: x1 :: x2 :: x3 :: x4 :: x5 :: x6 :: x7 :: x8 :: x9 :: x10 :: x11 :: x12 :: x13 :: some (.long v) :: ls) (.long v :: st) μ) : AW l G K own cc nL d rt Q pc (x0 :: x1 :: x2 :: x3 :: x4 :: x5 :: x6 :: x7 :: x8 :: x9 :: x10 :: x11 :: x12 :: x13 :: some (.long v) :: ls) st μ := by
  intro p e s m args below meth c H locs la F hP hD hE hS hl
  obtain ⟨hx, hb, hr, hml, hown, hts, hlk⟩ := F
  exact lv_lload hx hb hd (hl.2.2 14 _ rfl) (k p e s m args below meth c H locs la ⟨hx, hb, hr, hml, hown, hts, hlk⟩ hP hD hE hS hl)
theorem A_lstore14 {x0 x1 x2 x3 x4 x5 x6 x7 x8 x9 x10 x11 x12 x13 : Option Value} {y0 y1 : Option Value} {v : Int64} (hd : decode cc pc = .ok (.lstore 14, 2)) (hn : isL x13 = false) (hi : 14 + 1 < nL) (k : AW l G K own cc nL d rt Q (pc + 2) (x0 :: x1 :: x2 :: x3 :: x4 :: x5 :: x6 :: x7 :: x8 :: x9 :: x10 :: x11 :: x12 :: x13 :: some (.long v) :: none :: ls) st μ) : AW l G K own cc nL d rt Q pc (x0 :: x1 :: x2 :: x3 :: x4 :: x5 :: x6 :: x7 :: x8 :: x9 :: x10 :: x11 :: x12 :: x13 :: y0 :: y1 :: ls) (.long v :: st) μ := by
  intro p e s m args below meth c H locs la F hP hD hE hS hl
  obtain ⟨hx, hb, hr, hml, hown, hts, hlk⟩ := F
  refine lv_lstore hx hb hd hl.has hi rfl (fun la2 hl2 => ?_)
  exact k p e s m args below meth c H locs la2 ⟨hx, hb, hr, hml, hown, hts, hlk⟩ hP hD hE hS (lrel.set2 hl2 (isLp (i := 13) rfl hn))
theorem A_aload14 {x0 x1 x2 x3 x4 x5 x6 x7 x8 x9 x10 x11 x12 x13 : Option Value} {v : Nat} (hd : decode cc pc = .ok (.aload 14, 2)) (k : AW l G K own cc nL d rt Q (pc + 2) (x0 :: x1 :: x2 :: x3 :: x4 :: x5 :: x6 :: x7 :: x8 :: x9 :: x10 :: x11 :: x12 :: x13 :: some (.ref v) :: ls) (.ref v :: st) μ) : AW l G K own cc nL d rt Q pc (x0 :: x1 :: x2 :: x3 :: x4 :: x5 :: x6 :: x7 :: x8 :: x9 :: x10 :: x11 :: x12 :: x13 :: some (.ref v) :: ls) st μ := by
  intro p e s m args below meth c H locs la F hP hD hE hS hl
  obtain ⟨hx, hb, hr, hml, hown, hts, hlk⟩ := F
  exact lv_aload hx hb hd (hl.2.2 14 _ rfl) (k p e s m args below meth c H locs la ⟨hx, hb, hr, hml, hown, hts, hlk⟩ hP hD hE hS hl)
theorem A_astore14 {x0 x1 x2 x3 x4 x5 x6 x7 x8 x9 x10 x11 x12 x13 : Option Value} {y0 : Option Value} {v : Nat} (hd : decode cc pc = .ok (.astore 14, 2)) (hn : isL x13 = false) (hi : 14 < nL) (k : AW l G K own cc nL d rt Q (pc + 2) (x0 :: x1 :: x2 :: x3 :: x4 :: x5 :: x6 :: x7 :: x8 :: x9 :: x10 :: x11 :: x12 :: x13 :: some (.ref v) :: ls) st μ) : AW l G K own cc nL d rt Q pc (x0 :: x1 :: x2 :: x3 :: x4 :: x5 :: x6 :: x7 :: x8 :: x9 :: x10 :: x11 :: x12 :: x13 :: y0 :: ls) (.ref v :: st) μ := by
  intro p e s m args below meth c H locs la F hP hD hE hS hl
  obtain ⟨hx, hb, hr, hml, hown, hts, hlk⟩ := F
  refine lv_astore hx hb hd hl.has hi rfl (fun la2 hl2 => ?_)
  exact k p e s m args below meth c H locs la2 ⟨hx, hb, hr, hml, hown, hts, hlk⟩ hP hD hE hS (lrel.set1 hl2 (isLp (i := 13) rfl hn))
theorem A_iinc14 {x0 x1 x2 x3 x4 x5 x6 x7 x8 x9 x10 x11 x12 x13 : Option Value} {x v : Int32} {n : Int} (hd : decode cc pc = .ok (.iinc 14 n, 3)) (hv : x + Int32.ofInt n = v) (hn : isL x13 = false) (hi : 14 < nL) (k : AW l G K own cc nL d rt Q (pc + 3) (x0 :: x1 :: x2 :: x3 :: x4 :: x5 :: x6 :: x7 :: x8 :: x9 :: x10 :: x11 :: x12 :: x13 :: some (.int v) :: ls) st μ) : AW l G K own cc nL d rt Q pc (x0 :: x1 :: x2 :: x3 :: x4 :: x5 :: x6 :: x7 :: x8 :: x9 :: x10 :: x11 :: x12 :: x13 :: some (.int x) :: ls) st μ := by
  intro p e s m args below meth c H locs la F hP hD hE hS hl
  obtain ⟨hx, hb, hr, hml, hown, hts, hlk⟩ := F
  obtain ⟨q, hq⟩ := List.getElem?_of_mem (prs_mem.mpr (show (x0 :: x1 :: x2 :: x3 :: x4 :: x5 :: x6 :: x7 :: x8 :: x9 :: x10 :: x11 :: x12 :: x13 :: some (Value.int x) :: ls)[14]? = some (some (.int x)) from rfl))
  refine lv_iinc hx hb hd hl.has hq hv hi rfl (fun la2 hl2 => ?_)
  exact k p e s m args below meth c H locs la2 ⟨hx, hb, hr, hml, hown, hts, hlk⟩ hP hD hE hS (lrel.set1 hl2 (isLp (i := 13) rfl hn))
theorem A_iload15 {x0 x1 x2 x3 x4 x5 x6 x7 x8 x9 x10 x11 x12 x13 x14 : Option Value} {v : Int32} (hd : decode cc pc = .ok (.iload 15, 2)) (k : AW l G K own cc nL d rt Q (pc + 2) (x0 :: x1 :: x2 :: x3 :: x4 :: x5 :: x6 :: x7 :: x8 :: x9 :: x10 :: x11 :: x12 :: x13 :: x14 :: some (.int v) :: ls) (.int v :: st) μ) : AW l G K own cc nL d rt Q pc (x0 :: x1 :: x2 :: x3 :: x4 :: x5 :: x6 :: x7 :: x8 :: x9 :: x10 :: x11 :: x12 :: x13 :: x14 :: some (.int v) :: ls) st μ := by
  intro p e s m args below meth c H locs la F hP hD hE hS hl
  obtain ⟨hx, hb, hr, hml, hown, hts, hlk⟩ := F
  exact lv_iload hx hb hd (hl.2.2 15 _ rfl) (k p e s m args below meth c H locs la ⟨hx, hb, hr, hml, hown, hts, hlk⟩ hP hD hE hS hl)
theorem A_istore15 {x0 x1 x2 x3 x4 x5 x6 x7 x8 x9 x10 x11 x12 x13 x14 : Option Value} {y0 : Option Value} {v : Int32} (hd : decode cc pc = .ok (.istore 15, 2)) (hn : isL x14 = false) (hi : 15 < nL) (k : AW l G K own cc nL d rt Q (pc + 2) (x0 :: x1 :: x2 :: x3 :: x4 :: x5 :: x6 :: x7 :: x8 :: x9 :: x10 :: x11 :: x12 :: x13 :: x14 :: some (.int v) :: ls) st μ) : AW l G K own cc nL d rt Q pc (x0 :: x1 :: x2 :: x3 :: x4 :: x5 :: x6 :: x7 :: x8 :: x9 :: x10 :: x11 :: x12 :: x13 :: x14 :: y0 :: ls) (.int v :: st) μ := by
  intro p e s m args below meth c H locs la F hP hD hE hS hl
  obtain ⟨hx, hb, hr, hml, hown, hts, hlk⟩ := F
  refine lv_istore hx hb hd hl.has hi rfl (fun la2 hl2 => ?_)
  exact k p e s m args below meth c H locs la2 ⟨hx, hb, hr, hml, hown, hts, hlk⟩ hP hD hE hS (lrel.set1 hl2 (isLp (i := 14) rfl hn))
theorem A_lload15 {x0 x1 x2 x3 x4 x5 x6 x7 x8 x9 x10 x11 x12 x13 x14 : Option Value} {v : Int64} (hd : decode cc pc = .ok (.lload 15, 2)) (k : AW l G K own cc nL d rt Q (pc + 2) (x0 :: x1 :: x2 :: x3 :: x4 :: x5 :: x6 :: x7 :: x8 :: x9 :: x10 :: x11 :: x12 :: x13 :: x14 :: some (.long v) :: ls) (.long v :: st) μ) : AW l G K own cc nL d rt Q pc (x0 :: x1 :: x2 :: x3 :: x4 :: x5 :: x6 :: x7 :: x8 :: x9 :: x10 :: x11 :: x12 :: x13 :: x14 :: some (.long v) :: ls) st μ := by
  intro p e s m args below meth c H locs la F hP hD hE hS hl
  obtain ⟨hx, hb, hr, hml, hown, hts, hlk⟩ := F
  exact lv_lload hx hb hd (hl.2.2 15 _ rfl) (k p e s m args below meth c H locs la ⟨hx, hb, hr, hml, hown, hts, hlk⟩ hP hD hE hS hl)
theorem A_lstore15 {x0 x1 x2 x3 x4 x5 x6 x7 x8 x9 x10 x11 x12 x13 x14 : Option Value} {y0 y1 : Option Value} {v : Int64} (hd : decode cc pc = .ok (.lstore 15, 2)) (hn : isL x14 = false) (hi : 15 + 1 < nL) (k : AW l G K own cc nL d rt Q (pc + 2) (x0 :: x1 :: x2 :: x3 :: x4 :: x5 :: x6 :: x7 :: x8 :: x9 :: x10 :: x11 :: x12 :: x13 :: x14 :: some (.long v) :: none :: ls) st μ) : AW l G K own cc nL d rt Q pc (x0 :: x1 :: x2 :: x3 :: x4 :: x5 :: x6 :: x7 :: x8 :: x9 :: x10 :: x11 :: x12 :: x13 :: x14 :: y0 :: y1 :: ls) (.long v :: st) μ := by
  intro p e s m args below meth c H locs la F hP hD hE hS hl
  obtain ⟨hx, hb, hr, hml, hown, hts, hlk⟩ := F
  refine lv_lstore hx hb hd hl.has hi rfl (fun la2 hl2 => ?_)
  exact k p e s m args below meth c H locs la2 ⟨hx, hb, hr, hml, hown, hts, hlk⟩ hP hD hE hS (lrel.set2 hl2 (isLp (i := 14) rfl hn))
theorem A_aload15 {x0 x1 x2 x3 x4 x5 x6 x7 x8 x9 x10 x11 x12 x13 x14 : Option Value} {v : Nat} (hd : decode cc pc = .ok (.aload 15, 2)) (k : AW l G K own cc nL d rt Q (pc + 2) (x0 :: x1 :: x2 :: x3 :: x4 :: x5 :: x6 :: x7 :: x8 :: x9 :: x10 :: x11 :: x12 :: x13 :: x14 :: some (.ref v) :: ls) (.ref v :: st) μ) : AW l G K own cc nL d rt Q pc (x0 :: x1 :: x2 :: x3 :: x4 :: x5 :: x6 :: x7 :: x8 :: x9 :: x10 :: x11 :: x12 :: x13 :: x14 :: some (.ref v) :: ls) st μ := by
  intro p e s m args below meth c H locs la F hP hD hE hS hl
  obtain ⟨hx, hb, hr, hml, hown, hts, hlk⟩ := F
  exact lv_aload hx hb hd (hl.2.2 15 _ rfl) (k p e s m args below meth c H locs la ⟨hx, hb, hr, hml, hown, hts, hlk⟩ hP hD hE hS hl)
theorem A_astore15 {x0 x1 x2 x3 x4 x5 x6 x7 x8 x9 x10 x11 x12 x13 x14 : Option Value} {y0 : Option Value} {v : Nat} (hd : decode cc pc = .ok (.astore 15, 2)) (hn : isL x14 = false) (hi : 15 < nL) (k : AW l G K own cc nL d rt Q (pc + 2) (x0 :: x1 :: x2 :: x3 :: x4 :: x5 :: x6 :: x7 :: x8 :: x9 :: x10 :: x11 :: x12 :: x13 :: x14 :: some (.ref v) :: ls) st μ) : AW l G K own cc nL d rt Q pc (x0 :: x1 :: x2 :: x3 :: x4 :: x5 :: x6 :: x7 :: x8 :: x9 :: x10 :: x11 :: x12 :: x13 :: x14 :: y0 :: ls) (.ref v :: st) μ := by
  intro p e s m args below meth c H locs la F hP hD hE hS hl
  obtain ⟨hx, hb, hr, hml, hown, hts, hlk⟩ := F
  refine lv_astore hx hb hd hl.has hi rfl (fun la2 hl2 => ?_)
  exact k p e s m args below meth c H locs la2 ⟨hx, hb, hr, hml, hown, hts, hlk⟩ hP hD hE hS (lrel.set1 hl2 (isLp (i := 14) rfl hn))
theorem A_iinc15 {x0 x1 x2 x3 x4 x5 x6 x7 x8 x9 x10 x11 x12 x13 x14 : Option Value} {x v : Int32} {n : Int} (hd : decode cc pc = .ok (.iinc 15 n, 3)) (hv : x + Int32.ofInt n = v) (hn : isL x14 = false) (hi : 15 < nL) (k : AW l G K own cc nL d rt Q (pc + 3) (x0 :: x1 :: x2 :: x3 :: x4 :: x5 :: x6 :: x7 :: x8 :: x9 :: x10 :: x11 :: x12 :: x13 :: x14 :: some (.int v) :: ls) st μ) : AW l G K own cc nL d rt Q pc (x0 :: x1 :: x2 :: x3 :: x4 :: x5 :: x6 :: x7 :: x8 :: x9 :: x10 :: x11 :: x12 :: x13 :: x14 :: some (.int x) :: ls) st μ := by
  intro p e s m args below meth c H locs la F hP hD hE hS hl
  obtain ⟨hx, hb, hr, hml, hown, hts, hlk⟩ := F
  obtain ⟨q, hq⟩ := List.getElem?_of_mem (prs_mem.mpr (show (x0 :: x1 :: x2 :: x3 :: x4 :: x5 :: x6 :: x7 :: x8 :: x9 :: x10 :: x11 :: x12 :: x13 :: x14 :: some (Value.int x) :: ls)[15]? = some (some (.int x)) from rfl))
  refine lv_iinc hx hb hd hl.has hq hv hi rfl (fun la2 hl2 => ?_)
  exact k p e s m args below meth c H locs la2 ⟨hx, hb, hr, hml, hown, hts, hlk⟩ hP hD hE hS (lrel.set1 hl2 (isLp (i := 14) rfl hn))
theorem A_iload16 {x0 x1 x2 x3 x4 x5 x6 x7 x8 x9 x10 x11 x12 x13 x14 x15 : Option Value} {v : Int32} (hd : decode cc pc = .ok (.iload 16, 2)) (k : AW l G K own cc nL d rt Q (pc + 2) (x0 :: x1 :: x2 :: x3 :: x4 :: x5 :: x6 :: x7 :: x8 :: x9 :: x10 :: x11 :: x12 :: x13 :: x14 :: x15 :: some (.int v) :: ls) (.int v :: st) μ) : AW l G K own cc nL d rt Q pc (x0 :: x1 :: x2 :: x3 :: x4 :: x5 :: x6 :: x7 :: x8 :: x9 :: x10 :: x11 :: x12 :: x13 :: x14 :: x15 :: some (.int v) :: ls) st μ := by
  intro p e s m args below meth c H locs la F hP hD hE hS hl
  obtain ⟨hx, hb, hr, hml, hown, hts, hlk⟩ := F
  exact lv_iload hx hb hd (hl.2.2 16 _ rfl) (k p e s m args below meth c H locs la ⟨hx, hb, hr, hml, hown, hts, hlk⟩ hP hD hE hS hl)
theorem A_istore16 {x0 x1 x2 x3 x4 x5 x6 x7 x8 x9 x10 x11 x12 x13 x14 x15 : Option Value} {y0 : Option Value} {v : Int32} (hd : decode cc pc = .ok (.istore 16, 2)) (hn : isL x15 = false) (hi : 16 < nL) (k : AW l G K own cc nL d rt Q (pc + 2) (x0 :: x1 :: x2 :: x3 :: x4 :: x5 :: x6 :: x7 :: x8 :: x9 :: x10 :: x11 :: x12 :: x13 :: x14 :: x15 :: some (.int v) :: ls) st μ) : AW l G K own cc nL d rt Q pc (x0 :: x1 :: x2 :: x3 :: x4 :: x5 :: x6 :: x7 :: x8 :: x9 :: x10 :: x11 :: x12 :: x13 :: x14 :: x15 :: y0 :: ls) (.int v :: st) μ := by
  intro p e s m args below meth c H locs la F hP hD hE hS hl
  obtain ⟨hx, hb, hr, hml, hown, hts, hlk⟩ := F
  refine lv_istore hx hb hd hl.has hi rfl (fun la2 hl2 => ?_)
  exact k p e s m args below meth c H locs la2 ⟨hx, hb, hr, hml, hown, hts, hlk⟩ hP hD hE hS (lrel.set1 hl2 (isLp (i := 15) rfl hn))
theorem A_lload16 {x0 x1 x2 x3 x4 x5 x6 x7 x8 x9 x10 x11 x12 x13 x14 x15 : Option Value} {v : Int64} (hd : decode cc pc = .ok (.lload 16, 2)) (k : AW l G K own cc nL d rt Q (pc + 2) (x0 :: x1 :: x2 :: x3 :: x4 :: x5 :: x6 :: x7 :: x8 :: x9 :: x10 :: x11 :: x12 :: x13 :: x14 :: x15 :: some (.long v) :: ls) (.long v :: st) μ) : AW l G K own cc nL d rt Q pc (x0 :: x1 :: x2 :: x3 :: x4 :: x5 :: x6 :: x7 :: x8 :: x9 :: x10 :: x11 :: x12 :: x13 :: x14 :: x15 :: some (.long v) :: ls) st μ := by
  intro p e s m args below meth c H locs la F hP hD hE hS hl
  obtain ⟨hx, hb, hr, hml, hown, hts, hlk⟩ := F
  exact lv_lload hx hb hd (hl.2.2 16 _ rfl) (k p e s m args below meth c H locs la ⟨hx, hb, hr, hml, hown, hts, hlk⟩ hP hD hE hS hl)
theorem A_lstore16 {x0 x1 x2 x3 x4 x5 x6 x7 x8 x9 x10 x11 x12 x13 x14 x15 : Option Value} {y0 y1 : Option Value} {v : Int64} (hd : decode cc pc = .ok (.lstore 16, 2)) (hn : isL x15 = false) (hi : 16 + 1 < nL) (k : AW l G K own cc nL d rt Q (pc + 2) (x0 :: x1 :: x2 :: x3 :: x4 :: x5 :: x6 :: x7 :: x8 :: x9 :: x10 :: x11 :: x12 :: x13 :: x14 :: x15 :: some (.long v) :: none :: ls) st μ) : AW l G K own cc nL d rt Q pc (x0 :: x1 :: x2 :: x3 :: x4 :: x5 :: x6 :: x7 :: x8 :: x9 :: x10 :: x11 :: x12 :: x13 :: x14 :: x15 :: y0 :: y1 :: ls) (.long v :: st) μ := by
  intro p e s m args below meth c H locs la F hP hD hE hS hl
  obtain ⟨hx, hb, hr, hml, hown, hts, hlk⟩ := F
  refine lv_lstore hx hb hd hl.has hi rfl (fun la2 hl2 => ?_)
  exact k p e s m args below meth c H locs la2 ⟨hx, hb, hr, hml, hown, hts, hlk⟩ hP hD hE hS (lrel.set2 hl2 (isLp (i := 15) rfl hn))
theorem A_aload16 {x0 x1 x2 x3 x4 x5 x6 x7 x8 x9 x10 x11 x12 x13 x14 x15 : Option Value} {v : Nat} (hd : decode cc pc = .ok (.aload 16, 2)) (k : AW l G K own cc nL d rt Q (pc + 2) (x0 :: x1 :: x2 :: x3 :: x4 :: x5 :: x6 :: x7 :: x8 :: x9 :: x10 :: x11 :: x12 :: x13 :: x14 :: x15 :: some (.ref v) :: ls) (.ref v :: st) μ) : AW l G K own cc nL d rt Q pc (x0 :: x1 :: x2 :: x3 :: x4 :: x5 :: x6 :: x7 :: x8 :: x9 :: x10 :: x11 :: x12 :: x13 :: x14 :: x15 :: some (.ref v) :: ls) st μ := by
  intro p e s m args below meth c H locs la F hP hD hE hS hl
  obtain ⟨hx, hb, hr, hml, hown, hts, hlk⟩ := F
  exact lv_aload hx hb hd (hl.2.2 16 _ rfl) (k p e s m args below meth c H locs la ⟨hx, hb, hr, hml, hown, hts, hlk⟩ hP hD hE hS hl)
theorem A_astore16 {x0 x1 x2 x3 x4 x5 x6 x7 x8 x9 x10 x11 x12 x13 x14 x15 : Option Value} {y0 : Option Value} {v : Nat} (hd : decode cc pc = .ok (.astore 16, 2)) (hn : isL x15 = false) (hi : 16 < nL) (k : AW l G K own cc nL d rt Q (pc + 2) (x0 :: x1 :: x2 :: x3 :: x4 :: x5 :: x6 :: x7 :: x8 :: x9 :: x10 :: x11 :: x12 :: x13 :: x14 :: x15 :: some (.ref v) :: ls) st μ) : AW l G K own cc nL d rt Q pc (x0 :: x1 :: x2 :: x3 :: x4 :: x5 :: x6 :: x7 :: x8 :: x9 :: x10 :: x11 :: x12 :: x13 :: x14 :: x15 :: y0 :: ls) (.ref v :: st) μ := by
  intro p e s m args below meth c H locs la F hP hD hE hS hl
  obtain ⟨hx, hb, hr, hml, hown, hts, hlk⟩ := F
  refine lv_astore hx hb hd hl.has hi rfl (fun la2 hl2 => ?_)
  exact k p e s m args below meth c H locs la2 ⟨hx, hb, hr, hml, hown, hts, hlk⟩ hP hD hE hS (lrel.set1 hl2 (isLp (i := 15) rfl hn))
theorem A_iinc16 {x0 x1 x2 x3 x4 x5 x6 x7 x8 x9 x10 x11 x12 x13 x14 x15 : Option Value} {x v : Int32} {n : Int} (hd : decode cc pc = .ok (.iinc 16 n, 3)) (hv : x + Int32.ofInt n = v) (hn : isL x15 = false) (hi : 16 < nL) (k : AW l G K own cc nL d rt Q (pc + 3) (x0 :: x1 :: x2 :: x3 :: x4 :: x5 :: x6 :: x7 :: x8 :: x9 :: x10 :: x11 :: x12 :: x13 :: x14 :: x15 :: some (.int v) :: ls) st μ) : AW l G K own cc nL d rt Q pc (x0 :: x1 :: x2 :: x3 :: x4 :: x5 :: x6 :: x7 :: x8 :: x9 :: x10 :: x11 :: x12 :: x13 :: x14 :: x15 :: some (.int x) :: ls) st μ := by
  intro p e s m args below meth c H locs la F hP hD hE hS hl
  obtain ⟨hx, hb, hr, hml, hown, hts, hlk⟩ := F
  obtain ⟨q, hq⟩ := List.getElem?_of_mem (prs_mem.mpr (show (x0 :: x1 :: x2 :: x3 :: x4 :: x5 :: x6 :: x7 :: x8 :: x9 :: x10 :: x11 :: x12 :: x13 :: x14 :: x15 :: some (Value.int x) :: ls)[16]? = some (some (.int x)) from rfl))
  refine lv_iinc hx hb hd hl.has hq hv hi rfl (fun la2 hl2 => ?_)
  exact k p e s m args below meth c H locs la2 ⟨hx, hb, hr, hml, hown, hts, hlk⟩ hP hD hE hS (lrel.set1 hl2 (isLp (i := 15) rfl hn))
theorem A_iload17 {x0 x1 x2 x3 x4 x5 x6 x7 x8 x9 x10 x11 x12 x13 x14 x15 x16 : Option Value} {v : Int32} (hd : decode cc pc = .ok (.iload 17, 2)) (k : AW l G K own cc nL d rt Q (pc + 2) (x0 :: x1 :: x2 :: x3 :: x4 :: x5 :: x6 :: x7 :: x8 :: x9 :: x10 :: x11 :: x12 :: x13 :: x14 :: x15 :: x16 :: some (.int v) :: ls) (.int v :: st) μ) : AW l G K own cc nL d rt Q pc (x0 :: x1 :: x2 :: x3 :: x4 :: x5 :: x6 :: x7 :: x8 :: x9 :: x10 :: x11 :: x12 :: x13 :: x14 :: x15 :: x16 :: some (.int v) :: ls) st μ := by
  intro p e s m args below meth c H locs la F hP hD hE hS hl
  obtain ⟨hx, hb, hr, hml, hown, hts, hlk⟩ := F
  exact lv_iload hx hb hd (hl.2.2 17 _ rfl) (k p e s m args below meth c H locs la ⟨hx, hb, hr, hml, hown, hts, hlk⟩ hP hD hE hS hl)
theorem A_istore17 {x0 x1 x2 x3 x4 x5 x6 x7 x8 x9 x10 x11 x12 x13 x14 x15 x16 : Option Value} {y0 : Option Value} {v : Int32} (hd : decode cc pc = .ok (.istore 17, 2)) (hn : isL x16 = false) (hi : 17 < nL) (k : AW l G K own cc nL d rt Q (pc + 2) (x0 :: x1 :: x2 :: x3 :: x4 :: x5 :: x6 :: x7 :: x8 :: x9 :: x10 :: x11 :: x12 :: x13 :: x14 :: x15 :: x16 :: some (.int v) :: ls) st μ) : AW l G K own cc nL d rt Q pc (x0 :: x1 :: x2 :: x3 :: x4 :: x5 :: x6 :: x7 :: x8 :: x9 :: x10 :: x11 :: x12 :: x13 :: x14 :: x15 :: x16 :: y0 :: ls) (.int v :: st) μ := by
  intro p e s m args below meth c H locs la F hP hD hE hS hl
  obtain ⟨hx, hb, hr, hml, hown, hts, hlk⟩ := F
  refine lv_istore hx hb hd hl.has hi rfl (fun la2 hl2 => ?_)
  exact k p e s m args below meth c H locs la2 ⟨hx, hb, hr, hml, hown, hts, hlk⟩ hP hD hE hS (lrel.set1 hl2 (isLp (i := 16) rfl hn))
theorem A_lload17 {x0 x1 x2 x3 x4 x5 x6 x7 x8 x9 x10 x11 x12 x13 x14 x15 x16 : Option Value} {v : Int64} (hd : decode cc pc = .ok (.lload 17, 2)) (k : AW l G K own cc nL d rt Q (pc + 2) (x0 :: x1 :: x2 :: x3 :: x4 :: x5 :: x6 :: x7 :: x8 :: x9 :: x10 :: x11 :: x12 :: x13 :: x14 :: x15 :: x16 :: some (.long v) :: ls) (.long v :: st) μ) : AW l G K own cc nL d rt Q pc (x0 :: x1 :: x2 :: x3 :: x4 :: x5 :: x6 :: x7 :: x8 :: x9 :: x10 :: x11 :: x12 :: x13 :: x14 :: x15 :: x16 :: some (.long v) :: ls) st μ := by
  intro p e s m args below meth c H locs la F hP hD hE hS hl
  obtain ⟨hx, hb, hr, hml, hown, hts, hlk⟩ := F
  exact lv_lload hx hb hd (hl.2.2 17 _ rfl) (k p e s m args below meth c H locs la ⟨hx, hb, hr, hml, hown, hts, hlk⟩ hP hD hE hS hl)
theorem A_lstore17 {x0 x1 x2 x3 x4 x5 x6 x7 x8 x9 x10 x11 x12 x13 x14 x15 x16 : Option Value} {y0 y1 : Option Value} {v : Int64} (hd : decode cc pc = .ok (.lstore 17, 2)) (hn : isL x16 = false) (hi : 17 + 1 < nL) (k : AW l G K own cc nL d rt Q (pc + 2) (x0 :: x1 :: x2 :: x3 :: x4 :: x5 :: x6 :: x7 :: x8 :: x9 :: x10 :: x11 :: x12 :: x13 :: x14 :: x15 :: x16 :: some (.long v) :: none :: ls) st μ) : AW l G K own cc nL d rt Q pc (x0 :: x1 :: x2 :: x3 :: x4 :: x5 :: x6 :: x7 :: x8 :: x9 :: x10 :: x11 :: x12 :: x13 :: x14 :: x15 :: x16 :: y0 :: y1 :: ls) (.long v :: st) μ := by
  intro p e s m args below meth c H locs la F hP hD hE hS hl
  obtain ⟨hx, hb, hr, hml, hown, hts, hlk⟩ := F
  refine lv_lstore hx hb hd hl.has hi rfl (fun la2 hl2 => ?_)
  exact k p e s m args below meth c H locs la2 ⟨hx, hb, hr, hml, hown, hts, hlk⟩ hP hD hE hS (lrel.set2 hl2 (isLp (i := 16) rfl hn))
theorem A_aload17 {x0 x1 x2 x3 x4 x5 x6 x7 x8 x9 x10 x11 x12 x13 x14 x15 x16 : Option Value} {v : Nat} (hd : decode cc pc = .ok (.aload 17, 2)) (k : AW l G K own cc nL d rt Q (pc + 2) (x0 :: x1 :: x2 :: x3 :: x4 :: x5 :: x6 :: x7 :: x8 :: x9 :: x10 :: x11 :: x12 :: x13 :: x14 :: x15 :: x16 :: some (.ref v) :: ls) (.ref v :: st) μ) : AW l G K own cc nL d rt Q pc (x0 :: x1 :: x2 :: x3 :: x4 :: x5 :: x6 :: x7 :: x8 :: x9 :: x10 :: x11 :: x12 :: x13 :: x14 :: x15 :: x16 :: some (.ref v) :: ls) st μ := by
  intro p e s m args below meth c H locs la F hP hD hE hS hl
  obtain ⟨hx, hb, hr, hml, hown, hts, hlk⟩ := F
  exact lv_aload hx hb hd (hl.2.2 17 _ rfl) (k p e s m args below meth c H locs la ⟨hx, hb, hr, hml, hown, hts, hlk⟩ hP hD hE hS hl)
theorem A_astore17 {x0 x1 x2 x3 x4 x5 x6 x7 x8 x9 x10 x11 x12 x13 x14 x15 x16 : Option Value} {y0 : Option Value} {v : Nat} (hd : decode cc pc = .ok (.astore 17, 2)) (hn : isL x16 = false) (hi : 17 < nL) (k : AW l G K own cc nL d rt Q (pc + 2) (x0 :: x1 :: x2 :: x3 :: x4 :: x5 :: x6 :: x7 :: x8 :: x9 :: x10 :: x11 :: x12 :: x13 :: x14 :: x15 :: x16 :: some (.ref v) :: ls) st μ) : AW l G K own cc nL d rt Q pc (x0 :: x1 :: x2 :: x3 :: x4 :: x5 :: x6 :: x7 :: x8 :: x9 :: x10 :: x11 :: x12 :: x13 :: x14 :: x15 :: x16 :: y0 :: ls) (.ref v :: st) μ := by
  intro p e s m args below meth c H locs la F hP hD hE hS hl
  obtain ⟨hx, hb, hr, hml, hown, hts, hlk⟩ := F
  refine lv_astore hx hb hd hl.has hi rfl (fun la2 hl2 => ?_)
  exact k p e s m args below meth c H locs la2 ⟨hx, hb, hr, hml, hown, hts, hlk⟩ hP hD hE hS (lrel.set1 hl2 (isLp (i := 16) rfl hn))
theorem A_iinc17 {x0 x1 x2 x3 x4 x5 x6 x7 x8 x9 x10 x11 x12 x13 x14 x15 x16 : Option Value} {x v : Int32} {n : Int} (hd : decode cc pc = .ok (.iinc 17 n, 3)) (hv : x + Int32.ofInt n = v) (hn : isL x16 = false) (hi : 17 < nL) (k : AW l G K own cc nL d rt Q (pc + 3) (x0 :: x1 :: x2 :: x3 :: x4 :: x5 :: x6 :: x7 :: x8 :: x9 :: x10 :: x11 :: x12 :: x13 :: x14 :: x15 :: x16 :: some (.int v) :: ls) st μ) : AW l G K own cc nL d rt Q pc (x0 :: x1 :: x2 :: x3 :: x4 :: x5 :: x6 :: x7 :: x8 :: x9 :: x10 :: x11 :: x12 :: x13 :: x14 :: x15 :: x16 :: some (.int x) :: ls) st μ := by
  intro p e s m args below meth c H locs la F hP hD hE hS hl
  obtain ⟨hx, hb, hr, hml, hown, hts, hlk⟩ := F
  obtain ⟨q, hq⟩ := List.getElem?_of_mem (prs_mem.mpr (show (x0 :: x1 :: x2 :: x3 :: x4 :: x5 :: x6 :: x7 :: x8 :: x9 :: x10 :: x11 :: x12 :: x13 :: x14 :: x15 :: x16 :: some (Value.int x) :: ls)[17]? = some (some (.int x)) from rfl))
  refine lv_iinc hx hb hd hl.has hq hv hi rfl (fun la2 hl2 => ?_)
  exact k p e s m args below meth c H locs la2 ⟨hx, hb, hr, hml, hown, hts, hlk⟩ hP hD hE hS (lrel.set1 hl2 (isLp (i := 16) rfl hn))
theorem A_iload18 {x0 x1 x2 x3 x4 x5 x6 x7 x8 x9 x10 x11 x12 x13 x14 x15 x16 x17 : Option Value} {v : Int32} (hd : decode cc pc = .ok (.iload 18, 2)) (k : AW l G K own cc nL d rt Q (pc + 2) (x0 :: x1 :: x2 :: x3 :: x4 :: x5 :: x6 :: x7 :: x8 :: x9 :: x10 :: x11 :: x12 :: x13 :: x14 :: x15 :: x16 :: x17 :: some (.int v) :: ls) (.int v :: st) μ) : AW l G K own cc nL d rt Q pc (x0 :: x1 :: x2 :: x3 :: x4 :: x5 :: x6 :: x7 :: x8 :: x9 :: x10 :: x11 :: x12 :: x13 :: x14 :: x15 :: x16 :: x17 :: some (.int v) :: ls) st μ := by
  intro p e s m args below meth c H locs la F hP hD hE hS hl
  obtain ⟨hx, hb, hr, hml, hown, hts, hlk⟩ := F
  exact lv_iload hx hb hd (hl.2.2 18 _ rfl) (k p e s m args below meth c H locs la ⟨hx, hb, hr, hml, hown, hts, hlk⟩ hP hD hE hS hl)
theorem A_istore18 {x0 x1 x2 x3 x4 x5 x6 x7 x8 x9 x10 x11 x12 x13 x14 x15 x16 x17 : Option Value} {y0 : Option Value} {v : Int32} (hd : decode cc pc = .ok (.istore 18, 2)) (hn : isL x17 = false) (hi : 18 < nL) (k : AW l G K own cc nL d rt Q (pc + 2) (x0 :: x1 :: x2 :: x3 :: x4 :: x5 :: x6 :: x7 :: x8 :: x9 :: x10 :: x11 :: x12 :: x13 :: x14 :: x15 :: x16 :: x17 :: some (.int v) :: ls) st μ) : AW l G K own cc nL d rt Q pc (x0 :: x1 :: x2 :: x3 :: x4 :: x5 :: x6 :: x7 :: x8 :: x9 :: x10 :: x11 :: x12 :: x13 :: x14 :: x15 :: x16 :: x17 :: y0 :: ls) (.int v :: st) μ := by
  intro p e s m args below meth c H locs la F hP hD hE hS hl
  obtain ⟨hx, hb, hr, hml, hown, hts, hlk⟩ := F
  refine lv_istore hx hb hd hl.has hi rfl (fun la2 hl2 => ?_)
  exact k p e s m args below meth c H locs la2 ⟨hx, hb, hr, hml, hown, hts, hlk⟩ hP hD hE hS (lrel.set1 hl2 (isLp (i := 17) rfl hn))
theorem A_lload18 {x0 x1 x2 x3 x4 x5 x6 x7 x8 x9 x10 x11 x12 x13 x14 x15 x16 x17 : Option Value} {v : Int64} (hd : decode cc pc = .ok (.lload 18, 2)) (k : AW l G K own cc nL d rt Q (pc + 2) (x0 :: x1 :: x2 :: x3 :: x4 :: x5 :: x6 :: x7 :: x8 :: x9 :: x10 :: x11 :: x12 :: x13 :: x14 :: x15 :: x16 :: x17 :: some (.long v) :: ls) (.long v :: st) μ) : AW l G K own cc nL d rt Q pc (x0 :: x1 :: x2 :: x3 :: x4 :: x5 :: x6 :: x7 :: x8 :: x9 :: x10 :: x11 :: x12 :: x13 :: x14 :: x15 :: x16 :: x17 :: some (.long v) :: ls) st μ := by
  intro p e s m args below meth c H locs la F hP hD hE hS hl
  obtain ⟨hx, hb, hr, hml, hown, hts, hlk⟩ := F
  exact lv_lload hx hb hd (hl.2.2 18 _ rfl) (k p e s m args below meth c H locs la ⟨hx, hb, hr, hml, hown, hts, hlk⟩ hP hD hE hS hl)
theorem A_lstore18 {x0 x1 x2 x3 x4 x5 x6 x7 x8 x9 x10 x11 x12 x13 x14 x15 x16 x17 : Option Value} {y0 y1 : Option Value} {v : Int64} (hd : decode cc pc = .ok (.lstore 18, 2)) (hn : isL x17 = false) (hi : 18 + 1 < nL) (k : AW l G K own cc nL d rt Q (pc + 2) (x0 :: x1 :: x2 :: x3 :: x4 :: x5 :: x6 :: x7 :: x8 :: x9 :: x10 :: x11 :: x12 :: x13 :: x14 :: x15 :: x16 :: x17 :: some (.long v) :: none :: ls) st μ) : AW l G K own cc nL d rt Q pc (x0 :: x1 :: x2 :: x3 :: x4 :: x5 :: x6 :: x7 :: x8 :: x9 :: x10 :: x11 :: x12 :: x13 :: x14 :: x15 :: x16 :: x17 :: y0 :: y1 :: ls) (.long v :: st) μ := by
  intro p e s m args below meth c H locs la F hP hD hE hS hl
  obtain ⟨hx, hb, hr, hml, hown, hts, hlk⟩ := F
  refine lv_lstore hx hb hd hl.has hi rfl (fun la2 hl2 => ?_)
  exact k p e s m args below meth c H locs la2 ⟨hx, hb, hr, hml, hown, hts, hlk⟩ hP hD hE hS (lrel.set2 hl2 (isLp (i := 17) rfl hn))
theorem A_aload18 {x0 x1 x2 x3 x4 x5 x6 x7 x8 x9 x10 x11 x12 x13 x14 x15 x16 x17 : Option Value} {v : Nat} (hd : decode cc pc = .ok (.aload 18, 2)) (k : AW l G K own cc nL d rt Q (pc + 2) (x0 :: x1 :: x2 :: x3 :: x4 :: x5 :: x6 :: x7 :: x8 :: x9 :: x10 :: x11 :: x12 :: x13 :: x14 :: x15 :: x16 :: x17 :: some (.ref v) :: ls) (.ref v :: st) μ) : AW l G K own cc nL d rt Q pc (x0 :: x1 :: x2 :: x3 :: x4 :: x5 :: x6 :: x7 :: x8 :: x9 :: x10 :: x11 :: x12 :: x13 :: x14 :: x15 :: x16 :: x17 :: some (.ref v) :: ls) st μ := by
  intro p e s m args below meth c H locs la F hP hD hE hS hl
  obtain ⟨hx, hb, hr, hml, hown, hts, hlk⟩ := F
  exact lv_aload hx hb hd (hl.2.2 18 _ rfl) (k p e s m args below meth c H locs la ⟨hx, hb, hr, hml, hown, hts, hlk⟩ hP hD hE hS hl)
theorem A_astore18 {x0 x1 x2 x3 x4 x5 x6 x7 x8 x9 x10 x11 x12 x13 x14 x15 x16 x17 : Option Value} {y0 : Option Value} {v : Nat} (hd : decode cc pc = .ok (.astore 18, 2)) (hn : isL x17 = false) (hi : 18 < nL) (k : AW l G K own cc nL d rt Q (pc + 2) (x0 :: x1 :: x2 :: x3 :: x4 :: x5 :: x6 :: x7 :: x8 :: x9 :: x10 :: x11 :: x12 :: x13 :: x14 :: x15 :: x16 :: x17 :: some (.ref v) :: ls) st μ) : AW l G K own cc nL d rt Q pc (x0 :: x1 :: x2 :: x3 :: x4 :: x5 :: x6 :: x7 :: x8 :: x9 :: x10 :: x11 :: x12 :: x13 :: x14 :: x15 :: x16 :: x17 :: y0 :: ls) (.ref v :: st) μ := by
  intro p e s m args below meth c H locs la F hP hD hE hS hl
  obtain ⟨hx, hb, hr, hml, hown, hts, hlk⟩ := F
  refine lv_astore hx hb hd hl.has hi rfl (fun la2 hl2 => ?_)
  exact k p e s m args below meth c H locs la2 ⟨hx, hb, hr, hml, hown, hts, hlk⟩ hP hD hE hS (lrel.set1 hl2 (isLp (i := 17) rfl hn))
theorem A_iinc18 {x0 x1 x2 x3 x4 x5 x6 x7 x8 x9 x10 x11 x12 x13 x14 x15 x16 x17 : Option Value} {x v : Int32} {n : Int} (hd : decode cc pc = .ok (.iinc 18 n, 3)) (hv : x + Int32.ofInt n = v) (hn : isL x17 = false) (hi : 18 < nL) (k : AW l G K own cc nL d rt Q (pc + 3) (x0 :: x1 :: x2 :: x3 :: x4 :: x5 :: x6 :: x7 :: x8 :: x9 :: x10 :: x11 :: x12 :: x13 :: x14 :: x15 :: x16 :: x17 :: some (.int v) :: ls) st μ) : AW l G K own cc nL d rt Q pc (x0 :: x1 :: x2 :: x3 :: x4 :: x5 :: x6 :: x7 :: x8 :: x9 :: x10 :: x11 :: x12 :: x13 :: x14 :: x15 :: x16 :: x17 :: some (.int x) :: ls) st μ := by
  intro p e s m args below meth c H locs la F hP hD hE hS hl
  obtain ⟨hx, hb, hr, hml, hown, hts, hlk⟩ := F
  obtain ⟨q, hq⟩ := List.getElem?_of_mem (prs_mem.mpr (show (x0 :: x1 :: x2 :: x3 :: x4 :: x5 :: x6 :: x7 :: x8 :: x9 :: x10 :: x11 :: x12 :: x13 :: x14 :: x15 :: x16 :: x17 :: some (Value.int x) :: ls)[18]? = some (some (.int x)) from rfl))
  refine lv_iinc hx hb hd hl.has hq hv hi rfl (fun la2 hl2 => ?_)
  exact k p e s m args below meth c H locs la2 ⟨hx, hb, hr, hml, hown, hts, hlk⟩ hP hD hE hS (lrel.set1 hl2 (isLp (i := 17) rfl hn))
theorem A_iload19 {x0 x1 x2 x3 x4 x5 x6 x7 x8 x9 x10 x11 x12 x13 x14 x15 x16 x17 x18 : Option Value} {v : Int32} (hd : decode cc pc = .ok (.iload 19, 2)) (k : AW l G K own cc nL d rt Q (pc + 2) (x0 :: x1 :: x2 :: x3 :: x4 :: x5 :: x6 :: x7 :: x8 :: x9 :: x10 :: x11 :: x12 :: x13 :: x14 :: x15 :: x16 :: x17 :: x18 :: some (.int v) :: ls) (.int v :: st) μ) : AW l G K own cc nL d rt Q pc (x0 :: x1 :: x2 :: x3 :: x4 :: x5 :: x6 :: x7 :: x8 :: x9 :: x10 :: x11 :: x12 :: x13 :: x14 :: x15 :: x16 :: x17 :: x18 :: some (.int v) :: ls) st μ := by
  intro p e s m args below meth c H locs la F hP hD hE hS hl
  obtain ⟨hx, hb, hr, hml, hown, hts, hlk⟩ := F
  exact lv_iload hx hb hd (hl.2.2 19 _ rfl) (k p e s m args below meth c H locs la ⟨hx, hb, hr, hml, hown, hts, hlk⟩ hP hD hE hS hl)
theorem A_istore19 {x0 x1 x2 x3 x4 x5 x6 x7 x8 x9 x10 x11 x12 x13 x14 x15 x16 x17 x18 : Option Value} {y0 : Option Value} {v : Int32} (hd : decode cc pc = .ok (.istore 19, 2)) (hn : isL x18 = false) (hi : 19 < nL) (k : AW l G K own cc nL d rt Q (pc + 2) (x0 :: x1 :: x2 :: x3 :: x4 :: x5 :: x6 :: x7 :: x8 :: x9 :: x10 :: x11 :: x12 :: x13 :: x14 :: x15 :: x16 :: x17 :: x18 :: some (.int v) :: ls) st μ) : AW l G K own cc nL d rt Q pc (x0 :: x1 :: x2 :: x3 :: x4 :: x5 :: x6 :: x7 :: x8 :: x9 :: x10 :: x11 :: x12 :: x13 :: x14 :: x15 :: x16 :: x17 :: x18 :: y0 :: ls) (.int v :: st) μ := by
  intro p e s m args below meth c H locs la F hP hD hE hS hl
  obtain ⟨hx, hb, hr, hml, hown, hts, hlk⟩ := F
  refine lv_istore hx hb hd hl.has hi rfl (fun la2 hl2 => ?_)
  exact k p e s m args below meth c H locs la2 ⟨hx, hb, hr, hml, hown, hts, hlk⟩ hP hD hE hS (lrel.set1 hl2 (isLp (i := 18) rfl hn))
theorem A_lload19 {x0 x1 x2 x3 x4 x5 x6 x7 x8 x9 x10 x11 x12 x13 x14 x15 x16 x17 x18 : Option Value} {v : Int64} (hd : decode cc pc = .ok (.lload 19, 2)) (k : AW l G K own cc nL d rt Q (pc + 2) (x0 :: x1 :: x2 :: x3 :: x4 :: x5 :: x6 :: x7 :: x8 :: x9 :: x10 :: x11 :: x12 :: x13 :: x14 :: x15 :: x16 :: x17 :: x18 :: some (.long v) :: ls) (.long v :: st) μ) : AW l G K own cc nL d rt Q pc (x0 :: x1 :: x2 :: x3 :: x4 :: x5 :: x6 :: x7 :: x8 :: x9 :: x10 :: x11 :: x12 :: x13 :: x14 :: x15 :: x16 :: x17 :: x18 :: some (.long v) :: ls) st μ := by
  intro p e s m args below meth c H locs la F hP hD hE hS hl
  obtain ⟨hx, hb, hr, hml, hown, hts, hlk⟩ := F
  exact lv_lload hx hb hd (hl.2.2 19 _ rfl) (k p e s m args below meth c H locs la ⟨hx, hb, hr, hml, hown, hts, hlk⟩ hP hD hE hS hl)
theorem A_lstore19 {x0 x1 x2 x3 x4 x5 x6 x7 x8 x9 x10 x11 x12 x13 x14 x15 x16 x17 x18 : Option Value} {y0 y1 : Option Value} {v : Int64} (hd : decode cc pc = .ok (.lstore 19, 2)) (hn : isL x18 = false) (hi : 19 + 1 < nL) (k : AW l G K own cc nL d rt Q (pc + 2) (x0 :: x1 :: x2 :: x3 :: x4 :: x5 :: x6 :: x7 :: x8 :: x9 :: x10 :: x11 :: x12 :: x13 :: x14 :: x15 :: x16 :: x17 :: x18 :: some (.long v) :: none :: ls) st μ) : AW l G K own cc nL d rt Q pc (x0 :: x1 :: x2 :: x3 :: x4 :: x5 :: x6 :: x7 :: x8 :: x9 :: x10 :: x11 :: x12 :: x13 :: x14 :: x15 :: x16 :: x17 :: x18 :: y0 :: y1 :: ls) (.long v :: st) μ := by
  intro p e s m args below meth c H locs la F hP hD hE hS hl
  obtain ⟨hx, hb, hr, hml, hown, hts, hlk⟩ := F
  refine lv_lstore hx hb hd hl.has hi rfl (fun la2 hl2 => ?_)
  exact k p e s m args below meth c H locs la2 ⟨hx, hb, hr, hml, hown, hts, hlk⟩ hP hD hE hS (lrel.set2 hl2 (isLp (i := 18) rfl hn))
theorem A_aload19 {x0 x1 x2 x3 x4 x5 x6 x7 x8 x9 x10 x11 x12 x13 x14 x15 x16 x17 x18 : Option Value} {v : Nat} (hd : decode cc pc = .ok (.aload 19, 2)) (k : AW l G K own cc nL d rt Q (pc + 2) (x0 :: x1 :: x2 :: x3 :: x4 :: x5 :: x6 :: x7 :: x8 :: x9 :: x10 :: x11 :: x12 :: x13 :: x14 :: x15 :: x16 :: x17 :: x18 :: some (.ref v) :: ls) (.ref v :: st) μ) : AW l G K own cc nL d rt Q pc (x0 :: x1 :: x2 :: x3 :: x4 :: x5 :: x6 :: x7 :: x8 :: x9 :: x10 :: x11 :: x12 :: x13 :: x14 :: x15 :: x16 :: x17 :: x18 :: some (.ref v) :: ls) st μ := by
  intro p e s m args below meth c H locs la F hP hD hE hS hl
  obtain ⟨hx, hb, hr, hml, hown, hts, hlk⟩ := F
  exact lv_aload hx hb hd (hl.2.2 19 _ rfl) (k p e s m args below meth c H locs la ⟨hx, hb, hr, hml, hown, hts, hlk⟩ hP hD hE hS hl)
theorem A_astore19 {x0 x1 x2 x3 x4 x5 x6 x7 x8 x9 x10 x11 x12 x13 x14 x15 x16 x17 x18 : Option Value} {y0 : Option Value} {v : Nat} (hd : decode cc pc = .ok (.astore 19, 2)) (hn : isL x18 = false) (hi : 19 < nL) (k : AW l G K own cc nL d rt Q (pc + 2) (x0 :: x1 :: x2 :: x3 :: x4 :: x5 :: x6 :: x7 :: x8 :: x9 :: x10 :: x11 :: x12 :: x13 :: x14 :: x15 :: x16 :: x17 :: x18 :: some (.ref v) :: ls) st μ) : AW l G K own cc nL d rt Q pc (x0 :: x1 :: x2 :: x3 :: x4 :: x5 :: x6 :: x7 :: x8 :: x9 :: x10 :: x11 :: x12 :: x13 :: x14 :: x15 :: x16 :: x17 :: x18 :: y0 :: ls) (.ref v :: st) μ := by
  intro p e s m args below meth c H locs la F hP hD hE hS hl
  obtain ⟨hx, hb, hr, hml, hown, hts, hlk⟩ := F
  refine lv_astore hx hb hd hl.has hi rfl (fun la2 hl2 => ?_)
  exact k p e s m args below meth c H locs la2 ⟨hx, hb, hr, hml, hown, hts, hlk⟩ hP hD hE hS (lrel.set1 hl2 (isLp (i := 18) rfl hn))
theorem A_iinc19 {x0 x1 x2 x3 x4 x5 x6 x7 x8 x9 x10 x11 x12 x13 x14 x15 x16 x17 x18 : Option Value} {x v : Int32} {n : Int} (hd : decode cc pc = .ok (.iinc 19 n, 3)) (hv : x + Int32.ofInt n = v) (hn : isL x18 = false) (hi : 19 < nL) (k : AW l G K own cc nL d rt Q (pc + 3) (x0 :: x1 :: x2 :: x3 :: x4 :: x5 :: x6 :: x7 :: x8 :: x9 :: x10 :: x11 :: x12 :: x13 :: x14 :: x15 :: x16 :: x17 :: x18 :: some (.int v) :: ls) st μ) : AW l G K own cc nL d rt Q pc (x0 :: x1 :: x2 :: x3 :: x4 :: x5 :: x6 :: x7 :: x8 :: x9 :: x10 :: x11 :: x12 :: x13 :: x14 :: x15 :: x16 :: x17 :: x18 :: some (.int x) :: ls) st μ := by
  intro p e s m args below meth c H locs la F hP hD hE hS hl
  obtain ⟨hx, hb, hr, hml, hown, hts, hlk⟩ := F
  obtain ⟨q, hq⟩ := List.getElem?_of_mem (prs_mem.mpr (show (x0 :: x1 :: x2 :: x3 :: x4 :: x5 :: x6 :: x7 :: x8 :: x9 :: x10 :: x11 :: x12 :: x13 :: x14 :: x15 :: x16 :: x17 :: x18 :: some (Value.int x) :: ls)[19]? = some (some (.int x)) from rfl))
  refine lv_iinc hx hb hd hl.has hq hv hi rfl (fun la2 hl2 => ?_)
  exact k p e s m args below meth c H locs la2 ⟨hx, hb, hr, hml, hown, hts, hlk⟩ hP hD hE hS (lrel.set1 hl2 (isLp (i := 18) rfl hn))
end ARules

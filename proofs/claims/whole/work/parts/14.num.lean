/-! numbers: conditions as 0 and 1, ints in ranges, indices -/
def bz (p : Prop) [Decidable p] : Int32 := if p then 1 else 0
theorem bz_01 (p : Prop) [Decidable p] : bz p = 0 ∨ bz p = 1 := by unfold bz; split <;> simp
theorem bz_0 {p : Prop} [Decidable p] : bz p = 0 ↔ ¬ p := by unfold bz; split <;> simp_all
theorem bz_1 {p : Prop} [Decidable p] : bz p = 1 ↔ p := by unfold bz; split <;> simp_all
theorem bz_t {p : Prop} [Decidable p] (h : p) : bz p = 1 := if_pos h
theorem bz_f {p : Prop} [Decidable p] (h : ¬ p) : bz p = 0 := if_neg h
theorem i_lt {a b : Int32} : a < b ↔ a.toInt < b.toInt := Int32.lt_iff_toInt_lt
theorem i_le {a b : Int32} : a ≤ b ↔ a.toInt ≤ b.toInt := Int32.le_iff_toInt_le
theorem i_eq {a b : Int32} : a = b ↔ a.toInt = b.toInt := Int32.toInt_inj.symm
theorem i_rng (a : Int32) : -2147483648 ≤ a.toInt ∧ a.toInt ≤ 2147483647 := by
  have h1 := Int32.le_toInt a
  have h2 := Int32.toInt_lt a
  constructor <;> omega
theorem i_clamp {a : Int32} (h : 0 ≤ a.toInt) : (a.toNatClampNeg : Int) = a.toInt := by
  have : a.toNatClampNeg = a.toInt.toNat := rfl
  omega
theorem i_in {x : Int32} {n : Nat} (h0 : 0 ≤ x) (h1 : x.toInt < n) : vp_in x n := vp_in_iff.mpr ⟨by have := i_le.mp h0; simpa using this, h1⟩
theorem i_day {x : Int32} (h : 0 ≤ x ∧ x < 60) : vp_in x 60 := i_in h.1 (by have := i_lt.mp h.2; simpa using this)
theorem i_nat {x : Int32} (h : 0 ≤ x) : ∃ n : Nat, n < 2147483648 ∧ x = nI n ∧ x.toInt = n ∧ x.toNatClampNeg = n := by
  obtain ⟨j, hj, rfl⟩ := nI_of (x := x) (by have := i_le.mp h; intro q; have := i_lt.mp q; omega)
  exact ⟨j, by omega, rfl, nI_toInt hj, nI_clamp hj⟩
theorem nI_rng {x : Int32} {n : Nat} (h0 : 0 ≤ x) (h1 : x < nI n) (hn : n < 2147483648) : ∃ j : Nat, j < n ∧ x = nI j := by
  obtain ⟨j, hj, rfl⟩ := nI_of (x := x) (by have := i_le.mp h0; intro q; have := i_lt.mp q; omega)
  exact ⟨j, (nI_ltI hj (by omega)).mp h1, rfl⟩
theorem nI_i {n : Nat} (h : n < 2147483648) : (nI n).toInt = n := nI_toInt (by omega)
theorem nI_c {n : Nat} (h : n < 2147483648) : (nI n).toNatClampNeg = n := nI_clamp (by omega)
theorem vz_0 : vp_nar .boolean 0 = 0 := by decide
theorem vz_1 : vp_nar .boolean 1 = 1 := by decide
theorem vz_bz {p : Prop} [Decidable p] : vp_nar .boolean (bz p) = bz p := by unfold bz; split <;> decide
theorem vz_01 {x : Int32} (h : x = 0 ∨ x = 1) : vp_nar .boolean x = x := by rcases h with rfl | rfl <;> decide
theorem wI_at {μ : Mem} {i k a b : Nat} {v : Int32} : (wI μ i k v).1 a b = if a = i ∧ b = k then v else μ.1 a b := rfl
theorem wI_l {μ : Mem} {i k : Nat} {v : Int32} : (wI μ i k v).2.1 = μ.2.1 := rfl
theorem wI_t {μ : Mem} {i k : Nat} {v : Int32} : (wI μ i k v).2.2 = μ.2.2 := rfl
theorem wL_at {μ : Mem} {i k a b : Nat} {v : Int64} : (wL μ i k v).2.1 a b = if a = i ∧ b = k then v else μ.2.1 a b := rfl
theorem wL_i {μ : Mem} {i k : Nat} {v : Int64} : (wL μ i k v).1 = μ.1 := rfl
theorem wL_t {μ : Mem} {i k : Nat} {v : Int64} : (wL μ i k v).2.2 = μ.2.2 := rfl
theorem wI_row {μ : Mem} {i k a : Nat} {v : Int32} (h : a ≠ i) : (wI μ i k v).1 a = μ.1 a := w2_off h
theorem wI_same {μ : Mem} {i k : Nat} {v : Int32} : (wI μ i k v).1 i k = v := w2_same
theorem wI_ne {μ : Mem} {i k a b : Nat} {v : Int32} (h : a ≠ i ∨ b ≠ k) : (wI μ i k v).1 a b = μ.1 a b := w2_ne h
/-- the reference's lasting state: which places of its world -/
def prI (i k : Nat) : Bool := match i with
  | 0 => k == 1 || k == 2 || k == 3 || k == 31 || k == 32 || k == 42 || k == 43 || k == 72
  | 1 => true | 7 => true | 8 => true | 9 => true
  | 15 => true | 16 => true | 17 => true | 18 => true | 19 => true | 20 => true | 21 => true | 22 => true | 23 => true | 24 => true | 25 => true | 26 => true | 27 => true | 28 => true
  | 43 => true | 44 => true | 45 => true | 49 => true
  | _ => false
def Pm (μ μ' : Mem) : Prop := (∀ i k, prI i k = true → μ'.1 i k = μ.1 i k) ∧ ∀ k, μ'.2.1 3 k = μ.2.1 3 k
theorem Pm.rf {μ : Mem} : Pm μ μ := ⟨fun _ _ _ => rfl, fun _ => rfl⟩
theorem Pm.trans {a b c : Mem} (h1 : Pm a b) (h2 : Pm b c) : Pm a c := ⟨fun i k h => (h2.1 i k h).trans (h1.1 i k h), fun k => (h2.2 k).trans (h1.2 k)⟩
theorem Pm.symm {a b : Mem} (h1 : Pm a b) : Pm b a := ⟨fun i k h => (h1.1 i k h).symm, fun k => (h1.2 k).symm⟩
theorem Pm.w {a b : Mem} {i k : Nat} {v : Int32} (h : Pm a b) (hp : prI i k = false) : Pm a (wI b i k v) := by
  refine ⟨fun x y hxy => ?_, h.2⟩
  rw [wI_ne]
  · exact h.1 x y hxy
  · by_cases e : x = i
    · subst e
      right
      intro e2
      subst e2
      rw [hp] at hxy
      cases hxy
    · exact Or.inl e
theorem Pm.wl {a b : Mem} {i k : Nat} {v : Int64} (h : Pm a b) (hp : i ≠ 3) : Pm a (wL b i k v) := ⟨h.1, fun y => by rw [wL_at, if_neg (fun q => hp q.1.symm)]; exact h.2 y⟩
theorem i_out {x : Int32} {lo hi : Int} (h : ∀ j : Int, lo ≤ j → j ≤ hi → x.toInt ≠ j) : x.toInt < lo ∨ hi < x.toInt := by
  rcases Int.lt_or_le x.toInt lo with a | a
  · exact Or.inl a
  · rcases Int.lt_or_le hi x.toInt with b | b
    · exact Or.inr b
    · exact absurd rfl (h x.toInt a b)
section MoreRules
variable {l : Launch} {G : Wd} {K : List Kd} {own : String} {cc : ByteArray} {nL d : Nat} {rt : Option FieldType} {Q : Option Value → Mem → Prop} {pc : Nat} {ls : List (Option Value)} {st : List Value} {μ : Mem}
theorem AW.nm (k : ∀ μ' : Mem, μ' = μ → AW l G K own cc nL d rt Q pc ls st μ') : AW l G K own cc nL d rt Q pc ls st μ := k μ rfl
theorem A_topi {x : Int32} (k : ∀ y : Int32, y = x → AW l G K own cc nL d rt Q pc ls (.int y :: st) μ) : AW l G K own cc nL d rt Q pc ls (.int x :: st) μ := k x rfl
theorem A_topl {x : Int64} (k : ∀ y : Int64, y = x → AW l G K own cc nL d rt Q pc ls (.long y :: st) μ) : AW l G K own cc nL d rt Q pc ls (.long x :: st) μ := k x rfl
theorem A_setm {μ' : Mem} (h : μ = μ') (k : AW l G K own cc nL d rt Q pc ls st μ') : AW l G K own cc nL d rt Q pc ls st μ := h ▸ k
theorem A_sets {st' : List Value} (h : st = st') (k : AW l G K own cc nL d rt Q pc ls st' μ) : AW l G K own cc nL d rt Q pc ls st μ := h ▸ k
theorem A_setl {ls' : List (Option Value)} (h : ls = ls') (k : AW l G K own cc nL d rt Q pc ls' st μ) : AW l G K own cc nL d rt Q pc ls st μ := h ▸ k
theorem A_val {x y : Int32} (h : x = y) (k : AW l G K own cc nL d rt Q pc ls (.int y :: st) μ) : AW l G K own cc nL d rt Q pc ls (.int x :: st) μ := h ▸ k
end MoreRules
/-- as Mt.of, for a method of the JDK that no entry of the machine's own stands for -/
theorem Met.ofWF {l : Launch} {y : MethodName} {ws ws' : List Cond} {rm : Room} {Pc : Array Value → State → Prop} {Qc : Array Value → State → Outcome → State → Prop} {mc ms : Nat} {free : Addr → Prop} {cc : ByteArray} {maxL : Nat} {ret : Option FieldType}
    (hy : plainFor y = true) (hw : ws = Cond.code y cc maxL ret :: ws')
    (body : ∀ p e s m args below meth c s₁, BodyLoose p l y (headSpec ws rm) cc maxL ret e s m args below meth c s₁ → c.maxLocals = maxL → Pc args s →
      W p l e (headSpec ws rm).room s m args below meth c s.heap [] 0 0 (MQ below Qc args s mc ms free) (entryFrame m args maxL)) : Met l y ws rm Pc Qc mc ms free := by
  refine MetFree.of_bodySF (code := cc) (maxLocals := maxL) (ret := ret) hy ?_ ?_
  · intro args s m h hn
    obtain ⟨meth, c, h1, h2, h3, h4, h5, h6, -, -⟩ := Cond.code_spec hn (atoms_spec (ws := ws) h _ (by rw [hw]; exact List.mem_cons_self))
    exact ⟨meth, c, h1, h2, h3, h4, h5, h6⟩
  · intro p e s m args below meth c s₁ B hml hP _
    have hh0 : s₁.heap = s.heap := by rw [B.state]; rfl
    obtain ⟨t, a1, o, b1, b2, b3⟩ := body p e s m args below meth c s₁ B hml hP s₁ hh0 (Stand.of_body B)
    exact ⟨t, o, a1, b1, b2, ⟨b3.1, b3.2⟩⟩
theorem Mt.ofF {l : Launch} {G : Wd} {K : List Kd} {y : MethodName} {cy : ByteArray} {nL : Nat} {rt : Option FieldType} {d : Nat} {av : List Value} {μ : Mem} {Q : Option Value → Mem → Prop} {own : String} (hy : plainFor y = true) (ho : y.cls = own) (ls : List (Option Value)) {n : Nat} (hls : lsOf n av = ls) (hn : (lg_sl av).length ≤ nL)
    (k : AW l G K own cy nL d rt Q 0 ls [] μ) : Mt l G K y cy nL rt d av μ Q := by
  refine Met.ofWF (cc := cy) (maxL := nL) (ret := rt) hy rfl ?_
  intro p e s m args below meth c s₁ B hml hv
  obtain ⟨rfl, hP, hD, hE⟩ := hv
  have hts := atoms_spec (ws := Cond.code y cy nL rt :: wsG) B.pre
  have hown : s.vm.findClass own = some m.cls := by rw [← ho]; exact findClass_of_methodNamed B.named
  have hl := lv_entry av (n := nL) hn
  rw [lg_entry_eq]
  refine k p e s m av.toArray below meth c s.heap [] _ ⟨B.exec, B.bytes, B.returns, hml, hown, fun w hw => hts w (List.mem_cons_of_mem _ hw), B.notSynchronized⟩ hP hD hE va_S.rf ⟨hl.1, hl.2.1, fun i v h => ?_⟩
  subst hls
  have h1 := lsOf_in n av 0 i v h
  rw [Nat.zero_add] at h1
  exact hl.2.2 (i, v) h1

/-! static arrays -/
def stV (a b c d : Int32) (j : Nat) : Int32 := if j = 0 then a else if j = 1 then b else if j = 2 then c else d
/-- what the start says of the four static arrays, and of the links of Span to two of them -/
def okZ (G : Wd) : Prop := ∀ (s : State) (H : Heap), gS G s H →
  (va_Z "GreyBoxes" "LEAST" "[I" (.ref (gA G 100)) (gP G) s H ∧ va_T .int (gA G 100) 4 (fun j => .int (stV (-20) 0 0 0 j)) (gP G) s H) ∧
  (va_Z "GreyBoxes" "MOST" "[I" (.ref (gA G 101)) (gP G) s H ∧ va_T .int (gA G 101) 4 (fun j => .int (stV 40 100 99 15 j)) (gP G) s H) ∧
  (va_Z "GreyBoxes$HillText" "PART_LEAST" "[I" (.ref (gA G 102)) (gP G) s H ∧ va_T .int (gA G 102) 4 (fun j => .int (stV (-5) 8 0 0 j)) (gP G) s H) ∧
  (va_Z "GreyBoxes$HillText" "PART_MOST" "[I" (.ref (gA G 103)) (gP G) s H ∧ va_T .int (gA G 103) 4 (fun j => .int (stV 5 12 2 3 j)) (gP G) s H) ∧
  va_Nw (.fieldLinkNest "GreyBoxes$Span" 117 "GreyBoxes" "LEAST" "[I" "GreyBoxes") s ∧ va_Nw (.fieldLinkNest "GreyBoxes$Span" 123 "GreyBoxes" "MOST" "[I" "GreyBoxes") s
section SRules
variable {l : Launch} {G : Wd} {K : List Kd} {own : String} {cc : ByteArray} {nL d : Nat} {rt : Option FieldType} {Q : Option Value → Mem → Prop} {pc : Nat} {ls : List (Option Value)} {st : List Value} {μ : Mem}
theorem A_gets {C n ds : String} {v : Value} {idx : Nat} (hz : ∀ (s : State) (H : Heap), gS G s H → va_Z C n ds v (gP G) s H) (hl : Cond.fieldLink own idx C n ds ∈ wsG) (hd : decode cc pc = .ok (.getstatic idx, 3)) (kk : AW l G K own cc nL d rt Q (pc + 3) ls (v :: st) μ) : AW l G K own cc nL d rt Q pc ls st μ := by
  intro p e s m args below meth c H locs la F hP hD hE hS hlr
  obtain ⟨hx, hb, hr, hml, hown, hts, hlk⟩ := F
  exact va_gets hx hb (hz s s.heap hE.2.2) hS hown (hts _ hl) (fun _ h => h) hd (kk p e s m args below meth c H locs la ⟨hx, hb, hr, hml, hown, hts, hlk⟩ hP hD hE hS hlr)
theorem A_getsN {C n ds host : String} {v : Value} {idx : Nat} (hz : ∀ (s : State) (H : Heap), gS G s H → va_Z C n ds v (gP G) s H) (hl : ∀ (s : State) (H : Heap), gS G s H → va_Nw (.fieldLinkNest own idx C n ds host) s) (hd : decode cc pc = .ok (.getstatic idx, 3)) (kk : AW l G K own cc nL d rt Q (pc + 3) ls (v :: st) μ) : AW l G K own cc nL d rt Q pc ls st μ := by
  intro p e s m args below meth c H locs la F hP hD hE hS hlr
  obtain ⟨hx, hb, hr, hml, hown, hts, hlk⟩ := F
  exact va_getsN hx hb (hz s s.heap hE.2.2) hS hown (va_tabs rfl rfl (hl s s.heap hE.2.2)) (fun _ h => h) hd (kk p e s m args below meth c H locs la ⟨hx, hb, hr, hml, hown, hts, hlk⟩ hP hD hE hS hlr)
theorem A_tld {t N : Nat} {f : Nat → Int32} {x : Int32} (ht : ∀ (s : State) (H : Heap), gS G s H → va_T .int t N (fun j => .int (f j)) (gP G) s H) (hin : vp_in x N) (hd : decode cc pc = .ok (.iaload, 1)) (kk : AW l G K own cc nL d rt Q (pc + 1) ls (.int (f x.toNatClampNeg) :: st) μ) : AW l G K own cc nL d rt Q pc ls (.int x :: .ref t :: st) μ := by
  intro p e s m args below meth c H locs la F hP hD hE hS hlr
  obtain ⟨hx, hb, hr, hml, hown, hts, hlk⟩ := F
  exact va_ti hx hb (ht s s.heap hE.2.2) hS hin rfl hd (kk p e s m args below meth c H locs la ⟨hx, hb, hr, hml, hown, hts, hlk⟩ hP hD hE hS hlr)
end SRules
theorem sl_X11_170 : Cond.fieldLink RX11 170 "GreyBoxes" "LEAST" "[I" ∈ wsG := wsG_in 904 (by decide +kernel) (by decide +kernel)
theorem sl_X11_174 : Cond.fieldLink RX11 174 "GreyBoxes" "MOST" "[I" ∈ wsG := wsG_in 906 (by decide +kernel) (by decide +kernel)
theorem sl_X3_60 : Cond.fieldLink RX3 60 "GreyBoxes$HillText" "PART_LEAST" "[I" ∈ wsG := wsG_in 775 (by decide +kernel) (by decide +kernel)
theorem sl_X3_63 : Cond.fieldLink RX3 63 "GreyBoxes$HillText" "PART_MOST" "[I" ∈ wsG := wsG_in 777 (by decide +kernel) (by decide +kernel)
theorem lst_e {q : Nat} (h : q < 4) : stV (-20) 0 0 0 q = lstOf (nI q) := by
  have : q = 0 ∨ q = 1 ∨ q = 2 ∨ q = 3 := by omega
  rcases this with rfl | rfl | rfl | rfl <;> rfl
theorem mst_e {q : Nat} (h : q < 4) : stV 40 100 99 15 q = mstOf (nI q) := by
  have : q = 0 ∨ q = 1 ∨ q = 2 ∨ q = 3 := by omega
  rcases this with rfl | rfl | rfl | rfl <;> rfl

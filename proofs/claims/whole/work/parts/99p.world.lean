/-! what the start gives of the world: static arrays, texts, links -/
def gZ1 (C n : String) (t : Nat) (f : Nat → Int32) (A : Nat → Prop) (s : State) (H : Heap) : Prop := va_Z C n "[I" (.ref t) A s H ∧ va_T .int t 4 (fun j => .int (f j)) A s H
set_option maxHeartbeats 200000 in
theorem gZ1.mv {C n : String} {t : Nat} {f : Nat → Int32} {A : Nat → Prop} {u U : State} {H : Heap} (hv : u.vm.Alike U.vm) (h : gZ1 C n t f A u H) : gZ1 C n t f A U H := ⟨va_Z.moved hv h.1, va_T.moved hv h.2⟩
set_option maxHeartbeats 200000 in
theorem gZ1.kp {C n : String} {t : Nat} {f : Nat → Int32} {A : Nat → Prop} {U : State} {H H1 : Heap} (h : gZ1 C n t f A U H) (hq : ∀ a : Nat, a < H.size → ¬ A a → H1[a]? = H[a]?) : gZ1 C n t f A U H1 := ⟨h.1.kept hq, h.2.kept hq⟩
/-- a text: its object, its bytes -/
def gT1 (a v : Nat) (l : List Int32) (A : Nat → Prop) (s : State) (H : Heap) : Prop := va_O "java/lang/String" a A s H ∧ va_OF "java/lang/String" "coder" "B" (.int 0) a A s H ∧ va_OF "java/lang/String" "value" "[B" (.ref v) a A s H ∧ va_T .byte v l.length (fun j => .int (l.getD j 0)) A s H
set_option maxHeartbeats 200000 in
theorem gT1.mv {a v : Nat} {l : List Int32} {A : Nat → Prop} {u U : State} {H : Heap} (hv : u.vm.Alike U.vm) (h : gT1 a v l A u H) : gT1 a v l A U H := ⟨va_O.moved hv h.1, va_OF.moved hv h.2.1, va_OF.moved hv h.2.2.1, va_T.moved hv h.2.2.2⟩
set_option maxHeartbeats 200000 in
theorem gT1.kp {a v : Nat} {l : List Int32} {A : Nat → Prop} {U : State} {H H1 : Heap} (h : gT1 a v l A U H) (hq : ∀ a : Nat, a < H.size → ¬ A a → H1[a]? = H[a]?) : gT1 a v l A U H1 := ⟨h.1.kept hq, h.2.1.kept hq, h.2.2.1.kept hq, h.2.2.2.kept hq⟩
/-- static arrays -/
def gSa (ad : Nat → Nat) (A : Nat → Prop) (s : State) (H : Heap) : Prop := gZ1 "GreyBoxes" "LEAST" (ad 100) (stV (-20) 0 0 0) A s H ∧ gZ1 "GreyBoxes" "MOST" (ad 101) (stV 40 100 99 15) A s H ∧ gZ1 "GreyBoxes$HillText" "PART_LEAST" (ad 102) (stV (-5) 8 0 0) A s H ∧ gZ1 "GreyBoxes$HillText" "PART_MOST" (ad 103) (stV 5 12 2 3) A s H
/-- links within the nest -/
def gSl (s : State) : Prop := va_Nw (.fieldLinkNest "GreyBoxes$Span" 117 "GreyBoxes" "LEAST" "[I" "GreyBoxes") s ∧ va_Nw (.fieldLinkNest "GreyBoxes$Span" 123 "GreyBoxes" "MOST" "[I" "GreyBoxes") s ∧ va_Nw (.methodLinkNest RX0 85 yX11_isReader "GreyBoxes") s
/-- texts -/
def gSt (ad : Nat → Nat) (A : Nat → Prop) (s : State) (H : Heap) : Prop := va_Z "java/lang/String" "COMPACT_STRINGS" "Z" (.int 1) A s H ∧ ∀ z : Fin 2, gT1 (ad (104 + z.val)) (ad (106 + z.val)) (sgB z.val) A s H
def gSr (ad : Nat → Nat) (s : State) : Prop := vk_R "GreyBoxes" 121 ";-" (ad 104) s ∧ vk_R "GreyBoxes" 150 ";-()<>=+*" (ad 105) s
def gSW (ad : Nat → Nat) (A : Nat → Prop) (s : State) (H : Heap) : Prop := gSa ad A s H ∧ gSl s ∧ gSt ad A s H ∧ gSr ad s
/-- the world of the class, and of the reference: its classes, addresses, array classes, own addresses -/
def GW (D : va_G) (ad : Nat → Nat) (tc : Nat → ClassId) (A : Nat → Prop) : Wd := (D, ad, tc, A, gSW ad A)
set_option maxHeartbeats 200000 in
theorem gSa.mv {ad : Nat → Nat} {A : Nat → Prop} {u U : State} {H : Heap} (hv : u.vm.Alike U.vm) (h : gSa ad A u H) : gSa ad A U H := ⟨h.1.mv hv, h.2.1.mv hv, h.2.2.1.mv hv, h.2.2.2.mv hv⟩
set_option maxHeartbeats 200000 in
theorem gSt.mv {ad : Nat → Nat} {A : Nat → Prop} {u U : State} {H : Heap} (hv : u.vm.Alike U.vm) (h : gSt ad A u H) : gSt ad A U H := ⟨va_Z.moved hv h.1, fun z => (h.2 z).mv hv⟩
set_option maxHeartbeats 200000 in
theorem okG_GW {D : va_G} {ad : Nat → Nat} {tc : Nat → ClassId} {A : Nat → Prop} : okG (GW D ad tc A) := by
  refine ⟨fun s U H hW h => ?_, fun s U H e h => ?_, fun U H H1 hs hq h => ?_⟩
  · have g : gSW ad A s H := h
    obtain ⟨h1, ⟨h2, h3, h4⟩, h5, h6, h7⟩ := g
    exact ⟨gSa.mv hW.alike h1, ⟨va_Nw.warmF hW h2, va_Nw.warmF hW h3, va_Nw.warmM hW h4⟩, gSt.mv hW.alike h5, vk_R.warm hW h6, vk_R.warm hW h7⟩
  · have g : gSW ad A s H := h
    obtain ⟨h1, ⟨h2, h3, h4⟩, h5, h6, h7⟩ := g
    have hv : s.vm.Alike U.vm := by rw [e]; exact Vm.Alike.refl _
    exact ⟨gSa.mv hv h1, ⟨va_Nw.same rfl e.symm h2, va_Nw.same rfl e.symm h3, va_Nw.same rfl e.symm h4⟩, gSt.mv hv h5, vk_R.same e h6, vk_R.same e h7⟩
  · have g : gSW ad A U H := h
    have hq2 : ∀ a : Nat, a < H.size → ¬ A a → H1[a]? = H[a]? := hq
    obtain ⟨⟨a1, a2, a3, a4⟩, h2, ⟨h5, h5b⟩, h6⟩ := g
    exact ⟨⟨a1.kp hq2, a2.kp hq2, a3.kp hq2, a4.kp hq2⟩, h2, ⟨h5.kept hq2, fun z => (h5b z).kp hq2⟩, h6⟩
set_option maxHeartbeats 200000 in
theorem okZ_GW {D : va_G} {ad : Nat → Nat} {tc : Nat → ClassId} {A : Nat → Prop} : okZ (GW D ad tc A) := by
  intro s H h
  have g : gSW ad A s H := h
  obtain ⟨⟨a1, a2, a3, a4⟩, ⟨h2, h3, -⟩, -, -⟩ := g
  exact ⟨a1, a2, a3, a4, h2, h3⟩
set_option maxHeartbeats 200000 in
theorem okN_GW {D : va_G} {ad : Nat → Nat} {tc : Nat → ClassId} {A : Nat → Prop} : okN (GW D ad tc A) := by
  intro s H h
  have g : gSW ad A s H := h
  exact g.2.1.2.2
set_option maxHeartbeats 200000 in
theorem okS_GW {D : va_G} {ad : Nat → Nat} {tc : Nat → ClassId} {A : Nat → Prop} : okS (GW D ad tc A) := by
  intro s H h
  have g : gSW ad A s H := h
  obtain ⟨-, -, ⟨h5, h5b⟩, h6, h7⟩ := g
  exact ⟨h5, h5b, h6, h7⟩
set_option maxHeartbeats 200000 in
/-- the same of a smaller set of own addresses -/
theorem gSW.nr {ad : Nat → Nat} {A B : Nat → Prop} {s : State} {H : Heap} (h : gSW ad A s H) (hAB : ∀ q, B q → A q) : gSW ad B s H := by
  obtain ⟨⟨a1, a2, a3, a4⟩, h2, ⟨h5, h5b⟩, h6⟩ := h
  exact ⟨⟨⟨a1.1.narrow hAB, a1.2.narrow hAB⟩, ⟨a2.1.narrow hAB, a2.2.narrow hAB⟩, ⟨a3.1.narrow hAB, a3.2.narrow hAB⟩, ⟨a4.1.narrow hAB, a4.2.narrow hAB⟩⟩, h2, ⟨h5.narrow hAB, fun z => ⟨(h5b z).1.narrow hAB, (h5b z).2.1.narrow hAB, (h5b z).2.2.1.narrow hAB, (h5b z).2.2.2.narrow hAB⟩⟩, h6⟩

/-! bytes of a text; the two strings of signs -/
theorem by_T : ∀ n : Fin 256, ((vp_nar .byte (nI n.val) = 32 ↔ nI n.val = 32) ∧ (vp_nar .byte (nI n.val) = 10 ↔ nI n.val = 10)) ∧ ((97 ≤ vp_nar .byte (nI n.val) ∧ vp_nar .byte (nI n.val) ≤ 122) ↔ isLt (nI n.val)) ∧ ((48 ≤ vp_nar .byte (nI n.val) ∧ vp_nar .byte (nI n.val) ≤ 57) ↔ isDg (nI n.val)) ∧ vp_nar .byte (nI n.val) &&& 255 = nI n.val := by decide +kernel
theorem by_E : ∀ n : Fin 256, (isLt (nI n.val) → vp_nar .byte (nI n.val) = nI n.val ∧ 97 ≤ n.val ∧ n.val ≤ 122 ∧ (nI n.val - 97 + 1).toInt64 = lN (n.val - 96) ∧ (nI n.val).toInt64 = lN (96 + (n.val - 96))) ∧ (isDg (nI n.val) → vp_nar .byte (nI n.val) = nI n.val) ∧ ((nI n.val).toUInt32 % 65536).toInt32 = nI n.val ∧ ¬ nI n.val < 0 ∧ ¬ 255 < nI n.val := by decide +kernel
theorem by_of {x : Int32} (h0 : 0 ≤ x.toInt) (h1 : x.toInt ≤ 255) : ∃ c : Fin 256, x = nI c.val := by
  obtain ⟨j, -, e1, e2, -⟩ := i_nat (x := x) (i_le.mpr h0)
  exact ⟨⟨j, by omega⟩, e1⟩
def sgB (z : Nat) : List Int32 := if z = 0 then [59, 45] else [59, 45, 40, 41, 60, 62, 61, 43, 42]
theorem sg_T : ∀ z : Fin 2, ∀ c : Fin 256, ((sgB z.val).any (fun w => w == (nI c.val).toInt8.toInt32) = true) ↔ isSg (nI z.val) (nI c.val) := by decide +kernel
theorem sg_len : ∀ z : Fin 2, (sgB z.val).length < 10 ∧ 0 < (sgB z.val).length ∧ nI (sgB z.val).length >>> ((0 : Int32) &&& 31) = nI (sgB z.val).length := by decide +kernel
theorem any_D {l : List Int32} {b : Int32} : l.any (fun w => w == b) = true ↔ ∃ j, j < l.length ∧ l.getD j 0 = b := by
  rw [List.any_eq_true]
  constructor
  · rintro ⟨x, hx, he⟩
    obtain ⟨j, hj, ej⟩ := List.mem_iff_getElem.mp hx
    exact ⟨j, hj, by rw [List.getD_eq_getElem?_getD, List.getElem?_eq_getElem hj, ej]; exact eq_of_beq he⟩
  · rintro ⟨j, hj, ej⟩
    rw [List.getD_eq_getElem?_getD, List.getElem?_eq_getElem hj] at ej
    replace ej : l[j] = b := ej
    exact ⟨l[j], List.getElem_mem hj, by rw [ej]; exact beq_self_eq_true b⟩
/-- what the start says of the two strings of signs -/
def okS (G : Wd) : Prop := ∀ (s : State) (H : Heap), gS G s H → va_Z "java/lang/String" "COMPACT_STRINGS" "Z" (.int 1) (gP G) s H ∧
  (∀ z : Fin 2, va_O "java/lang/String" (gA G (104 + z.val)) (gP G) s H ∧ va_OF "java/lang/String" "coder" "B" (.int 0) (gA G (104 + z.val)) (gP G) s H ∧ va_OF "java/lang/String" "value" "[B" (.ref (gA G (106 + z.val))) (gA G (104 + z.val)) (gP G) s H ∧ va_T .byte (gA G (106 + z.val)) (sgB z.val).length (fun j => .int ((sgB z.val).getD j 0)) (gP G) s H) ∧
  vk_R "GreyBoxes" 121 ";-" (gA G 104) s ∧ vk_R "GreyBoxes" 150 ";-()<>=+*" (gA G 105) s
section TRules
variable {l : Launch} {G : Wd} {K : List Kd} {own : String} {cc : ByteArray} {nL d : Nat} {rt : Option FieldType} {Q : Option Value → Mem → Prop} {pc : Nat} {ls : List (Option Value)} {st : List Value} {μ : Mem}
theorem A_getO {idx q : Nat} {n ds : String} {v : Value} (hz : ∀ (s : State) (H : Heap), gS G s H → va_OF own n ds v q (gP G) s H) (hl : Cond.fieldLink own idx own n ds ∈ wsG) (hd : decode cc pc = .ok (.getfield idx, 3)) (kk : AW l G K own cc nL d rt Q (pc + 3) ls (v :: st) μ) : AW l G K own cc nL d rt Q pc ls (.ref q :: st) μ := by
  intro p e s m args below meth c H locs la F hP hD hE hS hlr
  obtain ⟨hx, hb, hr, hml, hown, hts, hlk⟩ := F
  exact vk_getf hx hb (hz s s.heap hE.2.2) hS hown (hts _ hl) (fun _ h => h) hd (kk p e s m args below meth c H locs la ⟨hx, hb, hr, hml, hown, hts, hlk⟩ hP hD hE hS hlr)
theorem A_tbl {t N : Nat} {f : Nat → Int32} {x : Int32} (ht : ∀ (s : State) (H : Heap), gS G s H → va_T .byte t N (fun j => .int (f j)) (gP G) s H) (hin : vp_in x N) (hd : decode cc pc = .ok (.baload, 1)) (kk : AW l G K own cc nL d rt Q (pc + 1) ls (.int (f x.toNatClampNeg) :: st) μ) : AW l G K own cc nL d rt Q pc ls (.int x :: .ref t :: st) μ := by
  intro p e s m args below meth c H locs la F hP hD hE hS hlr
  obtain ⟨hx, hb, hr, hml, hown, hts, hlk⟩ := F
  exact va_tb hx hb (ht s s.heap hE.2.2) hS hin rfl hd (kk p e s m args below meth c H locs la ⟨hx, hb, hr, hml, hown, hts, hlk⟩ hP hD hE hS hlr)
theorem A_tln {ty : FieldType} {t N : Nat} {f : Nat → Value} (ht : ∀ (s : State) (H : Heap), gS G s H → va_T ty t N f (gP G) s H) (hd : decode cc pc = .ok (.arraylength, 1)) (kk : AW l G K own cc nL d rt Q (pc + 1) ls (.int (nI N) :: st) μ) : AW l G K own cc nL d rt Q pc ls (.ref t :: st) μ := by
  intro p e s m args below meth c H locs la F hP hD hE hS hlr
  obtain ⟨hx, hb, hr, hml, hown, hts, hlk⟩ := F
  exact va_tlen hx hb (ht s s.heap hE.2.2) hS rfl hd (kk p e s m args below meth c H locs la ⟨hx, hb, hr, hml, hown, hts, hlk⟩ hP hD hE hS hlr)
theorem A_nret {ty : FieldType} {v : Int32} (hd : decode cc pc = .ok (.ireturn, 1)) (hz : narrow ty (.int v) = .int v) (hq : Q (some (.int v)) μ) : AW l G K own cc nL d (some ty) Q pc ls [.int v] μ := by
  intro p e s m args below meth c H locs la F hP hD hE hS hl
  obtain ⟨hx, hb, hr, hml, hown, hts, hlk⟩ := F
  exact W.zret hx hb hr hz (fun t ht hW => ⟨⟨some (.int v), μ, rfl, hq, by rw [ht]; exact hP, hD, hE.go hW ht hS⟩, hS.F ht⟩) hS.2.2 hd hlk
theorem A_ldcS {idx q : Nat} {tx : String} (hz : ∀ (s : State) (H : Heap), gS G s H → vk_R own idx tx q s) (hd : decode cc pc = .ok (.ldc idx, 2)) (kk : AW l G K own cc nL d rt Q (pc + 2) ls (.ref q :: st) μ) : AW l G K own cc nL d rt Q pc ls st μ := by
  intro p e s m args below meth c H locs la F hP hD hE hS hlr
  obtain ⟨hx, hb, hr, hml, hown, hts, hlk⟩ := F
  exact va_ldcS hx hb hown (hz s s.heap hE.2.2) hd (kk p e s m args below meth c H locs la ⟨hx, hb, hr, hml, hown, hts, hlk⟩ hP hD hE hS hlr)
theorem A_invT {y : MethodName} {cy : ByteArray} {nLy dy n q idx : Nat} {rty : Option FieldType} {As rest : List Value} {Qy : Option Value → Mem → Prop} (hO : ∀ (s : State) (H : Heap), gS G s H → va_O y.cls q (gP G) s H) (hM : Mt l G K y cy nLy rty dy (.ref q :: As) μ Qy) (hL : Cond.methodLink own idx y ∈ wsG) (hY : Yv y cy nLy rty n) (hn : As.length = n) (hdep : dy < d) (hW : (rest.map fun v => v.category).sum ≤ 8) (hd : decode cc pc = .ok (.invokevirtual idx, 3))
    (kk : ∀ (r : Option Value) (μ' : Mem), Qy r μ' → AW l G K own cc nL d rt Q (pc + 3) ls (r.toList ++ rest) μ') : AW l G K own cc nL d rt Q pc ls (As.reverse ++ .ref q :: rest) μ := by
  intro p e s m args below meth c H locs la F hP hD hE hS hl
  obtain ⟨hx, hb, hr, hml, hown, hts, hlk⟩ := F
  obtain ⟨y1, y2, y3, y4, y5, y6⟩ := hY
  have hrecv : ∃ cell : Cell, H[q]? = some cell ∧ cell.vm.isStatics = false ∧ s.vm.findClass y.cls = some cell.cls := by
    obtain ⟨cell, h1, h2, h3, -⟩ := (hO s s.heap hE.2.2).kept hS.2.1
    exact ⟨cell, h1, h2, h3⟩
  refine AW.back (va_runV (C := y.cls) (As := As) (rest := rest) ⟨hx, hb, hml, hown, hts⟩ hM ⟨callB_of n hts (wsG_goodIn y4) rfl rfl rfl (hts _ y3) (hts _ hL) y5 (room_ok hdep y6), hts _ y1, hts _ y2⟩ ⟨Wl.blind, hrecv, fun U hU hWU => ⟨rfl, Wl.to hP hD hE hS hU hWU⟩⟩ rfl hn hl.1 rfl (lv_room hW) hd ⟨Nat.zero_le _, Nat.zero_le _⟩) ⟨hx, hb, hr, hml, hown, hts, hlk⟩ hE hS hl kk
theorem A_ti0 {y : MethodName} {cy : ByteArray} {nLy dy q idx : Nat} {rty : Option FieldType} {rest : List Value} {post : Int32 → Mem → Prop} (hO : ∀ (s : State) (H : Heap), gS G s H → va_O y.cls q (gP G) s H) (hL : Cond.methodLink own idx y ∈ wsG) (hY : Yv y cy nLy rty 0) (hd : decode cc pc = .ok (.invokevirtual idx, 3)) (hM : Mt l G K y cy nLy rty dy [.ref q] μ (Qi post)) (hdep : dy < d) (hW : (rest.map fun v => v.category).sum ≤ 8) (kk : ∀ (v : Int32) (μ' : Mem), post v μ' → AW l G K own cc nL d rt Q (pc + 3) ls (.int v :: rest) μ') : AW l G K own cc nL d rt Q pc ls (.ref q :: rest) μ :=
  A_invT (As := []) hO hM hL hY rfl hdep hW hd (fun r μ' h => by obtain ⟨v, rfl, h⟩ := h; exact kk v μ' h)
theorem A_ti1 {y : MethodName} {cy : ByteArray} {nLy dy q idx : Nat} {rty : Option FieldType} {v0 : Value} {rest : List Value} {post : Int32 → Mem → Prop} (hO : ∀ (s : State) (H : Heap), gS G s H → va_O y.cls q (gP G) s H) (hL : Cond.methodLink own idx y ∈ wsG) (hY : Yv y cy nLy rty 1) (hd : decode cc pc = .ok (.invokevirtual idx, 3)) (hM : Mt l G K y cy nLy rty dy (.ref q :: [v0]) μ (Qi post)) (hdep : dy < d) (hW : (rest.map fun v => v.category).sum ≤ 8) (kk : ∀ (v : Int32) (μ' : Mem), post v μ' → AW l G K own cc nL d rt Q (pc + 3) ls (.int v :: rest) μ') : AW l G K own cc nL d rt Q pc ls (v0 :: .ref q :: rest) μ :=
  A_invT (As := [v0]) hO hM hL hY rfl hdep hW hd (fun r μ' h => by obtain ⟨v, rfl, h⟩ := h; exact kk v μ' h)
theorem A_ti2 {y : MethodName} {cy : ByteArray} {nLy dy q idx : Nat} {rty : Option FieldType} {v0 v1 : Value} {rest : List Value} {post : Int32 → Mem → Prop} (hO : ∀ (s : State) (H : Heap), gS G s H → va_O y.cls q (gP G) s H) (hL : Cond.methodLink own idx y ∈ wsG) (hY : Yv y cy nLy rty 2) (hd : decode cc pc = .ok (.invokevirtual idx, 3)) (hM : Mt l G K y cy nLy rty dy (.ref q :: [v0, v1]) μ (Qi post)) (hdep : dy < d) (hW : (rest.map fun v => v.category).sum ≤ 8) (kk : ∀ (v : Int32) (μ' : Mem), post v μ' → AW l G K own cc nL d rt Q (pc + 3) ls (.int v :: rest) μ') : AW l G K own cc nL d rt Q pc ls (v1 :: v0 :: .ref q :: rest) μ :=
  A_invT (As := [v0, v1]) hO hM hL hY rfl hdep hW hd (fun r μ' h => by obtain ⟨v, rfl, h⟩ := h; exact kk v μ' h)
end TRules
theorem sl_J0_38 : Cond.fieldLink RJ0 38 "java/lang/String" "COMPACT_STRINGS" "Z" ∈ wsG := wsG_1 47 (by decide +kernel) (by decide +kernel)
theorem sl_J0_9 : Cond.fieldLink RJ0 9 "java/lang/String" "value" "[B" ∈ wsG := wsG_8 220 (by decide +kernel) (by decide +kernel)
theorem sl_J0_15 : Cond.fieldLink RJ0 15 "java/lang/String" "coder" "B" ∈ wsG := wsG_8 221 (by decide +kernel) (by decide +kernel)
theorem okS.z {G : Wd} (h : okS G) : ∀ (s : State) (H : Heap), gS G s H → va_Z "java/lang/String" "COMPACT_STRINGS" "Z" (.int 1) (gP G) s H := fun s H g => (h s H g).1
theorem okS.o {G : Wd} (h : okS G) (z : Fin 2) : ∀ (s : State) (H : Heap), gS G s H → va_O "java/lang/String" (gA G (104 + z.val)) (gP G) s H := fun s H g => ((h s H g).2.1 z).1
theorem okS.c {G : Wd} (h : okS G) (z : Fin 2) : ∀ (s : State) (H : Heap), gS G s H → va_OF "java/lang/String" "coder" "B" (.int 0) (gA G (104 + z.val)) (gP G) s H := fun s H g => ((h s H g).2.1 z).2.1
theorem okS.v {G : Wd} (h : okS G) (z : Fin 2) : ∀ (s : State) (H : Heap), gS G s H → va_OF "java/lang/String" "value" "[B" (.ref (gA G (106 + z.val))) (gA G (104 + z.val)) (gP G) s H := fun s H g => ((h s H g).2.1 z).2.2.1
theorem okS.t {G : Wd} (h : okS G) (z : Fin 2) : ∀ (s : State) (H : Heap), gS G s H → va_T .byte (gA G (106 + z.val)) (sgB z.val).length (fun j => .int ((sgB z.val).getD j 0)) (gP G) s H := fun s H g => ((h s H g).2.1 z).2.2.2
set_option maxHeartbeats 100000 in
set_option maxRecDepth 100000 in
theorem T_isLatin1 {l : Launch} {G : Wd} {K : List Kd} {z : Fin 2} {μ : Mem} (hS : okS G) : Mt l G K yJ0_isLatin1_aae02 cJ0_isLatin1_aae02 1 (some .boolean) 1 [.ref (gA G (104 + z.val))] μ (Qi (fun v μ' => v = 1 ∧ μ' = μ)) := by
  refine Mt.ofF (own := RJ0) (n := 0) (by decide +kernel) rfl [some (.ref (gA G (104 + z.val)))] rfl (Nat.le_of_ble_eq_true rfl) ?_
  refine A_gets (hS.z) sl_J0_38 dJ0_isLatin1_aae02_0 ?_
  refine A_if_eq (tgt := 17) dJ0_isLatin1_aae02_3 (by decide) (fun c_3 => absurd c_3 (by decide)) (fun c_3 => ?_)
  refine A_aload0 dJ0_isLatin1_aae02_6 ?_
  refine A_getO (hS.c z) sl_J0_15 dJ0_isLatin1_aae02_7 ?_
  refine A_if_ne (tgt := 17) dJ0_isLatin1_aae02_10 (by decide) (fun c_10 => absurd c_10 (by decide)) (fun c_10 => ?_)
  refine A_iconst (v := 1) dJ0_isLatin1_aae02_13 (by decide) ?_
  refine A_goto (tgt := 18) dJ0_isLatin1_aae02_14 (by decide) ?_
  refine A_zret dJ0_isLatin1_aae02_18 (by decide) ?_
  exact ⟨_, rfl, rfl, rfl⟩
set_option maxHeartbeats 100000 in
set_option maxRecDepth 100000 in
theorem T_coder {l : Launch} {G : Wd} {K : List Kd} {z : Fin 2} {μ : Mem} (hS : okS G) : Mt l G K yJ0_coder_7d493 cJ0_coder_7d493 1 (some .byte) 1 [.ref (gA G (104 + z.val))] μ (Qi (fun v μ' => v = 0 ∧ μ' = μ)) := by
  refine Mt.ofF (own := RJ0) (n := 0) (by decide +kernel) rfl [some (.ref (gA G (104 + z.val)))] rfl (Nat.le_of_ble_eq_true rfl) ?_
  refine A_gets (hS.z) sl_J0_38 dJ0_coder_7d493_0 ?_
  refine A_if_eq (tgt := 13) dJ0_coder_7d493_3 (by decide) (fun c_3 => absurd c_3 (by decide)) (fun c_3 => ?_)
  refine A_aload0 dJ0_coder_7d493_6 ?_
  refine A_getO (hS.c z) sl_J0_15 dJ0_coder_7d493_7 ?_
  refine A_goto (tgt := 14) dJ0_coder_7d493_10 (by decide) ?_
  refine A_nret dJ0_coder_7d493_14 (by decide) ?_
  exact ⟨_, rfl, rfl, rfl⟩
set_option maxHeartbeats 100000 in
set_option maxRecDepth 100000 in
theorem T_length {l : Launch} {G : Wd} {K : List Kd} {z : Fin 2} {μ : Mem} (hS : okS G) : Mt l G K yJ0_length_8abf5 cJ0_length_8abf5 1 (some .int) 2 [.ref (gA G (104 + z.val))] μ (Qi (fun v μ' => v = nI (sgB z.val).length ∧ μ' = μ)) := by
  refine Mt.ofF (own := RJ0) (n := 0) (by decide +kernel) rfl [some (.ref (gA G (104 + z.val)))] rfl (Nat.le_of_ble_eq_true rfl) ?_
  refine A_aload0 dJ0_length_8abf5_0 ?_
  refine A_getO (hS.v z) sl_J0_9 dJ0_length_8abf5_1 ?_
  refine A_tln (hS.t z) dJ0_length_8abf5_4 ?_
  refine A_aload0 dJ0_length_8abf5_5 ?_
  refine A_ti0 (hS.o z) lk_J0_335 yv_J0_coder_7d493 dJ0_length_8abf5_6 (T_coder hS) (by decide) (Nat.le_of_ble_eq_true rfl) (fun r_6 μ_6 h_6 => ?_)
  obtain ⟨v_6, e_6⟩ := h_6
  subst v_6
  subst e_6
  refine A_ishr dJ0_length_8abf5_9 ?_
  refine A_iret dJ0_length_8abf5_10 ?_
  exact ⟨_, rfl, (sg_len z).2.2, rfl⟩
set_option maxHeartbeats 100000 in
set_option maxRecDepth 100000 in
theorem T_canEncode {l : Launch} {G : Wd} {K : List Kd} {c : Fin 256} {μ : Mem}  : Mt l G K yJ1_canEncode_9a6ad cJ1_canEncode_9a6ad 1 (some .boolean) 1 [.int (nI c.val)] μ (Qi (fun v μ' => v = 1 ∧ μ' = μ)) := by
  refine Mt.ofF (own := RJ1) (n := 0) (by decide +kernel) rfl [some (.int (nI c.val))] rfl (Nat.le_of_ble_eq_true rfl) ?_
  have hx := by_E c
  refine A_iload0 dJ1_canEncode_9a6ad_0 ?_
  refine A_if_lt (tgt := 15) dJ1_canEncode_9a6ad_1 (by decide) (fun c_1 => absurd c_1 (hx.2.2.2.1)) (fun c_1 => ?_)
  refine A_iload0 dJ1_canEncode_9a6ad_4 ?_
  refine A_sipush (v := 255) dJ1_canEncode_9a6ad_5 (by decide) ?_
  refine A_icmp_gt (tgt := 15) dJ1_canEncode_9a6ad_8 (by decide) (fun c_8 => absurd c_8 (hx.2.2.2.2)) (fun c_8 => ?_)
  refine A_iconst (v := 1) dJ1_canEncode_9a6ad_11 (by decide) ?_
  refine A_goto (tgt := 16) dJ1_canEncode_9a6ad_12 (by decide) ?_
  refine A_zret dJ1_canEncode_9a6ad_16 (by decide) ?_
  exact ⟨_, rfl, rfl, rfl⟩
set_option maxHeartbeats 400000 in
set_option maxRecDepth 100000 in
theorem L_indexOfChar {l : Launch} {G : Wd} {K : List Kd} {z : Fin 2} {c : Fin 256} {μ : Mem} (hS : okS G) : ∀ (q k : Nat) (x : Int32), q + k = (sgB z.val).length → x = nI k → (∀ j, j < k → ¬ (sgB z.val).getD j 0 = (nI c.val).toInt8.toInt32) → AW l G K RJ1 cJ1_indexOfChar_4cfef 6 1 (some .int) (Qi (fun v μ' => (0 ≤ v ↔ (sgB z.val).any (fun w => w == (nI c.val).toInt8.toInt32) = true) ∧ μ' = μ)) 7 [some (.ref (gA G (106 + z.val))), some (.int (nI c.val)), some (.int 0), some (.int (nI (sgB z.val).length)), some (.int ((nI c.val).toInt8.toInt32)), some (.int x)] [] μ := by
  have hlen := (sg_len z).1
  intro q
  induction q with
  | zero =>
    intro k x hq hx hno
    subst hx
    have ek : k = (sgB z.val).length := by omega
    rw [ek]
    refine A_iload5 dJ1_indexOfChar_4cfef_7 ?_
    refine A_iload3 dJ1_indexOfChar_4cfef_9 ?_
    refine A_icmp_ge (tgt := 31) dJ1_indexOfChar_4cfef_10 (by decide) (fun c_10 => ?_) (fun c_10 => absurd c_10 (fun y => y (Int32.le_refl _)))
    refine A_iconst (v := -1) dJ1_indexOfChar_4cfef_31 (by decide) ?_
    refine A_iret dJ1_indexOfChar_4cfef_32 ?_
    refine ⟨_, rfl, ⟨fun y => absurd y (by decide), fun y => ?_⟩, rfl⟩
    obtain ⟨j, hj1, hj2⟩ := any_D.mp y
    exact absurd hj2 (hno j (by omega))
  | succ q ih =>
    intro k x hq hx hno
    subst hx
    refine A_iload5 dJ1_indexOfChar_4cfef_7 ?_
    refine A_iload3 dJ1_indexOfChar_4cfef_9 ?_
    refine A_icmp_ge (tgt := 31) dJ1_indexOfChar_4cfef_10 (by decide) (fun c_10 => absurd c_10 (nI_ge (by omega) (by omega))) (fun c_10 => ?_)
    refine A_aload0 dJ1_indexOfChar_4cfef_13 ?_
    refine A_iload5 dJ1_indexOfChar_4cfef_14 ?_
    refine A_tbl (f := fun j => (sgB z.val).getD j 0) (hS.t z) (vp_in_nI (by omega) (by omega)) dJ1_indexOfChar_4cfef_16 ?_
    rw [nI_c (by omega)]
    refine A_iload4 dJ1_indexOfChar_4cfef_17 ?_
    refine A_icmp_ne (tgt := 25) dJ1_indexOfChar_4cfef_19 (by decide) (fun c_19 => ?_) (fun c_19 => ?_)
    · refine A_iinc5 dJ1_indexOfChar_4cfef_25 rfl rfl (by decide) ?_
      rw [show nI k + Int32.ofInt 1 = nI (k + 1) from nI_1 k]
      refine A_goto (tgt := 7) dJ1_indexOfChar_4cfef_28 (by decide) ?_
      refine ih (k + 1) _ (by omega) rfl (fun j hj => ?_)
      rcases Nat.lt_or_ge j k with hj1 | hj1
      · exact hno j hj1
      · have ej : j = k := by omega
        rw [ej]
        exact c_19
    · refine A_iload5 dJ1_indexOfChar_4cfef_22 ?_
      refine A_iret dJ1_indexOfChar_4cfef_24 ?_
      refine ⟨_, rfl, ⟨fun _ => any_D.mpr ⟨k, by omega, c_19⟩, fun _ => nI_pos' (by omega)⟩, rfl⟩
set_option maxHeartbeats 100000 in
set_option maxRecDepth 100000 in
theorem T_indexOfChar {l : Launch} {G : Wd} {K : List Kd} {z : Fin 2} {c : Fin 256} {μ : Mem} (hS : okS G) : Mt l G K yJ1_indexOfChar_4cfef cJ1_indexOfChar_4cfef 6 (some .int) 1 [.ref (gA G (106 + z.val)), .int (nI c.val), .int 0, .int (nI (sgB z.val).length)] μ (Qi (fun v μ' => (0 ≤ v ↔ (sgB z.val).any (fun w => w == (nI c.val).toInt8.toInt32) = true) ∧ μ' = μ)) := by
  refine Mt.ofF (own := RJ1) (n := 2) (by decide +kernel) rfl [some (.ref (gA G (106 + z.val))), some (.int (nI c.val)), some (.int 0), some (.int (nI (sgB z.val).length)), none, none] rfl (Nat.le_of_ble_eq_true rfl) ?_
  refine A_iload1 dJ1_indexOfChar_4cfef_0 ?_
  refine A_i2b dJ1_indexOfChar_4cfef_1 ?_
  refine A_istore4 dJ1_indexOfChar_4cfef_2 rfl (by decide) ?_
  refine A_iload2 dJ1_indexOfChar_4cfef_4 ?_
  refine A_istore5 dJ1_indexOfChar_4cfef_5 rfl (by decide) ?_
  exact L_indexOfChar hS (sgB z.val).length 0 _ (by omega) rfl (fun j hj => absurd hj (by omega))
set_option maxHeartbeats 100000 in
set_option maxRecDepth 100000 in
theorem T_J1_indexOf {l : Launch} {G : Wd} {K : List Kd} {z : Fin 2} {c : Fin 256} {μ : Mem} (hS : okS G) : Mt l G K yJ1_indexOf_4cfef cJ1_indexOf_4cfef 4 (some .int) 2 [.ref (gA G (106 + z.val)), .int (nI c.val), .int 0, .int (nI (sgB z.val).length)] μ (Qi (fun v μ' => (0 ≤ v ↔ (sgB z.val).any (fun w => w == (nI c.val).toInt8.toInt32) = true) ∧ μ' = μ)) := by
  refine Mt.ofF (own := RJ1) (n := 0) (by decide +kernel) rfl [some (.ref (gA G (106 + z.val))), some (.int (nI c.val)), some (.int 0), some (.int (nI (sgB z.val).length))] rfl (Nat.le_of_ble_eq_true rfl) ?_
  have hlen := sg_len z
  refine A_iload1 dJ1_indexOf_4cfef_0 ?_
  refine A_si1 lk_J1_88 ys_J1_canEncode_9a6ad dJ1_indexOf_4cfef_1 (T_canEncode) (by decide) (Nat.le_of_ble_eq_true rfl) (fun r_1 μ_1 h_1 => ?_)
  obtain ⟨v_1, e_1⟩ := h_1
  replace v_1 := Eq.symm v_1
  subst v_1
  replace e_1 := e_1.symm
  subst e_1
  refine A_if_ne (tgt := 9) dJ1_indexOf_4cfef_4 (by decide) (fun c_4 => ?_) (fun c_4 => absurd c_4 (by decide))
  refine A_iload2 dJ1_indexOf_4cfef_9 ?_
  refine A_iconst (v := 0) dJ1_indexOf_4cfef_10 (by decide) ?_
  refine A_si2 lk_J1_92 ys_J9_max_7cf53 dJ1_indexOf_4cfef_11 (T_max) (by decide) (Nat.le_of_ble_eq_true rfl) (fun r_11 μ_11 h_11 => ?_)
  obtain ⟨v_11, e_11⟩ := h_11
  replace v_11 := Eq.symm v_11
  subst v_11
  replace e_11 := e_11.symm
  subst e_11
  refine A_val (y := 0) (by decide) ?_
  refine A_istore2 dJ1_indexOf_4cfef_14 rfl (by decide) ?_
  refine A_iload3 dJ1_indexOf_4cfef_15 ?_
  refine A_aload0 dJ1_indexOf_4cfef_16 ?_
  refine A_tln (hS.t z) dJ1_indexOf_4cfef_17 ?_
  refine A_si2 lk_J1_38 ys_J9_min_7cf53 dJ1_indexOf_4cfef_18 (T_min) (by decide) (Nat.le_of_ble_eq_true rfl) (fun r_18 μ_18 h_18 => ?_)
  obtain ⟨v_18, e_18⟩ := h_18
  replace v_18 := Eq.symm v_18
  subst v_18
  replace e_18 := e_18.symm
  subst e_18
  refine A_val (y := nI (sgB z.val).length) (by rw [imin_n (by omega) (by omega), Nat.min_self]) ?_
  refine A_istore3 dJ1_indexOf_4cfef_21 rfl (by decide) ?_
  refine A_iload2 dJ1_indexOf_4cfef_22 ?_
  refine A_iload3 dJ1_indexOf_4cfef_23 ?_
  refine A_icmp_lt (tgt := 29) dJ1_indexOf_4cfef_24 (by decide) (fun c_24 => ?_) (fun c_24 => absurd c_24 (not_not_intro (nI_lt (a := 0) hlen.2.1 (by omega))))
  refine A_aload0 dJ1_indexOf_4cfef_29 ?_
  refine A_iload1 dJ1_indexOf_4cfef_30 ?_
  refine A_iload2 dJ1_indexOf_4cfef_31 ?_
  refine A_iload3 dJ1_indexOf_4cfef_32 ?_
  refine A_si4 lk_J1_95 ys_J1_indexOfChar_4cfef dJ1_indexOf_4cfef_33 (T_indexOfChar hS) (by decide) (Nat.le_of_ble_eq_true rfl) (fun r_33 μ_33 h_33 => ?_)
  refine A_iret dJ1_indexOf_4cfef_36 ?_
  exact ⟨_, rfl, h_33⟩
set_option maxHeartbeats 100000 in
set_option maxRecDepth 100000 in
theorem T_indexOf2 {l : Launch} {G : Wd} {K : List Kd} {z : Fin 2} {c : Fin 256} {μ : Mem} (hS : okS G) : Mt l G K yJ0_indexOf_7cf53 cJ0_indexOf_7cf53 3 (some .int) 3 [.ref (gA G (104 + z.val)), .int (nI c.val), .int 0] μ (Qi (fun v μ' => (0 ≤ v ↔ (sgB z.val).any (fun w => w == (nI c.val).toInt8.toInt32) = true) ∧ μ' = μ)) := by
  refine Mt.ofF (own := RJ0) (n := 0) (by decide +kernel) rfl [some (.ref (gA G (104 + z.val))), some (.int (nI c.val)), some (.int 0)] rfl (Nat.le_of_ble_eq_true rfl) ?_
  refine A_aload0 dJ0_indexOf_7cf53_0 ?_
  refine A_ti0 (hS.o z) lk_J0_492 yv_J0_isLatin1_aae02 dJ0_indexOf_7cf53_1 (T_isLatin1 hS) (by decide) (Nat.le_of_ble_eq_true rfl) (fun r_1 μ_1 h_1 => ?_)
  obtain ⟨v_1, e_1⟩ := h_1
  subst v_1
  subst e_1
  refine A_if_eq (tgt := 23) dJ0_indexOf_7cf53_4 (by decide) (fun c_4 => absurd c_4 (by decide)) (fun c_4 => ?_)
  refine A_aload0 dJ0_indexOf_7cf53_7 ?_
  refine A_getO (hS.v z) sl_J0_9 dJ0_indexOf_7cf53_8 ?_
  refine A_iload1 dJ0_indexOf_7cf53_11 ?_
  refine A_iload2 dJ0_indexOf_7cf53_12 ?_
  refine A_aload0 dJ0_indexOf_7cf53_13 ?_
  refine A_ti0 (hS.o z) lk_J0_505 yv_J0_length_8abf5 dJ0_indexOf_7cf53_14 (T_length hS) (by decide) (Nat.le_of_ble_eq_true rfl) (fun r_14 μ_14 h_14 => ?_)
  obtain ⟨v_14, e_14⟩ := h_14
  subst v_14
  subst e_14
  refine A_si4 lk_J0_637 ys_J1_indexOf_4cfef dJ0_indexOf_7cf53_17 (T_J1_indexOf hS) (by decide) (Nat.le_of_ble_eq_true rfl) (fun r_17 μ_17 h_17 => ?_)
  refine A_goto (tgt := 36) dJ0_indexOf_7cf53_20 (by decide) ?_
  refine A_iret dJ0_indexOf_7cf53_36 ?_
  exact ⟨_, rfl, h_17⟩
set_option maxHeartbeats 100000 in
set_option maxRecDepth 100000 in
theorem T_indexOf {l : Launch} {G : Wd} {K : List Kd} {z : Fin 2} {c : Fin 256} {μ : Mem} (hS : okS G) : Mt l G K yJ0_indexOf_0f7a4 cJ0_indexOf_0f7a4 2 (some .int) 4 [.ref (gA G (104 + z.val)), .int (nI c.val)] μ (Qi (fun v μ' => (0 ≤ v ↔ (sgB z.val).any (fun w => w == (nI c.val).toInt8.toInt32) = true) ∧ μ' = μ)) := by
  refine Mt.ofF (own := RJ0) (n := 0) (by decide +kernel) rfl [some (.ref (gA G (104 + z.val))), some (.int (nI c.val))] rfl (Nat.le_of_ble_eq_true rfl) ?_
  refine A_aload0 dJ0_indexOf_0f7a4_0 ?_
  refine A_iload1 dJ0_indexOf_0f7a4_1 ?_
  refine A_iconst (v := 0) dJ0_indexOf_0f7a4_2 (by decide) ?_
  refine A_ti2 (hS.o z) lk_J0_633 yv_J0_indexOf_7cf53 dJ0_indexOf_0f7a4_3 (T_indexOf2 hS) (by decide) (Nat.le_of_ble_eq_true rfl) (fun r_3 μ_3 h_3 => ?_)
  refine A_iret dJ0_indexOf_0f7a4_6 ?_
  exact ⟨_, rfl, h_3⟩

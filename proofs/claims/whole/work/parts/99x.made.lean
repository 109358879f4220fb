/-! the constructors: calls, the tables' words, the library's methods on the text of words -/
abbrev Qk (v : Option Value) (μ : Mem) (L : Lp) (n : Nat) : Option Value → Mem → Lp → Nat → Prop := fun r μ' L' n' => r = v ∧ μ' = μ ∧ L' = L ∧ n' = n
section BCalls
variable {l : Launch} {G : Wd} {K : List Kd} {own : String} {cc : ByteArray} {nL d : Nat} {rt : Option FieldType} {nm : String} {mc ms : Nat} {Q : Option Value → Mem → Lp → Nat → Prop} {kc sl : Nat} {L : Lp} {n : Nat} {pc : Nat} {ls : List (Option Value)} {st : List Value} {μ : Mem}
set_option maxHeartbeats 200000 in
theorem B_cI0 {y : MethodName} {cy : ByteArray} {nLy dy mcy msy kc' sl' i idx n' : Nat} {rest : List Value} {μ' : Mem} {L' : Lp} (hO : okB G) (hM : Mb l G K y cy nLy none dy mcy msy (.ref (gA G i) :: []) μ L n (Qk none μ' L' n')) (hL : Cond.methodLink own idx y ∈ wsG) (hY : Yi y cy nLy 0) (hdep : dy < d) (ek : kc + mcy = kc') (es : sl + msy = sl') (hc : kc' ≤ mc) (hs : sl' ≤ ms) (en : n' = n + mcy) (hW : (rest.map fun v => v.category).sum ≤ 8) (hd : decode cc pc = .ok (.invokespecial idx, 3)) (kk : NWk l G K own cc nL d rt nm mc ms Q kc' sl' L' n' (pc + 3) ls rest μ') : NWk l G K own cc nL d rt nm mc ms Q kc sl L n pc ls (.ref (gA G i) :: rest) μ :=
  B_invI (As := []) hO hM hL hY rfl hdep ek es hc hs (fun r a b c h => h.2.2.2.trans en) hW hd (fun r a b c h => by
    obtain ⟨h1, h2, h3, h4⟩ := h
    rw [h1, h2, h3, h4]
    exact kk)
set_option maxHeartbeats 200000 in
theorem B_cI1 {y : MethodName} {cy : ByteArray} {nLy dy mcy msy kc' sl' i idx n' : Nat} {v0 : Value} {rest : List Value} {μ' : Mem} {L' : Lp} (hO : okB G) (hM : Mb l G K y cy nLy none dy mcy msy (.ref (gA G i) :: [v0]) μ L n (Qk none μ' L' n')) (hL : Cond.methodLink own idx y ∈ wsG) (hY : Yi y cy nLy 1) (hdep : dy < d) (ek : kc + mcy = kc') (es : sl + msy = sl') (hc : kc' ≤ mc) (hs : sl' ≤ ms) (en : n' = n + mcy) (hW : (rest.map fun v => v.category).sum ≤ 8) (hd : decode cc pc = .ok (.invokespecial idx, 3)) (kk : NWk l G K own cc nL d rt nm mc ms Q kc' sl' L' n' (pc + 3) ls rest μ') : NWk l G K own cc nL d rt nm mc ms Q kc sl L n pc ls (v0 :: .ref (gA G i) :: rest) μ :=
  B_invI (As := [v0]) hO hM hL hY rfl hdep ek es hc hs (fun r a b c h => h.2.2.2.trans en) hW hd (fun r a b c h => by
    obtain ⟨h1, h2, h3, h4⟩ := h
    rw [h1, h2, h3, h4]
    exact kk)
set_option maxHeartbeats 200000 in
theorem B_cI2 {y : MethodName} {cy : ByteArray} {nLy dy mcy msy kc' sl' i idx n' : Nat} {v0 v1 : Value} {rest : List Value} {μ' : Mem} {L' : Lp} (hO : okB G) (hM : Mb l G K y cy nLy none dy mcy msy (.ref (gA G i) :: [v0, v1]) μ L n (Qk none μ' L' n')) (hL : Cond.methodLink own idx y ∈ wsG) (hY : Yi y cy nLy 2) (hdep : dy < d) (ek : kc + mcy = kc') (es : sl + msy = sl') (hc : kc' ≤ mc) (hs : sl' ≤ ms) (en : n' = n + mcy) (hW : (rest.map fun v => v.category).sum ≤ 8) (hd : decode cc pc = .ok (.invokespecial idx, 3)) (kk : NWk l G K own cc nL d rt nm mc ms Q kc' sl' L' n' (pc + 3) ls rest μ') : NWk l G K own cc nL d rt nm mc ms Q kc sl L n pc ls (v1 :: v0 :: .ref (gA G i) :: rest) μ :=
  B_invI (As := [v0, v1]) hO hM hL hY rfl hdep ek es hc hs (fun r a b c h => h.2.2.2.trans en) hW hd (fun r a b c h => by
    obtain ⟨h1, h2, h3, h4⟩ := h
    rw [h1, h2, h3, h4]
    exact kk)
set_option maxHeartbeats 200000 in
theorem B_cI3 {y : MethodName} {cy : ByteArray} {nLy dy mcy msy kc' sl' i idx n' : Nat} {v0 v1 v2 : Value} {rest : List Value} {μ' : Mem} {L' : Lp} (hO : okB G) (hM : Mb l G K y cy nLy none dy mcy msy (.ref (gA G i) :: [v0, v1, v2]) μ L n (Qk none μ' L' n')) (hL : Cond.methodLink own idx y ∈ wsG) (hY : Yi y cy nLy 3) (hdep : dy < d) (ek : kc + mcy = kc') (es : sl + msy = sl') (hc : kc' ≤ mc) (hs : sl' ≤ ms) (en : n' = n + mcy) (hW : (rest.map fun v => v.category).sum ≤ 8) (hd : decode cc pc = .ok (.invokespecial idx, 3)) (kk : NWk l G K own cc nL d rt nm mc ms Q kc' sl' L' n' (pc + 3) ls rest μ') : NWk l G K own cc nL d rt nm mc ms Q kc sl L n pc ls (v2 :: v1 :: v0 :: .ref (gA G i) :: rest) μ :=
  B_invI (As := [v0, v1, v2]) hO hM hL hY rfl hdep ek es hc hs (fun r a b c h => h.2.2.2.trans en) hW hd (fun r a b c h => by
    obtain ⟨h1, h2, h3, h4⟩ := h
    rw [h1, h2, h3, h4]
    exact kk)
set_option maxHeartbeats 200000 in
theorem B_cI4 {y : MethodName} {cy : ByteArray} {nLy dy mcy msy kc' sl' i idx n' : Nat} {v0 v1 v2 v3 : Value} {rest : List Value} {μ' : Mem} {L' : Lp} (hO : okB G) (hM : Mb l G K y cy nLy none dy mcy msy (.ref (gA G i) :: [v0, v1, v2, v3]) μ L n (Qk none μ' L' n')) (hL : Cond.methodLink own idx y ∈ wsG) (hY : Yi y cy nLy 4) (hdep : dy < d) (ek : kc + mcy = kc') (es : sl + msy = sl') (hc : kc' ≤ mc) (hs : sl' ≤ ms) (en : n' = n + mcy) (hW : (rest.map fun v => v.category).sum ≤ 8) (hd : decode cc pc = .ok (.invokespecial idx, 3)) (kk : NWk l G K own cc nL d rt nm mc ms Q kc' sl' L' n' (pc + 3) ls rest μ') : NWk l G K own cc nL d rt nm mc ms Q kc sl L n pc ls (v3 :: v2 :: v1 :: v0 :: .ref (gA G i) :: rest) μ :=
  B_invI (As := [v0, v1, v2, v3]) hO hM hL hY rfl hdep ek es hc hs (fun r a b c h => h.2.2.2.trans en) hW hd (fun r a b c h => by
    obtain ⟨h1, h2, h3, h4⟩ := h
    rw [h1, h2, h3, h4]
    exact kk)
set_option maxHeartbeats 200000 in
theorem B_cT0 {y : MethodName} {cy : ByteArray} {nLy dy q idx : Nat} {rty : Option FieldType} {v : Value} {rest : List Value} (hO : okB G) (hOb : ∀ (s : State) (H : Heap), gS G s H → va_O y.cls q (gP G) s H) (hM : Mb l G K y cy nLy rty dy 0 0 (.ref q :: []) μ L n (Qk (some v) μ L n)) (hL : Cond.methodLink own idx y ∈ wsG) (hY : Yv y cy nLy rty 0) (hdep : dy < d) (hc : kc ≤ mc) (hs : sl ≤ ms) (hW : (rest.map fun v => v.category).sum ≤ 8) (hd : decode cc pc = .ok (.invokevirtual idx, 3)) (kk : NWk l G K own cc nL d rt nm mc ms Q kc sl L n (pc + 3) ls (v :: rest) μ) : NWk l G K own cc nL d rt nm mc ms Q kc sl L n pc ls (.ref q :: rest) μ :=
  B_invT (As := []) hO hOb hM hL hY rfl hdep hc hs (fun r a b c h => h.2.2.2) hW hd (fun r a b c h => by
    obtain ⟨h1, h2, h3, h4⟩ := h
    rw [h1, h2, h3, h4]
    exact kk)
set_option maxHeartbeats 200000 in
theorem B_cT1 {y : MethodName} {cy : ByteArray} {nLy dy q idx : Nat} {rty : Option FieldType} {v0 : Value} {v : Value} {rest : List Value} (hO : okB G) (hOb : ∀ (s : State) (H : Heap), gS G s H → va_O y.cls q (gP G) s H) (hM : Mb l G K y cy nLy rty dy 0 0 (.ref q :: [v0]) μ L n (Qk (some v) μ L n)) (hL : Cond.methodLink own idx y ∈ wsG) (hY : Yv y cy nLy rty 1) (hdep : dy < d) (hc : kc ≤ mc) (hs : sl ≤ ms) (hW : (rest.map fun v => v.category).sum ≤ 8) (hd : decode cc pc = .ok (.invokevirtual idx, 3)) (kk : NWk l G K own cc nL d rt nm mc ms Q kc sl L n (pc + 3) ls (v :: rest) μ) : NWk l G K own cc nL d rt nm mc ms Q kc sl L n pc ls (v0 :: .ref q :: rest) μ :=
  B_invT (As := [v0]) hO hOb hM hL hY rfl hdep hc hs (fun r a b c h => h.2.2.2) hW hd (fun r a b c h => by
    obtain ⟨h1, h2, h3, h4⟩ := h
    rw [h1, h2, h3, h4]
    exact kk)
set_option maxHeartbeats 200000 in
theorem B_cS2 {y : MethodName} {cy : ByteArray} {nLy dy idx : Nat} {rty : Option FieldType} {v0 v1 v : Value} {rest : List Value} (hO : okB G) (hM : Mb l G K y cy nLy rty dy 0 0 [v0, v1] μ L n (Qk (some v) μ L n)) (hL : Cond.methodLink own idx y ∈ wsG) (hY : Ys y cy nLy rty 2) (hdep : dy < d) (hc : kc ≤ mc) (hs : sl ≤ ms) (hW : (rest.map fun v => v.category).sum ≤ 8) (hd : decode cc pc = .ok (.invokestatic idx, 3)) (kk : NWk l G K own cc nL d rt nm mc ms Q kc sl L n (pc + 3) ls (v :: rest) μ) : NWk l G K own cc nL d rt nm mc ms Q kc sl L n pc ls (v1 :: v0 :: rest) μ :=
  B_invS (As := [v0, v1]) hO hM hL hY rfl hdep hc hs (fun r a b c h => h.2.2.2) hW hd (fun r a b c h => by
    obtain ⟨h1, h2, h3, h4⟩ := h
    rw [h1, h2, h3, h4]
    exact kk)
set_option maxHeartbeats 200000 in
theorem B_cS3 {y : MethodName} {cy : ByteArray} {nLy dy idx : Nat} {rty : Option FieldType} {v0 v1 v2 v : Value} {rest : List Value} (hO : okB G) (hM : Mb l G K y cy nLy rty dy 0 0 [v0, v1, v2] μ L n (Qk (some v) μ L n)) (hL : Cond.methodLink own idx y ∈ wsG) (hY : Ys y cy nLy rty 3) (hdep : dy < d) (hc : kc ≤ mc) (hs : sl ≤ ms) (hW : (rest.map fun v => v.category).sum ≤ 8) (hd : decode cc pc = .ok (.invokestatic idx, 3)) (kk : NWk l G K own cc nL d rt nm mc ms Q kc sl L n (pc + 3) ls (v :: rest) μ) : NWk l G K own cc nL d rt nm mc ms Q kc sl L n pc ls (v2 :: v1 :: v0 :: rest) μ :=
  B_invS (As := [v0, v1, v2]) hO hM hL hY rfl hdep hc hs (fun r a b c h => h.2.2.2) hW hd (fun r a b c h => by
    obtain ⟨h1, h2, h3, h4⟩ := h
    rw [h1, h2, h3, h4]
    exact kk)
set_option maxHeartbeats 200000 in
theorem B_cS2v {y : MethodName} {cy : ByteArray} {nLy dy idx : Nat} {rty : Option FieldType} {v0 v1 : Value} {rest : List Value} (hO : okB G) (hM : Mb l G K y cy nLy rty dy 0 0 [v0, v1] μ L n (Qk (none) μ L n)) (hL : Cond.methodLink own idx y ∈ wsG) (hY : Ys y cy nLy rty 2) (hdep : dy < d) (hc : kc ≤ mc) (hs : sl ≤ ms) (hW : (rest.map fun v => v.category).sum ≤ 8) (hd : decode cc pc = .ok (.invokestatic idx, 3)) (kk : NWk l G K own cc nL d rt nm mc ms Q kc sl L n (pc + 3) ls (rest) μ) : NWk l G K own cc nL d rt nm mc ms Q kc sl L n pc ls (v1 :: v0 :: rest) μ :=
  B_invS (As := [v0, v1]) hO hM hL hY rfl hdep hc hs (fun r a b c h => h.2.2.2) hW hd (fun r a b c h => by
    obtain ⟨h1, h2, h3, h4⟩ := h
    rw [h1, h2, h3, h4]
    exact kk)
end BCalls
theorem ac_int : Cond.arrayClass .int ∈ wsG := wsG_1 197 (by decide +kernel) (by decide +kernel)
theorem ac_long : Cond.arrayClass .long ∈ wsG := wsG_1 136 (by decide +kernel) (by decide +kernel)
theorem ac_byte : Cond.arrayClass .byte ∈ wsG := wsG_1 135 (by decide +kernel) (by decide +kernel)
theorem ac_boolean : Cond.arrayClass .boolean ∈ wsG := wsG_7 68 (by decide +kernel) (by decide +kernel)
theorem ol_X0 : Cond.methodLink RX0 3 objectInit ∈ wsG := wsG_2 196 (by decide +kernel) (by decide +kernel)
theorem yi_X0 : Yi yX0_init cX0_init 4 3 := ⟨wsG_2 194 (by decide +kernel) (by decide +kernel), wsG_1 15 (by decide +kernel) (by decide +kernel), wsG_2 195 (by decide +kernel) (by decide +kernel), by decide +kernel, by decide, rfl⟩
theorem cn_X0 {fs : List (Nat × Nat)} (h : fs.map dfl = (List.range 6).map (fun j => defaultValue (tyX0 j))) : Cn RX11 98 0 fs := ⟨RX0, TX0, 6, tyX0, rfl, tyX0_ok, h, wsG_2 191 (by decide +kernel) (by decide +kernel), wsG_2 192 (by decide +kernel) (by decide +kernel), wsG_1 15 (by decide +kernel) (by decide +kernel), inX0⟩
theorem ol_X1 : Cond.methodLink RX1 1 objectInit ∈ wsG := wsG_2 25 (by decide +kernel) (by decide +kernel)
theorem yi_X1 : Yi yX1_init cX1_init 1 0 := ⟨wsG_2 23 (by decide +kernel) (by decide +kernel), wsG_1 11 (by decide +kernel) (by decide +kernel), wsG_2 24 (by decide +kernel) (by decide +kernel), by decide +kernel, by decide, rfl⟩
theorem cn_X1 {fs : List (Nat × Nat)} (h : fs.map dfl = (List.range 11).map (fun j => defaultValue (tyX1 j))) : Cn RX11 64 1 fs := ⟨RX1, TX1, 11, tyX1, rfl, tyX1_ok, h, wsG_2 20 (by decide +kernel) (by decide +kernel), wsG_2 21 (by decide +kernel) (by decide +kernel), wsG_1 11 (by decide +kernel) (by decide +kernel), inX1⟩
theorem ol_X2 : Cond.methodLink RX2 3 objectInit ∈ wsG := wsG_1 142 (by decide +kernel) (by decide +kernel)
theorem yi_X2 : Yi yX2_init cX2_init 1 0 := ⟨wsG_1 140 (by decide +kernel) (by decide +kernel), wsG_1 7 (by decide +kernel) (by decide +kernel), wsG_1 141 (by decide +kernel) (by decide +kernel), by decide +kernel, by decide, rfl⟩
theorem cn_X2 {fs : List (Nat × Nat)} (h : fs.map dfl = (List.range 11).map (fun j => defaultValue (tyX2 j))) : Cn RX11 26 2 fs := ⟨RX2, TX2, 11, tyX2, rfl, tyX2_ok, h, wsG_1 137 (by decide +kernel) (by decide +kernel), wsG_1 138 (by decide +kernel) (by decide +kernel), wsG_1 7 (by decide +kernel) (by decide +kernel), inX2⟩
theorem ol_X3 : Cond.methodLink RX3 3 objectInit ∈ wsG := wsG_1 203 (by decide +kernel) (by decide +kernel)
theorem yi_X3 : Yi yX3_init cX3_init 3 2 := ⟨wsG_1 201 (by decide +kernel) (by decide +kernel), wsG_1 8 (by decide +kernel) (by decide +kernel), wsG_1 202 (by decide +kernel) (by decide +kernel), by decide +kernel, by decide, rfl⟩
theorem cn_X3 {fs : List (Nat × Nat)} (h : fs.map dfl = (List.range 2).map (fun j => defaultValue (tyX3 j))) : Cn RX11 36 3 fs := ⟨RX3, TX3, 2, tyX3, rfl, tyX3_ok, h, wsG_1 198 (by decide +kernel) (by decide +kernel), wsG_1 199 (by decide +kernel) (by decide +kernel), wsG_1 8 (by decide +kernel) (by decide +kernel), inX3⟩
theorem ol_X4 : Cond.methodLink RX4 3 objectInit ∈ wsG := wsG_2 75 (by decide +kernel) (by decide +kernel)
theorem yi_X4 : Yi yX4_init cX4_init 3 2 := ⟨wsG_2 73 (by decide +kernel) (by decide +kernel), wsG_1 12 (by decide +kernel) (by decide +kernel), wsG_2 74 (by decide +kernel) (by decide +kernel), by decide +kernel, by decide, rfl⟩
theorem cn_X4 {fs : List (Nat × Nat)} (h : fs.map dfl = (List.range 8).map (fun j => defaultValue (tyX4 j))) : Cn RX11 71 4 fs := ⟨RX4, TX4, 8, tyX4, rfl, tyX4_ok, h, wsG_2 70 (by decide +kernel) (by decide +kernel), wsG_2 71 (by decide +kernel) (by decide +kernel), wsG_1 12 (by decide +kernel) (by decide +kernel), inX4⟩
theorem ol_X5 : Cond.methodLink RX5 3 objectInit ∈ wsG := wsG_2 108 (by decide +kernel) (by decide +kernel)
theorem yi_X5 : Yi yX5_init cX5_init 5 4 := ⟨wsG_2 106 (by decide +kernel) (by decide +kernel), wsG_1 13 (by decide +kernel) (by decide +kernel), wsG_2 107 (by decide +kernel) (by decide +kernel), by decide +kernel, by decide, rfl⟩
theorem cn_X5 {fs : List (Nat × Nat)} (h : fs.map dfl = (List.range 15).map (fun j => defaultValue (tyX5 j))) : Cn RX11 80 5 fs := ⟨RX5, TX5, 15, tyX5, rfl, tyX5_ok, h, wsG_2 102 (by decide +kernel) (by decide +kernel), wsG_2 104 (by decide +kernel) (by decide +kernel), wsG_1 13 (by decide +kernel) (by decide +kernel), inX5⟩
theorem ol_X6 : Cond.methodLink RX6 3 objectInit ∈ wsG := wsG_1 216 (by decide +kernel) (by decide +kernel)
theorem yi_X6 : Yi yX6_init cX6_init 1 0 := ⟨wsG_1 214 (by decide +kernel) (by decide +kernel), wsG_1 9 (by decide +kernel) (by decide +kernel), wsG_1 215 (by decide +kernel) (by decide +kernel), by decide +kernel, by decide, rfl⟩
theorem cn_X6 {fs : List (Nat × Nat)} (h : fs.map dfl = (List.range 6).map (fun j => defaultValue (tyX6 j))) : Cn RX11 45 6 fs := ⟨RX6, TX6, 6, tyX6, rfl, tyX6_ok, h, wsG_1 211 (by decide +kernel) (by decide +kernel), wsG_1 212 (by decide +kernel) (by decide +kernel), wsG_1 9 (by decide +kernel) (by decide +kernel), inX6⟩
theorem ol_X7 : Cond.methodLink RX7 3 objectInit ∈ wsG := wsG_2 6 (by decide +kernel) (by decide +kernel)
theorem yi_X7 : Yi yX7_init cX7_init 4 3 := ⟨wsG_2 4 (by decide +kernel) (by decide +kernel), wsG_1 10 (by decide +kernel) (by decide +kernel), wsG_2 5 (by decide +kernel) (by decide +kernel), by decide +kernel, by decide, rfl⟩
theorem cn_X7 {fs : List (Nat × Nat)} (h : fs.map dfl = (List.range 4).map (fun j => defaultValue (tyX7 j))) : Cn RX11 55 7 fs := ⟨RX7, TX7, 4, tyX7, rfl, tyX7_ok, h, wsG_2 1 (by decide +kernel) (by decide +kernel), wsG_2 2 (by decide +kernel) (by decide +kernel), wsG_1 10 (by decide +kernel) (by decide +kernel), inX7⟩
theorem ol_X8 : Cond.methodLink RX8 3 objectInit ∈ wsG := wsG_2 166 (by decide +kernel) (by decide +kernel)
theorem yi_X8 : Yi yX8_init cX8_init 4 3 := ⟨wsG_2 164 (by decide +kernel) (by decide +kernel), wsG_1 14 (by decide +kernel) (by decide +kernel), wsG_2 165 (by decide +kernel) (by decide +kernel), by decide +kernel, by decide, rfl⟩
theorem cn_X8 {fs : List (Nat × Nat)} (h : fs.map dfl = (List.range 7).map (fun j => defaultValue (tyX8 j))) : Cn RX11 89 8 fs := ⟨RX8, TX8, 7, tyX8, rfl, tyX8_ok, h, wsG_2 161 (by decide +kernel) (by decide +kernel), wsG_2 162 (by decide +kernel) (by decide +kernel), wsG_1 14 (by decide +kernel) (by decide +kernel), inX8⟩
theorem ol_X9 : Cond.methodLink RX9 1 objectInit ∈ wsG := wsG_1 36 (by decide +kernel) (by decide +kernel)
theorem yi_X9 : Yi yX9_init cX9_init 5 1 := ⟨wsG_1 34 (by decide +kernel) (by decide +kernel), wsG_1 2 (by decide +kernel) (by decide +kernel), wsG_1 35 (by decide +kernel) (by decide +kernel), by decide +kernel, by decide, rfl⟩
theorem cn_X9 {fs : List (Nat × Nat)} (h : fs.map dfl = (List.range 11).map (fun j => defaultValue (tyX9 j))) : Cn RX11 17 9 fs := ⟨RX9, TX9, 11, tyX9, rfl, tyX9_ok, h, wsG_1 31 (by decide +kernel) (by decide +kernel), wsG_1 32 (by decide +kernel) (by decide +kernel), wsG_1 2 (by decide +kernel) (by decide +kernel), inX9⟩
theorem ol_X10 : Cond.methodLink RX10 3 objectInit ∈ wsG := wsG_2 222 (by decide +kernel) (by decide +kernel)
theorem yi_X10 : Yi yX10_init cX10_init 4 3 := ⟨wsG_2 220 (by decide +kernel) (by decide +kernel), wsG_1 16 (by decide +kernel) (by decide +kernel), wsG_2 221 (by decide +kernel) (by decide +kernel), by decide +kernel, by decide, rfl⟩
theorem cn_X10 {fs : List (Nat × Nat)} (h : fs.map dfl = (List.range 12).map (fun j => defaultValue (tyX10 j))) : Cn RX11 105 10 fs := ⟨RX10, TX10, 12, tyX10, rfl, tyX10_ok, h, wsG_2 217 (by decide +kernel) (by decide +kernel), wsG_2 218 (by decide +kernel) (by decide +kernel), wsG_1 16 (by decide +kernel) (by decide +kernel), inX10⟩
theorem ol_X11 : Cond.methodLink RX11 1 objectInit ∈ wsG := wsG_1 28 (by decide +kernel) (by decide +kernel)
theorem yi_X11 : Yi yX11_init cX11_init 2 0 := ⟨wsG_1 26 (by decide +kernel) (by decide +kernel), wsG_1 1 (by decide +kernel) (by decide +kernel), wsG_1 27 (by decide +kernel) (by decide +kernel), by decide +kernel, by decide, rfl⟩
theorem cn_X11 {fs : List (Nat × Nat)} (h : fs.map dfl = (List.range 17).map (fun j => defaultValue (tyX11 j))) : Cn RL 7 11 fs := ⟨RX11, TX11, 17, tyX11, rfl, tyX11_ok, h, wsG_1 23 (by decide +kernel) (by decide +kernel), wsG_1 24 (by decide +kernel) (by decide +kernel), wsG_1 1 (by decide +kernel) (by decide +kernel), inX11⟩
theorem ol_X12 : Cond.methodLink RX12 1 objectInit ∈ wsG := wsG_6 63 (by decide +kernel) (by decide +kernel)
theorem yi_X12 : Yi yX12_init cX12_init 1 0 := ⟨wsG_6 61 (by decide +kernel) (by decide +kernel), wsG_1 17 (by decide +kernel) (by decide +kernel), wsG_6 62 (by decide +kernel) (by decide +kernel), by decide +kernel, by decide, rfl⟩
theorem cn_X12 {fs : List (Nat × Nat)} (h : fs.map dfl = (List.range 81).map (fun j => defaultValue (tyX12 j))) : Cn RL 10 12 fs := ⟨RX12, TX12, 81, tyX12, rfl, tyX12_ok, h, wsG_6 58 (by decide +kernel) (by decide +kernel), wsG_6 59 (by decide +kernel) (by decide +kernel), wsG_1 17 (by decide +kernel) (by decide +kernel), inX12⟩
theorem cl_X5 : Cond.classLink RX11 80 RX5 ∈ wsG := wsG_2 102 (by decide +kernel) (by decide +kernel)
theorem sl_J0_1053 : Cond.fieldLink RJ0 1053 "jdk/internal/util/Preconditions" "SIOOBE_FORMATTER" "Ljava/util/function/BiFunction;" ∈ wsG := wsG_1 63 (by decide +kernel) (by decide +kernel)
/-- the text of the words -/
def wdS : String := "box warm damp rain wind zero slope lag tire to off moved fresh on broken holiday made if say wet dry last day and or not "
def wdB : List Int32 := [98, 111, 120, 32, 119, 97, 114, 109, 32, 100, 97, 109, 112, 32, 114, 97, 105, 110, 32, 119, 105, 110, 100, 32, 122, 101, 114, 111, 32, 115, 108, 111, 112, 101, 32, 108, 97, 103, 32, 116, 105, 114, 101, 32, 116, 111, 32, 111, 102, 102, 32, 109, 111, 118, 101, 100, 32, 102, 114, 101, 115, 104, 32, 111, 110, 32, 98, 114, 111, 107, 101, 110, 32, 104, 111, 108, 105, 100, 97, 121, 32, 109, 97, 100, 101, 32, 105, 102, 32, 115, 97, 121, 32, 119, 101, 116, 32, 100, 114, 121, 32, 108, 97, 115, 116, 32, 100, 97, 121, 32, 97, 110, 100, 32, 111, 114, 32, 110, 111, 116, 32]
/-- a reference or null, by a number -/
def rfv (k : Nat) : Value := if k = 0 then .null else .ref (k - 1)
theorem rfv_or (k : Nat) : rfv k = .null ∨ ∃ a, rfv k = .ref a := by
  unfold rfv
  split
  · exact Or.inl rfl
  · exact Or.inr ⟨_, rfl⟩
def okWd (G : Wd) : Prop := ∀ (s : State) (H : Heap), gS G s H → va_Z "java/lang/String" "COMPACT_STRINGS" "Z" (.int 1) (gP G) s H ∧ gT1 (gA G 108) (gA G 109) wdB (gP G) s H ∧ vk_R "GreyBoxes$Tokens" 23 wdS (gA G 108) s ∧ vk_R "GreyBoxes$Tokens" 13 ";-" (gA G 110) s ∧ va_Z "jdk/internal/util/Preconditions" "SIOOBE_FORMATTER" "Ljava/util/function/BiFunction;" (rfv (gA G 111)) (gP G) s H ∧ va_AO RX5 s
theorem okWd_z {G : Wd} (h : okWd G) : ∀ (s : State) (H : Heap), gS G s H → va_Z "java/lang/String" "COMPACT_STRINGS" "Z" (.int 1) (gP G) s H := fun s H g => (h s H g).1
theorem okWd_o {G : Wd} (h : okWd G) : ∀ (s : State) (H : Heap), gS G s H → va_O "java/lang/String" (gA G 108) (gP G) s H := fun s H g => (h s H g).2.1.1
theorem okWd_c {G : Wd} (h : okWd G) : ∀ (s : State) (H : Heap), gS G s H → va_OF "java/lang/String" "coder" "B" (.int 0) (gA G 108) (gP G) s H := fun s H g => (h s H g).2.1.2.1
theorem okWd_v {G : Wd} (h : okWd G) : ∀ (s : State) (H : Heap), gS G s H → va_OF "java/lang/String" "value" "[B" (.ref (gA G 109)) (gA G 108) (gP G) s H := fun s H g => (h s H g).2.1.2.2.1
theorem okWd_t {G : Wd} (h : okWd G) : ∀ (s : State) (H : Heap), gS G s H → va_T .byte (gA G 109) 121 (fun j => .int (wdB.getD j 0)) (gP G) s H := fun s H g => (h s H g).2.1.2.2.2
theorem okWd_k {G : Wd} (h : okWd G) : ∀ (s : State) (H : Heap), gS G s H → vk_R "GreyBoxes$Tokens" 23 wdS (gA G 108) s := fun s H g => (h s H g).2.2.1
theorem okWd_g {G : Wd} (h : okWd G) : ∀ (s : State) (H : Heap), gS G s H → vk_R "GreyBoxes$Tokens" 13 ";-" (gA G 110) s := fun s H g => (h s H g).2.2.2.1
theorem okWd_f {G : Wd} (h : okWd G) : ∀ (s : State) (H : Heap), gS G s H → va_Z "jdk/internal/util/Preconditions" "SIOOBE_FORMATTER" "Ljava/util/function/BiFunction;" (rfv (gA G 111)) (gP G) s H := fun s H g => (h s H g).2.2.2.2.1
theorem okWd_a {G : Wd} (h : okWd G) : ∀ (s : State) (H : Heap), gS G s H → va_AO RX5 s := fun s H g => (h s H g).2.2.2.2.2
theorem wdB_f : ∀ j : Fin 121, ((wdB.getD j.val 0 &&& 255).toUInt32 % 65536).toInt32 = wdB.getD j.val 0 ∧ narrow .char (.int (wdB.getD j.val 0)) = .int (wdB.getD j.val 0) := by decide +kernel
set_option maxHeartbeats 200000 in
set_option maxRecDepth 100000 in
theorem N_isLatin1 {l : Launch} {G : Wd} {K : List Kd} {μ : Mem} {L : Lp} {n : Nat} (hO : okB G) (hW : okWd G) : Mb l G K yJ0_isLatin1_aae02 cJ0_isLatin1_aae02 1 (some .boolean) 0 0 0 [.ref (gA G 108)] μ L n (Qk (some (.int 1)) μ L n) := by
  refine Mb.of (own := RJ0) (nm := "isLatin1") (n := 0) (by decide +kernel) rfl rfl [some (.ref (gA G 108))] rfl (Nat.le_of_ble_eq_true rfl) ?_
  refine B_gets (okWd_z hW) sl_J0_38 dJ0_isLatin1_aae02_0 ?_
  refine B_if_eq (tgt := 17) dJ0_isLatin1_aae02_3 (by decide) (fun c => absurd c (by decide)) (fun _ => ?_)
  refine B_aload0 dJ0_isLatin1_aae02_6 ?_
  refine B_getO (okWd_c hW) sl_J0_15 dJ0_isLatin1_aae02_7 ?_
  refine B_if_ne (tgt := 17) dJ0_isLatin1_aae02_10 (by decide) (fun c => absurd c (by decide)) (fun _ => ?_)
  refine B_iconst (v := 1) dJ0_isLatin1_aae02_13 (by decide) ?_
  refine B_goto (tgt := 18) dJ0_isLatin1_aae02_14 (by decide) ?_
  exact B_nret hO (Nat.le_refl 0) (Nat.le_refl 0) dJ0_isLatin1_aae02_18 (by decide) ⟨rfl, rfl, rfl, rfl⟩
set_option maxHeartbeats 200000 in
set_option maxRecDepth 100000 in
theorem N_coder {l : Launch} {G : Wd} {K : List Kd} {μ : Mem} {L : Lp} {n : Nat} (hO : okB G) (hW : okWd G) : Mb l G K yJ0_coder_7d493 cJ0_coder_7d493 1 (some .byte) 0 0 0 [.ref (gA G 108)] μ L n (Qk (some (.int 0)) μ L n) := by
  refine Mb.of (own := RJ0) (nm := "coder") (n := 0) (by decide +kernel) rfl rfl [some (.ref (gA G 108))] rfl (Nat.le_of_ble_eq_true rfl) ?_
  refine B_gets (okWd_z hW) sl_J0_38 dJ0_coder_7d493_0 ?_
  refine B_if_eq (tgt := 13) dJ0_coder_7d493_3 (by decide) (fun c => absurd c (by decide)) (fun _ => ?_)
  refine B_aload0 dJ0_coder_7d493_6 ?_
  refine B_getO (okWd_c hW) sl_J0_15 dJ0_coder_7d493_7 ?_
  refine B_goto (tgt := 14) dJ0_coder_7d493_10 (by decide) ?_
  exact B_nret hO (Nat.le_refl 0) (Nat.le_refl 0) dJ0_coder_7d493_14 (by decide) ⟨rfl, rfl, rfl, rfl⟩
set_option maxHeartbeats 200000 in
set_option maxRecDepth 100000 in
theorem N_length {l : Launch} {G : Wd} {K : List Kd} {μ : Mem} {L : Lp} {n : Nat} (hO : okB G) (hW : okWd G) : Mb l G K yJ0_length_8abf5 cJ0_length_8abf5 1 (some .int) 1 0 0 [.ref (gA G 108)] μ L n (Qk (some (.int (nI 121))) μ L n) := by
  refine Mb.of (own := RJ0) (nm := "length") (n := 0) (by decide +kernel) rfl rfl [some (.ref (gA G 108))] rfl (Nat.le_of_ble_eq_true rfl) ?_
  refine B_aload0 dJ0_length_8abf5_0 ?_
  refine B_getO (okWd_v hW) sl_J0_9 dJ0_length_8abf5_1 ?_
  refine B_tln (okWd_t hW) dJ0_length_8abf5_4 ?_
  refine B_aload0 dJ0_length_8abf5_5 ?_
  refine B_cT0 hO (okWd_o hW) (N_coder hO hW) lk_J0_335 yv_J0_coder_7d493 (by decide) (Nat.le_refl 0) (Nat.le_refl 0) (Nat.le_of_ble_eq_true rfl) dJ0_length_8abf5_6 ?_
  refine B_ishr dJ0_length_8abf5_9 ?_
  refine B_val (y := nI 121) (by decide) ?_
  exact B_iret hO (Nat.le_refl 0) (Nat.le_refl 0) dJ0_length_8abf5_10 ⟨rfl, rfl, rfl, rfl⟩
set_option maxHeartbeats 200000 in
set_option maxRecDepth 100000 in
theorem N_J3_checkIndex {l : Launch} {G : Wd} {K : List Kd} {μ : Mem} {L : Lp} {n : Nat} {j : Nat} {v : Value} (hO : okB G) (hj : j < 121) (hv : v = .null ∨ ∃ a, v = .ref a) : Mb l G K yJ3_checkIndex_8e157 cJ3_checkIndex_8e157 3 (some .int) 0 0 0 [.int (nI j), .int (nI 121), v] μ L n (Qk (some (.int (nI j))) μ L n) := by
  rcases hv with rfl | ⟨a, rfl⟩
  · refine Mb.of (own := RJ3) (nm := "checkIndex") (n := 0) (by decide +kernel) rfl rfl [some (.int (nI j)), some (.int (nI 121)), some (.null)] rfl (Nat.le_of_ble_eq_true rfl) ?_
    refine B_iload0 dJ3_checkIndex_8e157_0 ?_
    refine B_if_lt (tgt := 9) dJ3_checkIndex_8e157_1 (by decide) (fun c => absurd c (Int32.not_lt.mpr (nI_pos' (by omega)))) (fun _ => ?_)
    refine B_iload0 dJ3_checkIndex_8e157_4 ?_
    refine B_iload1 dJ3_checkIndex_8e157_5 ?_
    refine B_icmp_lt (tgt := 16) dJ3_checkIndex_8e157_6 (by decide) (fun _ => ?_) (fun c => absurd (nI_lt hj (by decide)) c)
    refine B_iload0 dJ3_checkIndex_8e157_16 ?_
    exact B_iret hO (Nat.le_refl 0) (Nat.le_refl 0) dJ3_checkIndex_8e157_17 ⟨rfl, rfl, rfl, rfl⟩
  · refine Mb.of (own := RJ3) (nm := "checkIndex") (n := 0) (by decide +kernel) rfl rfl [some (.int (nI j)), some (.int (nI 121)), some (.ref a)] rfl (Nat.le_of_ble_eq_true rfl) ?_
    refine B_iload0 dJ3_checkIndex_8e157_0 ?_
    refine B_if_lt (tgt := 9) dJ3_checkIndex_8e157_1 (by decide) (fun c => absurd c (Int32.not_lt.mpr (nI_pos' (by omega)))) (fun _ => ?_)
    refine B_iload0 dJ3_checkIndex_8e157_4 ?_
    refine B_iload1 dJ3_checkIndex_8e157_5 ?_
    refine B_icmp_lt (tgt := 16) dJ3_checkIndex_8e157_6 (by decide) (fun _ => ?_) (fun c => absurd (nI_lt hj (by decide)) c)
    refine B_iload0 dJ3_checkIndex_8e157_16 ?_
    exact B_iret hO (Nat.le_refl 0) (Nat.le_refl 0) dJ3_checkIndex_8e157_17 ⟨rfl, rfl, rfl, rfl⟩
set_option maxHeartbeats 200000 in
set_option maxRecDepth 100000 in
theorem N_J0_checkIndex {l : Launch} {G : Wd} {K : List Kd} {μ : Mem} {L : Lp} {n : Nat} {j : Nat} (hO : okB G) (hW : okWd G) (hj : j < 121) : Mb l G K yJ0_checkIndex_df160 cJ0_checkIndex_df160 2 none 1 0 0 [.int (nI j), .int (nI 121)] μ L n (Qk none μ L n) := by
  refine Mb.of (own := RJ0) (nm := "checkIndex") (n := 0) (by decide +kernel) rfl rfl [some (.int (nI j)), some (.int (nI 121))] rfl (Nat.le_of_ble_eq_true rfl) ?_
  refine B_iload0 dJ0_checkIndex_df160_0 ?_
  refine B_iload1 dJ0_checkIndex_df160_1 ?_
  refine B_gets (okWd_f hW) sl_J0_1053 dJ0_checkIndex_df160_2 ?_
  refine B_cS3 hO (N_J3_checkIndex hO hj (rfv_or _)) lk_J0_1059 ys_J3_checkIndex_8e157 (by decide) (Nat.le_refl 0) (Nat.le_refl 0) (Nat.le_of_ble_eq_true rfl) dJ0_checkIndex_df160_5 ?_
  refine B_pop dJ0_checkIndex_df160_8 rfl ?_
  exact B_vret hO (Nat.le_refl 0) (Nat.le_refl 0) dJ0_checkIndex_df160_9 ⟨rfl, rfl, rfl, rfl⟩
set_option maxHeartbeats 200000 in
set_option maxRecDepth 100000 in
theorem N_J1_charAt {l : Launch} {G : Wd} {K : List Kd} {μ : Mem} {L : Lp} {n : Nat} {j : Nat} (hO : okB G) (hW : okWd G) (hj : j < 121) : Mb l G K yJ1_charAt_3b067 cJ1_charAt_3b067 2 (some .char) 2 0 0 [.ref (gA G 109), .int (nI j)] μ L n (Qk (some (.int (wdB.getD j 0))) μ L n) := by
  have hf := wdB_f ⟨j, hj⟩
  refine Mb.of (own := RJ1) (nm := "charAt") (n := 0) (by decide +kernel) rfl rfl [some (.ref (gA G 109)), some (.int (nI j))] rfl (Nat.le_of_ble_eq_true rfl) ?_
  refine B_iload1 dJ1_charAt_3b067_0 ?_
  refine B_aload0 dJ1_charAt_3b067_1 ?_
  refine B_tln (okWd_t hW) dJ1_charAt_3b067_2 ?_
  refine B_cS2v hO (N_J0_checkIndex hO hW hj) lk_J1_9 ys_J0_checkIndex_df160 (by decide) (Nat.le_refl 0) (Nat.le_refl 0) (Nat.le_of_ble_eq_true rfl) dJ1_charAt_3b067_3 ?_
  refine B_aload0 dJ1_charAt_3b067_6 ?_
  refine B_iload1 dJ1_charAt_3b067_7 ?_
  refine B_tbl (f := fun j => wdB.getD j 0) (okWd_t hW) (vp_in_nI hj (by decide)) dJ1_charAt_3b067_8 ?_
  refine B_val (y := wdB.getD j 0) (congrArg (fun z => wdB.getD z 0) (nI_c (by omega))) ?_
  refine B_sipush (v := 255) dJ1_charAt_3b067_9 (by decide) ?_
  refine B_iand dJ1_charAt_3b067_12 ?_
  refine B_i2c dJ1_charAt_3b067_13 ?_
  refine B_val hf.1 ?_
  exact B_nret hO (Nat.le_refl 0) (Nat.le_refl 0) dJ1_charAt_3b067_14 hf.2 ⟨rfl, rfl, rfl, rfl⟩
set_option maxHeartbeats 200000 in
set_option maxRecDepth 100000 in
theorem N_charAt {l : Launch} {G : Wd} {K : List Kd} {μ : Mem} {L : Lp} {n : Nat} {j : Nat} (hO : okB G) (hW : okWd G) (hj : j < 121) : Mb l G K yJ0_charAt_5068e cJ0_charAt_5068e 2 (some .char) 3 0 0 [.ref (gA G 108), .int (nI j)] μ L n (Qk (some (.int (wdB.getD j 0))) μ L n) := by
  have hf := wdB_f ⟨j, hj⟩
  refine Mb.of (own := RJ0) (nm := "charAt") (n := 0) (by decide +kernel) rfl rfl [some (.ref (gA G 108)), some (.int (nI j))] rfl (Nat.le_of_ble_eq_true rfl) ?_
  refine B_aload0 dJ0_charAt_5068e_0 ?_
  refine B_cT0 hO (okWd_o hW) (N_isLatin1 hO hW) lk_J0_492 yv_J0_isLatin1_aae02 (by decide) (Nat.le_refl 0) (Nat.le_refl 0) (Nat.le_of_ble_eq_true rfl) dJ0_charAt_5068e_1 ?_
  refine B_if_eq (tgt := 16) dJ0_charAt_5068e_4 (by decide) (fun c => absurd c (by decide)) (fun _ => ?_)
  refine B_aload0 dJ0_charAt_5068e_7 ?_
  refine B_getO (okWd_v hW) sl_J0_9 dJ0_charAt_5068e_8 ?_
  refine B_iload1 dJ0_charAt_5068e_11 ?_
  refine B_cS2 hO (N_J1_charAt hO hW hj) lk_J0_495 ys_J1_charAt_3b067 (by decide) (Nat.le_refl 0) (Nat.le_refl 0) (Nat.le_of_ble_eq_true rfl) dJ0_charAt_5068e_12 ?_
  exact B_nret hO (Nat.le_refl 0) (Nat.le_refl 0) dJ0_charAt_5068e_15 hf.2 ⟨rfl, rfl, rfl, rfl⟩
set_option maxHeartbeats 200000 in
set_option maxRecDepth 100000 in
theorem N_longer {l : Launch} {G : Wd} {K : List Kd} {μ : Mem} {L : Lp} {n : Nat} {k : Int64} {x : Int32} (hO : okB G) : Mb l G K yX9_longer cX9_longer 3 (some .long) 0 0 0 [.long k, .int x] μ L n (Qk (some (.long (k * 27 + (x - 97 + 1).toInt64))) μ L n) := by
  refine Mb.of (own := RX9) (nm := "longer") (n := 0) (by decide +kernel) rfl rfl [some (.long k), none, some (.int x)] rfl (Nat.le_of_ble_eq_true rfl) ?_
  refine B_lload0 dX9_longer_0 ?_
  refine B_ldc2 dX9_longer_1 kc_X9_39 ?_
  refine B_lmul dX9_longer_4 ?_
  refine B_iload2 dX9_longer_5 ?_
  refine B_bipush (v := 97) dX9_longer_6 (by decide) ?_
  refine B_isub dX9_longer_8 ?_
  refine B_iconst (v := 1) dX9_longer_9 (by decide) ?_
  refine B_iadd dX9_longer_10 ?_
  refine B_i2l dX9_longer_11 ?_
  refine B_ladd dX9_longer_12 ?_
  exact B_lret hO (Nat.le_refl 0) (Nat.le_refl 0) dX9_longer_13 ⟨rfl, rfl, rfl, rfl⟩
set_option maxHeartbeats 400000 in
set_option maxRecDepth 100000 in
theorem M_X2_4 {l : Launch} {G : Wd} {μ : Mem} {L : Lp} (hO : okB G) : Mb l G KC yX2_init cX2_init 1 none 1 9 119 [.ref (gA G 4)] μ L 5 (Qk none μ ((4, 10) :: (4, 9) :: (4, 8) :: (4, 7) :: (4, 6) :: (4, 5) :: (4, 4) :: (4, 3) :: (4, 2) :: L) 14) := by
  refine Mb.of (own := RX2) (nm := "<init>") (n := 0) (by decide +kernel) rfl rfl [some (.ref (gA G 4))] rfl (Nat.le_of_ble_eq_true rfl) ?_
  refine B_aload0 dX2_init_0 ?_
  refine B_obj ol_X2 (by decide) dX2_init_1 ?_
  refine B_aload0 dX2_init_4 ?_
  refine B_iconst (v := 5) dX2_init_5 (by decide) ?_
  refine B_newl (N := 5) (n' := 6) (kc' := 1) (sl' := 5) hO ac_long rfl (by decide) (by decide) (by decide) rfl rfl rfl (by decide) (by decide) dX2_init_6 ?_
  refine B_putR gf_X2_11 (fun _ _ _ h => by cases h; rfl) (fun _ => rfl) rfl (by decide) rfl rfl dX2_init_8 ?_
  refine B_aload0 dX2_init_11 ?_
  refine B_iconst (v := 5) dX2_init_12 (by decide) ?_
  refine B_newi (N := 5) (n' := 7) (kc' := 2) (sl' := 10) hO ac_int rfl (by decide) (by decide) (by decide) rfl rfl rfl (by decide) (by decide) dX2_init_13 ?_
  refine B_putR gf_X2_15 (fun _ _ _ h => by cases h; rfl) (fun _ => rfl) rfl (by decide) rfl rfl dX2_init_15 ?_
  refine B_aload0 dX2_init_18 ?_
  refine B_iconst (v := 5) dX2_init_19 (by decide) ?_
  refine B_newi (N := 5) (n' := 8) (kc' := 3) (sl' := 15) hO ac_int rfl (by decide) (by decide) (by decide) rfl rfl rfl (by decide) (by decide) dX2_init_20 ?_
  refine B_putR gf_X2_19 (fun _ _ _ h => by cases h; rfl) (fun _ => rfl) rfl (by decide) rfl rfl dX2_init_22 ?_
  refine B_aload0 dX2_init_25 ?_
  refine B_bipush (v := 20) dX2_init_26 (by decide) ?_
  refine B_newi (N := 20) (n' := 9) (kc' := 4) (sl' := 35) hO ac_int rfl (by decide) (by decide) (by decide) rfl rfl rfl (by decide) (by decide) dX2_init_28 ?_
  refine B_putR gf_X2_22 (fun _ _ _ h => by cases h; rfl) (fun _ => rfl) rfl (by decide) rfl rfl dX2_init_30 ?_
  refine B_aload0 dX2_init_33 ?_
  refine B_bipush (v := 20) dX2_init_34 (by decide) ?_
  refine B_newi (N := 20) (n' := 10) (kc' := 5) (sl' := 55) hO ac_int rfl (by decide) (by decide) (by decide) rfl rfl rfl (by decide) (by decide) dX2_init_36 ?_
  refine B_putR gf_X2_25 (fun _ _ _ h => by cases h; rfl) (fun _ => rfl) rfl (by decide) rfl rfl dX2_init_38 ?_
  refine B_aload0 dX2_init_41 ?_
  refine B_bipush (v := 16) dX2_init_42 (by decide) ?_
  refine B_newi (N := 16) (n' := 11) (kc' := 6) (sl' := 71) hO ac_int rfl (by decide) (by decide) (by decide) rfl rfl rfl (by decide) (by decide) dX2_init_44 ?_
  refine B_putR gf_X2_28 (fun _ _ _ h => by cases h; rfl) (fun _ => rfl) rfl (by decide) rfl rfl dX2_init_46 ?_
  refine B_aload0 dX2_init_49 ?_
  refine B_bipush (v := 16) dX2_init_50 (by decide) ?_
  refine B_newi (N := 16) (n' := 12) (kc' := 7) (sl' := 87) hO ac_int rfl (by decide) (by decide) (by decide) rfl rfl rfl (by decide) (by decide) dX2_init_52 ?_
  refine B_putR gf_X2_31 (fun _ _ _ h => by cases h; rfl) (fun _ => rfl) rfl (by decide) rfl rfl dX2_init_54 ?_
  refine B_aload0 dX2_init_57 ?_
  refine B_bipush (v := 16) dX2_init_58 (by decide) ?_
  refine B_newi (N := 16) (n' := 13) (kc' := 8) (sl' := 103) hO ac_int rfl (by decide) (by decide) (by decide) rfl rfl rfl (by decide) (by decide) dX2_init_60 ?_
  refine B_putR gf_X2_34 (fun _ _ _ h => by cases h; rfl) (fun _ => rfl) rfl (by decide) rfl rfl dX2_init_62 ?_
  refine B_aload0 dX2_init_65 ?_
  refine B_bipush (v := 16) dX2_init_66 (by decide) ?_
  refine B_newi (N := 16) (n' := 14) (kc' := 9) (sl' := 119) hO ac_int rfl (by decide) (by decide) (by decide) rfl rfl rfl (by decide) (by decide) dX2_init_68 ?_
  refine B_putR gf_X2_37 (fun _ _ _ h => by cases h; rfl) (fun _ => rfl) rfl (by decide) rfl rfl dX2_init_70 ?_
  exact B_vret hO (by decide) (by decide) dX2_init_73 ⟨rfl, rfl, rfl, rfl⟩
set_option maxHeartbeats 400000 in
set_option maxRecDepth 100000 in
theorem M_X2_14 {l : Launch} {G : Wd} {μ : Mem} {L : Lp} (hO : okB G) : Mb l G KC yX2_init cX2_init 1 none 1 9 119 [.ref (gA G 14)] μ L 15 (Qk none μ ((14, 10) :: (14, 9) :: (14, 8) :: (14, 7) :: (14, 6) :: (14, 5) :: (14, 4) :: (14, 3) :: (14, 2) :: L) 24) := by
  refine Mb.of (own := RX2) (nm := "<init>") (n := 0) (by decide +kernel) rfl rfl [some (.ref (gA G 14))] rfl (Nat.le_of_ble_eq_true rfl) ?_
  refine B_aload0 dX2_init_0 ?_
  refine B_obj ol_X2 (by decide) dX2_init_1 ?_
  refine B_aload0 dX2_init_4 ?_
  refine B_iconst (v := 5) dX2_init_5 (by decide) ?_
  refine B_newl (N := 5) (n' := 16) (kc' := 1) (sl' := 5) hO ac_long rfl (by decide) (by decide) (by decide) rfl rfl rfl (by decide) (by decide) dX2_init_6 ?_
  refine B_putR gf_X2_11 (fun _ _ _ h => by cases h; rfl) (fun _ => rfl) rfl (by decide) rfl rfl dX2_init_8 ?_
  refine B_aload0 dX2_init_11 ?_
  refine B_iconst (v := 5) dX2_init_12 (by decide) ?_
  refine B_newi (N := 5) (n' := 17) (kc' := 2) (sl' := 10) hO ac_int rfl (by decide) (by decide) (by decide) rfl rfl rfl (by decide) (by decide) dX2_init_13 ?_
  refine B_putR gf_X2_15 (fun _ _ _ h => by cases h; rfl) (fun _ => rfl) rfl (by decide) rfl rfl dX2_init_15 ?_
  refine B_aload0 dX2_init_18 ?_
  refine B_iconst (v := 5) dX2_init_19 (by decide) ?_
  refine B_newi (N := 5) (n' := 18) (kc' := 3) (sl' := 15) hO ac_int rfl (by decide) (by decide) (by decide) rfl rfl rfl (by decide) (by decide) dX2_init_20 ?_
  refine B_putR gf_X2_19 (fun _ _ _ h => by cases h; rfl) (fun _ => rfl) rfl (by decide) rfl rfl dX2_init_22 ?_
  refine B_aload0 dX2_init_25 ?_
  refine B_bipush (v := 20) dX2_init_26 (by decide) ?_
  refine B_newi (N := 20) (n' := 19) (kc' := 4) (sl' := 35) hO ac_int rfl (by decide) (by decide) (by decide) rfl rfl rfl (by decide) (by decide) dX2_init_28 ?_
  refine B_putR gf_X2_22 (fun _ _ _ h => by cases h; rfl) (fun _ => rfl) rfl (by decide) rfl rfl dX2_init_30 ?_
  refine B_aload0 dX2_init_33 ?_
  refine B_bipush (v := 20) dX2_init_34 (by decide) ?_
  refine B_newi (N := 20) (n' := 20) (kc' := 5) (sl' := 55) hO ac_int rfl (by decide) (by decide) (by decide) rfl rfl rfl (by decide) (by decide) dX2_init_36 ?_
  refine B_putR gf_X2_25 (fun _ _ _ h => by cases h; rfl) (fun _ => rfl) rfl (by decide) rfl rfl dX2_init_38 ?_
  refine B_aload0 dX2_init_41 ?_
  refine B_bipush (v := 16) dX2_init_42 (by decide) ?_
  refine B_newi (N := 16) (n' := 21) (kc' := 6) (sl' := 71) hO ac_int rfl (by decide) (by decide) (by decide) rfl rfl rfl (by decide) (by decide) dX2_init_44 ?_
  refine B_putR gf_X2_28 (fun _ _ _ h => by cases h; rfl) (fun _ => rfl) rfl (by decide) rfl rfl dX2_init_46 ?_
  refine B_aload0 dX2_init_49 ?_
  refine B_bipush (v := 16) dX2_init_50 (by decide) ?_
  refine B_newi (N := 16) (n' := 22) (kc' := 7) (sl' := 87) hO ac_int rfl (by decide) (by decide) (by decide) rfl rfl rfl (by decide) (by decide) dX2_init_52 ?_
  refine B_putR gf_X2_31 (fun _ _ _ h => by cases h; rfl) (fun _ => rfl) rfl (by decide) rfl rfl dX2_init_54 ?_
  refine B_aload0 dX2_init_57 ?_
  refine B_bipush (v := 16) dX2_init_58 (by decide) ?_
  refine B_newi (N := 16) (n' := 23) (kc' := 8) (sl' := 103) hO ac_int rfl (by decide) (by decide) (by decide) rfl rfl rfl (by decide) (by decide) dX2_init_60 ?_
  refine B_putR gf_X2_34 (fun _ _ _ h => by cases h; rfl) (fun _ => rfl) rfl (by decide) rfl rfl dX2_init_62 ?_
  refine B_aload0 dX2_init_65 ?_
  refine B_bipush (v := 16) dX2_init_66 (by decide) ?_
  refine B_newi (N := 16) (n' := 24) (kc' := 9) (sl' := 119) hO ac_int rfl (by decide) (by decide) (by decide) rfl rfl rfl (by decide) (by decide) dX2_init_68 ?_
  refine B_putR gf_X2_37 (fun _ _ _ h => by cases h; rfl) (fun _ => rfl) rfl (by decide) rfl rfl dX2_init_70 ?_
  exact B_vret hO (by decide) (by decide) dX2_init_73 ⟨rfl, rfl, rfl, rfl⟩
set_option maxHeartbeats 400000 in
set_option maxRecDepth 100000 in
theorem M_X3_24 {l : Launch} {G : Wd} {μ : Mem} {L : Lp} (hO : okB G) : Mb l G KC yX3_init cX3_init 3 none 1 0 0 [.ref (gA G 24), .ref (gA G 2), .ref (gA G 14)] μ L 25 (Qk none μ ((24, 1) :: (24, 0) :: L) 25) := by
  refine Mb.of (own := RX3) (nm := "<init>") (n := 0) (by decide +kernel) rfl rfl [some (.ref (gA G 24)), some (.ref (gA G 2)), some (.ref (gA G 14))] rfl (Nat.le_of_ble_eq_true rfl) ?_
  refine B_aload0 dX3_init_0 ?_
  refine B_obj ol_X3 (by decide) dX3_init_1 ?_
  refine B_aload0 dX3_init_4 ?_
  refine B_aload1 dX3_init_5 ?_
  refine B_putR gf_X3_9 (fun _ _ _ h => by cases h; rfl) (fun _ => rfl) rfl (by decide) rfl rfl dX3_init_6 ?_
  refine B_aload0 dX3_init_9 ?_
  refine B_aload2 dX3_init_10 ?_
  refine B_putR gf_X3_15 (fun _ _ _ h => by cases h; rfl) (fun _ => rfl) rfl (by decide) rfl rfl dX3_init_11 ?_
  exact B_vret hO (by decide) (by decide) dX3_init_14 ⟨rfl, rfl, rfl, rfl⟩
set_option maxHeartbeats 400000 in
set_option maxRecDepth 100000 in
theorem M_X6_25 {l : Launch} {G : Wd} {μ : Mem} {L : Lp} (hO : okB G) : Mb l G KC yX6_init cX6_init 1 none 1 4 572 [.ref (gA G 25)] μ L 26 (Qk none μ ((25, 5) :: (25, 4) :: (25, 2) :: (25, 1) :: L) 30) := by
  refine Mb.of (own := RX6) (nm := "<init>") (n := 0) (by decide +kernel) rfl rfl [some (.ref (gA G 25))] rfl (Nat.le_of_ble_eq_true rfl) ?_
  refine B_aload0 dX6_init_0 ?_
  refine B_obj ol_X6 (by decide) dX6_init_1 ?_
  refine B_aload0 dX6_init_4 ?_
  refine B_bipush (v := 6) dX6_init_5 (by decide) ?_
  refine B_newi (N := 6) (n' := 27) (kc' := 1) (sl' := 6) hO ac_int rfl (by decide) (by decide) (by decide) rfl rfl rfl (by decide) (by decide) dX6_init_7 ?_
  refine B_putR gf_X6_11 (fun _ _ _ h => by cases h; rfl) (fun _ => rfl) rfl (by decide) rfl rfl dX6_init_9 ?_
  refine B_aload0 dX6_init_12 ?_
  refine B_bipush (v := 6) dX6_init_13 (by decide) ?_
  refine B_newi (N := 6) (n' := 28) (kc' := 2) (sl' := 12) hO ac_int rfl (by decide) (by decide) (by decide) rfl rfl rfl (by decide) (by decide) dX6_init_15 ?_
  refine B_putR gf_X6_15 (fun _ _ _ h => by cases h; rfl) (fun _ => rfl) rfl (by decide) rfl rfl dX6_init_17 ?_
  refine B_aload0 dX6_init_20 ?_
  refine B_sipush (v := 500) dX6_init_21 (by decide) ?_
  refine B_newi (N := 500) (n' := 29) (kc' := 3) (sl' := 512) hO ac_int rfl (by decide) (by decide) (by decide) rfl rfl rfl (by decide) (by decide) dX6_init_24 ?_
  refine B_putR gf_X6_18 (fun _ _ _ h => by cases h; rfl) (fun _ => rfl) rfl (by decide) rfl rfl dX6_init_26 ?_
  refine B_aload0 dX6_init_29 ?_
  refine B_bipush (v := 60) dX6_init_30 (by decide) ?_
  refine B_newi (N := 60) (n' := 30) (kc' := 4) (sl' := 572) hO ac_int rfl (by decide) (by decide) (by decide) rfl rfl rfl (by decide) (by decide) dX6_init_32 ?_
  refine B_putR gf_X6_21 (fun _ _ _ h => by cases h; rfl) (fun _ => rfl) rfl (by decide) rfl rfl dX6_init_34 ?_
  exact B_vret hO (by decide) (by decide) dX6_init_37 ⟨rfl, rfl, rfl, rfl⟩
set_option maxHeartbeats 400000 in
set_option maxRecDepth 100000 in
theorem M_X6_30 {l : Launch} {G : Wd} {μ : Mem} {L : Lp} (hO : okB G) : Mb l G KC yX6_init cX6_init 1 none 1 4 572 [.ref (gA G 30)] μ L 31 (Qk none μ ((30, 5) :: (30, 4) :: (30, 2) :: (30, 1) :: L) 35) := by
  refine Mb.of (own := RX6) (nm := "<init>") (n := 0) (by decide +kernel) rfl rfl [some (.ref (gA G 30))] rfl (Nat.le_of_ble_eq_true rfl) ?_
  refine B_aload0 dX6_init_0 ?_
  refine B_obj ol_X6 (by decide) dX6_init_1 ?_
  refine B_aload0 dX6_init_4 ?_
  refine B_bipush (v := 6) dX6_init_5 (by decide) ?_
  refine B_newi (N := 6) (n' := 32) (kc' := 1) (sl' := 6) hO ac_int rfl (by decide) (by decide) (by decide) rfl rfl rfl (by decide) (by decide) dX6_init_7 ?_
  refine B_putR gf_X6_11 (fun _ _ _ h => by cases h; rfl) (fun _ => rfl) rfl (by decide) rfl rfl dX6_init_9 ?_
  refine B_aload0 dX6_init_12 ?_
  refine B_bipush (v := 6) dX6_init_13 (by decide) ?_
  refine B_newi (N := 6) (n' := 33) (kc' := 2) (sl' := 12) hO ac_int rfl (by decide) (by decide) (by decide) rfl rfl rfl (by decide) (by decide) dX6_init_15 ?_
  refine B_putR gf_X6_15 (fun _ _ _ h => by cases h; rfl) (fun _ => rfl) rfl (by decide) rfl rfl dX6_init_17 ?_
  refine B_aload0 dX6_init_20 ?_
  refine B_sipush (v := 500) dX6_init_21 (by decide) ?_
  refine B_newi (N := 500) (n' := 34) (kc' := 3) (sl' := 512) hO ac_int rfl (by decide) (by decide) (by decide) rfl rfl rfl (by decide) (by decide) dX6_init_24 ?_
  refine B_putR gf_X6_18 (fun _ _ _ h => by cases h; rfl) (fun _ => rfl) rfl (by decide) rfl rfl dX6_init_26 ?_
  refine B_aload0 dX6_init_29 ?_
  refine B_bipush (v := 60) dX6_init_30 (by decide) ?_
  refine B_newi (N := 60) (n' := 35) (kc' := 4) (sl' := 572) hO ac_int rfl (by decide) (by decide) (by decide) rfl rfl rfl (by decide) (by decide) dX6_init_32 ?_
  refine B_putR gf_X6_21 (fun _ _ _ h => by cases h; rfl) (fun _ => rfl) rfl (by decide) rfl rfl dX6_init_34 ?_
  exact B_vret hO (by decide) (by decide) dX6_init_37 ⟨rfl, rfl, rfl, rfl⟩
set_option maxHeartbeats 400000 in
set_option maxRecDepth 100000 in
theorem M_X7_35 {l : Launch} {G : Wd} {μ : Mem} {L : Lp} (hO : okB G) : Mb l G KC yX7_init cX7_init 4 none 1 0 0 [.ref (gA G 35), .ref (gA G 2), .ref (gA G 4), .ref (gA G 30)] μ L 36 (Qk none μ ((35, 2) :: (35, 1) :: (35, 0) :: L) 36) := by
  refine Mb.of (own := RX7) (nm := "<init>") (n := 0) (by decide +kernel) rfl rfl [some (.ref (gA G 35)), some (.ref (gA G 2)), some (.ref (gA G 4)), some (.ref (gA G 30))] rfl (Nat.le_of_ble_eq_true rfl) ?_
  refine B_aload0 dX7_init_0 ?_
  refine B_obj ol_X7 (by decide) dX7_init_1 ?_
  refine B_aload0 dX7_init_4 ?_
  refine B_aload1 dX7_init_5 ?_
  refine B_putR gf_X7_9 (fun _ _ _ h => by cases h; rfl) (fun _ => rfl) rfl (by decide) rfl rfl dX7_init_6 ?_
  refine B_aload0 dX7_init_9 ?_
  refine B_aload2 dX7_init_10 ?_
  refine B_putR gf_X7_15 (fun _ _ _ h => by cases h; rfl) (fun _ => rfl) rfl (by decide) rfl rfl dX7_init_11 ?_
  refine B_aload0 dX7_init_14 ?_
  refine B_aload3 dX7_init_15 ?_
  refine B_putR gf_X7_19 (fun _ _ _ h => by cases h; rfl) (fun _ => rfl) rfl (by decide) rfl rfl dX7_init_16 ?_
  exact B_vret hO (by decide) (by decide) dX7_init_19 ⟨rfl, rfl, rfl, rfl⟩
set_option maxHeartbeats 400000 in
set_option maxRecDepth 100000 in
theorem M_X1_36 {l : Launch} {G : Wd} {μ : Mem} {L : Lp} (hO : okB G) : Mb l G KC yX1_init cX1_init 1 none 1 6 1800 [.ref (gA G 36)] μ L 37 (Qk none μ ((36, 10) :: (36, 9) :: (36, 8) :: (36, 7) :: (36, 6) :: (36, 5) :: L) 43) := by
  refine Mb.of (own := RX1) (nm := "<init>") (n := 0) (by decide +kernel) rfl rfl [some (.ref (gA G 36))] rfl (Nat.le_of_ble_eq_true rfl) ?_
  refine B_aload0 dX1_init_0 ?_
  refine B_obj ol_X1 (by decide) dX1_init_1 ?_
  refine B_aload0 dX1_init_4 ?_
  refine B_sipush (v := 300) dX1_init_5 (by decide) ?_
  refine B_newi (N := 300) (n' := 38) (kc' := 1) (sl' := 300) hO ac_int rfl (by decide) (by decide) (by decide) rfl rfl rfl (by decide) (by decide) dX1_init_8 ?_
  refine B_putR gf_X1_9 (fun _ _ _ h => by cases h; rfl) (fun _ => rfl) rfl (by decide) rfl rfl dX1_init_10 ?_
  refine B_aload0 dX1_init_13 ?_
  refine B_sipush (v := 300) dX1_init_14 (by decide) ?_
  refine B_newi (N := 300) (n' := 39) (kc' := 2) (sl' := 600) hO ac_int rfl (by decide) (by decide) (by decide) rfl rfl rfl (by decide) (by decide) dX1_init_17 ?_
  refine B_putR gf_X1_13 (fun _ _ _ h => by cases h; rfl) (fun _ => rfl) rfl (by decide) rfl rfl dX1_init_19 ?_
  refine B_aload0 dX1_init_22 ?_
  refine B_sipush (v := 300) dX1_init_23 (by decide) ?_
  refine B_newi (N := 300) (n' := 40) (kc' := 3) (sl' := 900) hO ac_int rfl (by decide) (by decide) (by decide) rfl rfl rfl (by decide) (by decide) dX1_init_26 ?_
  refine B_putR gf_X1_16 (fun _ _ _ h => by cases h; rfl) (fun _ => rfl) rfl (by decide) rfl rfl dX1_init_28 ?_
  refine B_aload0 dX1_init_31 ?_
  refine B_sipush (v := 300) dX1_init_32 (by decide) ?_
  refine B_newi (N := 300) (n' := 41) (kc' := 4) (sl' := 1200) hO ac_int rfl (by decide) (by decide) (by decide) rfl rfl rfl (by decide) (by decide) dX1_init_35 ?_
  refine B_putR gf_X1_19 (fun _ _ _ h => by cases h; rfl) (fun _ => rfl) rfl (by decide) rfl rfl dX1_init_37 ?_
  refine B_aload0 dX1_init_40 ?_
  refine B_sipush (v := 300) dX1_init_41 (by decide) ?_
  refine B_newi (N := 300) (n' := 42) (kc' := 5) (sl' := 1500) hO ac_int rfl (by decide) (by decide) (by decide) rfl rfl rfl (by decide) (by decide) dX1_init_44 ?_
  refine B_putR gf_X1_22 (fun _ _ _ h => by cases h; rfl) (fun _ => rfl) rfl (by decide) rfl rfl dX1_init_46 ?_
  refine B_aload0 dX1_init_49 ?_
  refine B_sipush (v := 300) dX1_init_50 (by decide) ?_
  refine B_newi (N := 300) (n' := 43) (kc' := 6) (sl' := 1800) hO ac_int rfl (by decide) (by decide) (by decide) rfl rfl rfl (by decide) (by decide) dX1_init_53 ?_
  refine B_putR gf_X1_25 (fun _ _ _ h => by cases h; rfl) (fun _ => rfl) rfl (by decide) rfl rfl dX1_init_55 ?_
  exact B_vret hO (by decide) (by decide) dX1_init_58 ⟨rfl, rfl, rfl, rfl⟩
set_option maxHeartbeats 400000 in
set_option maxRecDepth 100000 in
theorem M_X4_43 {l : Launch} {G : Wd} {μ : Mem} {L : Lp} (hO : okB G) : Mb l G KC yX4_init cX4_init 3 none 1 3 840 [.ref (gA G 43), .ref (gA G 36), .ref (gA G 4)] μ L 44 (Qk none μ ((43, 4) :: (43, 3) :: (43, 2) :: (43, 1) :: (43, 0) :: L) 47) := by
  refine Mb.of (own := RX4) (nm := "<init>") (n := 0) (by decide +kernel) rfl rfl [some (.ref (gA G 43)), some (.ref (gA G 36)), some (.ref (gA G 4))] rfl (Nat.le_of_ble_eq_true rfl) ?_
  refine B_aload0 dX4_init_0 ?_
  refine B_obj ol_X4 (by decide) dX4_init_1 ?_
  refine B_aload0 dX4_init_4 ?_
  refine B_aload1 dX4_init_5 ?_
  refine B_putR gf_X4_9 (fun _ _ _ h => by cases h; rfl) (fun _ => rfl) rfl (by decide) rfl rfl dX4_init_6 ?_
  refine B_aload0 dX4_init_9 ?_
  refine B_aload2 dX4_init_10 ?_
  refine B_putR gf_X4_15 (fun _ _ _ h => by cases h; rfl) (fun _ => rfl) rfl (by decide) rfl rfl dX4_init_11 ?_
  refine B_aload0 dX4_init_14 ?_
  refine B_sipush (v := 240) dX4_init_15 (by decide) ?_
  refine B_newi (N := 240) (n' := 45) (kc' := 1) (sl' := 240) hO ac_int rfl (by decide) (by decide) (by decide) rfl rfl rfl (by decide) (by decide) dX4_init_18 ?_
  refine B_putR gf_X4_19 (fun _ _ _ h => by cases h; rfl) (fun _ => rfl) rfl (by decide) rfl rfl dX4_init_20 ?_
  refine B_aload0 dX4_init_23 ?_
  refine B_sipush (v := 300) dX4_init_24 (by decide) ?_
  refine B_newi (N := 300) (n' := 46) (kc' := 2) (sl' := 540) hO ac_int rfl (by decide) (by decide) (by decide) rfl rfl rfl (by decide) (by decide) dX4_init_27 ?_
  refine B_putR gf_X4_25 (fun _ _ _ h => by cases h; rfl) (fun _ => rfl) rfl (by decide) rfl rfl dX4_init_29 ?_
  refine B_aload0 dX4_init_32 ?_
  refine B_sipush (v := 300) dX4_init_33 (by decide) ?_
  refine B_newi (N := 300) (n' := 47) (kc' := 3) (sl' := 840) hO ac_int rfl (by decide) (by decide) (by decide) rfl rfl rfl (by decide) (by decide) dX4_init_36 ?_
  refine B_putR gf_X4_28 (fun _ _ _ h => by cases h; rfl) (fun _ => rfl) rfl (by decide) rfl rfl dX4_init_38 ?_
  exact B_vret hO (by decide) (by decide) dX4_init_41 ⟨rfl, rfl, rfl, rfl⟩
set_option maxHeartbeats 400000 in
set_option maxRecDepth 100000 in
theorem M_X5_48 {l : Launch} {G : Wd} {μ : Mem} {L : Lp} (hO : okB G) : Mb l G KC yX5_init cX5_init 5 none 1 4 1440 [.ref (gA G 48), .ref (gA G 36), .ref (gA G 43), .ref (gA G 4), .int 0] μ L 49 (Qk none (wI μ 48 3 0) ((48, 11) :: (48, 10) :: (48, 8) :: (48, 7) :: (48, 2) :: (48, 1) :: (48, 0) :: L) 53) := by
  refine Mb.of (own := RX5) (nm := "<init>") (n := 0) (by decide +kernel) rfl rfl [some (.ref (gA G 48)), some (.ref (gA G 36)), some (.ref (gA G 43)), some (.ref (gA G 4)), some (.int 0)] rfl (Nat.le_of_ble_eq_true rfl) ?_
  refine B_aload0 dX5_init_0 ?_
  refine B_obj ol_X5 (by decide) dX5_init_1 ?_
  refine B_aload0 dX5_init_4 ?_
  refine B_aload1 dX5_init_5 ?_
  refine B_putR gf_X5_9 (fun _ _ _ h => by cases h; rfl) (fun _ => rfl) rfl (by decide) rfl rfl dX5_init_6 ?_
  refine B_aload0 dX5_init_9 ?_
  refine B_aload2 dX5_init_10 ?_
  refine B_putR gf_X5_15 (fun _ _ _ h => by cases h; rfl) (fun _ => rfl) rfl (by decide) rfl rfl dX5_init_11 ?_
  refine B_aload0 dX5_init_14 ?_
  refine B_aload3 dX5_init_15 ?_
  refine B_putR gf_X5_19 (fun _ _ _ h => by cases h; rfl) (fun _ => rfl) rfl (by decide) rfl rfl dX5_init_16 ?_
  refine B_aload0 dX5_init_19 ?_
  refine B_iload4 dX5_init_20 ?_
  refine B_putI gf_X5_23 (fun _ _ _ h => by cases h; rfl) (fun _ => rfl) rfl (by decide) dX5_init_22 ?_
  refine B_aload0 dX5_init_25 ?_
  refine B_bipush (v := 60) dX5_init_26 (by decide) ?_
  refine B_newi (N := 60) (n' := 50) (kc' := 1) (sl' := 60) hO ac_int rfl (by decide) (by decide) (by decide) rfl rfl rfl (by decide) (by decide) dX5_init_28 ?_
  refine B_putR gf_X5_27 (fun _ _ _ h => by cases h; rfl) (fun _ => rfl) rfl (by decide) rfl rfl dX5_init_30 ?_
  refine B_aload0 dX5_init_33 ?_
  refine B_bipush (v := 60) dX5_init_34 (by decide) ?_
  refine B_newi (N := 60) (n' := 51) (kc' := 2) (sl' := 120) hO ac_int rfl (by decide) (by decide) (by decide) rfl rfl rfl (by decide) (by decide) dX5_init_36 ?_
  refine B_putR gf_X5_31 (fun _ _ _ h => by cases h; rfl) (fun _ => rfl) rfl (by decide) rfl rfl dX5_init_38 ?_
  refine B_aload0 dX5_init_41 ?_
  refine B_sipush (v := 660) dX5_init_42 (by decide) ?_
  refine B_newi (N := 660) (n' := 52) (kc' := 3) (sl' := 780) hO ac_int rfl (by decide) (by decide) (by decide) rfl rfl rfl (by decide) (by decide) dX5_init_45 ?_
  refine B_putR gf_X5_34 (fun _ _ _ h => by cases h; rfl) (fun _ => rfl) rfl (by decide) rfl rfl dX5_init_47 ?_
  refine B_aload0 dX5_init_50 ?_
  refine B_sipush (v := 660) dX5_init_51 (by decide) ?_
  refine B_newi (N := 660) (n' := 53) (kc' := 4) (sl' := 1440) hO ac_int rfl (by decide) (by decide) (by decide) rfl rfl rfl (by decide) (by decide) dX5_init_54 ?_
  refine B_putR gf_X5_37 (fun _ _ _ h => by cases h; rfl) (fun _ => rfl) rfl (by decide) rfl rfl dX5_init_56 ?_
  exact B_vret hO (by decide) (by decide) dX5_init_59 ⟨rfl, rfl, rfl, rfl⟩
set_option maxHeartbeats 400000 in
set_option maxRecDepth 100000 in
theorem M_X5_53 {l : Launch} {G : Wd} {μ : Mem} {L : Lp} (hO : okB G) : Mb l G KC yX5_init cX5_init 5 none 1 4 1440 [.ref (gA G 53), .ref (gA G 36), .ref (gA G 43), .ref (gA G 4), .int 1] μ L 54 (Qk none (wI μ 53 3 1) ((53, 11) :: (53, 10) :: (53, 8) :: (53, 7) :: (53, 2) :: (53, 1) :: (53, 0) :: L) 58) := by
  refine Mb.of (own := RX5) (nm := "<init>") (n := 0) (by decide +kernel) rfl rfl [some (.ref (gA G 53)), some (.ref (gA G 36)), some (.ref (gA G 43)), some (.ref (gA G 4)), some (.int 1)] rfl (Nat.le_of_ble_eq_true rfl) ?_
  refine B_aload0 dX5_init_0 ?_
  refine B_obj ol_X5 (by decide) dX5_init_1 ?_
  refine B_aload0 dX5_init_4 ?_
  refine B_aload1 dX5_init_5 ?_
  refine B_putR gf_X5_9 (fun _ _ _ h => by cases h; rfl) (fun _ => rfl) rfl (by decide) rfl rfl dX5_init_6 ?_
  refine B_aload0 dX5_init_9 ?_
  refine B_aload2 dX5_init_10 ?_
  refine B_putR gf_X5_15 (fun _ _ _ h => by cases h; rfl) (fun _ => rfl) rfl (by decide) rfl rfl dX5_init_11 ?_
  refine B_aload0 dX5_init_14 ?_
  refine B_aload3 dX5_init_15 ?_
  refine B_putR gf_X5_19 (fun _ _ _ h => by cases h; rfl) (fun _ => rfl) rfl (by decide) rfl rfl dX5_init_16 ?_
  refine B_aload0 dX5_init_19 ?_
  refine B_iload4 dX5_init_20 ?_
  refine B_putI gf_X5_23 (fun _ _ _ h => by cases h; rfl) (fun _ => rfl) rfl (by decide) dX5_init_22 ?_
  refine B_aload0 dX5_init_25 ?_
  refine B_bipush (v := 60) dX5_init_26 (by decide) ?_
  refine B_newi (N := 60) (n' := 55) (kc' := 1) (sl' := 60) hO ac_int rfl (by decide) (by decide) (by decide) rfl rfl rfl (by decide) (by decide) dX5_init_28 ?_
  refine B_putR gf_X5_27 (fun _ _ _ h => by cases h; rfl) (fun _ => rfl) rfl (by decide) rfl rfl dX5_init_30 ?_
  refine B_aload0 dX5_init_33 ?_
  refine B_bipush (v := 60) dX5_init_34 (by decide) ?_
  refine B_newi (N := 60) (n' := 56) (kc' := 2) (sl' := 120) hO ac_int rfl (by decide) (by decide) (by decide) rfl rfl rfl (by decide) (by decide) dX5_init_36 ?_
  refine B_putR gf_X5_31 (fun _ _ _ h => by cases h; rfl) (fun _ => rfl) rfl (by decide) rfl rfl dX5_init_38 ?_
  refine B_aload0 dX5_init_41 ?_
  refine B_sipush (v := 660) dX5_init_42 (by decide) ?_
  refine B_newi (N := 660) (n' := 57) (kc' := 3) (sl' := 780) hO ac_int rfl (by decide) (by decide) (by decide) rfl rfl rfl (by decide) (by decide) dX5_init_45 ?_
  refine B_putR gf_X5_34 (fun _ _ _ h => by cases h; rfl) (fun _ => rfl) rfl (by decide) rfl rfl dX5_init_47 ?_
  refine B_aload0 dX5_init_50 ?_
  refine B_sipush (v := 660) dX5_init_51 (by decide) ?_
  refine B_newi (N := 660) (n' := 58) (kc' := 4) (sl' := 1440) hO ac_int rfl (by decide) (by decide) (by decide) rfl rfl rfl (by decide) (by decide) dX5_init_54 ?_
  refine B_putR gf_X5_37 (fun _ _ _ h => by cases h; rfl) (fun _ => rfl) rfl (by decide) rfl rfl dX5_init_56 ?_
  exact B_vret hO (by decide) (by decide) dX5_init_59 ⟨rfl, rfl, rfl, rfl⟩
set_option maxHeartbeats 400000 in
set_option maxRecDepth 100000 in
theorem M_X5_58 {l : Launch} {G : Wd} {μ : Mem} {L : Lp} (hO : okB G) : Mb l G KC yX5_init cX5_init 5 none 1 4 1440 [.ref (gA G 58), .ref (gA G 36), .ref (gA G 43), .ref (gA G 4), .int 2] μ L 59 (Qk none (wI μ 58 3 2) ((58, 11) :: (58, 10) :: (58, 8) :: (58, 7) :: (58, 2) :: (58, 1) :: (58, 0) :: L) 63) := by
  refine Mb.of (own := RX5) (nm := "<init>") (n := 0) (by decide +kernel) rfl rfl [some (.ref (gA G 58)), some (.ref (gA G 36)), some (.ref (gA G 43)), some (.ref (gA G 4)), some (.int 2)] rfl (Nat.le_of_ble_eq_true rfl) ?_
  refine B_aload0 dX5_init_0 ?_
  refine B_obj ol_X5 (by decide) dX5_init_1 ?_
  refine B_aload0 dX5_init_4 ?_
  refine B_aload1 dX5_init_5 ?_
  refine B_putR gf_X5_9 (fun _ _ _ h => by cases h; rfl) (fun _ => rfl) rfl (by decide) rfl rfl dX5_init_6 ?_
  refine B_aload0 dX5_init_9 ?_
  refine B_aload2 dX5_init_10 ?_
  refine B_putR gf_X5_15 (fun _ _ _ h => by cases h; rfl) (fun _ => rfl) rfl (by decide) rfl rfl dX5_init_11 ?_
  refine B_aload0 dX5_init_14 ?_
  refine B_aload3 dX5_init_15 ?_
  refine B_putR gf_X5_19 (fun _ _ _ h => by cases h; rfl) (fun _ => rfl) rfl (by decide) rfl rfl dX5_init_16 ?_
  refine B_aload0 dX5_init_19 ?_
  refine B_iload4 dX5_init_20 ?_
  refine B_putI gf_X5_23 (fun _ _ _ h => by cases h; rfl) (fun _ => rfl) rfl (by decide) dX5_init_22 ?_
  refine B_aload0 dX5_init_25 ?_
  refine B_bipush (v := 60) dX5_init_26 (by decide) ?_
  refine B_newi (N := 60) (n' := 60) (kc' := 1) (sl' := 60) hO ac_int rfl (by decide) (by decide) (by decide) rfl rfl rfl (by decide) (by decide) dX5_init_28 ?_
  refine B_putR gf_X5_27 (fun _ _ _ h => by cases h; rfl) (fun _ => rfl) rfl (by decide) rfl rfl dX5_init_30 ?_
  refine B_aload0 dX5_init_33 ?_
  refine B_bipush (v := 60) dX5_init_34 (by decide) ?_
  refine B_newi (N := 60) (n' := 61) (kc' := 2) (sl' := 120) hO ac_int rfl (by decide) (by decide) (by decide) rfl rfl rfl (by decide) (by decide) dX5_init_36 ?_
  refine B_putR gf_X5_31 (fun _ _ _ h => by cases h; rfl) (fun _ => rfl) rfl (by decide) rfl rfl dX5_init_38 ?_
  refine B_aload0 dX5_init_41 ?_
  refine B_sipush (v := 660) dX5_init_42 (by decide) ?_
  refine B_newi (N := 660) (n' := 62) (kc' := 3) (sl' := 780) hO ac_int rfl (by decide) (by decide) (by decide) rfl rfl rfl (by decide) (by decide) dX5_init_45 ?_
  refine B_putR gf_X5_34 (fun _ _ _ h => by cases h; rfl) (fun _ => rfl) rfl (by decide) rfl rfl dX5_init_47 ?_
  refine B_aload0 dX5_init_50 ?_
  refine B_sipush (v := 660) dX5_init_51 (by decide) ?_
  refine B_newi (N := 660) (n' := 63) (kc' := 4) (sl' := 1440) hO ac_int rfl (by decide) (by decide) (by decide) rfl rfl rfl (by decide) (by decide) dX5_init_54 ?_
  refine B_putR gf_X5_37 (fun _ _ _ h => by cases h; rfl) (fun _ => rfl) rfl (by decide) rfl rfl dX5_init_56 ?_
  exact B_vret hO (by decide) (by decide) dX5_init_59 ⟨rfl, rfl, rfl, rfl⟩
set_option maxHeartbeats 400000 in
set_option maxRecDepth 100000 in
theorem M_X5_63 {l : Launch} {G : Wd} {μ : Mem} {L : Lp} (hO : okB G) : Mb l G KC yX5_init cX5_init 5 none 1 4 1440 [.ref (gA G 63), .ref (gA G 36), .ref (gA G 43), .ref (gA G 4), .int 3] μ L 64 (Qk none (wI μ 63 3 3) ((63, 11) :: (63, 10) :: (63, 8) :: (63, 7) :: (63, 2) :: (63, 1) :: (63, 0) :: L) 68) := by
  refine Mb.of (own := RX5) (nm := "<init>") (n := 0) (by decide +kernel) rfl rfl [some (.ref (gA G 63)), some (.ref (gA G 36)), some (.ref (gA G 43)), some (.ref (gA G 4)), some (.int 3)] rfl (Nat.le_of_ble_eq_true rfl) ?_
  refine B_aload0 dX5_init_0 ?_
  refine B_obj ol_X5 (by decide) dX5_init_1 ?_
  refine B_aload0 dX5_init_4 ?_
  refine B_aload1 dX5_init_5 ?_
  refine B_putR gf_X5_9 (fun _ _ _ h => by cases h; rfl) (fun _ => rfl) rfl (by decide) rfl rfl dX5_init_6 ?_
  refine B_aload0 dX5_init_9 ?_
  refine B_aload2 dX5_init_10 ?_
  refine B_putR gf_X5_15 (fun _ _ _ h => by cases h; rfl) (fun _ => rfl) rfl (by decide) rfl rfl dX5_init_11 ?_
  refine B_aload0 dX5_init_14 ?_
  refine B_aload3 dX5_init_15 ?_
  refine B_putR gf_X5_19 (fun _ _ _ h => by cases h; rfl) (fun _ => rfl) rfl (by decide) rfl rfl dX5_init_16 ?_
  refine B_aload0 dX5_init_19 ?_
  refine B_iload4 dX5_init_20 ?_
  refine B_putI gf_X5_23 (fun _ _ _ h => by cases h; rfl) (fun _ => rfl) rfl (by decide) dX5_init_22 ?_
  refine B_aload0 dX5_init_25 ?_
  refine B_bipush (v := 60) dX5_init_26 (by decide) ?_
  refine B_newi (N := 60) (n' := 65) (kc' := 1) (sl' := 60) hO ac_int rfl (by decide) (by decide) (by decide) rfl rfl rfl (by decide) (by decide) dX5_init_28 ?_
  refine B_putR gf_X5_27 (fun _ _ _ h => by cases h; rfl) (fun _ => rfl) rfl (by decide) rfl rfl dX5_init_30 ?_
  refine B_aload0 dX5_init_33 ?_
  refine B_bipush (v := 60) dX5_init_34 (by decide) ?_
  refine B_newi (N := 60) (n' := 66) (kc' := 2) (sl' := 120) hO ac_int rfl (by decide) (by decide) (by decide) rfl rfl rfl (by decide) (by decide) dX5_init_36 ?_
  refine B_putR gf_X5_31 (fun _ _ _ h => by cases h; rfl) (fun _ => rfl) rfl (by decide) rfl rfl dX5_init_38 ?_
  refine B_aload0 dX5_init_41 ?_
  refine B_sipush (v := 660) dX5_init_42 (by decide) ?_
  refine B_newi (N := 660) (n' := 67) (kc' := 3) (sl' := 780) hO ac_int rfl (by decide) (by decide) (by decide) rfl rfl rfl (by decide) (by decide) dX5_init_45 ?_
  refine B_putR gf_X5_34 (fun _ _ _ h => by cases h; rfl) (fun _ => rfl) rfl (by decide) rfl rfl dX5_init_47 ?_
  refine B_aload0 dX5_init_50 ?_
  refine B_sipush (v := 660) dX5_init_51 (by decide) ?_
  refine B_newi (N := 660) (n' := 68) (kc' := 4) (sl' := 1440) hO ac_int rfl (by decide) (by decide) (by decide) rfl rfl rfl (by decide) (by decide) dX5_init_54 ?_
  refine B_putR gf_X5_37 (fun _ _ _ h => by cases h; rfl) (fun _ => rfl) rfl (by decide) rfl rfl dX5_init_56 ?_
  exact B_vret hO (by decide) (by decide) dX5_init_59 ⟨rfl, rfl, rfl, rfl⟩
set_option maxHeartbeats 400000 in
set_option maxRecDepth 100000 in
theorem M_X5_68 {l : Launch} {G : Wd} {μ : Mem} {L : Lp} (hO : okB G) : Mb l G KC yX5_init cX5_init 5 none 1 4 1440 [.ref (gA G 68), .ref (gA G 36), .ref (gA G 43), .ref (gA G 4), .int 4] μ L 69 (Qk none (wI μ 68 3 4) ((68, 11) :: (68, 10) :: (68, 8) :: (68, 7) :: (68, 2) :: (68, 1) :: (68, 0) :: L) 73) := by
  refine Mb.of (own := RX5) (nm := "<init>") (n := 0) (by decide +kernel) rfl rfl [some (.ref (gA G 68)), some (.ref (gA G 36)), some (.ref (gA G 43)), some (.ref (gA G 4)), some (.int 4)] rfl (Nat.le_of_ble_eq_true rfl) ?_
  refine B_aload0 dX5_init_0 ?_
  refine B_obj ol_X5 (by decide) dX5_init_1 ?_
  refine B_aload0 dX5_init_4 ?_
  refine B_aload1 dX5_init_5 ?_
  refine B_putR gf_X5_9 (fun _ _ _ h => by cases h; rfl) (fun _ => rfl) rfl (by decide) rfl rfl dX5_init_6 ?_
  refine B_aload0 dX5_init_9 ?_
  refine B_aload2 dX5_init_10 ?_
  refine B_putR gf_X5_15 (fun _ _ _ h => by cases h; rfl) (fun _ => rfl) rfl (by decide) rfl rfl dX5_init_11 ?_
  refine B_aload0 dX5_init_14 ?_
  refine B_aload3 dX5_init_15 ?_
  refine B_putR gf_X5_19 (fun _ _ _ h => by cases h; rfl) (fun _ => rfl) rfl (by decide) rfl rfl dX5_init_16 ?_
  refine B_aload0 dX5_init_19 ?_
  refine B_iload4 dX5_init_20 ?_
  refine B_putI gf_X5_23 (fun _ _ _ h => by cases h; rfl) (fun _ => rfl) rfl (by decide) dX5_init_22 ?_
  refine B_aload0 dX5_init_25 ?_
  refine B_bipush (v := 60) dX5_init_26 (by decide) ?_
  refine B_newi (N := 60) (n' := 70) (kc' := 1) (sl' := 60) hO ac_int rfl (by decide) (by decide) (by decide) rfl rfl rfl (by decide) (by decide) dX5_init_28 ?_
  refine B_putR gf_X5_27 (fun _ _ _ h => by cases h; rfl) (fun _ => rfl) rfl (by decide) rfl rfl dX5_init_30 ?_
  refine B_aload0 dX5_init_33 ?_
  refine B_bipush (v := 60) dX5_init_34 (by decide) ?_
  refine B_newi (N := 60) (n' := 71) (kc' := 2) (sl' := 120) hO ac_int rfl (by decide) (by decide) (by decide) rfl rfl rfl (by decide) (by decide) dX5_init_36 ?_
  refine B_putR gf_X5_31 (fun _ _ _ h => by cases h; rfl) (fun _ => rfl) rfl (by decide) rfl rfl dX5_init_38 ?_
  refine B_aload0 dX5_init_41 ?_
  refine B_sipush (v := 660) dX5_init_42 (by decide) ?_
  refine B_newi (N := 660) (n' := 72) (kc' := 3) (sl' := 780) hO ac_int rfl (by decide) (by decide) (by decide) rfl rfl rfl (by decide) (by decide) dX5_init_45 ?_
  refine B_putR gf_X5_34 (fun _ _ _ h => by cases h; rfl) (fun _ => rfl) rfl (by decide) rfl rfl dX5_init_47 ?_
  refine B_aload0 dX5_init_50 ?_
  refine B_sipush (v := 660) dX5_init_51 (by decide) ?_
  refine B_newi (N := 660) (n' := 73) (kc' := 4) (sl' := 1440) hO ac_int rfl (by decide) (by decide) (by decide) rfl rfl rfl (by decide) (by decide) dX5_init_54 ?_
  refine B_putR gf_X5_37 (fun _ _ _ h => by cases h; rfl) (fun _ => rfl) rfl (by decide) rfl rfl dX5_init_56 ?_
  exact B_vret hO (by decide) (by decide) dX5_init_59 ⟨rfl, rfl, rfl, rfl⟩
set_option maxHeartbeats 400000 in
set_option maxRecDepth 100000 in
theorem M_X8_73 {l : Launch} {G : Wd} {μ : Mem} {L : Lp} (hO : okB G) : Mb l G KC yX8_init cX8_init 4 none 1 2 120 [.ref (gA G 73), .ref (gA G 47), .ref (gA G 43), .ref (gA G 4)] μ L 74 (Qk none μ ((73, 4) :: (73, 3) :: (73, 2) :: (73, 1) :: (73, 0) :: L) 76) := by
  refine Mb.of (own := RX8) (nm := "<init>") (n := 0) (by decide +kernel) rfl rfl [some (.ref (gA G 73)), some (.ref (gA G 47)), some (.ref (gA G 43)), some (.ref (gA G 4))] rfl (Nat.le_of_ble_eq_true rfl) ?_
  refine B_aload0 dX8_init_0 ?_
  refine B_obj ol_X8 (by decide) dX8_init_1 ?_
  refine B_aload0 dX8_init_4 ?_
  refine B_aload1 dX8_init_5 ?_
  refine B_putR gf_X8_9 (fun _ _ _ h => by cases h; rfl) (fun _ => rfl) rfl (by decide) rfl rfl dX8_init_6 ?_
  refine B_aload0 dX8_init_9 ?_
  refine B_aload2 dX8_init_10 ?_
  refine B_putR gf_X8_15 (fun _ _ _ h => by cases h; rfl) (fun _ => rfl) rfl (by decide) rfl rfl dX8_init_11 ?_
  refine B_aload0 dX8_init_14 ?_
  refine B_aload3 dX8_init_15 ?_
  refine B_putR gf_X8_19 (fun _ _ _ h => by cases h; rfl) (fun _ => rfl) rfl (by decide) rfl rfl dX8_init_16 ?_
  refine B_aload0 dX8_init_19 ?_
  refine B_bipush (v := 60) dX8_init_20 (by decide) ?_
  refine B_newi (N := 60) (n' := 75) (kc' := 1) (sl' := 60) hO ac_int rfl (by decide) (by decide) (by decide) rfl rfl rfl (by decide) (by decide) dX8_init_22 ?_
  refine B_putR gf_X8_23 (fun _ _ _ h => by cases h; rfl) (fun _ => rfl) rfl (by decide) rfl rfl dX8_init_24 ?_
  refine B_aload0 dX8_init_27 ?_
  refine B_bipush (v := 60) dX8_init_28 (by decide) ?_
  refine B_newi (N := 60) (n' := 76) (kc' := 2) (sl' := 120) hO ac_int rfl (by decide) (by decide) (by decide) rfl rfl rfl (by decide) (by decide) dX8_init_30 ?_
  refine B_putR gf_X8_27 (fun _ _ _ h => by cases h; rfl) (fun _ => rfl) rfl (by decide) rfl rfl dX8_init_32 ?_
  exact B_vret hO (by decide) (by decide) dX8_init_35 ⟨rfl, rfl, rfl, rfl⟩
set_option maxHeartbeats 400000 in
set_option maxRecDepth 100000 in
theorem M_X0_76 {l : Launch} {G : Wd} {μ : Mem} {L : Lp} (hO : okB G) : Mb l G KC yX0_init cX0_init 4 none 1 3 320 [.ref (gA G 76), .ref (gA G 47), .ref (gA G 43), .ref (gA G 4)] μ L 77 (Qk none μ ((76, 5) :: (76, 4) :: (76, 3) :: (76, 2) :: (76, 1) :: (76, 0) :: L) 80) := by
  refine Mb.of (own := RX0) (nm := "<init>") (n := 0) (by decide +kernel) rfl rfl [some (.ref (gA G 76)), some (.ref (gA G 47)), some (.ref (gA G 43)), some (.ref (gA G 4))] rfl (Nat.le_of_ble_eq_true rfl) ?_
  refine B_aload0 dX0_init_0 ?_
  refine B_obj ol_X0 (by decide) dX0_init_1 ?_
  refine B_aload0 dX0_init_4 ?_
  refine B_aload1 dX0_init_5 ?_
  refine B_putR gf_X0_9 (fun _ _ _ h => by cases h; rfl) (fun _ => rfl) rfl (by decide) rfl rfl dX0_init_6 ?_
  refine B_aload0 dX0_init_9 ?_
  refine B_aload2 dX0_init_10 ?_
  refine B_putR gf_X0_15 (fun _ _ _ h => by cases h; rfl) (fun _ => rfl) rfl (by decide) rfl rfl dX0_init_11 ?_
  refine B_aload0 dX0_init_14 ?_
  refine B_aload3 dX0_init_15 ?_
  refine B_putR gf_X0_19 (fun _ _ _ h => by cases h; rfl) (fun _ => rfl) rfl (by decide) rfl rfl dX0_init_16 ?_
  refine B_aload0 dX0_init_19 ?_
  refine B_sipush (v := 300) dX0_init_20 (by decide) ?_
  refine B_newi (N := 300) (n' := 78) (kc' := 1) (sl' := 300) hO ac_int rfl (by decide) (by decide) (by decide) rfl rfl rfl (by decide) (by decide) dX0_init_23 ?_
  refine B_putR gf_X0_25 (fun _ _ _ h => by cases h; rfl) (fun _ => rfl) rfl (by decide) rfl rfl dX0_init_25 ?_
  refine B_aload0 dX0_init_28 ?_
  refine B_bipush (v := 10) dX0_init_29 (by decide) ?_
  refine B_newi (N := 10) (n' := 79) (kc' := 2) (sl' := 310) hO ac_int rfl (by decide) (by decide) (by decide) rfl rfl rfl (by decide) (by decide) dX0_init_31 ?_
  refine B_putR gf_X0_29 (fun _ _ _ h => by cases h; rfl) (fun _ => rfl) rfl (by decide) rfl rfl dX0_init_33 ?_
  refine B_aload0 dX0_init_36 ?_
  refine B_bipush (v := 10) dX0_init_37 (by decide) ?_
  refine B_newi (N := 10) (n' := 80) (kc' := 3) (sl' := 320) hO ac_int rfl (by decide) (by decide) (by decide) rfl rfl rfl (by decide) (by decide) dX0_init_39 ?_
  refine B_putR gf_X0_32 (fun _ _ _ h => by cases h; rfl) (fun _ => rfl) rfl (by decide) rfl rfl dX0_init_41 ?_
  exact B_vret hO (by decide) (by decide) dX0_init_44 ⟨rfl, rfl, rfl, rfl⟩
set_option maxHeartbeats 400000 in
set_option maxRecDepth 100000 in
theorem M_X10_80 {l : Launch} {G : Wd} {μ : Mem} {L : Lp} (hO : okB G) : Mb l G KC yX10_init cX10_init 4 none 1 4 132 [.ref (gA G 80), .ref (gA G 25), .ref (gA G 43), .ref (gA G 4)] μ L 81 (Qk none μ ((80, 11) :: (80, 10) :: (80, 8) :: (80, 7) :: (80, 2) :: (80, 1) :: (80, 0) :: L) 85) := by
  refine Mb.of (own := RX10) (nm := "<init>") (n := 0) (by decide +kernel) rfl rfl [some (.ref (gA G 80)), some (.ref (gA G 25)), some (.ref (gA G 43)), some (.ref (gA G 4))] rfl (Nat.le_of_ble_eq_true rfl) ?_
  refine B_aload0 dX10_init_0 ?_
  refine B_obj ol_X10 (by decide) dX10_init_1 ?_
  refine B_aload0 dX10_init_4 ?_
  refine B_aload1 dX10_init_5 ?_
  refine B_putR gf_X10_9 (fun _ _ _ h => by cases h; rfl) (fun _ => rfl) rfl (by decide) rfl rfl dX10_init_6 ?_
  refine B_aload0 dX10_init_9 ?_
  refine B_aload2 dX10_init_10 ?_
  refine B_putR gf_X10_15 (fun _ _ _ h => by cases h; rfl) (fun _ => rfl) rfl (by decide) rfl rfl dX10_init_11 ?_
  refine B_aload0 dX10_init_14 ?_
  refine B_aload3 dX10_init_15 ?_
  refine B_putR gf_X10_19 (fun _ _ _ h => by cases h; rfl) (fun _ => rfl) rfl (by decide) rfl rfl dX10_init_16 ?_
  refine B_aload0 dX10_init_19 ?_
  refine B_bipush (v := 6) dX10_init_20 (by decide) ?_
  refine B_newi (N := 6) (n' := 82) (kc' := 1) (sl' := 6) hO ac_int rfl (by decide) (by decide) (by decide) rfl rfl rfl (by decide) (by decide) dX10_init_22 ?_
  refine B_putR gf_X10_25 (fun _ _ _ h => by cases h; rfl) (fun _ => rfl) rfl (by decide) rfl rfl dX10_init_24 ?_
  refine B_aload0 dX10_init_27 ?_
  refine B_bipush (v := 6) dX10_init_28 (by decide) ?_
  refine B_newi (N := 6) (n' := 83) (kc' := 2) (sl' := 12) hO ac_int rfl (by decide) (by decide) (by decide) rfl rfl rfl (by decide) (by decide) dX10_init_30 ?_
  refine B_putR gf_X10_29 (fun _ _ _ h => by cases h; rfl) (fun _ => rfl) rfl (by decide) rfl rfl dX10_init_32 ?_
  refine B_aload0 dX10_init_35 ?_
  refine B_bipush (v := 60) dX10_init_36 (by decide) ?_
  refine B_newi (N := 60) (n' := 84) (kc' := 3) (sl' := 72) hO ac_int rfl (by decide) (by decide) (by decide) rfl rfl rfl (by decide) (by decide) dX10_init_38 ?_
  refine B_putR gf_X10_32 (fun _ _ _ h => by cases h; rfl) (fun _ => rfl) rfl (by decide) rfl rfl dX10_init_40 ?_
  refine B_aload0 dX10_init_43 ?_
  refine B_bipush (v := 60) dX10_init_44 (by decide) ?_
  refine B_newi (N := 60) (n' := 85) (kc' := 4) (sl' := 132) hO ac_int rfl (by decide) (by decide) (by decide) rfl rfl rfl (by decide) (by decide) dX10_init_46 ?_
  refine B_putR gf_X10_35 (fun _ _ _ h => by cases h; rfl) (fun _ => rfl) rfl (by decide) rfl rfl dX10_init_48 ?_
  exact B_vret hO (by decide) (by decide) dX10_init_51 ⟨rfl, rfl, rfl, rfl⟩

/-! the law's loop: what it keeps, and its 32 cases -/
set_option maxHeartbeats 200000 in
theorem pm_o {σ τ : Mem} (h : Pm σ τ) : ∀ i j, (i = 0 ∧ ((1 ≤ j ∧ j ≤ 3) ∨ j = 31 ∨ j = 32 ∨ j = 42 ∨ j = 43 ∨ j = 72)) ∨ i = 1 ∨ (7 ≤ i ∧ i ≤ 9) ∨ (15 ≤ i ∧ i ≤ 28) ∨ (43 ≤ i ∧ i ≤ 45) ∨ i = 49 → τ.1 i j = σ.1 i j := by
  intro i j z
  apply h.1
  rcases (show (i = 0 ∧ (j = 1 ∨ j = 2 ∨ j = 3 ∨ j = 31 ∨ j = 32 ∨ j = 42 ∨ j = 43 ∨ j = 72)) ∨ i = 1 ∨ i = 7 ∨ i = 8 ∨ i = 9 ∨ i = 15 ∨ i = 16 ∨ i = 17 ∨ i = 18 ∨ i = 19 ∨ i = 20 ∨ i = 21 ∨ i = 22 ∨ i = 23 ∨ i = 24 ∨ i = 25 ∨ i = 26 ∨ i = 27 ∨ i = 28 ∨ i = 43 ∨ i = 44 ∨ i = 45 ∨ i = 49 by omega) with ⟨rfl, y⟩ | rfl | rfl | rfl | rfl | rfl | rfl | rfl | rfl | rfl | rfl | rfl | rfl | rfl | rfl | rfl | rfl | rfl | rfl | rfl | rfl | rfl | rfl
  · rcases y with rfl | rfl | rfl | rfl | rfl | rfl | rfl | rfl <;> rfl
  all_goals rfl
set_option maxHeartbeats 200000 in
theorem Rc.pm {σ τ μ : Mem} {n : Nat} (h : Rc σ n μ) (g : Pm σ τ) : Rc τ n μ := by
  have o := pm_o g
  obtain ⟨⟨r1, r2, r3, r4, r5⟩, w1, h3, e, x, s, h4, h5, h6, h7, h8, h9, h10, h11⟩ := h
  have hl : LC τ μ := ⟨r1.mv (fun i j q => o i j (by omega)) (fun _ _ _ => rfl), r2.mv (fun i j q => o i j (by omega)) (fun _ _ _ => rfl) rfl, r3.mv (fun i j q => o i j (by omega)) (fun j => g.2 j) (fun _ _ _ => rfl) (fun _ => rfl), r4.mv (fun i j q => o i j (by omega)) (fun _ _ _ => rfl), r5⟩
  have ht : WFt τ := by
    obtain ⟨t, a1, a2⟩ := w1.1.1
    exact ⟨t, a1, (o 0 1 (by omega)).trans a2⟩
  have hw : WFa τ := ⟨⟨ht, w1.1.2.1.mv (fun i j q => o i j (by omega)), w1.1.2.2.mv (fun i j q => o i j (by omega))⟩, w1.2.mv (fun i j q => o i j (by omega))⟩
  exact ⟨hl, hw, h3, e, x, s, h4, h5, h6, h7, h8, h9, fun z y => (h10 z y).mv (fun i j q => o i j (by omega)) (fun _ _ _ _ => rfl) hl hw.1, h11⟩
set_option maxHeartbeats 200000 in
theorem WFk.pm {σ τ : Mem} (h : WFk σ) (g : Pm σ τ) : WFk τ := h.mv (fun i j z => pm_o g i j (by omega)) (fun j => g.2 j)
/-- n calls done: the class stands for the reference -/
def LI (n : Nat) (μ τ : Mem) : Prop := Rc τ n μ ∧ WFk τ
def zb (u : Int32) : Int32 := if u = 0 then 0 else 1
set_option maxHeartbeats 200000 in
theorem zb_01 (u : Int32) : zb u = 0 ∨ zb u = 1 := by
  unfold zb
  by_cases h : u = 0
  · exact Or.inl (if_pos h)
  · exact Or.inr (if_neg h)
set_option maxHeartbeats 200000 in
theorem lcmp_s (v : Int64) : lg_cmp v v = 0 := by
  unfold lg_cmp
  simp
section LCases
variable {l : Launch} {p : Program} {e : Env} {s : State} {m : MethodId} {below : List Frame} {meth : Method} {c : Code} {b L : Nat} {xs : Nat → Int32} {G M : Wd} {pc : Nat} {x : Int32} {st : List Value} {μ τ : Mem}
set_option maxHeartbeats 200000 in
theorem L_bool {u : Int32} (h0 : LH p s m meth c b L xs G M) (hd0 : decode code pc = .ok (.ifCond .eq 7, 3)) (hd1 : decode code (pc + 3) = .ok (.iconst 1, 1)) (hd2 : decode code (pc + 4) = .ok (.goto 4, 3)) (hd3 : decode code (pc + 7) = .ok (.iconst 0, 1)) (k : AL l p e s m below meth c b G M (pc + 8) x (.int (zb u) :: st) μ τ) : AL l p e s m below meth c b G M pc x (.int u :: st) μ τ := by
  refine L_if_eq (tgt := pc + 7) h0 hd0 (by omega) (fun z => ?_) (fun z => ?_)
  · have e1 : zb u = 0 := if_pos z
    rw [e1] at k
    exact L_iconst h0 hd3 rfl k
  · have e1 : zb u = 1 := if_neg z
    rw [e1] at k
    exact L_iconst h0 hd1 rfl (L_goto (tgt := pc + 8) h0 hd2 (by omega) k)
set_option maxHeartbeats 400000 in
theorem S_feed {i n : Nat} (h0 : LH p s m meth c b L xs G M) (oS : okS G) (oZ : okZ G) (oN : okN G) (hL : L ≤ 3072) (hi : i + 5 < L) (hx : x = nI i) (hn : n + 1 ≤ 600) (hI : LI n μ τ) (K : ∀ μ' τ', LI (n + 1) μ' τ' → AL l p e s m below meth c b G M 1477 x [] μ' τ') : AL l p e s m below meth c b G M 176 x [] μ τ := by
  have hW : WFa τ := hI.1.2.1
  refine L_a1 h0 dL_law_176 ?_
  refine L_arg (a := 1) h0 hL (by omega) hx rfl dL_law_177 dL_law_178 dL_law_179 dL_law_180 dL_law_181 ?_
  refine L_arg (a := 2) h0 hL (by omega) hx rfl dL_law_182 dL_law_183 dL_law_184 dL_law_185 dL_law_186 ?_
  refine L_arg (a := 3) h0 hL (by omega) hx rfl dL_law_187 dL_law_188 dL_law_189 dL_law_190 dL_law_191 ?_
  refine L_arg (a := 4) h0 hL (by omega) hx rfl dL_law_192 dL_law_193 dL_law_194 dL_law_195 dL_law_196 ?_
  refine L_arg (a := 5) h0 hL (by omega) hx rfl dL_law_197 dL_law_198 dL_law_199 dL_law_200 dL_law_201 ?_
  refine L_invC (As := [.int (xs (i + 1)), .int (xs (i + 2)), .int (xs (i + 3)), .int (xs (i + 4)), .int (xs (i + 5))]) (rest := []) h0 (C_feed hI.1 hn) lk_L_13 yv_X11_feed rfl rfl rfl (by decide) (Nat.le_of_ble_eq_true rfl) dL_law_202 (fun r1 μ1 q1 => ?_)
  obtain ⟨v1, rfl, e1, hR1⟩ := q1
  refine L_a2 h0 dL_law_205 ?_
  refine L_arg (a := 1) h0 hL (by omega) hx rfl dL_law_206 dL_law_207 dL_law_208 dL_law_209 dL_law_210 ?_
  refine L_arg (a := 2) h0 hL (by omega) hx rfl dL_law_211 dL_law_212 dL_law_213 dL_law_214 dL_law_215 ?_
  refine L_arg (a := 3) h0 hL (by omega) hx rfl dL_law_216 dL_law_217 dL_law_218 dL_law_219 dL_law_220 ?_
  refine L_arg (a := 4) h0 hL (by omega) hx rfl dL_law_221 dL_law_222 dL_law_223 dL_law_224 dL_law_225 ?_
  refine L_arg (a := 5) h0 hL (by omega) hx rfl dL_law_226 dL_law_227 dL_law_228 dL_law_229 dL_law_230 ?_
  refine L_invM (As := [.int (xs (i + 1)), .int (xs (i + 2)), .int (xs (i + 3)), .int (xs (i + 4)), .int (xs (i + 5))]) (rest := [.int v1]) h0 (T_X12_feed hW.1.1) lk_L_17 yv_X12_feed rfl rfl rfl (by decide) (Nat.le_of_ble_eq_true rfl) dL_law_231 (fun r2 τ1 q2 => ?_)
  obtain ⟨v2, rfl, q3⟩ := q2
  obtain ⟨e2, e3⟩ := pr_e q3
  exact L_icmp_eq (tgt := 1477) h0 dL_law_234 (by decide) (fun _ => K μ1 τ1 ⟨by rw [← e3]; exact hR1, by rw [← e3]; exact feed_k hI.2⟩) (fun c9 => absurd (e1.trans e2) c9)
set_option maxHeartbeats 400000 in
theorem S_end {i n : Nat} (h0 : LH p s m meth c b L xs G M) (oS : okS G) (oZ : okZ G) (oN : okN G) (hL : L ≤ 3072) (hi : i + 5 < L) (hx : x = nI i) (hn : n + 1 ≤ 600) (hI : LI n μ τ) (K : ∀ μ' τ', LI (n + 1) μ' τ' → AL l p e s m below meth c b G M 1477 x [] μ' τ') : AL l p e s m below meth c b G M 239 x [] μ τ := by
  have hW : WFa τ := hI.1.2.1
  refine L_a1 h0 dL_law_239 ?_
  refine L_arg (a := 1) h0 hL (by omega) hx rfl dL_law_240 dL_law_241 dL_law_242 dL_law_243 dL_law_244 ?_
  refine L_invC (As := [.int (xs (i + 1))]) (rest := []) h0 (C_end hI.1 hn) lk_L_18 yv_X11_end rfl rfl rfl (by decide) (Nat.le_of_ble_eq_true rfl) dL_law_245 (fun r1 μ1 q1 => ?_)
  obtain ⟨v1, rfl, e1, hR1⟩ := q1
  refine L_a2 h0 dL_law_248 ?_
  refine L_arg (a := 1) h0 hL (by omega) hx rfl dL_law_249 dL_law_250 dL_law_251 dL_law_252 dL_law_253 ?_
  refine L_invM (As := [.int (xs (i + 1))]) (rest := [.int v1]) h0 T_X12_end lk_L_22 yv_X12_end rfl rfl rfl (by decide) (Nat.le_of_ble_eq_true rfl) dL_law_254 (fun r2 τ1 q2 => ?_)
  obtain ⟨v2, rfl, q3⟩ := q2
  obtain ⟨e2, e3⟩ := pr_e q3
  exact L_icmp_eq (tgt := 1477) h0 dL_law_257 (by decide) (fun _ => K μ1 τ1 ⟨by rw [← e3]; exact hR1, by rw [← e3]; exact end_k hI.2⟩) (fun c9 => absurd (e1.trans e2) c9)
set_option maxHeartbeats 400000 in
theorem S_hill {i n : Nat} (h0 : LH p s m meth c b L xs G M) (oS : okS G) (oZ : okZ G) (oN : okN G) (hL : L ≤ 3072) (hi : i + 5 < L) (hx : x = nI i) (hn : n + 1 ≤ 600) (hI : LI n μ τ) (K : ∀ μ' τ', LI (n + 1) μ' τ' → AL l p e s m below meth c b G M 1477 x [] μ' τ') : AL l p e s m below meth c b G M 262 x [] μ τ := by
  have hW : WFa τ := hI.1.2.1
  refine L_a1 h0 dL_law_262 ?_
  refine L_invC (As := []) (rest := []) h0 (C_hillK oS oZ hI.2 hI.1 hn) lk_L_23 yv_X11_hill rfl rfl rfl (by decide) (Nat.le_of_ble_eq_true rfl) dL_law_263 (fun r1 μ1 q1 => ?_)
  obtain ⟨v1, rfl, e1, hR1⟩ := q1
  refine L_a2 h0 dL_law_266 ?_
  refine L_invM (As := []) (rest := [.int v1]) h0 (T_X12_hill hW.1.1) lk_L_27 yv_X12_hill rfl rfl rfl (by decide) (Nat.le_of_ble_eq_true rfl) dL_law_267 (fun r2 τ1 q2 => ?_)
  obtain ⟨v2, rfl, q3⟩ := q2
  obtain ⟨e2, e3⟩ := pr_e q3
  exact L_icmp_eq (tgt := 1477) h0 dL_law_270 (by decide) (fun _ => K μ1 τ1 ⟨by rw [← e3]; exact hR1.1, by rw [← e3]; exact hR1.2⟩) (fun c9 => absurd (e1.trans e2) c9)
set_option maxHeartbeats 400000 in
theorem S_rules {i n : Nat} (h0 : LH p s m meth c b L xs G M) (oS : okS G) (oZ : okZ G) (oN : okN G) (hL : L ≤ 3072) (hi : i + 5 < L) (hx : x = nI i) (hn : n + 1 ≤ 600) (hI : LI n μ τ) (K : ∀ μ' τ', LI (n + 1) μ' τ' → AL l p e s m below meth c b G M 1477 x [] μ' τ') : AL l p e s m below meth c b G M 275 x [] μ τ := by
  have hW : WFa τ := hI.1.2.1
  refine L_a1 h0 dL_law_275 ?_
  refine L_invC (As := []) (rest := []) h0 (C_rules oS hI.2.1.2.2.2 hI.1 hn) lk_L_28 yv_X11_rules rfl rfl rfl (by decide) (Nat.le_of_ble_eq_true rfl) dL_law_276 (fun r1 μ1 q1 => ?_)
  obtain ⟨v1, rfl, e1, hR1⟩ := q1
  refine L_a2 h0 dL_law_279 ?_
  refine L_invM (As := []) (rest := [.int v1]) h0 (T_X12_rules hW.1.1 hW.1.2.2.1) lk_L_31 yv_X12_rules rfl rfl rfl (by decide) (Nat.le_of_ble_eq_true rfl) dL_law_280 (fun r2 τ1 q2 => ?_)
  obtain ⟨v2, rfl, q3⟩ := q2
  obtain ⟨e2, e3⟩ := pr_e q3
  exact L_icmp_eq (tgt := 1477) h0 dL_law_283 (by decide) (fun _ => K μ1 τ1 ⟨by rw [← e3]; exact hR1, by rw [← e3]; exact rules_k hW.1.1 hW.1.2.2.1 hI.2⟩) (fun c9 => absurd (e1.trans e2) c9)
set_option maxHeartbeats 400000 in
theorem S_fault {i n : Nat} (h0 : LH p s m meth c b L xs G M) (oS : okS G) (oZ : okZ G) (oN : okN G) (hL : L ≤ 3072) (hi : i + 5 < L) (hx : x = nI i) (hn : n + 1 ≤ 600) (hI : LI n μ τ) (K : ∀ μ' τ', LI (n + 1) μ' τ' → AL l p e s m below meth c b G M 1477 x [] μ' τ') : AL l p e s m below meth c b G M 288 x [] μ τ := by
  have hW : WFa τ := hI.1.2.1
  refine L_a1 h0 dL_law_288 ?_
  refine L_arg (a := 1) h0 hL (by omega) hx rfl dL_law_289 dL_law_290 dL_law_291 dL_law_292 dL_law_293 ?_
  refine L_invC (As := [.int (xs (i + 1))]) (rest := []) h0 (C_fault hI.1 hn) lk_L_32 yv_X11_fault rfl rfl rfl (by decide) (Nat.le_of_ble_eq_true rfl) dL_law_294 (fun r1 μ1 q1 => ?_)
  obtain ⟨v1, rfl, e1, hR1⟩ := q1
  refine L_a2 h0 dL_law_297 ?_
  refine L_arg (a := 1) h0 hL (by omega) hx rfl dL_law_298 dL_law_299 dL_law_300 dL_law_301 dL_law_302 ?_
  refine L_invM (As := [.int (xs (i + 1))]) (rest := [.int v1]) h0 T_X12_fault lk_L_35 yv_X12_fault rfl rfl rfl (by decide) (Nat.le_of_ble_eq_true rfl) dL_law_303 (fun r2 τ1 q2 => ?_)
  obtain ⟨v2, rfl, q3⟩ := q2
  obtain ⟨e2, e3⟩ := q3
  exact L_icmp_eq (tgt := 1477) h0 dL_law_306 (by decide) (fun _ => K μ1 τ1 ⟨by rw [e3]; exact hR1, by rw [e3]; exact hI.2⟩) (fun c9 => absurd (e1.trans e2.symm) c9)
set_option maxHeartbeats 400000 in
theorem S_share {i n : Nat} (h0 : LH p s m meth c b L xs G M) (oS : okS G) (oZ : okZ G) (oN : okN G) (hL : L ≤ 3072) (hi : i + 5 < L) (hx : x = nI i) (hn : n + 1 ≤ 600) (hI : LI n μ τ) (K : ∀ μ' τ', LI (n + 1) μ' τ' → AL l p e s m below meth c b G M 1477 x [] μ' τ') : AL l p e s m below meth c b G M 311 x [] μ τ := by
  have hW : WFa τ := hI.1.2.1
  refine L_a1 h0 dL_law_311 ?_
  refine L_arg (a := 1) h0 hL (by omega) hx rfl dL_law_312 dL_law_313 dL_law_314 dL_law_315 dL_law_316 ?_
  refine L_arg (a := 2) h0 hL (by omega) hx rfl dL_law_317 dL_law_318 dL_law_319 dL_law_320 dL_law_321 ?_
  refine L_bool h0 dL_law_322 dL_law_325 dL_law_326 dL_law_329 ?_
  refine L_invC (As := [.int (xs (i + 1)), .int (zb (xs (i + 2)))]) (rest := []) h0 (C_share hI.1 hn (zb_01 (xs (i + 2)))) lk_L_36 yv_X11_share rfl rfl rfl (by decide) (Nat.le_of_ble_eq_true rfl) dL_law_330 (fun r1 μ1 q1 => ?_)
  obtain ⟨v1, rfl, e1, hR1⟩ := q1
  refine L_a2 h0 dL_law_333 ?_
  refine L_arg (a := 1) h0 hL (by omega) hx rfl dL_law_334 dL_law_335 dL_law_336 dL_law_337 dL_law_338 ?_
  refine L_arg (a := 2) h0 hL (by omega) hx rfl dL_law_339 dL_law_340 dL_law_341 dL_law_342 dL_law_343 ?_
  refine L_bool h0 dL_law_344 dL_law_347 dL_law_348 dL_law_351 ?_
  refine L_invM (As := [.int (xs (i + 1)), .int (zb (xs (i + 2)))]) (rest := [.int v1]) h0 (T_X12_share (zb_01 (xs (i + 2)))) lk_L_40 yv_X12_share rfl rfl rfl (by decide) (Nat.le_of_ble_eq_true rfl) dL_law_352 (fun r2 τ1 q2 => ?_)
  obtain ⟨v2, rfl, q3⟩ := q2
  obtain ⟨e2, e3⟩ := pr_e q3
  exact L_icmp_eq (tgt := 1477) h0 dL_law_355 (by decide) (fun _ => K μ1 τ1 ⟨by rw [← e3]; exact hR1, by rw [← e3]; exact share_k hI.2⟩) (fun c9 => absurd (e1.trans e2) c9)
set_option maxHeartbeats 400000 in
theorem S_far {i n : Nat} (h0 : LH p s m meth c b L xs G M) (oS : okS G) (oZ : okZ G) (oN : okN G) (hL : L ≤ 3072) (hi : i + 5 < L) (hx : x = nI i) (hn : n + 1 ≤ 600) (hI : LI n μ τ) (K : ∀ μ' τ', LI (n + 1) μ' τ' → AL l p e s m below meth c b G M 1477 x [] μ' τ') : AL l p e s m below meth c b G M 360 x [] μ τ := by
  have hW : WFa τ := hI.1.2.1
  refine L_a1 h0 dL_law_360 ?_
  refine L_arg (a := 1) h0 hL (by omega) hx rfl dL_law_361 dL_law_362 dL_law_363 dL_law_364 dL_law_365 ?_
  refine L_arg (a := 2) h0 hL (by omega) hx rfl dL_law_366 dL_law_367 dL_law_368 dL_law_369 dL_law_370 ?_
  refine L_arg (a := 3) h0 hL (by omega) hx rfl dL_law_371 dL_law_372 dL_law_373 dL_law_374 dL_law_375 ?_
  refine L_invC (As := [.int (xs (i + 1)), .int (xs (i + 2)), .int (xs (i + 3))]) (rest := []) h0 (C_far oZ hI.1 hn) lk_L_41 yv_X11_far rfl rfl rfl (by decide) (Nat.le_of_ble_eq_true rfl) dL_law_376 (fun r1 μ1 q1 => ?_)
  obtain ⟨v1, rfl, e1, hR1⟩ := q1
  refine L_a2 h0 dL_law_379 ?_
  refine L_arg (a := 1) h0 hL (by omega) hx rfl dL_law_380 dL_law_381 dL_law_382 dL_law_383 dL_law_384 ?_
  refine L_arg (a := 2) h0 hL (by omega) hx rfl dL_law_385 dL_law_386 dL_law_387 dL_law_388 dL_law_389 ?_
  refine L_arg (a := 3) h0 hL (by omega) hx rfl dL_law_390 dL_law_391 dL_law_392 dL_law_393 dL_law_394 ?_
  refine L_invM (As := [.int (xs (i + 1)), .int (xs (i + 2)), .int (xs (i + 3))]) (rest := [.int v1]) h0 (T_X12_far hW.1.2.1.1) lk_L_45 yv_X12_far rfl rfl rfl (by decide) (Nat.le_of_ble_eq_true rfl) dL_law_395 (fun r2 τ1 q2 => ?_)
  obtain ⟨v2, rfl, q3⟩ := q2
  obtain ⟨e2, e3⟩ := pr_e q3
  exact L_icmp_eq (tgt := 1477) h0 dL_law_398 (by decide) (fun _ => K μ1 τ1 ⟨by rw [← e3]; exact hR1, by rw [← e3]; exact far_k hI.2⟩) (fun c9 => absurd (e1.trans e2) c9)
set_option maxHeartbeats 400000 in
theorem S_read {i n : Nat} (h0 : LH p s m meth c b L xs G M) (oS : okS G) (oZ : okZ G) (oN : okN G) (hL : L ≤ 3072) (hi : i + 5 < L) (hx : x = nI i) (hn : n + 1 ≤ 600) (hI : LI n μ τ) (K : ∀ μ' τ', LI (n + 1) μ' τ' → AL l p e s m below meth c b G M 1477 x [] μ' τ') : AL l p e s m below meth c b G M 403 x [] μ τ := by
  have hW : WFa τ := hI.1.2.1
  refine L_a1 h0 dL_law_403 ?_
  refine L_arg (a := 1) h0 hL (by omega) hx rfl dL_law_404 dL_law_405 dL_law_406 dL_law_407 dL_law_408 ?_
  refine L_arg (a := 2) h0 hL (by omega) hx rfl dL_law_409 dL_law_410 dL_law_411 dL_law_412 dL_law_413 ?_
  refine L_arg (a := 3) h0 hL (by omega) hx rfl dL_law_414 dL_law_415 dL_law_416 dL_law_417 dL_law_418 ?_
  refine L_arg (a := 4) h0 hL (by omega) hx rfl dL_law_419 dL_law_420 dL_law_421 dL_law_422 dL_law_423 ?_
  refine L_invC (As := [.int (xs (i + 1)), .int (xs (i + 2)), .int (xs (i + 3)), .int (xs (i + 4))]) (rest := []) h0 (C_read hI.1 hn) lk_L_46 yv_X11_read rfl rfl rfl (by decide) (Nat.le_of_ble_eq_true rfl) dL_law_424 (fun r1 μ1 q1 => ?_)
  obtain ⟨v1, rfl, e1, hR1⟩ := q1
  refine L_a2 h0 dL_law_427 ?_
  refine L_arg (a := 1) h0 hL (by omega) hx rfl dL_law_428 dL_law_429 dL_law_430 dL_law_431 dL_law_432 ?_
  refine L_arg (a := 2) h0 hL (by omega) hx rfl dL_law_433 dL_law_434 dL_law_435 dL_law_436 dL_law_437 ?_
  refine L_arg (a := 3) h0 hL (by omega) hx rfl dL_law_438 dL_law_439 dL_law_440 dL_law_441 dL_law_442 ?_
  refine L_arg (a := 4) h0 hL (by omega) hx rfl dL_law_443 dL_law_444 dL_law_445 dL_law_446 dL_law_447 ?_
  refine L_invM (As := [.int (xs (i + 1)), .int (xs (i + 2)), .int (xs (i + 3)), .int (xs (i + 4))]) (rest := [.int v1]) h0 (T_X12_read hW.1.2.1.1 hW.1.2.2.1) lk_L_50 yv_X12_read rfl rfl rfl (by decide) (Nat.le_of_ble_eq_true rfl) dL_law_448 (fun r2 τ1 q2 => ?_)
  obtain ⟨v2, rfl, q3⟩ := q2
  obtain ⟨e2, e3⟩ := pr_e q3
  exact L_icmp_eq (tgt := 1477) h0 dL_law_451 (by decide) (fun _ => K μ1 τ1 ⟨by rw [← e3]; exact hR1, by rw [← e3]; exact read_k hI.2⟩) (fun c9 => absurd (e1.trans e2) c9)
set_option maxHeartbeats 400000 in
theorem S_doubt {i n : Nat} (h0 : LH p s m meth c b L xs G M) (oS : okS G) (oZ : okZ G) (oN : okN G) (hL : L ≤ 3072) (hi : i + 5 < L) (hx : x = nI i) (hn : n + 1 ≤ 600) (hI : LI n μ τ) (K : ∀ μ' τ', LI (n + 1) μ' τ' → AL l p e s m below meth c b G M 1477 x [] μ' τ') : AL l p e s m below meth c b G M 456 x [] μ τ := by
  have hW : WFa τ := hI.1.2.1
  refine L_a1 h0 dL_law_456 ?_
  refine L_arg (a := 1) h0 hL (by omega) hx rfl dL_law_457 dL_law_458 dL_law_459 dL_law_460 dL_law_461 ?_
  refine L_arg (a := 2) h0 hL (by omega) hx rfl dL_law_462 dL_law_463 dL_law_464 dL_law_465 dL_law_466 ?_
  refine L_bool h0 dL_law_467 dL_law_470 dL_law_471 dL_law_474 ?_
  refine L_invC (As := [.int (xs (i + 1)), .int (zb (xs (i + 2)))]) (rest := []) h0 (C_doubt hI.1 hn (zb_01 (xs (i + 2)))) lk_L_51 yv_X11_doubt rfl rfl rfl (by decide) (Nat.le_of_ble_eq_true rfl) dL_law_475 (fun r1 μ1 q1 => ?_)
  obtain ⟨v1, rfl, e1, hR1⟩ := q1
  refine L_a2 h0 dL_law_478 ?_
  refine L_arg (a := 1) h0 hL (by omega) hx rfl dL_law_479 dL_law_480 dL_law_481 dL_law_482 dL_law_483 ?_
  refine L_arg (a := 2) h0 hL (by omega) hx rfl dL_law_484 dL_law_485 dL_law_486 dL_law_487 dL_law_488 ?_
  refine L_bool h0 dL_law_489 dL_law_492 dL_law_493 dL_law_496 ?_
  refine L_invM (As := [.int (xs (i + 1)), .int (zb (xs (i + 2)))]) (rest := [.int v1]) h0 (T_X12_doubt (zb_01 (xs (i + 2)))) lk_L_54 yv_X12_doubt rfl rfl rfl (by decide) (Nat.le_of_ble_eq_true rfl) dL_law_497 (fun r2 τ1 q2 => ?_)
  obtain ⟨v2, rfl, q3⟩ := q2
  obtain ⟨e2, e3⟩ := pr_e q3
  exact L_icmp_eq (tgt := 1477) h0 dL_law_500 (by decide) (fun _ => K μ1 τ1 ⟨by rw [← e3]; exact hR1, by rw [← e3]; exact doubt_k hI.2⟩) (fun c9 => absurd (e1.trans e2) c9)
set_option maxHeartbeats 400000 in
theorem S_untell {i n : Nat} (h0 : LH p s m meth c b L xs G M) (oS : okS G) (oZ : okZ G) (oN : okN G) (hL : L ≤ 3072) (hi : i + 5 < L) (hx : x = nI i) (hn : n + 1 ≤ 600) (hI : LI n μ τ) (K : ∀ μ' τ', LI (n + 1) μ' τ' → AL l p e s m below meth c b G M 1477 x [] μ' τ') : AL l p e s m below meth c b G M 505 x [] μ τ := by
  have hW : WFa τ := hI.1.2.1
  refine L_a1 h0 dL_law_505 ?_
  refine L_arg (a := 1) h0 hL (by omega) hx rfl dL_law_506 dL_law_507 dL_law_508 dL_law_509 dL_law_510 ?_
  refine L_invC (As := [.int (xs (i + 1))]) (rest := []) h0 (C_untell hI.1 hn (i_le.mpr hI.2.2.1)) lk_L_55 yv_X11_untell rfl rfl rfl (by decide) (Nat.le_of_ble_eq_true rfl) dL_law_511 (fun r1 μ1 q1 => ?_)
  obtain ⟨v1, rfl, e1, hR1⟩ := q1
  refine L_a2 h0 dL_law_514 ?_
  refine L_arg (a := 1) h0 hL (by omega) hx rfl dL_law_515 dL_law_516 dL_law_517 dL_law_518 dL_law_519 ?_
  refine L_invM (As := [.int (xs (i + 1))]) (rest := [.int v1]) h0 (T_X12_untell hW.1.2.1.1) lk_L_59 yv_X12_untell rfl rfl rfl (by decide) (Nat.le_of_ble_eq_true rfl) dL_law_520 (fun r2 τ1 q2 => ?_)
  obtain ⟨v2, rfl, q3⟩ := q2
  obtain ⟨e2, e3⟩ := pr_e q3
  exact L_icmp_eq (tgt := 1477) h0 dL_law_523 (by decide) (fun _ => K μ1 τ1 ⟨by rw [← e3]; exact hR1, by rw [← e3]; exact untell_k hI.2⟩) (fun c9 => absurd (e1.trans e2) c9)
set_option maxHeartbeats 400000 in
theorem S_later {i n : Nat} (h0 : LH p s m meth c b L xs G M) (oS : okS G) (oZ : okZ G) (oN : okN G) (hL : L ≤ 3072) (hi : i + 5 < L) (hx : x = nI i) (hn : n + 1 ≤ 600) (hI : LI n μ τ) (K : ∀ μ' τ', LI (n + 1) μ' τ' → AL l p e s m below meth c b G M 1477 x [] μ' τ') : AL l p e s m below meth c b G M 528 x [] μ τ := by
  have hW : WFa τ := hI.1.2.1
  refine L_a1 h0 dL_law_528 ?_
  refine L_arg (a := 1) h0 hL (by omega) hx rfl dL_law_529 dL_law_530 dL_law_531 dL_law_532 dL_law_533 ?_
  refine L_invC (As := [.int (xs (i + 1))]) (rest := []) h0 (C_later hI.1 hn) lk_L_60 yv_X11_later rfl rfl rfl (by decide) (Nat.le_of_ble_eq_true rfl) dL_law_534 (fun r1 μ1 q1 => ?_)
  obtain ⟨v1, rfl, e1, hR1⟩ := q1
  refine L_a2 h0 dL_law_537 ?_
  refine L_arg (a := 1) h0 hL (by omega) hx rfl dL_law_538 dL_law_539 dL_law_540 dL_law_541 dL_law_542 ?_
  refine L_invM (As := [.int (xs (i + 1))]) (rest := [.int v1]) h0 T_X12_later lk_L_63 yv_X12_later rfl rfl rfl (by decide) (Nat.le_of_ble_eq_true rfl) dL_law_543 (fun r2 τ1 q2 => ?_)
  obtain ⟨v2, rfl, q3⟩ := q2
  obtain ⟨e2, e3⟩ := pr_e q3
  exact L_icmp_eq (tgt := 1477) h0 dL_law_546 (by decide) (fun _ => K μ1 τ1 ⟨by rw [← e3]; exact hR1, by rw [← e3]; exact later_k hI.2⟩) (fun c9 => absurd (e1.trans e2) c9)
set_option maxHeartbeats 400000 in
theorem S_farOf {i n : Nat} (h0 : LH p s m meth c b L xs G M) (oS : okS G) (oZ : okZ G) (oN : okN G) (hL : L ≤ 3072) (hi : i + 5 < L) (hx : x = nI i) (hn : n + 1 ≤ 600) (hI : LI n μ τ) (K : ∀ μ' τ', LI (n + 1) μ' τ' → AL l p e s m below meth c b G M 1477 x [] μ' τ') : AL l p e s m below meth c b G M 551 x [] μ τ := by
  have hW : WFa τ := hI.1.2.1
  refine L_a1 h0 dL_law_551 ?_
  refine L_arg (a := 1) h0 hL (by omega) hx rfl dL_law_552 dL_law_553 dL_law_554 dL_law_555 dL_law_556 ?_
  refine L_arg (a := 2) h0 hL (by omega) hx rfl dL_law_557 dL_law_558 dL_law_559 dL_law_560 dL_law_561 ?_
  refine L_arg (a := 3) h0 hL (by omega) hx rfl dL_law_562 dL_law_563 dL_law_564 dL_law_565 dL_law_566 ?_
  refine L_invC (As := [.int (xs (i + 1)), .int (xs (i + 2)), .int (xs (i + 3))]) (rest := []) h0 (C_farOf hI.1 hn) lk_L_64 yv_X11_farOf rfl rfl rfl (by decide) (Nat.le_of_ble_eq_true rfl) dL_law_567 (fun r1 μ1 q1 => ?_)
  obtain ⟨v1, rfl, e1, hR1⟩ := q1
  refine L_a2 h0 dL_law_570 ?_
  refine L_arg (a := 1) h0 hL (by omega) hx rfl dL_law_571 dL_law_572 dL_law_573 dL_law_574 dL_law_575 ?_
  refine L_arg (a := 2) h0 hL (by omega) hx rfl dL_law_576 dL_law_577 dL_law_578 dL_law_579 dL_law_580 ?_
  refine L_arg (a := 3) h0 hL (by omega) hx rfl dL_law_581 dL_law_582 dL_law_583 dL_law_584 dL_law_585 ?_
  refine L_invM (As := [.int (xs (i + 1)), .int (xs (i + 2)), .int (xs (i + 3))]) (rest := [.int v1]) h0 (T_X12_farOf hW.1.2.1) lk_L_67 yv_X12_farOf rfl rfl rfl (by decide) (Nat.le_of_ble_eq_true rfl) dL_law_586 (fun r2 τ1 q2 => ?_)
  obtain ⟨v2, rfl, q3⟩ := q2
  obtain ⟨e2, g2⟩ := q3
  exact L_icmp_eq (tgt := 1477) h0 dL_law_589 (by decide) (fun _ => K μ1 τ1 ⟨hR1.pm g2, hI.2.pm g2⟩) (fun c9 => absurd (e1.trans e2.symm) c9)
set_option maxHeartbeats 400000 in
theorem S_reading {i n : Nat} (h0 : LH p s m meth c b L xs G M) (oS : okS G) (oZ : okZ G) (oN : okN G) (hL : L ≤ 3072) (hi : i + 5 < L) (hx : x = nI i) (hn : n + 1 ≤ 600) (hI : LI n μ τ) (K : ∀ μ' τ', LI (n + 1) μ' τ' → AL l p e s m below meth c b G M 1477 x [] μ' τ') : AL l p e s m below meth c b G M 594 x [] μ τ := by
  have hW : WFa τ := hI.1.2.1
  refine L_a1 h0 dL_law_594 ?_
  refine L_arg (a := 1) h0 hL (by omega) hx rfl dL_law_595 dL_law_596 dL_law_597 dL_law_598 dL_law_599 ?_
  refine L_arg (a := 2) h0 hL (by omega) hx rfl dL_law_600 dL_law_601 dL_law_602 dL_law_603 dL_law_604 ?_
  refine L_arg (a := 3) h0 hL (by omega) hx rfl dL_law_605 dL_law_606 dL_law_607 dL_law_608 dL_law_609 ?_
  refine L_invC (As := [.int (xs (i + 1)), .int (xs (i + 2)), .int (xs (i + 3))]) (rest := []) h0 (C_reading hI.1 hn) lk_L_68 yv_X11_reading rfl rfl rfl (by decide) (Nat.le_of_ble_eq_true rfl) dL_law_610 (fun r1 μ1 q1 => ?_)
  obtain ⟨v1, rfl, e1, hR1⟩ := q1
  refine L_a2 h0 dL_law_613 ?_
  refine L_arg (a := 1) h0 hL (by omega) hx rfl dL_law_614 dL_law_615 dL_law_616 dL_law_617 dL_law_618 ?_
  refine L_arg (a := 2) h0 hL (by omega) hx rfl dL_law_619 dL_law_620 dL_law_621 dL_law_622 dL_law_623 ?_
  refine L_arg (a := 3) h0 hL (by omega) hx rfl dL_law_624 dL_law_625 dL_law_626 dL_law_627 dL_law_628 ?_
  refine L_invM (As := [.int (xs (i + 1)), .int (xs (i + 2)), .int (xs (i + 3))]) (rest := [.int v1]) h0 (T_X12_reading hW.1.2.1 hW.1.2.2.1) lk_L_71 yv_X12_reading rfl rfl rfl (by decide) (Nat.le_of_ble_eq_true rfl) dL_law_629 (fun r2 τ1 q2 => ?_)
  obtain ⟨v2, rfl, q3⟩ := q2
  obtain ⟨e2, g2⟩ := q3
  exact L_icmp_eq (tgt := 1477) h0 dL_law_632 (by decide) (fun _ => K μ1 τ1 ⟨hR1.pm g2, hI.2.pm g2⟩) (fun c9 => absurd (e1.trans e2.symm) c9)
set_option maxHeartbeats 400000 in
theorem S_laws {i n : Nat} (h0 : LH p s m meth c b L xs G M) (oS : okS G) (oZ : okZ G) (oN : okN G) (hL : L ≤ 3072) (hi : i + 5 < L) (hx : x = nI i) (hn : n + 1 ≤ 600) (hI : LI n μ τ) (K : ∀ μ' τ', LI (n + 1) μ' τ' → AL l p e s m below meth c b G M 1477 x [] μ' τ') : AL l p e s m below meth c b G M 637 x [] μ τ := by
  have hW : WFa τ := hI.1.2.1
  refine L_a1 h0 dL_law_637 ?_
  refine L_arg (a := 1) h0 hL (by omega) hx rfl dL_law_638 dL_law_639 dL_law_640 dL_law_641 dL_law_642 ?_
  refine L_arg (a := 2) h0 hL (by omega) hx rfl dL_law_643 dL_law_644 dL_law_645 dL_law_646 dL_law_647 ?_
  refine L_arg (a := 3) h0 hL (by omega) hx rfl dL_law_648 dL_law_649 dL_law_650 dL_law_651 dL_law_652 ?_
  refine L_invC (As := [.int (xs (i + 1)), .int (xs (i + 2)), .int (xs (i + 3))]) (rest := []) h0 (C_laws hI.1 hn) lk_L_72 yv_X11_laws rfl rfl rfl (by decide) (Nat.le_of_ble_eq_true rfl) dL_law_653 (fun r1 μ1 q1 => ?_)
  obtain ⟨v1, rfl, e1, hR1⟩ := q1
  refine L_a2 h0 dL_law_656 ?_
  refine L_arg (a := 1) h0 hL (by omega) hx rfl dL_law_657 dL_law_658 dL_law_659 dL_law_660 dL_law_661 ?_
  refine L_arg (a := 2) h0 hL (by omega) hx rfl dL_law_662 dL_law_663 dL_law_664 dL_law_665 dL_law_666 ?_
  refine L_arg (a := 3) h0 hL (by omega) hx rfl dL_law_667 dL_law_668 dL_law_669 dL_law_670 dL_law_671 ?_
  refine L_invM (As := [.int (xs (i + 1)), .int (xs (i + 2)), .int (xs (i + 3))]) (rest := [.int v1]) h0 (T_X12_laws hW.1) lk_L_75 yv_X12_laws rfl rfl rfl (by decide) (Nat.le_of_ble_eq_true rfl) dL_law_672 (fun r2 τ1 q2 => ?_)
  obtain ⟨v2, rfl, q3⟩ := q2
  obtain ⟨e2, g2⟩ := q3
  exact L_icmp_eq (tgt := 1477) h0 dL_law_675 (by decide) (fun _ => K μ1 τ1 ⟨hR1.pm g2, hI.2.pm g2⟩) (fun c9 => absurd (e1.trans e2.symm) c9)
set_option maxHeartbeats 400000 in
theorem S_law {i n : Nat} (h0 : LH p s m meth c b L xs G M) (oS : okS G) (oZ : okZ G) (oN : okN G) (hL : L ≤ 3072) (hi : i + 5 < L) (hx : x = nI i) (hn : n + 1 ≤ 600) (hI : LI n μ τ) (K : ∀ μ' τ', LI (n + 1) μ' τ' → AL l p e s m below meth c b G M 1477 x [] μ' τ') : AL l p e s m below meth c b G M 680 x [] μ τ := by
  have hW : WFa τ := hI.1.2.1
  refine L_a1 h0 dL_law_680 ?_
  refine L_arg (a := 1) h0 hL (by omega) hx rfl dL_law_681 dL_law_682 dL_law_683 dL_law_684 dL_law_685 ?_
  refine L_arg (a := 2) h0 hL (by omega) hx rfl dL_law_686 dL_law_687 dL_law_688 dL_law_689 dL_law_690 ?_
  refine L_arg (a := 3) h0 hL (by omega) hx rfl dL_law_691 dL_law_692 dL_law_693 dL_law_694 dL_law_695 ?_
  refine L_arg (a := 4) h0 hL (by omega) hx rfl dL_law_696 dL_law_697 dL_law_698 dL_law_699 dL_law_700 ?_
  refine L_arg (a := 5) h0 hL (by omega) hx rfl dL_law_701 dL_law_702 dL_law_703 dL_law_704 dL_law_705 ?_
  refine L_invC (As := [.int (xs (i + 1)), .int (xs (i + 2)), .int (xs (i + 3)), .int (xs (i + 4)), .int (xs (i + 5))]) (rest := []) h0 (C_law hI.1 hn) lk_L_76 yv_X11_law rfl rfl rfl (by decide) (Nat.le_of_ble_eq_true rfl) dL_law_706 (fun r1 μ1 q1 => ?_)
  obtain ⟨v1, rfl, e1, hR1⟩ := q1
  refine L_a2 h0 dL_law_709 ?_
  refine L_arg (a := 1) h0 hL (by omega) hx rfl dL_law_710 dL_law_711 dL_law_712 dL_law_713 dL_law_714 ?_
  refine L_arg (a := 2) h0 hL (by omega) hx rfl dL_law_715 dL_law_716 dL_law_717 dL_law_718 dL_law_719 ?_
  refine L_arg (a := 3) h0 hL (by omega) hx rfl dL_law_720 dL_law_721 dL_law_722 dL_law_723 dL_law_724 ?_
  refine L_arg (a := 4) h0 hL (by omega) hx rfl dL_law_725 dL_law_726 dL_law_727 dL_law_728 dL_law_729 ?_
  refine L_arg (a := 5) h0 hL (by omega) hx rfl dL_law_730 dL_law_731 dL_law_732 dL_law_733 dL_law_734 ?_
  refine L_invM (As := [.int (xs (i + 1)), .int (xs (i + 2)), .int (xs (i + 3)), .int (xs (i + 4)), .int (xs (i + 5))]) (rest := [.int v1]) h0 (T_X12_law hW.1) lk_L_79 yv_X12_law rfl rfl rfl (by decide) (Nat.le_of_ble_eq_true rfl) dL_law_735 (fun r2 τ1 q2 => ?_)
  obtain ⟨v2, rfl, q3⟩ := q2
  obtain ⟨e2, g2⟩ := q3
  exact L_icmp_eq (tgt := 1477) h0 dL_law_738 (by decide) (fun _ => K μ1 τ1 ⟨hR1.pm g2, hI.2.pm g2⟩) (fun c9 => absurd (e1.trans e2.symm) c9)
set_option maxHeartbeats 400000 in
theorem S_misses {i n : Nat} (h0 : LH p s m meth c b L xs G M) (oS : okS G) (oZ : okZ G) (oN : okN G) (hL : L ≤ 3072) (hi : i + 5 < L) (hx : x = nI i) (hn : n + 1 ≤ 600) (hI : LI n μ τ) (K : ∀ μ' τ', LI (n + 1) μ' τ' → AL l p e s m below meth c b G M 1477 x [] μ' τ') : AL l p e s m below meth c b G M 743 x [] μ τ := by
  have hW : WFa τ := hI.1.2.1
  refine L_a1 h0 dL_law_743 ?_
  refine L_arg (a := 1) h0 hL (by omega) hx rfl dL_law_744 dL_law_745 dL_law_746 dL_law_747 dL_law_748 ?_
  refine L_arg (a := 2) h0 hL (by omega) hx rfl dL_law_749 dL_law_750 dL_law_751 dL_law_752 dL_law_753 ?_
  refine L_arg (a := 3) h0 hL (by omega) hx rfl dL_law_754 dL_law_755 dL_law_756 dL_law_757 dL_law_758 ?_
  refine L_invC (As := [.int (xs (i + 1)), .int (xs (i + 2)), .int (xs (i + 3))]) (rest := []) h0 (C_misses hI.1 hn) lk_L_80 yv_X11_misses rfl rfl rfl (by decide) (Nat.le_of_ble_eq_true rfl) dL_law_759 (fun r1 μ1 q1 => ?_)
  obtain ⟨v1, rfl, e1, hR1⟩ := q1
  refine L_a2 h0 dL_law_762 ?_
  refine L_arg (a := 1) h0 hL (by omega) hx rfl dL_law_763 dL_law_764 dL_law_765 dL_law_766 dL_law_767 ?_
  refine L_arg (a := 2) h0 hL (by omega) hx rfl dL_law_768 dL_law_769 dL_law_770 dL_law_771 dL_law_772 ?_
  refine L_arg (a := 3) h0 hL (by omega) hx rfl dL_law_773 dL_law_774 dL_law_775 dL_law_776 dL_law_777 ?_
  refine L_invM (As := [.int (xs (i + 1)), .int (xs (i + 2)), .int (xs (i + 3))]) (rest := [.int v1]) h0 (T_X12_misses hW.1) lk_L_83 yv_X12_misses rfl rfl rfl (by decide) (Nat.le_of_ble_eq_true rfl) dL_law_778 (fun r2 τ1 q2 => ?_)
  obtain ⟨v2, rfl, q3⟩ := q2
  obtain ⟨e2, g2⟩ := q3
  exact L_icmp_eq (tgt := 1477) h0 dL_law_781 (by decide) (fun _ => K μ1 τ1 ⟨hR1.pm g2, hI.2.pm g2⟩) (fun c9 => absurd (e1.trans e2.symm) c9)
set_option maxHeartbeats 400000 in
theorem S_shows {i n : Nat} (h0 : LH p s m meth c b L xs G M) (oS : okS G) (oZ : okZ G) (oN : okN G) (hL : L ≤ 3072) (hi : i + 5 < L) (hx : x = nI i) (hn : n + 1 ≤ 600) (hI : LI n μ τ) (K : ∀ μ' τ', LI (n + 1) μ' τ' → AL l p e s m below meth c b G M 1477 x [] μ' τ') : AL l p e s m below meth c b G M 786 x [] μ τ := by
  have hW : WFa τ := hI.1.2.1
  refine L_a1 h0 dL_law_786 ?_
  refine L_arg (a := 1) h0 hL (by omega) hx rfl dL_law_787 dL_law_788 dL_law_789 dL_law_790 dL_law_791 ?_
  refine L_arg (a := 2) h0 hL (by omega) hx rfl dL_law_792 dL_law_793 dL_law_794 dL_law_795 dL_law_796 ?_
  refine L_arg (a := 3) h0 hL (by omega) hx rfl dL_law_797 dL_law_798 dL_law_799 dL_law_800 dL_law_801 ?_
  refine L_invC (As := [.int (xs (i + 1)), .int (xs (i + 2)), .int (xs (i + 3))]) (rest := []) h0 (C_shows hI.1 hn) lk_L_84 yv_X11_shows rfl rfl rfl (by decide) (Nat.le_of_ble_eq_true rfl) dL_law_802 (fun r1 μ1 q1 => ?_)
  obtain ⟨v1, rfl, e1, hR1⟩ := q1
  refine L_a2 h0 dL_law_805 ?_
  refine L_arg (a := 1) h0 hL (by omega) hx rfl dL_law_806 dL_law_807 dL_law_808 dL_law_809 dL_law_810 ?_
  refine L_arg (a := 2) h0 hL (by omega) hx rfl dL_law_811 dL_law_812 dL_law_813 dL_law_814 dL_law_815 ?_
  refine L_arg (a := 3) h0 hL (by omega) hx rfl dL_law_816 dL_law_817 dL_law_818 dL_law_819 dL_law_820 ?_
  refine L_invM (As := [.int (xs (i + 1)), .int (xs (i + 2)), .int (xs (i + 3))]) (rest := [.int v1]) h0 (T_X12_shows hW.1) lk_L_87 yv_X12_shows rfl rfl rfl (by decide) (Nat.le_of_ble_eq_true rfl) dL_law_821 (fun r2 τ1 q2 => ?_)
  obtain ⟨v2, rfl, q3⟩ := q2
  obtain ⟨e2, g2⟩ := q3
  exact L_icmp_eq (tgt := 1477) h0 dL_law_824 (by decide) (fun _ => K μ1 τ1 ⟨hR1.pm g2, hI.2.pm g2⟩) (fun c9 => absurd (e1.trans e2.symm) c9)
set_option maxHeartbeats 400000 in
theorem S_frost {i n : Nat} (h0 : LH p s m meth c b L xs G M) (oS : okS G) (oZ : okZ G) (oN : okN G) (hL : L ≤ 3072) (hi : i + 5 < L) (hx : x = nI i) (hn : n + 1 ≤ 600) (hI : LI n μ τ) (K : ∀ μ' τ', LI (n + 1) μ' τ' → AL l p e s m below meth c b G M 1477 x [] μ' τ') : AL l p e s m below meth c b G M 829 x [] μ τ := by
  have hW : WFa τ := hI.1.2.1
  refine L_a1 h0 dL_law_829 ?_
  refine L_arg (a := 1) h0 hL (by omega) hx rfl dL_law_830 dL_law_831 dL_law_832 dL_law_833 dL_law_834 ?_
  refine L_arg (a := 2) h0 hL (by omega) hx rfl dL_law_835 dL_law_836 dL_law_837 dL_law_838 dL_law_839 ?_
  refine L_arg (a := 3) h0 hL (by omega) hx rfl dL_law_840 dL_law_841 dL_law_842 dL_law_843 dL_law_844 ?_
  refine L_invC (As := [.int (xs (i + 1)), .int (xs (i + 2)), .int (xs (i + 3))]) (rest := []) h0 (C_frost hI.1 hn) lk_L_88 yv_X11_frost rfl rfl rfl (by decide) (Nat.le_of_ble_eq_true rfl) dL_law_845 (fun r1 μ1 q1 => ?_)
  obtain ⟨v1, rfl, e1, hR1⟩ := q1
  refine L_a2 h0 dL_law_848 ?_
  refine L_arg (a := 1) h0 hL (by omega) hx rfl dL_law_849 dL_law_850 dL_law_851 dL_law_852 dL_law_853 ?_
  refine L_arg (a := 2) h0 hL (by omega) hx rfl dL_law_854 dL_law_855 dL_law_856 dL_law_857 dL_law_858 ?_
  refine L_arg (a := 3) h0 hL (by omega) hx rfl dL_law_859 dL_law_860 dL_law_861 dL_law_862 dL_law_863 ?_
  refine L_invM (As := [.int (xs (i + 1)), .int (xs (i + 2)), .int (xs (i + 3))]) (rest := [.int v1]) h0 (T_X12_frost hW.1) lk_L_91 yv_X12_frost rfl rfl rfl (by decide) (Nat.le_of_ble_eq_true rfl) dL_law_864 (fun r2 τ1 q2 => ?_)
  obtain ⟨v2, rfl, q3⟩ := q2
  obtain ⟨e2, g2⟩ := q3
  exact L_icmp_eq (tgt := 1477) h0 dL_law_867 (by decide) (fun _ => K μ1 τ1 ⟨hR1.pm g2, hI.2.pm g2⟩) (fun c9 => absurd (e1.trans e2.symm) c9)
set_option maxHeartbeats 400000 in
theorem S_shown {i n : Nat} (h0 : LH p s m meth c b L xs G M) (oS : okS G) (oZ : okZ G) (oN : okN G) (hL : L ≤ 3072) (hi : i + 5 < L) (hx : x = nI i) (hn : n + 1 ≤ 600) (hI : LI n μ τ) (K : ∀ μ' τ', LI (n + 1) μ' τ' → AL l p e s m below meth c b G M 1477 x [] μ' τ') : AL l p e s m below meth c b G M 872 x [] μ τ := by
  have hW : WFa τ := hI.1.2.1
  refine L_a1 h0 dL_law_872 ?_
  refine L_arg (a := 1) h0 hL (by omega) hx rfl dL_law_873 dL_law_874 dL_law_875 dL_law_876 dL_law_877 ?_
  refine L_arg (a := 2) h0 hL (by omega) hx rfl dL_law_878 dL_law_879 dL_law_880 dL_law_881 dL_law_882 ?_
  refine L_arg (a := 3) h0 hL (by omega) hx rfl dL_law_883 dL_law_884 dL_law_885 dL_law_886 dL_law_887 ?_
  refine L_bool h0 dL_law_888 dL_law_891 dL_law_892 dL_law_895 ?_
  refine L_arg (a := 4) h0 hL (by omega) hx rfl dL_law_896 dL_law_897 dL_law_898 dL_law_899 dL_law_900 ?_
  refine L_invC (As := [.int (xs (i + 1)), .int (xs (i + 2)), .int (zb (xs (i + 3))), .int (xs (i + 4))]) (rest := []) h0 (C_shown hI.1 hn) lk_L_92 yv_X11_shown rfl rfl rfl (by decide) (Nat.le_of_ble_eq_true rfl) dL_law_901 (fun r1 μ1 q1 => ?_)
  obtain ⟨v1, rfl, e1, hR1⟩ := q1
  refine L_a2 h0 dL_law_904 ?_
  refine L_arg (a := 1) h0 hL (by omega) hx rfl dL_law_905 dL_law_906 dL_law_907 dL_law_908 dL_law_909 ?_
  refine L_arg (a := 2) h0 hL (by omega) hx rfl dL_law_910 dL_law_911 dL_law_912 dL_law_913 dL_law_914 ?_
  refine L_arg (a := 3) h0 hL (by omega) hx rfl dL_law_915 dL_law_916 dL_law_917 dL_law_918 dL_law_919 ?_
  refine L_bool h0 dL_law_920 dL_law_923 dL_law_924 dL_law_927 ?_
  refine L_arg (a := 4) h0 hL (by omega) hx rfl dL_law_928 dL_law_929 dL_law_930 dL_law_931 dL_law_932 ?_
  refine L_invM (As := [.int (xs (i + 1)), .int (xs (i + 2)), .int (zb (xs (i + 3))), .int (xs (i + 4))]) (rest := [.int v1]) h0 (T_X12_shown hW.1) lk_L_96 yv_X12_shown rfl rfl rfl (by decide) (Nat.le_of_ble_eq_true rfl) dL_law_933 (fun r2 τ1 q2 => ?_)
  obtain ⟨v2, rfl, q3⟩ := q2
  obtain ⟨e2, g2⟩ := q3
  exact L_icmp_eq (tgt := 1477) h0 dL_law_936 (by decide) (fun _ => K μ1 τ1 ⟨hR1.pm g2, hI.2.pm g2⟩) (fun c9 => absurd (e1.trans e2.symm) c9)
set_option maxHeartbeats 400000 in
theorem S_wrong {i n : Nat} (h0 : LH p s m meth c b L xs G M) (oS : okS G) (oZ : okZ G) (oN : okN G) (hL : L ≤ 3072) (hi : i + 5 < L) (hx : x = nI i) (hn : n + 1 ≤ 600) (hI : LI n μ τ) (K : ∀ μ' τ', LI (n + 1) μ' τ' → AL l p e s m below meth c b G M 1477 x [] μ' τ') : AL l p e s m below meth c b G M 941 x [] μ τ := by
  have hW : WFa τ := hI.1.2.1
  refine L_a1 h0 dL_law_941 ?_
  refine L_arg (a := 1) h0 hL (by omega) hx rfl dL_law_942 dL_law_943 dL_law_944 dL_law_945 dL_law_946 ?_
  refine L_arg (a := 2) h0 hL (by omega) hx rfl dL_law_947 dL_law_948 dL_law_949 dL_law_950 dL_law_951 ?_
  refine L_arg (a := 3) h0 hL (by omega) hx rfl dL_law_952 dL_law_953 dL_law_954 dL_law_955 dL_law_956 ?_
  refine L_invC (As := [.int (xs (i + 1)), .int (xs (i + 2)), .int (xs (i + 3))]) (rest := []) h0 (C_wrong hI.1 hn) lk_L_97 yv_X11_wrong rfl rfl rfl (by decide) (Nat.le_of_ble_eq_true rfl) dL_law_957 (fun r1 μ1 q1 => ?_)
  obtain ⟨v1, rfl, e1, hR1⟩ := q1
  refine L_a2 h0 dL_law_960 ?_
  refine L_arg (a := 1) h0 hL (by omega) hx rfl dL_law_961 dL_law_962 dL_law_963 dL_law_964 dL_law_965 ?_
  refine L_arg (a := 2) h0 hL (by omega) hx rfl dL_law_966 dL_law_967 dL_law_968 dL_law_969 dL_law_970 ?_
  refine L_arg (a := 3) h0 hL (by omega) hx rfl dL_law_971 dL_law_972 dL_law_973 dL_law_974 dL_law_975 ?_
  refine L_invM (As := [.int (xs (i + 1)), .int (xs (i + 2)), .int (xs (i + 3))]) (rest := [.int v1]) h0 (T_X12_wrong hW.1) lk_L_100 yv_X12_wrong rfl rfl rfl (by decide) (Nat.le_of_ble_eq_true rfl) dL_law_976 (fun r2 τ1 q2 => ?_)
  obtain ⟨v2, rfl, q3⟩ := q2
  obtain ⟨e2, g2⟩ := q3
  exact L_icmp_eq (tgt := 1477) h0 dL_law_979 (by decide) (fun _ => K μ1 τ1 ⟨hR1.pm g2, hI.2.pm g2⟩) (fun c9 => absurd (e1.trans e2.symm) c9)
set_option maxHeartbeats 400000 in
theorem S_habit {i n : Nat} (h0 : LH p s m meth c b L xs G M) (oS : okS G) (oZ : okZ G) (oN : okN G) (hL : L ≤ 3072) (hi : i + 5 < L) (hx : x = nI i) (hn : n + 1 ≤ 600) (hI : LI n μ τ) (K : ∀ μ' τ', LI (n + 1) μ' τ' → AL l p e s m below meth c b G M 1477 x [] μ' τ') : AL l p e s m below meth c b G M 984 x [] μ τ := by
  have hW : WFa τ := hI.1.2.1
  refine L_a1 h0 dL_law_984 ?_
  refine L_arg (a := 1) h0 hL (by omega) hx rfl dL_law_985 dL_law_986 dL_law_987 dL_law_988 dL_law_989 ?_
  refine L_arg (a := 2) h0 hL (by omega) hx rfl dL_law_990 dL_law_991 dL_law_992 dL_law_993 dL_law_994 ?_
  refine L_invC (As := [.int (xs (i + 1)), .int (xs (i + 2))]) (rest := []) h0 (C_habit oN hI.1 hn) lk_L_101 yv_X11_habit rfl rfl rfl (by decide) (Nat.le_of_ble_eq_true rfl) dL_law_995 (fun r1 μ1 q1 => ?_)
  obtain ⟨v1, rfl, e1, hR1⟩ := q1
  refine L_a2 h0 dL_law_998 ?_
  refine L_arg (a := 1) h0 hL (by omega) hx rfl dL_law_999 dL_law_1000 dL_law_1001 dL_law_1002 dL_law_1003 ?_
  refine L_arg (a := 2) h0 hL (by omega) hx rfl dL_law_1004 dL_law_1005 dL_law_1006 dL_law_1007 dL_law_1008 ?_
  refine L_invM (As := [.int (xs (i + 1)), .int (xs (i + 2))]) (rest := [.int v1]) h0 (T_X12_habit hW.1) lk_L_105 yv_X12_habit rfl rfl rfl (by decide) (Nat.le_of_ble_eq_true rfl) dL_law_1009 (fun r2 τ1 q2 => ?_)
  obtain ⟨v2, rfl, q3⟩ := q2
  obtain ⟨e2, g2⟩ := q3
  exact L_icmp_eq (tgt := 1477) h0 dL_law_1012 (by decide) (fun _ => K μ1 τ1 ⟨hR1.pm g2, hI.2.pm g2⟩) (fun c9 => absurd (e1.trans e2.symm) c9)
set_option maxHeartbeats 400000 in
theorem S_right {i n : Nat} (h0 : LH p s m meth c b L xs G M) (oS : okS G) (oZ : okZ G) (oN : okN G) (hL : L ≤ 3072) (hi : i + 5 < L) (hx : x = nI i) (hn : n + 1 ≤ 600) (hI : LI n μ τ) (K : ∀ μ' τ', LI (n + 1) μ' τ' → AL l p e s m below meth c b G M 1477 x [] μ' τ') : AL l p e s m below meth c b G M 1017 x [] μ τ := by
  have hW : WFa τ := hI.1.2.1
  refine L_a1 h0 dL_law_1017 ?_
  refine L_arg (a := 1) h0 hL (by omega) hx rfl dL_law_1018 dL_law_1019 dL_law_1020 dL_law_1021 dL_law_1022 ?_
  refine L_arg (a := 2) h0 hL (by omega) hx rfl dL_law_1023 dL_law_1024 dL_law_1025 dL_law_1026 dL_law_1027 ?_
  refine L_arg (a := 3) h0 hL (by omega) hx rfl dL_law_1028 dL_law_1029 dL_law_1030 dL_law_1031 dL_law_1032 ?_
  refine L_bool h0 dL_law_1033 dL_law_1036 dL_law_1037 dL_law_1040 ?_
  refine L_arg (a := 4) h0 hL (by omega) hx rfl dL_law_1041 dL_law_1042 dL_law_1043 dL_law_1044 dL_law_1045 ?_
  refine L_invC (As := [.int (xs (i + 1)), .int (xs (i + 2)), .int (zb (xs (i + 3))), .int (xs (i + 4))]) (rest := []) h0 (C_right oZ hI.2.1.1 hI.1 hn) lk_L_106 yv_X11_right rfl rfl rfl (by decide) (Nat.le_of_ble_eq_true rfl) dL_law_1046 (fun r1 μ1 q1 => ?_)
  obtain ⟨v1, rfl, e1, hR1⟩ := q1
  refine L_a2 h0 dL_law_1049 ?_
  refine L_arg (a := 1) h0 hL (by omega) hx rfl dL_law_1050 dL_law_1051 dL_law_1052 dL_law_1053 dL_law_1054 ?_
  refine L_arg (a := 2) h0 hL (by omega) hx rfl dL_law_1055 dL_law_1056 dL_law_1057 dL_law_1058 dL_law_1059 ?_
  refine L_arg (a := 3) h0 hL (by omega) hx rfl dL_law_1060 dL_law_1061 dL_law_1062 dL_law_1063 dL_law_1064 ?_
  refine L_bool h0 dL_law_1065 dL_law_1068 dL_law_1069 dL_law_1072 ?_
  refine L_arg (a := 4) h0 hL (by omega) hx rfl dL_law_1073 dL_law_1074 dL_law_1075 dL_law_1076 dL_law_1077 ?_
  refine L_invM (As := [.int (xs (i + 1)), .int (xs (i + 2)), .int (zb (xs (i + 3))), .int (xs (i + 4))]) (rest := [.int v1]) h0 (T_X12_right hW.1) lk_L_109 yv_X12_right rfl rfl rfl (by decide) (Nat.le_of_ble_eq_true rfl) dL_law_1078 (fun r2 τ1 q2 => ?_)
  obtain ⟨v2, rfl, q3⟩ := q2
  obtain ⟨e2, g2⟩ := q3
  exact L_icmp_eq (tgt := 1477) h0 dL_law_1081 (by decide) (fun _ => K μ1 τ1 ⟨hR1.pm g2, hI.2.pm g2⟩) (fun c9 => absurd (e1.trans e2.symm) c9)
set_option maxHeartbeats 400000 in
theorem S_sum {i n : Nat} (h0 : LH p s m meth c b L xs G M) (oS : okS G) (oZ : okZ G) (oN : okN G) (hL : L ≤ 3072) (hi : i + 5 < L) (hx : x = nI i) (hn : n + 1 ≤ 600) (hI : LI n μ τ) (K : ∀ μ' τ', LI (n + 1) μ' τ' → AL l p e s m below meth c b G M 1477 x [] μ' τ') : AL l p e s m below meth c b G M 1086 x [] μ τ := by
  have hW : WFa τ := hI.1.2.1
  refine L_a1 h0 dL_law_1086 ?_
  refine L_arg (a := 1) h0 hL (by omega) hx rfl dL_law_1087 dL_law_1088 dL_law_1089 dL_law_1090 dL_law_1091 ?_
  refine L_arg (a := 2) h0 hL (by omega) hx rfl dL_law_1092 dL_law_1093 dL_law_1094 dL_law_1095 dL_law_1096 ?_
  refine L_arg (a := 3) h0 hL (by omega) hx rfl dL_law_1097 dL_law_1098 dL_law_1099 dL_law_1100 dL_law_1101 ?_
  refine L_arg (a := 4) h0 hL (by omega) hx rfl dL_law_1102 dL_law_1103 dL_law_1104 dL_law_1105 dL_law_1106 ?_
  refine L_arg (a := 5) h0 hL (by omega) hx rfl dL_law_1107 dL_law_1108 dL_law_1109 dL_law_1110 dL_law_1111 ?_
  refine L_invC (As := [.int (xs (i + 1)), .int (xs (i + 2)), .int (xs (i + 3)), .int (xs (i + 4)), .int (xs (i + 5))]) (rest := []) h0 (C_sum oZ hI.2.1.1 hI.1 hn) lk_L_110 yv_X11_sum rfl rfl rfl (by decide) (Nat.le_of_ble_eq_true rfl) dL_law_1112 (fun r1 μ1 q1 => ?_)
  obtain ⟨v1, rfl, e1, hR1⟩ := q1
  refine L_a2 h0 dL_law_1115 ?_
  refine L_arg (a := 1) h0 hL (by omega) hx rfl dL_law_1116 dL_law_1117 dL_law_1118 dL_law_1119 dL_law_1120 ?_
  refine L_arg (a := 2) h0 hL (by omega) hx rfl dL_law_1121 dL_law_1122 dL_law_1123 dL_law_1124 dL_law_1125 ?_
  refine L_arg (a := 3) h0 hL (by omega) hx rfl dL_law_1126 dL_law_1127 dL_law_1128 dL_law_1129 dL_law_1130 ?_
  refine L_arg (a := 4) h0 hL (by omega) hx rfl dL_law_1131 dL_law_1132 dL_law_1133 dL_law_1134 dL_law_1135 ?_
  refine L_arg (a := 5) h0 hL (by omega) hx rfl dL_law_1136 dL_law_1137 dL_law_1138 dL_law_1139 dL_law_1140 ?_
  refine L_invM (As := [.int (xs (i + 1)), .int (xs (i + 2)), .int (xs (i + 3)), .int (xs (i + 4)), .int (xs (i + 5))]) (rest := [.int v1]) h0 (T_X12_sum hW.1) lk_L_113 yv_X12_sum rfl rfl rfl (by decide) (Nat.le_of_ble_eq_true rfl) dL_law_1141 (fun r2 τ1 q2 => ?_)
  obtain ⟨v2, rfl, q3⟩ := q2
  obtain ⟨e2, g2⟩ := q3
  exact L_icmp_eq (tgt := 1477) h0 dL_law_1144 (by decide) (fun _ => K μ1 τ1 ⟨hR1.pm g2, hI.2.pm g2⟩) (fun c9 => absurd (e1.trans e2.symm) c9)
set_option maxHeartbeats 400000 in
theorem S_sure {i n : Nat} (h0 : LH p s m meth c b L xs G M) (oS : okS G) (oZ : okZ G) (oN : okN G) (hL : L ≤ 3072) (hi : i + 5 < L) (hx : x = nI i) (hn : n + 1 ≤ 600) (hI : LI n μ τ) (K : ∀ μ' τ', LI (n + 1) μ' τ' → AL l p e s m below meth c b G M 1477 x [] μ' τ') : AL l p e s m below meth c b G M 1149 x [] μ τ := by
  have hW : WFa τ := hI.1.2.1
  refine L_a1 h0 dL_law_1149 ?_
  refine L_arg (a := 1) h0 hL (by omega) hx rfl dL_law_1150 dL_law_1151 dL_law_1152 dL_law_1153 dL_law_1154 ?_
  refine L_arg (a := 2) h0 hL (by omega) hx rfl dL_law_1155 dL_law_1156 dL_law_1157 dL_law_1158 dL_law_1159 ?_
  refine L_arg (a := 3) h0 hL (by omega) hx rfl dL_law_1160 dL_law_1161 dL_law_1162 dL_law_1163 dL_law_1164 ?_
  refine L_arg (a := 4) h0 hL (by omega) hx rfl dL_law_1165 dL_law_1166 dL_law_1167 dL_law_1168 dL_law_1169 ?_
  refine L_invC (As := [.int (xs (i + 1)), .int (xs (i + 2)), .int (xs (i + 3)), .int (xs (i + 4))]) (rest := []) h0 (C_sure oZ hI.2.1.1 hI.1 hn) lk_L_114 yv_X11_sure rfl rfl rfl (by decide) (Nat.le_of_ble_eq_true rfl) dL_law_1170 (fun r1 μ1 q1 => ?_)
  obtain ⟨v1, rfl, e1, hR1⟩ := q1
  refine L_a2 h0 dL_law_1173 ?_
  refine L_arg (a := 1) h0 hL (by omega) hx rfl dL_law_1174 dL_law_1175 dL_law_1176 dL_law_1177 dL_law_1178 ?_
  refine L_arg (a := 2) h0 hL (by omega) hx rfl dL_law_1179 dL_law_1180 dL_law_1181 dL_law_1182 dL_law_1183 ?_
  refine L_arg (a := 3) h0 hL (by omega) hx rfl dL_law_1184 dL_law_1185 dL_law_1186 dL_law_1187 dL_law_1188 ?_
  refine L_arg (a := 4) h0 hL (by omega) hx rfl dL_law_1189 dL_law_1190 dL_law_1191 dL_law_1192 dL_law_1193 ?_
  refine L_invM (As := [.int (xs (i + 1)), .int (xs (i + 2)), .int (xs (i + 3)), .int (xs (i + 4))]) (rest := [.int v1]) h0 (T_X12_sure hW.1) lk_L_117 yv_X12_sure rfl rfl rfl (by decide) (Nat.le_of_ble_eq_true rfl) dL_law_1194 (fun r2 τ1 q2 => ?_)
  obtain ⟨v2, rfl, q3⟩ := q2
  obtain ⟨e2, g2⟩ := q3
  exact L_icmp_eq (tgt := 1477) h0 dL_law_1197 (by decide) (fun _ => K μ1 τ1 ⟨hR1.pm g2, hI.2.pm g2⟩) (fun c9 => absurd (e1.trans e2.symm) c9)
set_option maxHeartbeats 400000 in
theorem S_lies {i n : Nat} (h0 : LH p s m meth c b L xs G M) (oS : okS G) (oZ : okZ G) (oN : okN G) (hL : L ≤ 3072) (hi : i + 5 < L) (hx : x = nI i) (hn : n + 1 ≤ 600) (hI : LI n μ τ) (K : ∀ μ' τ', LI (n + 1) μ' τ' → AL l p e s m below meth c b G M 1477 x [] μ' τ') : AL l p e s m below meth c b G M 1202 x [] μ τ := by
  have hW : WFa τ := hI.1.2.1
  refine L_a1 h0 dL_law_1202 ?_
  refine L_arg (a := 1) h0 hL (by omega) hx rfl dL_law_1203 dL_law_1204 dL_law_1205 dL_law_1206 dL_law_1207 ?_
  refine L_arg (a := 2) h0 hL (by omega) hx rfl dL_law_1208 dL_law_1209 dL_law_1210 dL_law_1211 dL_law_1212 ?_
  refine L_arg (a := 3) h0 hL (by omega) hx rfl dL_law_1213 dL_law_1214 dL_law_1215 dL_law_1216 dL_law_1217 ?_
  refine L_invC (As := [.int (xs (i + 1)), .int (xs (i + 2)), .int (xs (i + 3))]) (rest := []) h0 (C_lies oZ hI.2.1.1 hI.1 hn) lk_L_118 yv_X11_lies rfl rfl rfl (by decide) (Nat.le_of_ble_eq_true rfl) dL_law_1218 (fun r1 μ1 q1 => ?_)
  obtain ⟨v1, rfl, e1, hR1⟩ := q1
  refine L_a2 h0 dL_law_1221 ?_
  refine L_arg (a := 1) h0 hL (by omega) hx rfl dL_law_1222 dL_law_1223 dL_law_1224 dL_law_1225 dL_law_1226 ?_
  refine L_arg (a := 2) h0 hL (by omega) hx rfl dL_law_1227 dL_law_1228 dL_law_1229 dL_law_1230 dL_law_1231 ?_
  refine L_arg (a := 3) h0 hL (by omega) hx rfl dL_law_1232 dL_law_1233 dL_law_1234 dL_law_1235 dL_law_1236 ?_
  refine L_invM (As := [.int (xs (i + 1)), .int (xs (i + 2)), .int (xs (i + 3))]) (rest := [.int v1]) h0 (T_X12_lies hW.1) lk_L_121 yv_X12_lies rfl rfl rfl (by decide) (Nat.le_of_ble_eq_true rfl) dL_law_1237 (fun r2 τ1 q2 => ?_)
  obtain ⟨v2, rfl, q3⟩ := q2
  obtain ⟨e2, g2⟩ := q3
  exact L_icmp_eq (tgt := 1477) h0 dL_law_1240 (by decide) (fun _ => K μ1 τ1 ⟨hR1.pm g2, hI.2.pm g2⟩) (fun c9 => absurd (e1.trans e2.symm) c9)
set_option maxHeartbeats 400000 in
theorem S_next {i n : Nat} (h0 : LH p s m meth c b L xs G M) (oS : okS G) (oZ : okZ G) (oN : okN G) (hL : L ≤ 3072) (hi : i + 5 < L) (hx : x = nI i) (hn : n + 1 ≤ 600) (hI : LI n μ τ) (K : ∀ μ' τ', LI (n + 1) μ' τ' → AL l p e s m below meth c b G M 1477 x [] μ' τ') : AL l p e s m below meth c b G M 1245 x [] μ τ := by
  have hW : WFa τ := hI.1.2.1
  refine L_a1 h0 dL_law_1245 ?_
  refine L_arg (a := 1) h0 hL (by omega) hx rfl dL_law_1246 dL_law_1247 dL_law_1248 dL_law_1249 dL_law_1250 ?_
  refine L_invC (As := [.int (xs (i + 1))]) (rest := []) h0 (C_next hI.1 hn) lk_L_122 yv_X11_next rfl rfl rfl (by decide) (Nat.le_of_ble_eq_true rfl) dL_law_1251 (fun r1 μ1 q1 => ?_)
  obtain ⟨v1, rfl, e1, hR1⟩ := q1
  refine L_a2 h0 dL_law_1254 ?_
  refine L_arg (a := 1) h0 hL (by omega) hx rfl dL_law_1255 dL_law_1256 dL_law_1257 dL_law_1258 dL_law_1259 ?_
  refine L_invM (As := [.int (xs (i + 1))]) (rest := [.int v1]) h0 (T_X12_next hW.1) lk_L_125 yv_X12_next rfl rfl rfl (by decide) (Nat.le_of_ble_eq_true rfl) dL_law_1260 (fun r2 τ1 q2 => ?_)
  obtain ⟨v2, rfl, q3⟩ := q2
  obtain ⟨e2, g2⟩ := q3
  exact L_icmp_eq (tgt := 1477) h0 dL_law_1263 (by decide) (fun _ => K μ1 τ1 ⟨hR1.pm g2, hI.2.pm g2⟩) (fun c9 => absurd (e1.trans e2.symm) c9)
set_option maxHeartbeats 400000 in
theorem S_says {i n : Nat} (h0 : LH p s m meth c b L xs G M) (oS : okS G) (oZ : okZ G) (oN : okN G) (hL : L ≤ 3072) (hi : i + 5 < L) (hx : x = nI i) (hn : n + 1 ≤ 600) (hI : LI n μ τ) (K : ∀ μ' τ', LI (n + 1) μ' τ' → AL l p e s m below meth c b G M 1477 x [] μ' τ') : AL l p e s m below meth c b G M 1268 x [] μ τ := by
  have hW : WFa τ := hI.1.2.1
  refine L_a1 h0 dL_law_1268 ?_
  refine L_arg (a := 1) h0 hL (by omega) hx rfl dL_law_1269 dL_law_1270 dL_law_1271 dL_law_1272 dL_law_1273 ?_
  refine L_arg (a := 2) h0 hL (by omega) hx rfl dL_law_1274 dL_law_1275 dL_law_1276 dL_law_1277 dL_law_1278 ?_
  refine L_invC (As := [.int (xs (i + 1)), .int (xs (i + 2))]) (rest := []) h0 (C_says hI.2.1.2.2.1 hI.1 hn) lk_L_126 yv_X11_says rfl rfl rfl (by decide) (Nat.le_of_ble_eq_true rfl) dL_law_1279 (fun r1 μ1 q1 => ?_)
  obtain ⟨v1, rfl, e1, hR1⟩ := q1
  refine L_a2 h0 dL_law_1282 ?_
  refine L_arg (a := 1) h0 hL (by omega) hx rfl dL_law_1283 dL_law_1284 dL_law_1285 dL_law_1286 dL_law_1287 ?_
  refine L_arg (a := 2) h0 hL (by omega) hx rfl dL_law_1288 dL_law_1289 dL_law_1290 dL_law_1291 dL_law_1292 ?_
  refine L_invM (As := [.int (xs (i + 1)), .int (xs (i + 2))]) (rest := [.int v1]) h0 (T_X12_says hW) lk_L_129 yv_X12_says rfl rfl rfl (by decide) (Nat.le_of_ble_eq_true rfl) dL_law_1293 (fun r2 τ1 q2 => ?_)
  obtain ⟨v2, rfl, q3⟩ := q2
  obtain ⟨e2, g2⟩ := q3
  exact L_icmp_eq (tgt := 1477) h0 dL_law_1296 (by decide) (fun _ => K μ1 τ1 ⟨hR1.pm g2, hI.2.pm g2⟩) (fun c9 => absurd (e1.trans e2.symm) c9)
set_option maxHeartbeats 400000 in
theorem S_tried {i n : Nat} (h0 : LH p s m meth c b L xs G M) (oS : okS G) (oZ : okZ G) (oN : okN G) (hL : L ≤ 3072) (hi : i + 5 < L) (hx : x = nI i) (hn : n + 1 ≤ 600) (hI : LI n μ τ) (K : ∀ μ' τ', LI (n + 1) μ' τ' → AL l p e s m below meth c b G M 1477 x [] μ' τ') : AL l p e s m below meth c b G M 1301 x [] μ τ := by
  have hW : WFa τ := hI.1.2.1
  refine L_a1 h0 dL_law_1301 ?_
  refine L_arg (a := 1) h0 hL (by omega) hx rfl dL_law_1302 dL_law_1303 dL_law_1304 dL_law_1305 dL_law_1306 ?_
  refine L_arg (a := 2) h0 hL (by omega) hx rfl dL_law_1307 dL_law_1308 dL_law_1309 dL_law_1310 dL_law_1311 ?_
  refine L_invC (As := [.int (xs (i + 1)), .int (xs (i + 2))]) (rest := []) h0 (C_tried hI.2.1.2.2.1 hI.1 hn) lk_L_130 yv_X11_tried rfl rfl rfl (by decide) (Nat.le_of_ble_eq_true rfl) dL_law_1312 (fun r1 μ1 q1 => ?_)
  obtain ⟨v1, rfl, e1, hR1⟩ := q1
  refine L_a2 h0 dL_law_1315 ?_
  refine L_arg (a := 1) h0 hL (by omega) hx rfl dL_law_1316 dL_law_1317 dL_law_1318 dL_law_1319 dL_law_1320 ?_
  refine L_arg (a := 2) h0 hL (by omega) hx rfl dL_law_1321 dL_law_1322 dL_law_1323 dL_law_1324 dL_law_1325 ?_
  refine L_invM (As := [.int (xs (i + 1)), .int (xs (i + 2))]) (rest := [.int v1]) h0 (T_X12_tried hW) lk_L_133 yv_X12_tried rfl rfl rfl (by decide) (Nat.le_of_ble_eq_true rfl) dL_law_1326 (fun r2 τ1 q2 => ?_)
  obtain ⟨v2, rfl, q3⟩ := q2
  obtain ⟨e2, g2⟩ := q3
  exact L_icmp_eq (tgt := 1477) h0 dL_law_1329 (by decide) (fun _ => K μ1 τ1 ⟨hR1.pm g2, hI.2.pm g2⟩) (fun c9 => absurd (e1.trans e2.symm) c9)
set_option maxHeartbeats 400000 in
theorem S_luck {i n : Nat} (h0 : LH p s m meth c b L xs G M) (oS : okS G) (oZ : okZ G) (oN : okN G) (hL : L ≤ 3072) (hi : i + 5 < L) (hx : x = nI i) (hn : n + 1 ≤ 600) (hI : LI n μ τ) (K : ∀ μ' τ', LI (n + 1) μ' τ' → AL l p e s m below meth c b G M 1477 x [] μ' τ') : AL l p e s m below meth c b G M 1334 x [] μ τ := by
  have hW : WFa τ := hI.1.2.1
  refine L_a1 h0 dL_law_1334 ?_
  refine L_arg (a := 1) h0 hL (by omega) hx rfl dL_law_1335 dL_law_1336 dL_law_1337 dL_law_1338 dL_law_1339 ?_
  refine L_arg (a := 2) h0 hL (by omega) hx rfl dL_law_1340 dL_law_1341 dL_law_1342 dL_law_1343 dL_law_1344 ?_
  refine L_invC (As := [.int (xs (i + 1)), .int (xs (i + 2))]) (rest := []) h0 (C_luck hI.2.1.2.2.1 hI.1 hn) lk_L_134 yv_X11_luck rfl rfl rfl (by decide) (Nat.le_of_ble_eq_true rfl) dL_law_1345 (fun r1 μ1 q1 => ?_)
  obtain ⟨v1, rfl, e1, hR1⟩ := q1
  refine L_a2 h0 dL_law_1348 ?_
  refine L_arg (a := 1) h0 hL (by omega) hx rfl dL_law_1349 dL_law_1350 dL_law_1351 dL_law_1352 dL_law_1353 ?_
  refine L_arg (a := 2) h0 hL (by omega) hx rfl dL_law_1354 dL_law_1355 dL_law_1356 dL_law_1357 dL_law_1358 ?_
  refine L_invM (As := [.int (xs (i + 1)), .int (xs (i + 2))]) (rest := [.long v1]) h0 (T_X12_luck hW) lk_L_138 yv_X12_luck rfl rfl rfl (by decide) (Nat.le_of_ble_eq_true rfl) dL_law_1359 (fun r2 τ1 q2 => ?_)
  obtain ⟨v2, rfl, q3⟩ := q2
  obtain ⟨e2, g2⟩ := q3
  refine L_lcmp h0 dL_law_1362 ?_
  have e9 : v1 = v2 := e1.trans e2.symm
  rw [e9, lcmp_s]
  exact L_if_eq (tgt := 1477) h0 dL_law_1363 (by decide) (fun _ => K μ1 τ1 ⟨hR1.pm g2, hI.2.pm g2⟩) (fun c9 => absurd rfl c9)
set_option maxHeartbeats 400000 in
theorem S_learnt {i n : Nat} (h0 : LH p s m meth c b L xs G M) (oS : okS G) (oZ : okZ G) (oN : okN G) (hL : L ≤ 3072) (hi : i + 5 < L) (hx : x = nI i) (hn : n + 1 ≤ 600) (hI : LI n μ τ) (K : ∀ μ' τ', LI (n + 1) μ' τ' → AL l p e s m below meth c b G M 1477 x [] μ' τ') : AL l p e s m below meth c b G M 1368 x [] μ τ := by
  have hW : WFa τ := hI.1.2.1
  refine L_a1 h0 dL_law_1368 ?_
  refine L_arg (a := 1) h0 hL (by omega) hx rfl dL_law_1369 dL_law_1370 dL_law_1371 dL_law_1372 dL_law_1373 ?_
  refine L_arg (a := 2) h0 hL (by omega) hx rfl dL_law_1374 dL_law_1375 dL_law_1376 dL_law_1377 dL_law_1378 ?_
  refine L_arg (a := 3) h0 hL (by omega) hx rfl dL_law_1379 dL_law_1380 dL_law_1381 dL_law_1382 dL_law_1383 ?_
  refine L_invC (As := [.int (xs (i + 1)), .int (xs (i + 2)), .int (xs (i + 3))]) (rest := []) h0 (C_learnt hI.2.1.2.1 hI.1 hn) lk_L_139 yv_X11_learnt rfl rfl rfl (by decide) (Nat.le_of_ble_eq_true rfl) dL_law_1384 (fun r1 μ1 q1 => ?_)
  obtain ⟨v1, rfl, e1, hR1⟩ := q1
  refine L_a2 h0 dL_law_1387 ?_
  refine L_arg (a := 1) h0 hL (by omega) hx rfl dL_law_1388 dL_law_1389 dL_law_1390 dL_law_1391 dL_law_1392 ?_
  refine L_arg (a := 2) h0 hL (by omega) hx rfl dL_law_1393 dL_law_1394 dL_law_1395 dL_law_1396 dL_law_1397 ?_
  refine L_arg (a := 3) h0 hL (by omega) hx rfl dL_law_1398 dL_law_1399 dL_law_1400 dL_law_1401 dL_law_1402 ?_
  refine L_invM (As := [.int (xs (i + 1)), .int (xs (i + 2)), .int (xs (i + 3))]) (rest := [.int v1]) h0 (T_X12_learnt hW.1) lk_L_142 yv_X12_learnt rfl rfl rfl (by decide) (Nat.le_of_ble_eq_true rfl) dL_law_1403 (fun r2 τ1 q2 => ?_)
  obtain ⟨v2, rfl, q3⟩ := q2
  obtain ⟨e2, g2⟩ := q3
  exact L_icmp_eq (tgt := 1477) h0 dL_law_1406 (by decide) (fun _ => K μ1 τ1 ⟨hR1.pm g2, hI.2.pm g2⟩) (fun c9 => absurd (e1.trans e2.symm) c9)
set_option maxHeartbeats 400000 in
theorem S_rule {i n : Nat} (h0 : LH p s m meth c b L xs G M) (oS : okS G) (oZ : okZ G) (oN : okN G) (hL : L ≤ 3072) (hi : i + 5 < L) (hx : x = nI i) (hn : n + 1 ≤ 600) (hI : LI n μ τ) (K : ∀ μ' τ', LI (n + 1) μ' τ' → AL l p e s m below meth c b G M 1477 x [] μ' τ') : AL l p e s m below meth c b G M 1411 x [] μ τ := by
  have hW : WFa τ := hI.1.2.1
  refine L_a1 h0 dL_law_1411 ?_
  refine L_arg (a := 1) h0 hL (by omega) hx rfl dL_law_1412 dL_law_1413 dL_law_1414 dL_law_1415 dL_law_1416 ?_
  refine L_arg (a := 2) h0 hL (by omega) hx rfl dL_law_1417 dL_law_1418 dL_law_1419 dL_law_1420 dL_law_1421 ?_
  refine L_arg (a := 3) h0 hL (by omega) hx rfl dL_law_1422 dL_law_1423 dL_law_1424 dL_law_1425 dL_law_1426 ?_
  refine L_invC (As := [.int (xs (i + 1)), .int (xs (i + 2)), .int (xs (i + 3))]) (rest := []) h0 (C_rule hI.2.1.2.2.1 hI.1 hn) lk_L_143 yv_X11_rule rfl rfl rfl (by decide) (Nat.le_of_ble_eq_true rfl) dL_law_1427 (fun r1 μ1 q1 => ?_)
  obtain ⟨v1, rfl, e1, hR1⟩ := q1
  refine L_a2 h0 dL_law_1430 ?_
  refine L_arg (a := 1) h0 hL (by omega) hx rfl dL_law_1431 dL_law_1432 dL_law_1433 dL_law_1434 dL_law_1435 ?_
  refine L_arg (a := 2) h0 hL (by omega) hx rfl dL_law_1436 dL_law_1437 dL_law_1438 dL_law_1439 dL_law_1440 ?_
  refine L_arg (a := 3) h0 hL (by omega) hx rfl dL_law_1441 dL_law_1442 dL_law_1443 dL_law_1444 dL_law_1445 ?_
  refine L_invM (As := [.int (xs (i + 1)), .int (xs (i + 2)), .int (xs (i + 3))]) (rest := [.int v1]) h0 (T_X12_rule hW) lk_L_146 yv_X12_rule rfl rfl rfl (by decide) (Nat.le_of_ble_eq_true rfl) dL_law_1446 (fun r2 τ1 q2 => ?_)
  obtain ⟨v2, rfl, q3⟩ := q2
  obtain ⟨e2, g2⟩ := q3
  exact L_icmp_eq (tgt := 1477) h0 dL_law_1449 (by decide) (fun _ => K μ1 τ1 ⟨hR1.pm g2, hI.2.pm g2⟩) (fun c9 => absurd (e1.trans e2.symm) c9)
set_option maxHeartbeats 400000 in
theorem S_about {i n : Nat} (h0 : LH p s m meth c b L xs G M) (oS : okS G) (oZ : okZ G) (oN : okN G) (hL : L ≤ 3072) (hi : i + 5 < L) (hx : x = nI i) (hn : n + 1 ≤ 600) (hI : LI n μ τ) (K : ∀ μ' τ', LI (n + 1) μ' τ' → AL l p e s m below meth c b G M 1477 x [] μ' τ') : AL l p e s m below meth c b G M 1454 x [] μ τ := by
  have hW : WFa τ := hI.1.2.1
  refine L_a1 h0 dL_law_1454 ?_
  refine L_arg (a := 1) h0 hL (by omega) hx rfl dL_law_1455 dL_law_1456 dL_law_1457 dL_law_1458 dL_law_1459 ?_
  refine L_invC (As := [.int (xs (i + 1))]) (rest := []) h0 (C_about hI.1 hn) lk_L_147 yv_X11_about rfl rfl rfl (by decide) (Nat.le_of_ble_eq_true rfl) dL_law_1460 (fun r1 μ1 q1 => ?_)
  obtain ⟨v1, rfl, e1, hR1⟩ := q1
  refine L_a2 h0 dL_law_1463 ?_
  refine L_arg (a := 1) h0 hL (by omega) hx rfl dL_law_1464 dL_law_1465 dL_law_1466 dL_law_1467 dL_law_1468 ?_
  refine L_invM (As := [.int (xs (i + 1))]) (rest := [.int v1]) h0 T_X12_about lk_L_150 yv_X12_about rfl rfl rfl (by decide) (Nat.le_of_ble_eq_true rfl) dL_law_1469 (fun r2 τ1 q2 => ?_)
  obtain ⟨v2, rfl, q3⟩ := q2
  obtain ⟨e2, e3⟩ := q3
  exact L_icmp_eq (tgt := 1477) h0 dL_law_1472 (by decide) (fun _ => K μ1 τ1 ⟨by rw [e3]; exact hR1, by rw [e3]; exact hI.2⟩) (fun c9 => absurd (e1.trans e2.symm) c9)
end LCases

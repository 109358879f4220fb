/-! the law's loop -/
set_option maxHeartbeats 400000 in
theorem and31 (v : Int32) : ∃ j : Nat, j < 32 ∧ v &&& 31 = nI j := by
  refine ⟨v.toBitVec.toNat % 2 ^ 5, Nat.mod_lt _ (by decide), b_ext (fun i hi => ?_)⟩
  rw [b_and, show (31 : Int32) = nI (2 ^ 5 - 1) from rfl, b_nI, b_nI, Nat.testBit_two_pow_sub_one, Nat.testBit_mod_two_pow, decide_eq_true hi, Bool.true_and, Bool.true_and]
  exact Bool.and_comm _ _
set_option maxHeartbeats 400000 in
theorem len6 {L i : Nat} (hL : L ≤ 3072) (hi : i ≤ 4000) (h : ¬ Int32.ofNat L - 6 < nI i) : i + 6 ≤ L := by
  have e : Int32.ofNat L = nI L := rfl
  rw [e] at h
  by_cases h6 : 6 ≤ L
  · rw [show (6 : Int32) = nI 6 from rfl, pk_sub h6] at h
    rcases Nat.lt_or_ge (L - 6) i with z | z
    · exact absurd (nI_lt z (by omega)) h
    · omega
  · exfalso
    apply h
    have g : (nI L - 6).toInt < 0 := by
      rcases (show L = 0 ∨ L = 1 ∨ L = 2 ∨ L = 3 ∨ L = 4 ∨ L = 5 by omega) with rfl | rfl | rfl | rfl | rfl | rfl <;> decide
    refine i_lt.mpr ?_
    rw [nI_i (by omega)]
    omega
section LLoop
variable {l : Launch} {p : Program} {e : Env} {s : State} {m : MethodId} {below : List Frame} {meth : Method} {c : Code} {b L : Nat} {xs : Nat → Int32} {G M : Wd} {x : Int32} {μ τ : Mem}
set_option maxHeartbeats 400000 in
theorem law_head {i : Nat} (h0 : LH p s m meth c b L xs G M) (hL : L ≤ 3072) (hi : i ≤ 4000) (hx : x = nI i) (k : i + 6 ≤ L → AL l p e s m below meth c b G M 27 x [] μ τ) : AL l p e s m below meth c b G M 18 x [] μ τ := by
  refine L_i3 h0 dL_law_18 ?_
  refine L_a0 h0 dL_law_19 ?_
  refine L_len h0 dL_law_20 ?_
  refine L_bipush (v := 6) h0 dL_law_21 (by decide) ?_
  refine L_isub h0 dL_law_23 ?_
  refine L_icmp_gt (tgt := 1483) h0 dL_law_24 (by decide) (fun _ => ?_) (fun c9 => ?_)
  · refine L_iconst (v := 1) h0 dL_law_1483 (by decide) ?_
    exact L_ret h0 dL_law_1484
  · rw [hx] at c9
    exact k (len6 hL hi c9)
set_option maxHeartbeats 400000 in
theorem law_case {i n : Nat} (h0 : LH p s m meth c b L xs G M) (oS : okS G) (oZ : okZ G) (oN : okN G) (hL : L ≤ 3072) (hi : i + 5 < L) (hx : x = nI i) (hn : n + 1 ≤ 600) (hI : LI n μ τ) (K : ∀ μ' τ', LI (n + 1) μ' τ' → AL l p e s m below meth c b G M 1477 x [] μ' τ') : AL l p e s m below meth c b G M 27 x [] μ τ := by
  refine L_a0 h0 dL_law_27 ?_
  refine L_i3 h0 dL_law_28 ?_
  refine L_sld h0 dL_law_29 (by rw [hx]; exact vp_in_nI (by omega) (by omega)) ?_
  refine L_bipush (v := 31) h0 dL_law_30 (by decide) ?_
  refine L_iand h0 dL_law_32 ?_
  obtain ⟨j, hj, ej⟩ := and31 (xs x.toNatClampNeg)
  rw [ej]
  rcases (show j = 0 ∨ j = 1 ∨ j = 2 ∨ j = 3 ∨ j = 4 ∨ j = 5 ∨ j = 6 ∨ j = 7 ∨ j = 8 ∨ j = 9 ∨ j = 10 ∨ j = 11 ∨ j = 12 ∨ j = 13 ∨ j = 14 ∨ j = 15 ∨ j = 16 ∨ j = 17 ∨ j = 18 ∨ j = 19 ∨ j = 20 ∨ j = 21 ∨ j = 22 ∨ j = 23 ∨ j = 24 ∨ j = 25 ∨ j = 26 ∨ j = 27 ∨ j = 28 ∨ j = 29 ∨ j = 30 ∨ j = 31 by omega) with rfl | rfl | rfl | rfl | rfl | rfl | rfl | rfl | rfl | rfl | rfl | rfl | rfl | rfl | rfl | rfl | rfl | rfl | rfl | rfl | rfl | rfl | rfl | rfl | rfl | rfl | rfl | rfl | rfl | rfl | rfl | rfl
  · exact L_tab (tgt := 176) h0 dL_law_33 (by decide) (by decide) (off := 143) rfl (by decide) (S_feed h0 oS oZ oN hL hi hx hn hI K)
  · exact L_tab (tgt := 239) h0 dL_law_33 (by decide) (by decide) (off := 206) rfl (by decide) (S_end h0 oS oZ oN hL hi hx hn hI K)
  · exact L_tab (tgt := 262) h0 dL_law_33 (by decide) (by decide) (off := 229) rfl (by decide) (S_hill h0 oS oZ oN hL hi hx hn hI K)
  · exact L_tab (tgt := 275) h0 dL_law_33 (by decide) (by decide) (off := 242) rfl (by decide) (S_rules h0 oS oZ oN hL hi hx hn hI K)
  · exact L_tab (tgt := 288) h0 dL_law_33 (by decide) (by decide) (off := 255) rfl (by decide) (S_fault h0 oS oZ oN hL hi hx hn hI K)
  · exact L_tab (tgt := 311) h0 dL_law_33 (by decide) (by decide) (off := 278) rfl (by decide) (S_share h0 oS oZ oN hL hi hx hn hI K)
  · exact L_tab (tgt := 360) h0 dL_law_33 (by decide) (by decide) (off := 327) rfl (by decide) (S_far h0 oS oZ oN hL hi hx hn hI K)
  · exact L_tab (tgt := 403) h0 dL_law_33 (by decide) (by decide) (off := 370) rfl (by decide) (S_read h0 oS oZ oN hL hi hx hn hI K)
  · exact L_tab (tgt := 456) h0 dL_law_33 (by decide) (by decide) (off := 423) rfl (by decide) (S_doubt h0 oS oZ oN hL hi hx hn hI K)
  · exact L_tab (tgt := 505) h0 dL_law_33 (by decide) (by decide) (off := 472) rfl (by decide) (S_untell h0 oS oZ oN hL hi hx hn hI K)
  · exact L_tab (tgt := 528) h0 dL_law_33 (by decide) (by decide) (off := 495) rfl (by decide) (S_later h0 oS oZ oN hL hi hx hn hI K)
  · exact L_tab (tgt := 551) h0 dL_law_33 (by decide) (by decide) (off := 518) rfl (by decide) (S_farOf h0 oS oZ oN hL hi hx hn hI K)
  · exact L_tab (tgt := 594) h0 dL_law_33 (by decide) (by decide) (off := 561) rfl (by decide) (S_reading h0 oS oZ oN hL hi hx hn hI K)
  · exact L_tab (tgt := 637) h0 dL_law_33 (by decide) (by decide) (off := 604) rfl (by decide) (S_laws h0 oS oZ oN hL hi hx hn hI K)
  · exact L_tab (tgt := 680) h0 dL_law_33 (by decide) (by decide) (off := 647) rfl (by decide) (S_law h0 oS oZ oN hL hi hx hn hI K)
  · exact L_tab (tgt := 743) h0 dL_law_33 (by decide) (by decide) (off := 710) rfl (by decide) (S_misses h0 oS oZ oN hL hi hx hn hI K)
  · exact L_tab (tgt := 786) h0 dL_law_33 (by decide) (by decide) (off := 753) rfl (by decide) (S_shows h0 oS oZ oN hL hi hx hn hI K)
  · exact L_tab (tgt := 829) h0 dL_law_33 (by decide) (by decide) (off := 796) rfl (by decide) (S_frost h0 oS oZ oN hL hi hx hn hI K)
  · exact L_tab (tgt := 872) h0 dL_law_33 (by decide) (by decide) (off := 839) rfl (by decide) (S_shown h0 oS oZ oN hL hi hx hn hI K)
  · exact L_tab (tgt := 941) h0 dL_law_33 (by decide) (by decide) (off := 908) rfl (by decide) (S_wrong h0 oS oZ oN hL hi hx hn hI K)
  · exact L_tab (tgt := 984) h0 dL_law_33 (by decide) (by decide) (off := 951) rfl (by decide) (S_habit h0 oS oZ oN hL hi hx hn hI K)
  · exact L_tab (tgt := 1017) h0 dL_law_33 (by decide) (by decide) (off := 984) rfl (by decide) (S_right h0 oS oZ oN hL hi hx hn hI K)
  · exact L_tab (tgt := 1086) h0 dL_law_33 (by decide) (by decide) (off := 1053) rfl (by decide) (S_sum h0 oS oZ oN hL hi hx hn hI K)
  · exact L_tab (tgt := 1149) h0 dL_law_33 (by decide) (by decide) (off := 1116) rfl (by decide) (S_sure h0 oS oZ oN hL hi hx hn hI K)
  · exact L_tab (tgt := 1202) h0 dL_law_33 (by decide) (by decide) (off := 1169) rfl (by decide) (S_lies h0 oS oZ oN hL hi hx hn hI K)
  · exact L_tab (tgt := 1245) h0 dL_law_33 (by decide) (by decide) (off := 1212) rfl (by decide) (S_next h0 oS oZ oN hL hi hx hn hI K)
  · exact L_tab (tgt := 1268) h0 dL_law_33 (by decide) (by decide) (off := 1235) rfl (by decide) (S_says h0 oS oZ oN hL hi hx hn hI K)
  · exact L_tab (tgt := 1301) h0 dL_law_33 (by decide) (by decide) (off := 1268) rfl (by decide) (S_tried h0 oS oZ oN hL hi hx hn hI K)
  · exact L_tab (tgt := 1334) h0 dL_law_33 (by decide) (by decide) (off := 1301) rfl (by decide) (S_luck h0 oS oZ oN hL hi hx hn hI K)
  · exact L_tab (tgt := 1368) h0 dL_law_33 (by decide) (by decide) (off := 1335) rfl (by decide) (S_learnt h0 oS oZ oN hL hi hx hn hI K)
  · exact L_tab (tgt := 1411) h0 dL_law_33 (by decide) (by decide) (off := 1378) rfl (by decide) (S_rule h0 oS oZ oN hL hi hx hn hI K)
  · exact L_tab (tgt := 1454) h0 dL_law_33 (by decide) (by decide) (off := 1421) rfl (by decide) (S_about h0 oS oZ oN hL hi hx hn hI K)
set_option maxHeartbeats 400000 in
theorem law_run (h0 : LH p s m meth c b L xs G M) (oS : okS G) (oZ : okZ G) (oN : okN G) (hL : L ≤ 3072) : ∀ (q i n : Nat) (x : Int32) (μ τ : Mem), L ≤ i + 6 * q → n + q ≤ 600 → i ≤ 4000 → x = nI i → LI n μ τ → AL l p e s m below meth c b G M 18 x [] μ τ := by
  intro q
  induction q with
  | zero =>
    intro i n x μ τ h1 h2 h3 hx hI
    exact law_head h0 hL h3 hx (fun z => absurd z (by omega))
  | succ q ih =>
    intro i n x μ τ h1 h2 h3 hx hI
    refine law_head h0 hL h3 hx (fun z => ?_)
    refine law_case h0 oS oZ oN hL (by omega) hx (by omega) hI (fun μ' τ' hI' => ?_)
    refine L_iinc (v := nI (i + 6)) h0 dL_law_1477 ?_ ?_
    · rw [hx, show Int32.ofInt 6 = nI 6 from rfl, nI_add]
    · exact L_goto (tgt := 18) h0 dL_law_1480 (by decide) (ih (i + 6) (n + 1) _ μ' τ' (by omega) (by omega) (by omega) rfl hI')
end LLoop

/-! parse of a hill; copies -/
theorem ac_nat : Cond.native arraycopyName ∈ wsG := wsG_3 237 (by decide +kernel) (by decide +kernel)
theorem ac_sta : Cond.static arraycopyName ∈ wsG := wsG_3 236 (by decide +kernel) (by decide +kernel)
theorem ac_ini : Cond.initialized "java/lang/System" ∈ wsG := wsG_1 20 (by decide +kernel) (by decide +kernel)
theorem ac_X2 : Cond.methodLink RX2 47 arraycopyName ∈ wsG := wsG_3 235 (by decide +kernel) (by decide +kernel)
theorem ac_X6 : Cond.methodLink RX6 31 arraycopyName ∈ wsG := wsG_4 65 (by decide +kernel) (by decide +kernel)
def cpI (μ : Mem) (i0 i1 n : Nat) : Mem := (fun a => if a = i1 then va_cpy (μ.1 i0) (μ.1 i1) 0 0 n else μ.1 a, μ.2.1, μ.2.2)
def cpL (μ : Mem) (i0 i1 n : Nat) : Mem := (μ.1, fun a => if a = i1 then va_cpy (μ.2.1 i0) (μ.2.1 i1) 0 0 n else μ.2.1 a, μ.2.2)
theorem cpI_in {μ : Mem} {i0 i1 n j : Nat} (h : j < n) : (cpI μ i0 i1 n).1 i1 j = μ.1 i0 j := by
  show (if i1 = i1 then va_cpy (μ.1 i0) (μ.1 i1) 0 0 n else μ.1 i1) j = _
  rw [if_pos rfl]
  unfold va_cpy
  rw [if_pos (by omega)]
  exact congrArg _ (by omega)
theorem cpI_ne {μ : Mem} {i0 i1 n a j : Nat} (h : a ≠ i1) : (cpI μ i0 i1 n).1 a j = μ.1 a j := by
  show (if a = i1 then va_cpy (μ.1 i0) (μ.1 i1) 0 0 n else μ.1 a) j = _
  rw [if_neg h]
theorem cpL_in {μ : Mem} {i0 i1 n j : Nat} (h : j < n) : (cpL μ i0 i1 n).2.1 i1 j = μ.2.1 i0 j := by
  show (if i1 = i1 then va_cpy (μ.2.1 i0) (μ.2.1 i1) 0 0 n else μ.2.1 i1) j = _
  rw [if_pos rfl]
  unfold va_cpy
  rw [if_pos (by omega)]
  exact congrArg _ (by omega)
theorem cpL_ne {μ : Mem} {i0 i1 n a j : Nat} (h : a ≠ i1) : (cpL μ i0 i1 n).2.1 a j = μ.2.1 a j := by
  show (if a = i1 then va_cpy (μ.2.1 i0) (μ.2.1 i1) 0 0 n else μ.2.1 a) j = _
  rw [if_neg h]
section CRules
variable {l : Launch} {G : Wd} {K : List Kd} {own : String} {cc : ByteArray} {nL d : Nat} {rt : Option FieldType} {Q : Option Value → Mem → Prop} {pc : Nat} {ls : List (Option Value)} {μ : Mem}
theorem A_cpI {i0 i1 n0 n1 k idx : Nat} {x : Int32} {fs0 fs1 : List (Nat × Nat)} {rest : List Value} (hL : Cond.methodLink own idx arraycopyName ∈ wsG) (hx0 : x = nI k) (hd0 : 2 ≤ d) (hk0 : K[i0]? = some (1, n0, fs0)) (hk1 : K[i1]? = some (1, n1, fs1)) (h4 : k ≤ n0) (h5 : k ≤ n1) (hk : k < 1000) (hW : (rest.map fun v => v.category).sum ≤ 8) (hd : decode cc pc = .ok (.invokestatic idx, 3)) (kk : AW l G K own cc nL d rt Q (pc + 3) ls rest (cpI μ i0 i1 k)) : AW l G K own cc nL d rt Q pc ls (.int x :: .int 0 :: .ref (gA G i1) :: .int 0 :: .ref (gA G i0) :: rest) μ := by
  intro p e s m args below meth c H locs la F hP hD hE hS hlr
  obtain ⟨hx, hb, hr, hml, hown, hts, hlk⟩ := F
  subst hx0
  have en : (nI k).toNatClampNeg = k := nI_c (by omega)
  have e0 : (0 : Int32).toNatClampNeg = 0 := rfl
  have ew : nativeFrameWords "java/lang/System" "arraycopy" 5 = 7 := by decide
  refine va_copyi (D := gD G) (cl := vwCl) (tys := tyG G) hx hb (hml.trans hlr.1.symm) hown (hts _ hL) (hts _ ac_nat) (hts _ ac_sta) (hts _ ac_ini) hE.1 hP hD hS i0 i1 0 0 (cells_at hk0) (cells_at hk1) rfl rfl rfl (by decide) (by decide) (nI_pos (by omega)) (by rw [en, e0]; omega) (by rw [en, e0]; omega) (fun _ _ => rfl) (by show 1 ≤ d; omega) (by rw [ew]; show _ ≤ 80 * d; omega) hd (fun H1 locs1 hP1 hD1 hS1 => ?_)
  rw [en, e0, cells_set (μ' := cpI μ i0 i1 k) hk1 (by show _ = (Sum.inl (gT G 1, n1, .inl (if i1 = i1 then va_cpy (μ.1 i0) (μ.1 i1) 0 0 k else μ.1 i1)) : va_E); rw [if_pos rfl]) (fun a q' h _ => cel_off (μ := μ) (μ' := cpI μ i0 i1 k) (by show (if a = i1 then _ else μ.1 a) = _; rw [if_neg h]) rfl rfl q')] at hP1 hD1
  exact kk p e s m args below meth c H1 locs1 la ⟨hx, hb, hr, hml, hown, hts, hlk⟩ hP1 hD1 hE hS1 hlr
theorem A_cpL {i0 i1 n0 n1 k idx : Nat} {x : Int32} {fs0 fs1 : List (Nat × Nat)} {rest : List Value} (hL : Cond.methodLink own idx arraycopyName ∈ wsG) (hx0 : x = nI k) (hd0 : 2 ≤ d) (hk0 : K[i0]? = some (2, n0, fs0)) (hk1 : K[i1]? = some (2, n1, fs1)) (h4 : k ≤ n0) (h5 : k ≤ n1) (hk : k < 1000) (hW : (rest.map fun v => v.category).sum ≤ 8) (hd : decode cc pc = .ok (.invokestatic idx, 3)) (kk : AW l G K own cc nL d rt Q (pc + 3) ls rest (cpL μ i0 i1 k)) : AW l G K own cc nL d rt Q pc ls (.int x :: .int 0 :: .ref (gA G i1) :: .int 0 :: .ref (gA G i0) :: rest) μ := by
  intro p e s m args below meth c H locs la F hP hD hE hS hlr
  obtain ⟨hx, hb, hr, hml, hown, hts, hlk⟩ := F
  subst hx0
  have en : (nI k).toNatClampNeg = k := nI_c (by omega)
  have e0 : (0 : Int32).toNatClampNeg = 0 := rfl
  have ew : nativeFrameWords "java/lang/System" "arraycopy" 5 = 7 := by decide
  refine va_copyl (D := gD G) (cl := vwCl) (tys := tyG G) hx hb (hml.trans hlr.1.symm) hown (hts _ hL) (hts _ ac_nat) (hts _ ac_sta) (hts _ ac_ini) hE.1 hP hD hS i0 i1 1 1 (cells_at hk0) (cells_at hk1) rfl rfl rfl (by decide) (by decide) (nI_pos (by omega)) (by rw [en, e0]; omega) (by rw [en, e0]; omega) (fun _ _ => rfl) (by show 1 ≤ d; omega) (by rw [ew]; show _ ≤ 80 * d; omega) hd (fun H1 locs1 hP1 hD1 hS1 => ?_)
  rw [en, e0, cells_set (μ' := cpL μ i0 i1 k) hk1 (by show _ = (Sum.inl (gT G 2, n1, .inr (.inl (if i1 = i1 then va_cpy (μ.2.1 i0) (μ.2.1 i1) 0 0 k else μ.2.1 i1))) : va_E); rw [if_pos rfl]) (fun a q' h _ => cel_off (μ := μ) (μ' := cpL μ i0 i1 k) rfl (by show (if a = i1 then _ else μ.2.1 a) = _; rw [if_neg h]) rfl q')] at hP1 hD1
  exact kk p e s m args below meth c H1 locs1 la ⟨hx, hb, hr, hml, hown, hts, hlk⟩ hP1 hD1 hE hS1 hlr
end CRules
def bcH (μ : Mem) : Mem := cpI (cpI (cpI (cpI (cpI (cpI (cpI (cpI (cpL (wI (wI μ 4 0 (μ.1 14 0)) 4 1 (μ.1 14 1)) 15 5 5) 16 6 5) 17 7 5) 18 8 20) 19 9 20) 20 10 16) 21 11 16) 22 12 16) 23 13 16
set_option maxHeartbeats 400000 in
set_option maxRecDepth 100000 in
theorem T_X2_become {l : Launch} {G : Wd} {μ : Mem}  : Mt l G KC yX2_become cX2_become 2 none 2 [.ref (gA G 4), .ref (gA G 14)] μ (Qv (fun μ' => μ' = bcH μ)) := by
  refine Mt.of (own := RX2) (n := 0) (by decide) rfl [some (.ref (gA G 4)), some (.ref (gA G 14))] rfl (Nat.le_of_ble_eq_true rfl) ?_
  refine A_aload0 dX2_become_0 ?_
  refine A_aload1 dX2_become_1 ?_
  refine A_getI gf_X2_40 rfl dX2_become_2 ?_
  refine A_putI gf_X2_40 rfl dX2_become_5 ?_
  refine A_aload0 dX2_become_8 ?_
  refine A_aload1 dX2_become_9 ?_
  refine A_getI gf_X2_44 rfl dX2_become_10 ?_
  refine A_val (y := μ.1 14 1) (wI_ne (by omega)) ?_
  refine A_putI gf_X2_44 rfl dX2_become_13 ?_
  refine A_aload1 dX2_become_16 ?_
  refine A_getR gf_X2_11 rfl dX2_become_17 ?_
  refine A_iconst (v := 0) dX2_become_20 (by decide) ?_
  refine A_aload0 dX2_become_21 ?_
  refine A_getR gf_X2_11 rfl dX2_become_22 ?_
  refine A_iconst (v := 0) dX2_become_25 (by decide) ?_
  refine A_iconst (v := 5) dX2_become_26 (by decide) ?_
  refine A_cpL (k := 5) ac_X2 (by decide) (by decide) rfl rfl (by decide) (by decide) (by decide) (Nat.le_of_ble_eq_true rfl) dX2_become_27 ?_
  refine A_aload1 dX2_become_30 ?_
  refine A_getR gf_X2_15 rfl dX2_become_31 ?_
  refine A_iconst (v := 0) dX2_become_34 (by decide) ?_
  refine A_aload0 dX2_become_35 ?_
  refine A_getR gf_X2_15 rfl dX2_become_36 ?_
  refine A_iconst (v := 0) dX2_become_39 (by decide) ?_
  refine A_iconst (v := 5) dX2_become_40 (by decide) ?_
  refine A_cpI (k := 5) ac_X2 (by decide) (by decide) rfl rfl (by decide) (by decide) (by decide) (Nat.le_of_ble_eq_true rfl) dX2_become_41 ?_
  refine A_aload1 dX2_become_44 ?_
  refine A_getR gf_X2_19 rfl dX2_become_45 ?_
  refine A_iconst (v := 0) dX2_become_48 (by decide) ?_
  refine A_aload0 dX2_become_49 ?_
  refine A_getR gf_X2_19 rfl dX2_become_50 ?_
  refine A_iconst (v := 0) dX2_become_53 (by decide) ?_
  refine A_iconst (v := 5) dX2_become_54 (by decide) ?_
  refine A_cpI (k := 5) ac_X2 (by decide) (by decide) rfl rfl (by decide) (by decide) (by decide) (Nat.le_of_ble_eq_true rfl) dX2_become_55 ?_
  refine A_aload1 dX2_become_58 ?_
  refine A_getR gf_X2_22 rfl dX2_become_59 ?_
  refine A_iconst (v := 0) dX2_become_62 (by decide) ?_
  refine A_aload0 dX2_become_63 ?_
  refine A_getR gf_X2_22 rfl dX2_become_64 ?_
  refine A_iconst (v := 0) dX2_become_67 (by decide) ?_
  refine A_bipush (v := 20) dX2_become_68 (by decide) ?_
  refine A_cpI (k := 20) ac_X2 (by decide) (by decide) rfl rfl (by decide) (by decide) (by decide) (Nat.le_of_ble_eq_true rfl) dX2_become_70 ?_
  refine A_aload1 dX2_become_73 ?_
  refine A_getR gf_X2_25 rfl dX2_become_74 ?_
  refine A_iconst (v := 0) dX2_become_77 (by decide) ?_
  refine A_aload0 dX2_become_78 ?_
  refine A_getR gf_X2_25 rfl dX2_become_79 ?_
  refine A_iconst (v := 0) dX2_become_82 (by decide) ?_
  refine A_bipush (v := 20) dX2_become_83 (by decide) ?_
  refine A_cpI (k := 20) ac_X2 (by decide) (by decide) rfl rfl (by decide) (by decide) (by decide) (Nat.le_of_ble_eq_true rfl) dX2_become_85 ?_
  refine A_aload1 dX2_become_88 ?_
  refine A_getR gf_X2_28 rfl dX2_become_89 ?_
  refine A_iconst (v := 0) dX2_become_92 (by decide) ?_
  refine A_aload0 dX2_become_93 ?_
  refine A_getR gf_X2_28 rfl dX2_become_94 ?_
  refine A_iconst (v := 0) dX2_become_97 (by decide) ?_
  refine A_bipush (v := 16) dX2_become_98 (by decide) ?_
  refine A_cpI (k := 16) ac_X2 (by decide) (by decide) rfl rfl (by decide) (by decide) (by decide) (Nat.le_of_ble_eq_true rfl) dX2_become_100 ?_
  refine A_aload1 dX2_become_103 ?_
  refine A_getR gf_X2_31 rfl dX2_become_104 ?_
  refine A_iconst (v := 0) dX2_become_107 (by decide) ?_
  refine A_aload0 dX2_become_108 ?_
  refine A_getR gf_X2_31 rfl dX2_become_109 ?_
  refine A_iconst (v := 0) dX2_become_112 (by decide) ?_
  refine A_bipush (v := 16) dX2_become_113 (by decide) ?_
  refine A_cpI (k := 16) ac_X2 (by decide) (by decide) rfl rfl (by decide) (by decide) (by decide) (Nat.le_of_ble_eq_true rfl) dX2_become_115 ?_
  refine A_aload1 dX2_become_118 ?_
  refine A_getR gf_X2_34 rfl dX2_become_119 ?_
  refine A_iconst (v := 0) dX2_become_122 (by decide) ?_
  refine A_aload0 dX2_become_123 ?_
  refine A_getR gf_X2_34 rfl dX2_become_124 ?_
  refine A_iconst (v := 0) dX2_become_127 (by decide) ?_
  refine A_bipush (v := 16) dX2_become_128 (by decide) ?_
  refine A_cpI (k := 16) ac_X2 (by decide) (by decide) rfl rfl (by decide) (by decide) (by decide) (Nat.le_of_ble_eq_true rfl) dX2_become_130 ?_
  refine A_aload1 dX2_become_133 ?_
  refine A_getR gf_X2_37 rfl dX2_become_134 ?_
  refine A_iconst (v := 0) dX2_become_137 (by decide) ?_
  refine A_aload0 dX2_become_138 ?_
  refine A_getR gf_X2_37 rfl dX2_become_139 ?_
  refine A_iconst (v := 0) dX2_become_142 (by decide) ?_
  refine A_bipush (v := 16) dX2_become_143 (by decide) ?_
  refine A_cpI (k := 16) ac_X2 (by decide) (by decide) rfl rfl (by decide) (by decide) (by decide) (Nat.le_of_ble_eq_true rfl) dX2_become_145 ?_
  refine A_vret dX2_become_148 ?_
  exact ⟨rfl, rfl⟩
set_option maxHeartbeats 100000 in
set_option maxRecDepth 100000 in
theorem T_X6_clear_25 {l : Launch} {G : Wd} {μ : Mem}  : Mt l G KC yX6_clear cX6_clear 1 none 1 [.ref (gA G 25)] μ (Qv (fun μ' => μ' = wI (wI μ 25 0 0) 25 3 0)) := by
  refine Mt.of (own := RX6) (n := 0) (by decide) rfl [some (.ref (gA G 25))] rfl (Nat.le_of_ble_eq_true rfl) ?_
  refine A_aload0 dX6_clear_0 ?_
  refine A_iconst (v := 0) dX6_clear_1 (by decide) ?_
  refine A_putI gf_X6_24 rfl dX6_clear_2 ?_
  refine A_aload0 dX6_clear_5 ?_
  refine A_iconst (v := 0) dX6_clear_6 (by decide) ?_
  refine A_putI gf_X6_28 rfl dX6_clear_7 ?_
  refine A_vret dX6_clear_10 ?_
  exact ⟨rfl, rfl⟩
set_option maxHeartbeats 100000 in
set_option maxRecDepth 100000 in
theorem T_X6_clear_30 {l : Launch} {G : Wd} {μ : Mem}  : Mt l G KC yX6_clear cX6_clear 1 none 1 [.ref (gA G 30)] μ (Qv (fun μ' => μ' = wI (wI μ 30 0 0) 30 3 0)) := by
  refine Mt.of (own := RX6) (n := 0) (by decide) rfl [some (.ref (gA G 30))] rfl (Nat.le_of_ble_eq_true rfl) ?_
  refine A_aload0 dX6_clear_0 ?_
  refine A_iconst (v := 0) dX6_clear_1 (by decide) ?_
  refine A_putI gf_X6_24 rfl dX6_clear_2 ?_
  refine A_aload0 dX6_clear_5 ?_
  refine A_iconst (v := 0) dX6_clear_6 (by decide) ?_
  refine A_putI gf_X6_28 rfl dX6_clear_7 ?_
  refine A_vret dX6_clear_10 ?_
  exact ⟨rfl, rfl⟩
def clF (μ : Mem) : Mem := wI (wI (wL (wI μ 36 0 0) 36 3 0) 36 4 0) 36 2 (μ.1 36 2 + 1)
set_option maxHeartbeats 100000 in
set_option maxRecDepth 100000 in
theorem T_X1_clr {l : Launch} {G : Wd} {μ : Mem}  : Mt l G KC yX1_clear cX1_clear 1 none 1 [.ref (gA G 36)] μ (Qv (fun μ' => μ' = clF μ)) := by
  refine Mt.of (own := RX1) (n := 0) (by decide) rfl [some (.ref (gA G 36))] rfl (Nat.le_of_ble_eq_true rfl) ?_
  refine A_aload0 dX1_clear_0 ?_
  refine A_iconst (v := 0) dX1_clear_1 (by decide) ?_
  refine A_putI gf_X1_28 rfl dX1_clear_2 ?_
  refine A_aload0 dX1_clear_5 ?_
  refine A_lconst (v := 0) dX1_clear_6 (by decide) ?_
  refine A_putL gf_X1_32 rfl dX1_clear_7 ?_
  refine A_aload0 dX1_clear_10 ?_
  refine A_iconst (v := 0) dX1_clear_11 (by decide) ?_
  refine A_putI gf_X1_36 rfl dX1_clear_12 ?_
  refine A_aload0 dX1_clear_15 ?_
  refine A_dup dX1_clear_16 rfl ?_
  refine A_getI gf_X1_39 rfl dX1_clear_17 ?_
  refine A_val (y := μ.1 36 2) (by rw [wI_ne (by omega), wL_i, wI_ne (by omega)]) ?_
  refine A_iconst (v := 1) dX1_clear_20 (by decide) ?_
  refine A_iadd dX1_clear_21 ?_
  refine A_putI gf_X1_39 rfl dX1_clear_22 ?_
  refine A_vret dX1_clear_25 ?_
  exact ⟨rfl, rfl⟩
def csT (μ : Mem) : Mem := wI (wI (wI μ 0 1 0) 0 2 (μ.1 2 9)) 0 3 (μ.1 2 10)
set_option maxHeartbeats 100000 in
set_option maxRecDepth 100000 in
theorem T_X11_closeText {l : Launch} {G : Wd} {μ : Mem}  : Mt l G KC yX11_closeText cX11_closeText 1 none 1 [.ref (gA G 0)] μ (Qv (fun μ' => μ' = csT μ)) := by
  refine Mt.of (own := RX11) (n := 0) (by decide) rfl [some (.ref (gA G 0))] rfl (Nat.le_of_ble_eq_true rfl) ?_
  refine A_aload0 dX11_closeText_0 ?_
  refine A_iconst (v := 0) dX11_closeText_1 (by decide) ?_
  refine A_putI gf_X11_114 rfl dX11_closeText_2 ?_
  refine A_aload0 dX11_closeText_5 ?_
  refine A_aload0 dX11_closeText_6 ?_
  refine A_getR gf_X11_22 rfl dX11_closeText_7 ?_
  refine A_getI gf_X11_325 rfl dX11_closeText_10 ?_
  refine A_val (y := μ.1 2 9) (wI_ne (by omega)) ?_
  refine A_putI gf_X11_133 rfl dX11_closeText_13 ?_
  refine A_aload0 dX11_closeText_16 ?_
  refine A_aload0 dX11_closeText_17 ?_
  refine A_getR gf_X11_22 rfl dX11_closeText_18 ?_
  refine A_getI gf_X11_328 rfl dX11_closeText_21 ?_
  refine A_val (y := μ.1 2 10) ((wI_ne (by omega)).trans (wI_ne (by omega))) ?_
  refine A_putI gf_X11_13 rfl dX11_closeText_24 ?_
  refine A_vret dX11_closeText_27 ?_
  exact ⟨rfl, rfl⟩
set_option maxHeartbeats 100000 in
set_option maxRecDepth 100000 in
theorem T_X3_isOtherLine {l : Launch} {G : Wd} {x : Int32} {μ : Mem}  : Mt l G KC yX3_isOtherLine cX3_isOtherLine 1 (some .boolean) 1 [.int x] μ (Qi (fun v μ' => v = bz (x = 139 ∨ x = 140 ∨ x = 142 ∨ x = 143 ∨ x = 144) ∧ μ' = μ)) := by
  refine Mt.of (own := RX3) (n := 0) (by decide) rfl [some (.int x)] rfl (Nat.le_of_ble_eq_true rfl) ?_
  refine A_iload0 dX3_isOtherLine_0 ?_
  refine A_sipush (v := 139) dX3_isOtherLine_1 (by decide) ?_
  refine A_icmp_eq (tgt := 35) dX3_isOtherLine_4 (by decide) (fun c_4 => ?_) (fun c_4 => ?_)
  · refine A_iconst (v := 1) dX3_isOtherLine_35 (by decide) ?_
    refine A_goto (tgt := 40) dX3_isOtherLine_36 (by decide) ?_
    refine A_zret dX3_isOtherLine_40 (by decide) ?_
    exact ⟨_, rfl, (bz_t (Or.inl c_4)).symm, rfl⟩
  · refine A_iload0 dX3_isOtherLine_7 ?_
    refine A_sipush (v := 140) dX3_isOtherLine_8 (by decide) ?_
    refine A_icmp_eq (tgt := 35) dX3_isOtherLine_11 (by decide) (fun c_11 => ?_) (fun c_11 => ?_)
    · refine A_iconst (v := 1) dX3_isOtherLine_35 (by decide) ?_
      refine A_goto (tgt := 40) dX3_isOtherLine_36 (by decide) ?_
      refine A_zret dX3_isOtherLine_40 (by decide) ?_
      exact ⟨_, rfl, (bz_t (Or.inr (Or.inl c_11))).symm, rfl⟩
    · refine A_iload0 dX3_isOtherLine_14 ?_
      refine A_sipush (v := 142) dX3_isOtherLine_15 (by decide) ?_
      refine A_icmp_eq (tgt := 35) dX3_isOtherLine_18 (by decide) (fun c_18 => ?_) (fun c_18 => ?_)
      · refine A_iconst (v := 1) dX3_isOtherLine_35 (by decide) ?_
        refine A_goto (tgt := 40) dX3_isOtherLine_36 (by decide) ?_
        refine A_zret dX3_isOtherLine_40 (by decide) ?_
        exact ⟨_, rfl, (bz_t (Or.inr (Or.inr (Or.inl c_18)))).symm, rfl⟩
      · refine A_iload0 dX3_isOtherLine_21 ?_
        refine A_sipush (v := 143) dX3_isOtherLine_22 (by decide) ?_
        refine A_icmp_eq (tgt := 35) dX3_isOtherLine_25 (by decide) (fun c_25 => ?_) (fun c_25 => ?_)
        · refine A_iconst (v := 1) dX3_isOtherLine_35 (by decide) ?_
          refine A_goto (tgt := 40) dX3_isOtherLine_36 (by decide) ?_
          refine A_zret dX3_isOtherLine_40 (by decide) ?_
          exact ⟨_, rfl, (bz_t (Or.inr (Or.inr (Or.inr (Or.inl c_25))))).symm, rfl⟩
        · refine A_iload0 dX3_isOtherLine_28 ?_
          refine A_sipush (v := 144) dX3_isOtherLine_29 (by decide) ?_
          refine A_icmp_ne (tgt := 39) dX3_isOtherLine_32 (by decide) (fun c_32 => ?_) (fun c_32 => ?_)
          · refine A_iconst (v := 0) dX3_isOtherLine_39 (by decide) ?_
            refine A_zret dX3_isOtherLine_40 (by decide) ?_
            exact ⟨_, rfl, (bz_f (fun y => y.elim c_4 (fun y => y.elim c_11 (fun y => y.elim c_18 (fun y => y.elim c_25 c_32))))).symm, rfl⟩
          · refine A_iconst (v := 1) dX3_isOtherLine_35 (by decide) ?_
            refine A_goto (tgt := 40) dX3_isOtherLine_36 (by decide) ?_
            refine A_zret dX3_isOtherLine_40 (by decide) ?_
            exact ⟨_, rfl, (bz_t (Or.inr (Or.inr (Or.inr (Or.inr c_32))))).symm, rfl⟩
theorem wd_0 : e256 (wdK.getD 0 []) = 6451064 := by decide +kernel
theorem box_w {G : Wd} {m μ : Mem} (h : TS G m μ) (h0 : m.1 0 2 = 0) : isWd m 6451064 ↔ μ.1 2 5 = 128 := by
  have a1 := (h.kr h0).wd (i := 0) (by decide)
  rw [wd_0] at a1
  exact a1
theorem nI_ltC {x : Int32} {a b : Nat} (h : x = nI a) (ha : a < 1000) (hb : b < 1000) : x < nI b ↔ a < b := by
  rw [h]
  exact nI_ltI (by omega) (by omega)
set_option maxHeartbeats 400000 in
set_option maxRecDepth 100000 in
theorem L_X3_parse_9 {l : Launch} {G : Wd} {M : Mem} {Q : Option Value → Mem → Prop} (hS : okS G) (hZ : okZ G) : ∀ (q n : Nat) (x2 : Option Value) (m μ : Mem), n + q = 22 → TS G m μ → Fh M μ → WFl m → (m.1 0 2 = 0 → HI m μ ∧ nbN m + noN m + q = 22) → (∀ (x : Int32) (y : Option Value) (μ' : Mem), TS G (hlL q m) μ' → Fh M μ' → ((hlL q m).1 0 2 = 0 → HI (hlL q m) μ') → AW l G KC RX3 cX3_parse 3 9 none Q 99 [some (.ref (gA G 24)), some (.int x), y] [] μ') → AW l G KC RX3 cX3_parse 3 9 none Q 9 [some (.ref (gA G 24)), some (.int (nI n)), x2] [] μ := by
  intro q
  induction q with
  | zero =>
    intro n x2 m μ hn h hf hw hi hk
    have e5 : μ.1 2 5 = 0 := (h.en (fun y => by
      have h1 := (hi y).2
      have h2 := hw.2.1.t.1
      have h3 := hw.2.2.1.t.1
      omega)).1
    refine A_iload1 dX3_parse_9 ?_
    refine A_sipush (v := 800) dX3_parse_10 (by decide) ?_
    refine A_icmp_ge (tgt := 99) dX3_parse_13 (by decide) (fun c_13 => absurd c_13 (nI_ge (a := n) (b := 800) (by omega) (by decide))) (fun c_13 => ?_)
    refine A_aload0 dX3_parse_16 ?_
    refine A_getR gf_X3_9 rfl dX3_parse_17 ?_
    refine A_getI gf_X3_24 rfl dX3_parse_20 ?_
    refine A_if_eq (tgt := 99) dX3_parse_23 (by decide) (fun c_23 => ?_) (fun c_23 => absurd c_23 (not_not_intro e5))
    exact hk _ _ μ h hf (fun y => (hi y).1)
  | succ q ih =>
    intro n x2 m μ hn h hf hw hi hk
    by_cases e5 : μ.1 2 5 = 0
    · refine A_iload1 dX3_parse_9 ?_
      refine A_sipush (v := 800) dX3_parse_10 (by decide) ?_
      refine A_icmp_ge (tgt := 99) dX3_parse_13 (by decide) (fun c_13 => absurd c_13 (nI_ge (a := n) (b := 800) (by omega) (by decide))) (fun c_13 => ?_)
      refine A_aload0 dX3_parse_16 ?_
      refine A_getR gf_X3_9 rfl dX3_parse_17 ?_
      refine A_getI gf_X3_24 rfl dX3_parse_20 ?_
      refine A_if_eq (tgt := 99) dX3_parse_23 (by decide) (fun c_23 => ?_) (fun c_23 => absurd c_23 (not_not_intro e5))
      have eL : hlL (q + 1) m = m := if_neg (fun y => y.2 (((h.kr y.1).k0).mpr e5))
      exact hk _ _ μ (by rw [eL]; exact h) hf (fun y => by rw [eL] at y ⊢; exact (hi y).1)
    · have h0 := h.no e5
      have hs0 : ¬ m.1 0 6 = 0 := fun y => e5 ((h.kr h0).k0.mp y)
      have eL : hlL (q + 1) m = hlL q (hlB m) := if_pos ⟨h0, hs0⟩
      obtain ⟨hI, hsum⟩ := hi h0
      obtain ⟨hwB, hsB⟩ := hlB_c hw h0
      obtain ⟨hb5, h29⟩ := hw.2.1.t
      obtain ⟨ho16, h30⟩ := hw.2.2.1.t
      have hgo : ∀ (y : Option Value) (μ1 : Mem), TS G (hlB m) μ1 → Fh μ μ1 → ((hlB m).1 0 2 = 0 → HI (hlB m) μ1) → AW l G KC RX3 cX3_parse 3 9 none Q 9 [some (.ref (gA G 24)), some (.int (nI (n + 1))), y] [] μ1 := by
        intro y μ1 t1 f1 d1
        exact ih (n + 1) y (hlB m) μ1 (by omega) t1 (hf.tr f1) hwB (fun z => ⟨d1 z, by have := hsB z; omega⟩) (fun x y2 μ2 t2 f2 d2 => hk x y2 μ2 (by rw [eL]; exact t2) f2 (fun z => by rw [eL] at z ⊢; exact d2 z))
      refine A_iload1 dX3_parse_9 ?_
      refine A_sipush (v := 800) dX3_parse_10 (by decide) ?_
      refine A_icmp_ge (tgt := 99) dX3_parse_13 (by decide) (fun c_13 => absurd c_13 (nI_ge (a := n) (b := 800) (by omega) (by decide))) (fun c_13 => ?_)
      refine A_aload0 dX3_parse_16 ?_
      refine A_getR gf_X3_9 rfl dX3_parse_17 ?_
      refine A_getI gf_X3_24 rfl dX3_parse_20 ?_
      refine A_if_eq (tgt := 99) dX3_parse_23 (by decide) (fun c_23 => absurd c_23 (e5)) (fun c_23 => ?_)
      refine A_aload0 dX3_parse_26 ?_
      refine A_getR gf_X3_9 rfl dX3_parse_27 ?_
      refine A_getI gf_X3_24 rfl dX3_parse_30 ?_
      refine A_istore2 dX3_parse_33 rfl (by decide) ?_
      refine A_iload2 dX3_parse_34 ?_
      refine A_sipush (v := 128) dX3_parse_35 (by decide) ?_
      refine A_icmp_ne (tgt := 59) dX3_parse_38 (by decide) (fun c_38 => ?_) (fun c_38 => ?_)
      · have ow : isOt m ↔ (μ.1 2 5 = 139 ∨ μ.1 2 5 = 140 ∨ μ.1 2 5 = 142 ∨ μ.1 2 5 = 143 ∨ μ.1 2 5 = 144) := by
          obtain ⟨k1, k2, k3, k4, k5⟩ := ot_w h h0
          exact or_congr k1 (or_congr k2 (or_congr k3 (or_congr k4 k5)))
        refine A_iload2 dX3_parse_59 ?_
        refine A_si1 lk_X3_36 ys_X3_isOtherLine dX3_parse_60 (T_X3_isOtherLine) (by decide) (Nat.le_of_ble_eq_true rfl) (fun r_60 μ_60 h_60 => ?_)
        obtain ⟨v_60, e_60⟩ := h_60
        replace v_60 := Eq.symm v_60
        subst v_60
        replace e_60 := e_60.symm
        subst e_60
        refine A_if_eq (tgt := 86) dX3_parse_63 (by decide) (fun c_63 => ?_) (fun c_63 => ?_)
        · refine A_aload0 dX3_parse_86 ?_
          refine A_getR gf_X3_9 rfl dX3_parse_87 ?_
          refine A_vv0 lk_X3_47 yv_X9_refuse dX3_parse_90 (rfl) (rfl) (T_refuse h) (by decide) (Nat.le_of_ble_eq_true rfl) (fun μ_90 h_90 => ?_)
          refine A_iinc1 dX3_parse_93 rfl rfl (by decide) ?_
          rw [show nI n + Int32.ofInt 1 = nI (n + 1) from nI_1 n]
          refine A_goto (tgt := 9) dX3_parse_96 (by decide) ?_
          have eB : hlB m = sp_spoil m 2 := by
            unfold hlB
            rw [show hlA m = sp_spoil m 2 from (if_neg (fun y => c_38 ((box_w h h0).mp y.1))).trans (if_neg (fun y => bz_0.mp c_63 (ow.mp y.1)))]
            exact hlTS_1 (ps_0 (sp_spoil_2 (by decide)))
          rw [← eB] at h_90
          exact hgo _ _ h_90.1 h_90.2.fh (fun y => by rw [eB] at y; exact absurd y (ps_0 (sp_spoil_2 (by decide))))
        · refine A_aload0 dX3_parse_66 ?_
          refine A_getR gf_X3_15 rfl dX3_parse_67 ?_
          refine A_getI gf_X3_40 rfl dX3_parse_70 ?_
          rw [hI.1.2.1, h30]
          refine A_bipush (v := 16) dX3_parse_73 (by decide) ?_
          refine A_icmp_ge (tgt := 86) dX3_parse_75 (by decide) (fun c_75 => ?_) (fun c_75 => ?_)
          · refine A_aload0 dX3_parse_86 ?_
            refine A_getR gf_X3_9 rfl dX3_parse_87 ?_
            refine A_vv0 lk_X3_47 yv_X9_refuse dX3_parse_90 (rfl) (rfl) (T_refuse h) (by decide) (Nat.le_of_ble_eq_true rfl) (fun μ_90 h_90 => ?_)
            refine A_iinc1 dX3_parse_93 rfl rfl (by decide) ?_
            rw [show nI n + Int32.ofInt 1 = nI (n + 1) from nI_1 n]
            refine A_goto (tgt := 9) dX3_parse_96 (by decide) ?_
            have eB : hlB m = sp_spoil m 2 := by
              unfold hlB
              rw [show hlA m = sp_spoil m 2 from (if_neg (fun y => c_38 ((box_w h h0).mp y.1))).trans (if_neg (fun y => absurd y.2 (Int32.not_lt.mpr (by rw [h30]; exact c_75))))]
              exact hlTS_1 (ps_0 (sp_spoil_2 (by decide)))
            rw [← eB] at h_90
            exact hgo _ _ h_90.1 h_90.2.fh (fun y => by rw [eB] at y; exact absurd y (ps_0 (sp_spoil_2 (by decide))))
          · have hot : isOt m := ow.mpr (bz_y c_63)
            have hb30 : m.1 0 30 < 16 := by rw [h30]; exact Int32.not_le.mp c_75
            refine A_aload0 dX3_parse_78 ?_
            refine A_iload2 dX3_parse_79 ?_
            refine A_vv1 lk_X3_43 yv_X3_otherLine dX3_parse_80 (rfl) (rfl) (T_X3_otherLine hS ((nI_ltC h30 (by omega) (by decide)).mp hb30) h30 hw.2.1 h0 hI h hot) (by decide) (Nat.le_of_ble_eq_true rfl) (fun μ_80 h_80 => ?_)
            refine A_goto (tgt := 93) dX3_parse_83 (by decide) ?_
            refine A_iinc1 dX3_parse_93 rfl rfl (by decide) ?_
            rw [show nI n + Int32.ofInt 1 = nI (n + 1) from nI_1 n]
            refine A_goto (tgt := 9) dX3_parse_96 (by decide) ?_
            have eB : hlB m = hlT (hlS (sp_readOther m)) := by
              unfold hlB
              rw [show hlA m = sp_readOther m from (if_neg (fun y => c_38 ((box_w h h0).mp y.1))).trans (if_pos ⟨hot, hb30⟩)]
            rw [← eB] at h_80
            exact hgo _ _ h_80.1 h_80.2.1 h_80.2.2
      · refine A_aload0 dX3_parse_41 ?_
        refine A_getR gf_X3_15 rfl dX3_parse_42 ?_
        refine A_getI gf_X3_30 rfl dX3_parse_45 ?_
        rw [hI.1.1, h29]
        refine A_iconst (v := 5) dX3_parse_48 (by decide) ?_
        refine A_icmp_ge (tgt := 59) dX3_parse_49 (by decide) (fun c_49 => ?_) (fun c_49 => ?_)
        · have ow : isOt m ↔ (μ.1 2 5 = 139 ∨ μ.1 2 5 = 140 ∨ μ.1 2 5 = 142 ∨ μ.1 2 5 = 143 ∨ μ.1 2 5 = 144) := by
            obtain ⟨k1, k2, k3, k4, k5⟩ := ot_w h h0
            exact or_congr k1 (or_congr k2 (or_congr k3 (or_congr k4 k5)))
          refine A_iload2 dX3_parse_59 ?_
          refine A_si1 lk_X3_36 ys_X3_isOtherLine dX3_parse_60 (T_X3_isOtherLine) (by decide) (Nat.le_of_ble_eq_true rfl) (fun r_60 μ_60 h_60 => ?_)
          obtain ⟨v_60, e_60⟩ := h_60
          replace v_60 := Eq.symm v_60
          subst v_60
          replace e_60 := e_60.symm
          subst e_60
          refine A_if_eq (tgt := 86) dX3_parse_63 (by decide) (fun c_63 => ?_) (fun c_63 => ?_)
          · refine A_aload0 dX3_parse_86 ?_
            refine A_getR gf_X3_9 rfl dX3_parse_87 ?_
            refine A_vv0 lk_X3_47 yv_X9_refuse dX3_parse_90 (rfl) (rfl) (T_refuse h) (by decide) (Nat.le_of_ble_eq_true rfl) (fun μ_90 h_90 => ?_)
            refine A_iinc1 dX3_parse_93 rfl rfl (by decide) ?_
            rw [show nI n + Int32.ofInt 1 = nI (n + 1) from nI_1 n]
            refine A_goto (tgt := 9) dX3_parse_96 (by decide) ?_
            have eB : hlB m = sp_spoil m 2 := by
              unfold hlB
              rw [show hlA m = sp_spoil m 2 from (if_neg (fun y => absurd y.2 (Int32.not_lt.mpr (by rw [h29]; exact c_49)))).trans (if_neg (fun y => bz_0.mp c_63 (ow.mp y.1)))]
              exact hlTS_1 (ps_0 (sp_spoil_2 (by decide)))
            rw [← eB] at h_90
            exact hgo _ _ h_90.1 h_90.2.fh (fun y => by rw [eB] at y; exact absurd y (ps_0 (sp_spoil_2 (by decide))))
          · refine A_aload0 dX3_parse_66 ?_
            refine A_getR gf_X3_15 rfl dX3_parse_67 ?_
            refine A_getI gf_X3_40 rfl dX3_parse_70 ?_
            rw [hI.1.2.1, h30]
            refine A_bipush (v := 16) dX3_parse_73 (by decide) ?_
            refine A_icmp_ge (tgt := 86) dX3_parse_75 (by decide) (fun c_75 => ?_) (fun c_75 => ?_)
            · refine A_aload0 dX3_parse_86 ?_
              refine A_getR gf_X3_9 rfl dX3_parse_87 ?_
              refine A_vv0 lk_X3_47 yv_X9_refuse dX3_parse_90 (rfl) (rfl) (T_refuse h) (by decide) (Nat.le_of_ble_eq_true rfl) (fun μ_90 h_90 => ?_)
              refine A_iinc1 dX3_parse_93 rfl rfl (by decide) ?_
              rw [show nI n + Int32.ofInt 1 = nI (n + 1) from nI_1 n]
              refine A_goto (tgt := 9) dX3_parse_96 (by decide) ?_
              have eB : hlB m = sp_spoil m 2 := by
                unfold hlB
                rw [show hlA m = sp_spoil m 2 from (if_neg (fun y => absurd y.2 (Int32.not_lt.mpr (by rw [h29]; exact c_49)))).trans (if_neg (fun y => absurd y.2 (Int32.not_lt.mpr (by rw [h30]; exact c_75))))]
                exact hlTS_1 (ps_0 (sp_spoil_2 (by decide)))
              rw [← eB] at h_90
              exact hgo _ _ h_90.1 h_90.2.fh (fun y => by rw [eB] at y; exact absurd y (ps_0 (sp_spoil_2 (by decide))))
            · have hot : isOt m := ow.mpr (bz_y c_63)
              have hb30 : m.1 0 30 < 16 := by rw [h30]; exact Int32.not_le.mp c_75
              refine A_aload0 dX3_parse_78 ?_
              refine A_iload2 dX3_parse_79 ?_
              refine A_vv1 lk_X3_43 yv_X3_otherLine dX3_parse_80 (rfl) (rfl) (T_X3_otherLine hS ((nI_ltC h30 (by omega) (by decide)).mp hb30) h30 hw.2.1 h0 hI h hot) (by decide) (Nat.le_of_ble_eq_true rfl) (fun μ_80 h_80 => ?_)
              refine A_goto (tgt := 93) dX3_parse_83 (by decide) ?_
              refine A_iinc1 dX3_parse_93 rfl rfl (by decide) ?_
              rw [show nI n + Int32.ofInt 1 = nI (n + 1) from nI_1 n]
              refine A_goto (tgt := 9) dX3_parse_96 (by decide) ?_
              have eB : hlB m = hlT (hlS (sp_readOther m)) := by
                unfold hlB
                rw [show hlA m = sp_readOther m from (if_neg (fun y => absurd y.2 (Int32.not_lt.mpr (by rw [h29]; exact c_49)))).trans (if_pos ⟨hot, hb30⟩)]
              rw [← eB] at h_80
              exact hgo _ _ h_80.1 h_80.2.1 h_80.2.2
        · have hbw : isWd m 6451064 := (box_w h h0).mpr c_38
          have hb29 : m.1 0 29 < 5 := by rw [h29]; exact Int32.not_le.mp c_49
          refine A_aload0 dX3_parse_52 ?_
          refine A_vv0 lk_X3_33 yv_X3_boxLine dX3_parse_53 (rfl) (rfl) (T_X3_boxLine hS hZ h h0 hbw ((nI_ltC h29 (by omega) (by decide)).mp hb29) h29 hI) (by decide) (Nat.le_of_ble_eq_true rfl) (fun μ_53 h_53 => ?_)
          refine A_goto (tgt := 93) dX3_parse_56 (by decide) ?_
          refine A_iinc1 dX3_parse_93 rfl rfl (by decide) ?_
          rw [show nI n + Int32.ofInt 1 = nI (n + 1) from nI_1 n]
          refine A_goto (tgt := 9) dX3_parse_96 (by decide) ?_
          have eB : hlB m = hlT (hlS (sp_readBox m)) := by
            unfold hlB
            rw [show hlA m = sp_readBox m from if_pos ⟨hbw, hb29⟩]
          rw [← eB] at h_53
          exact hgo _ _ h_53.1 h_53.2.1 h_53.2.2
set_option maxHeartbeats 100000 in
set_option maxRecDepth 100000 in
theorem T_X3_parse {l : Launch} {G : Wd} {m μ : Mem} (hS : okS G) (hZ : okZ G) (h : TS G m μ) (hw : WFl m) (hs : nbN m + noN m = 0) (hI : HI m (wI (wI μ 14 0 0) 14 1 0)) : Mt l G KC yX3_parse cX3_parse 3 none 9 [.ref (gA G 24)] μ (Qv (fun μ' => TS G (hlL 22 m) μ' ∧ Fh μ μ' ∧ ((hlL 22 m).1 0 2 = 0 → HI (hlL 22 m) μ'))) := by
  refine Mt.of (own := RX3) (n := 2) (by decide) rfl [some (.ref (gA G 24)), none, none] rfl (Nat.le_of_ble_eq_true rfl) ?_
  refine A_aload0 dX3_parse_0 ?_
  refine A_getR gf_X3_15 rfl dX3_parse_1 ?_
  refine A_vv0 lk_X3_19 yv_X2_clear dX3_parse_4 (rfl) (rfl) (T_X2_clear) (by decide) (Nat.le_of_ble_eq_true rfl) (fun μ_4 h_4 => ?_)
  subst h_4
  refine A_iconst (v := 0) dX3_parse_7 (by decide) ?_
  refine A_istore1 dX3_parse_8 rfl (by decide) ?_
  refine L_X3_parse_9 hS hZ 22 0 _ m _ (by omega) ((h.cw (by omega)).cw (by omega)) ((Fh.rf.w (by omega)).w (by omega)) hw (fun _ => ⟨hI, by omega⟩) (fun x y m1 t1 f1 d1 => ?_)
  refine A_vret dX3_parse_99 ?_
  exact ⟨rfl, t1, f1, d1⟩

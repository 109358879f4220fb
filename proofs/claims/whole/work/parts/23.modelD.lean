/-! THE LAWS of a stretch -/
abbrev Lw : Type := Int32 × Int32 × Nat × Int32
/-- a shared reading of a day that doesn't fit a law which shows something then -/
abbrev mis (σ : Mem) (k : Int32) (b : Nat) (x : Lw) (d : Nat) : Prop := ¬ σ.1 27 d = 0 ∧ ¬ rdN σ k b d = -100000 ∧ ¬ shO σ k b d x.1 x.2.1 x.2.2.1 x.2.2.2 = -100000 ∧ ¬ fitS σ b (shO σ k b d x.1 x.2.1 x.2.2.1 x.2.2.2) (rdN σ k b d)
def cntM (σ : Mem) (k : Int32) (b : Nat) (x : Lw) (f : Nat) : Nat → Nat
  | 0 => 0
  | m + 1 => cntM σ k b x f m + (if mis σ k b x (f + m) then 1 else 0)
def fstM (σ : Mem) (k : Int32) (b : Nat) (x : Lw) (f : Nat) : Nat → Int32
  | 0 => -1
  | m + 1 => if mis σ k b x (f + m) ∧ ¬ 0 ≤ fstM σ k b x f m then nI (f + m) else fstM σ k b x f m
/-- the search's own state: the laws so far, their misses, the latest first miss, whether one is without any -/
abbrev Sc : Type := List Lw × Nat × Int32 × Bool
def stp (c : Lw → Nat) (f : Lw → Int32) (S : Sc) (x : Lw) : Sc :=
  ((if S.1.length > 0 ∧ S.2.1 < c x then S.1 else if c x < S.2.1 then [x] else S.1 ++ [x]), (if S.1.length > 0 ∧ S.2.1 < c x then S.2.1 else c x), (if f x ≤ S.2.2.1 then S.2.2.1 else f x), S.2.2.2 || !decide (0 ≤ f x))
def scan (c : Lw → Nat) (f : Lw → Int32) (L : List Lw) : Sc := L.foldl (stp c f) ([], 0, -1, false)
theorem scan_app (c : Lw → Nat) (f : Lw → Int32) (L : List Lw) (x : Lw) : scan c f (L ++ [x]) = stp c f (scan c f L) x := by unfold scan; rw [List.foldl_append]; rfl
theorem scan_len (c : Lw → Nat) (f : Lw → Int32) : ∀ (L : List Lw) (S : Sc), (L.foldl (stp c f) S).1.length ≤ S.1.length + L.length := by
  intro L
  induction L with
  | nil => intro S; exact Nat.le_refl _
  | cons x L ih =>
    intro S
    have h := ih (stp c f S x)
    have h2 : (stp c f S x).1.length ≤ S.1.length + 1 := by
      unfold stp
      simp only
      split
      · omega
      · split
        · simp
        · simp
    simp only [List.foldl_cons, List.length_cons]
    omega
theorem scan_le (c : Lw → Nat) (f : Lw → Int32) (L : List Lw) : (scan c f L).1.length ≤ L.length := by
  have := scan_len c f L ([], 0, -1, false)
  simpa [scan] using this
def SLm (S : Sc) (μ : Mem) : Prop := μ.1 0 51 = nI S.1.length ∧ μ.1 0 52 = nI S.2.1 ∧ μ.1 0 53 = S.2.2.1 ∧ ∀ (i : Nat) (x : Lw), S.1[i]? = some x → μ.1 32 i = x.1 ∧ μ.1 33 i = x.2.1 ∧ μ.1 34 i = nI x.2.2.1 ∧ μ.1 35 i = x.2.2.2
/-- numbers one after the other -/
def iv (a : Int32) : Nat → List Int32
  | 0 => []
  | n + 1 => a :: iv (a + 1) n
def ivN (a : Nat) : Nat → List Nat
  | 0 => []
  | n + 1 => a :: ivN (a + 1) n
def eT (σ : Mem) (b : Nat) (z s : Int32) (l : Nat) (t : Int32) (n : Nat) : List Lw := (iv t n).map fun t => (z, s, l, t)
def rl (σ : Mem) (b p : Nat) : Int32 := σ.1 8 (8 * b + p)
def rn1 (σ : Mem) (b p : Nat) : Nat := ((rl σ b (p + 1)).toInt + 1 - (rl σ b p).toInt).toNat
def eL (σ : Mem) (b : Nat) (z s : Int32) (l : Nat) (n : Nat) : List Lw := (ivN l n).flatMap fun l => eT σ b z s l (rl σ b 6) (rn1 σ b 6)
def lgN (σ : Mem) (b : Nat) : Nat := (rl σ b 4).toNatClampNeg
def eS (σ : Mem) (b : Nat) (z s : Int32) (n : Nat) : List Lw := (iv s n).flatMap fun s => eL σ b z s (lgN σ b) (rn1 σ b 4)
def eZ (σ : Mem) (b : Nat) (z : Int32) (n : Nat) : List Lw := (iv z n).flatMap fun z => eS σ b z (rl σ b 2) (rn1 σ b 2)
def allL (σ : Mem) (b : Nat) : List Lw := eZ σ b (rl σ b 0) (rn1 σ b 0)
def cS (σ : Mem) (k : Int32) (b f t : Nat) (x : Lw) : Nat := cntM σ k b x f (t + 1 - f)
def fS (σ : Mem) (k : Int32) (b f t : Nat) (x : Lw) : Int32 := fstM σ k b x f (t + 1 - f)
/-- what the search finds for the stretch from f to t -/
def found (σ : Mem) (k : Int32) (b f t : Nat) : Sc := scan (cS σ k b f t) (fS σ k b f t) (allL σ b)
theorem cntM_le (σ : Mem) (k : Int32) (b : Nat) (x : Lw) (f : Nat) : ∀ m, cntM σ k b x f m ≤ m := by
  intro m
  induction m with
  | zero => exact Nat.le_refl _
  | succ m ih => unfold cntM; split <;> omega
theorem scan_few (c : Lw → Nat) (f : Lw → Int32) (hc : ∀ x, c x ≤ 60) : ∀ (L : List Lw) (S : Sc), S.2.1 ≤ 60 → (L.foldl (stp c f) S).2.1 ≤ 60 := by
  intro L
  induction L with
  | nil => intro S h; exact h
  | cons x L ih =>
    intro S h
    refine ih (stp c f S x) ?_
    unfold stp
    simp only
    split
    · exact h
    · exact hc x
theorem i_p1 {a : Int32} {n : Nat} {h : Int} (e : a.toInt + (n + 1 : Nat) = h + 1) (hh : h ≤ 100) (hl : -100 ≤ a.toInt) : (a + Int32.ofInt 1).toInt + n = h + 1 := by
  have h1 : (Int32.ofInt 1).toInt = 1 := by decide
  rw [Int32.toInt_add, h1, Int.bmod_eq_of_le (by omega) (by omega)]
  omega
section MisSteps
variable {σ : Mem} {k : Int32} {b f m : Nat} {x : Lw} {n fi : Int32}
theorem cntM_n (h : ¬ mis σ k b x (f + m)) (hn : n = nI (cntM σ k b x f m)) : n = nI (cntM σ k b x f (m + 1)) := by
  rw [hn, show cntM σ k b x f (m + 1) = cntM σ k b x f m + (if mis σ k b x (f + m) then 1 else 0) from rfl, if_neg h]; rfl
theorem cntM_y (h : mis σ k b x (f + m)) (hn : n = nI (cntM σ k b x f m)) : n + Int32.ofInt 1 = nI (cntM σ k b x f (m + 1)) := by
  rw [hn, show cntM σ k b x f (m + 1) = cntM σ k b x f m + (if mis σ k b x (f + m) then 1 else 0) from rfl, if_pos h]; exact nI_1 _
theorem fstM_n (h : ¬ mis σ k b x (f + m)) (hf : fi = fstM σ k b x f m) : fi = fstM σ k b x f (m + 1) := by
  rw [hf, show fstM σ k b x f (m + 1) = (if mis σ k b x (f + m) ∧ ¬ 0 ≤ fstM σ k b x f m then nI (f + m) else fstM σ k b x f m) from rfl, if_neg (fun q => h q.1)]
theorem fstM_ya (h : mis σ k b x (f + m)) (hf : fi = fstM σ k b x f m) (hc : ¬ 0 ≤ fi) : nI (f + m) = fstM σ k b x f (m + 1) := by
  rw [show fstM σ k b x f (m + 1) = (if mis σ k b x (f + m) ∧ ¬ 0 ≤ fstM σ k b x f m then nI (f + m) else fstM σ k b x f m) from rfl, if_pos ⟨h, by rw [← hf]; exact hc⟩]
theorem fstM_yb (h : mis σ k b x (f + m)) (hf : fi = fstM σ k b x f m) (hc : 0 ≤ fi) : fi = fstM σ k b x f (m + 1) := by
  rw [show fstM σ k b x f (m + 1) = (if mis σ k b x (f + m) ∧ ¬ 0 ≤ fstM σ k b x f m then nI (f + m) else fstM σ k b x f m) from rfl, if_neg (fun q => q.2 (by rw [← hf]; exact hc))]; exact hf
end MisSteps
set_option maxHeartbeats 4000000 in
set_option maxRecDepth 100000 in
theorem L_X12_seekLaws_149 {F : Mem} {l : Launch} {G : Wd} {k : Int32} {σ μ : Mem} {b d f t lg : Nat} {z s tr cl : Int32} {Q : Option Value → Mem → Prop} (hL : Lay F σ k μ) (hb : b < 5) (hok : okBx σ b) (hlg : lg ≤ 2) (ht : t < 60) : ∀ (q m : Nat) (x n fi : Int32) (x14 x15 : Option Value), f + m + q = t + 2 → f + m ≤ t + 1 → x = nI (f + m) → n = nI (cntM σ k b (z, s, lg, tr) f m) → fi = fstM σ k b (z, s, lg, tr) f m → (∀ (x14 x15 : Option Value) (x13 : Option Value), AW l G KM RX12 cX12_seekLaws 16 5 none Q 254 [some (.ref (gA G 0)), some (.int (nI b)), some (.int (nI d)), some (.int cl), some (.int (nI f)), some (.int (nI t)), some (.int (nI (8 * b))), some (.int z), some (.int s), some (.int (nI lg)), some (.int tr), some (.int (nI (cS σ k b f t (z, s, lg, tr)))), some (.int (fS σ k b f t (z, s, lg, tr))), x13, x14, x15] [] μ) → AW l G KM RX12 cX12_seekLaws 16 5 none Q 149 [some (.ref (gA G 0)), some (.int (nI b)), some (.int (nI d)), some (.int cl), some (.int (nI f)), some (.int (nI t)), some (.int (nI (8 * b))), some (.int z), some (.int s), some (.int (nI lg)), some (.int tr), some (.int n), some (.int fi), some (.int x), x14, x15] [] μ := by
  intro q
  induction q with
  | zero => intro m x n fi x14 x15 h1 h2; omega
  | succ q ih =>
    intro m x n fi x14 x15 h1 h2 hx hn hfi hk
    subst hx
    refine A_iload13 dX12_seekLaws_149 ?_
    refine A_iload5 dX12_seekLaws_151 ?_
    refine A_icmp_gt (tgt := 254) dX12_seekLaws_153 (by decide) (fun c_153 => ?_) (fun c_153 => ?_)
    · have e : f + m = t + 1 := by rcases Nat.lt_or_ge t (f + m) with q | q; omega; exact absurd (nI_le q (by omega)) (fun z => by have h9 := i_lt.mp c_153; have h8 := i_le.mp z; omega)
      have e2 : m = t + 1 - f := by omega
      subst e2
      subst hn
      subst hfi
      exact hk _ _ _
    · have hm : f + m ≤ t := by rcases Nat.lt_or_ge t (f + m) with q | q; exact absurd (nI_lt q (by omega)) c_153; exact q
      refine A_aload0 dX12_seekLaws_156 ?_
      refine A_getR gf_X12_103 rfl dX12_seekLaws_157 ?_
      refine A_bipush (v := 60) dX12_seekLaws_160 (by decide) ?_
      refine A_iload1 dX12_seekLaws_162 ?_
      refine A_imul dX12_seekLaws_163 ?_
      refine A_iload13 dX12_seekLaws_164 ?_
      refine A_iadd dX12_seekLaws_166 ?_
      refine A_iald (rfl) (by rw [nI_60]; exact vp_in_nI (by omega) (by omega)) dX12_seekLaws_167 ?_
      rw [nI_60, nI_c (by omega), hL.2.2.1 _ (by omega)]
      refine A_val (y := rdN σ k b (f + m)) rfl ?_
      refine A_istore14 dX12_seekLaws_168 rfl (by decide) ?_
      refine A_aload0 dX12_seekLaws_170 ?_
      refine A_getR gf_X12_94 rfl dX12_seekLaws_171 ?_
      refine A_iload13 dX12_seekLaws_174 ?_
      refine A_zald (rfl) (vp_in_nI (by omega) (by omega)) dX12_seekLaws_176 ?_
      rw [nI_c (by omega), hL.1.1 27 _ rfl]
      refine A_if_eq (tgt := 248) dX12_seekLaws_177 (by decide) (fun c_177 => ?_) (fun c_177 => ?_)
      · refine A_iinc13 dX12_seekLaws_248 rfl rfl (by decide) ?_
        refine A_goto (tgt := 149) dX12_seekLaws_251 (by decide) ?_
        first | exact ih (m + 1) _ _ _ _ _ (by omega) (by omega) ((nI_1 (f + m)).trans (by rw [Nat.add_assoc])) (cntM_n (show ¬ mis σ k b (z, s, lg, tr) (f + m) from by first | exact fun q => q.1 c_177 | exact fun q => q.2.1 c_185 | exact fun q => q.2.2.1 c_213 | exact fun q => c_225 (bz_0.mpr q.2.2.2)) hn) (fstM_n (show ¬ mis σ k b (z, s, lg, tr) (f + m) from by first | exact fun q => q.1 c_177 | exact fun q => q.2.1 c_185 | exact fun q => q.2.2.1 c_213 | exact fun q => c_225 (bz_0.mpr q.2.2.2)) hfi) hk | exact ih (m + 1) _ _ _ _ _ (by omega) (by omega) ((nI_1 (f + m)).trans (by rw [Nat.add_assoc])) (cntM_y (show mis σ k b (z, s, lg, tr) (f + m) from ⟨c_177, c_185, c_213, bz_0.mp c_225⟩) hn) (fstM_ya (show mis σ k b (z, s, lg, tr) (f + m) from ⟨c_177, c_185, c_213, bz_0.mp c_225⟩) hfi c_236) hk | exact ih (m + 1) _ _ _ _ _ (by omega) (by omega) ((nI_1 (f + m)).trans (by rw [Nat.add_assoc])) (cntM_y (show mis σ k b (z, s, lg, tr) (f + m) from ⟨c_177, c_185, c_213, bz_0.mp c_225⟩) hn) (fstM_yb (show mis σ k b (z, s, lg, tr) (f + m) from ⟨c_177, c_185, c_213, bz_0.mp c_225⟩) hfi c_236) hk
      · refine A_iload14 dX12_seekLaws_180 ?_
        refine A_ldcw dX12_seekLaws_182 kc_X12_353 ?_
        refine A_icmp_ne (tgt := 191) dX12_seekLaws_185 (by decide) (fun c_185 => ?_) (fun c_185 => ?_)
        · refine A_aload0 dX12_seekLaws_191 ?_
          refine A_iload1 dX12_seekLaws_192 ?_
          refine A_iload13 dX12_seekLaws_193 ?_
          refine A_iload7 dX12_seekLaws_195 ?_
          refine A_iload8 dX12_seekLaws_197 ?_
          refine A_iload9 dX12_seekLaws_199 ?_
          refine A_iload10 dX12_seekLaws_201 ?_
          refine A_vi6 lk_X12_389 yv_X12_showsOn dX12_seekLaws_203 (rfl) (rfl) (T_X12_showsOn hL hb (by omega) hok hlg) (by decide) (Nat.le_of_ble_eq_true rfl) (fun r_203 μ_203 h_203 => ?_)
          obtain ⟨rfl, e_203⟩ := h_203
          replace e_203 := e_203.symm
          subst e_203
          refine A_istore15 dX12_seekLaws_206 rfl (by decide) ?_
          refine A_iload15 dX12_seekLaws_208 ?_
          refine A_ldcw dX12_seekLaws_210 kc_X12_353 ?_
          refine A_icmp_eq (tgt := 248) dX12_seekLaws_213 (by decide) (fun c_213 => ?_) (fun c_213 => ?_)
          · refine A_iinc13 dX12_seekLaws_248 rfl rfl (by decide) ?_
            refine A_goto (tgt := 149) dX12_seekLaws_251 (by decide) ?_
            first | exact ih (m + 1) _ _ _ _ _ (by omega) (by omega) ((nI_1 (f + m)).trans (by rw [Nat.add_assoc])) (cntM_n (show ¬ mis σ k b (z, s, lg, tr) (f + m) from by first | exact fun q => q.1 c_177 | exact fun q => q.2.1 c_185 | exact fun q => q.2.2.1 c_213 | exact fun q => c_225 (bz_0.mpr q.2.2.2)) hn) (fstM_n (show ¬ mis σ k b (z, s, lg, tr) (f + m) from by first | exact fun q => q.1 c_177 | exact fun q => q.2.1 c_185 | exact fun q => q.2.2.1 c_213 | exact fun q => c_225 (bz_0.mpr q.2.2.2)) hfi) hk | exact ih (m + 1) _ _ _ _ _ (by omega) (by omega) ((nI_1 (f + m)).trans (by rw [Nat.add_assoc])) (cntM_y (show mis σ k b (z, s, lg, tr) (f + m) from ⟨c_177, c_185, c_213, bz_0.mp c_225⟩) hn) (fstM_ya (show mis σ k b (z, s, lg, tr) (f + m) from ⟨c_177, c_185, c_213, bz_0.mp c_225⟩) hfi c_236) hk | exact ih (m + 1) _ _ _ _ _ (by omega) (by omega) ((nI_1 (f + m)).trans (by rw [Nat.add_assoc])) (cntM_y (show mis σ k b (z, s, lg, tr) (f + m) from ⟨c_177, c_185, c_213, bz_0.mp c_225⟩) hn) (fstM_yb (show mis σ k b (z, s, lg, tr) (f + m) from ⟨c_177, c_185, c_213, bz_0.mp c_225⟩) hfi c_236) hk
          · refine A_aload0 dX12_seekLaws_216 ?_
            refine A_iload1 dX12_seekLaws_217 ?_
            refine A_iload15 dX12_seekLaws_218 ?_
            refine A_iload14 dX12_seekLaws_220 ?_
            refine A_vi3 lk_X12_392 yv_X12_fits dX12_seekLaws_222 (rfl) (rfl) (T_X12_fits hL.1 hb) (by decide) (Nat.le_of_ble_eq_true rfl) (fun r_222 μ_222 h_222 => ?_)
            obtain ⟨rfl, e_222⟩ := h_222
            replace e_222 := e_222.symm
            subst e_222
            refine A_if_eq (tgt := 231) dX12_seekLaws_225 (by decide) (fun c_225 => ?_) (fun c_225 => ?_)
            · refine A_iinc11 dX12_seekLaws_231 rfl rfl (by decide) ?_
              refine A_iload12 dX12_seekLaws_234 ?_
              refine A_if_ge (tgt := 244) dX12_seekLaws_236 (by decide) (fun c_236 => ?_) (fun c_236 => ?_)
              · refine A_iload12 dX12_seekLaws_244 ?_
                refine A_istore12 dX12_seekLaws_246 rfl (by decide) ?_
                refine A_iinc13 dX12_seekLaws_248 rfl rfl (by decide) ?_
                refine A_goto (tgt := 149) dX12_seekLaws_251 (by decide) ?_
                first | exact ih (m + 1) _ _ _ _ _ (by omega) (by omega) ((nI_1 (f + m)).trans (by rw [Nat.add_assoc])) (cntM_n (show ¬ mis σ k b (z, s, lg, tr) (f + m) from by first | exact fun q => q.1 c_177 | exact fun q => q.2.1 c_185 | exact fun q => q.2.2.1 c_213 | exact fun q => c_225 (bz_0.mpr q.2.2.2)) hn) (fstM_n (show ¬ mis σ k b (z, s, lg, tr) (f + m) from by first | exact fun q => q.1 c_177 | exact fun q => q.2.1 c_185 | exact fun q => q.2.2.1 c_213 | exact fun q => c_225 (bz_0.mpr q.2.2.2)) hfi) hk | exact ih (m + 1) _ _ _ _ _ (by omega) (by omega) ((nI_1 (f + m)).trans (by rw [Nat.add_assoc])) (cntM_y (show mis σ k b (z, s, lg, tr) (f + m) from ⟨c_177, c_185, c_213, bz_0.mp c_225⟩) hn) (fstM_ya (show mis σ k b (z, s, lg, tr) (f + m) from ⟨c_177, c_185, c_213, bz_0.mp c_225⟩) hfi c_236) hk | exact ih (m + 1) _ _ _ _ _ (by omega) (by omega) ((nI_1 (f + m)).trans (by rw [Nat.add_assoc])) (cntM_y (show mis σ k b (z, s, lg, tr) (f + m) from ⟨c_177, c_185, c_213, bz_0.mp c_225⟩) hn) (fstM_yb (show mis σ k b (z, s, lg, tr) (f + m) from ⟨c_177, c_185, c_213, bz_0.mp c_225⟩) hfi c_236) hk
              · refine A_iload13 dX12_seekLaws_239 ?_
                refine A_goto (tgt := 246) dX12_seekLaws_241 (by decide) ?_
                refine A_istore12 dX12_seekLaws_246 rfl (by decide) ?_
                refine A_iinc13 dX12_seekLaws_248 rfl rfl (by decide) ?_
                refine A_goto (tgt := 149) dX12_seekLaws_251 (by decide) ?_
                first | exact ih (m + 1) _ _ _ _ _ (by omega) (by omega) ((nI_1 (f + m)).trans (by rw [Nat.add_assoc])) (cntM_n (show ¬ mis σ k b (z, s, lg, tr) (f + m) from by first | exact fun q => q.1 c_177 | exact fun q => q.2.1 c_185 | exact fun q => q.2.2.1 c_213 | exact fun q => c_225 (bz_0.mpr q.2.2.2)) hn) (fstM_n (show ¬ mis σ k b (z, s, lg, tr) (f + m) from by first | exact fun q => q.1 c_177 | exact fun q => q.2.1 c_185 | exact fun q => q.2.2.1 c_213 | exact fun q => c_225 (bz_0.mpr q.2.2.2)) hfi) hk | exact ih (m + 1) _ _ _ _ _ (by omega) (by omega) ((nI_1 (f + m)).trans (by rw [Nat.add_assoc])) (cntM_y (show mis σ k b (z, s, lg, tr) (f + m) from ⟨c_177, c_185, c_213, bz_0.mp c_225⟩) hn) (fstM_ya (show mis σ k b (z, s, lg, tr) (f + m) from ⟨c_177, c_185, c_213, bz_0.mp c_225⟩) hfi c_236) hk | exact ih (m + 1) _ _ _ _ _ (by omega) (by omega) ((nI_1 (f + m)).trans (by rw [Nat.add_assoc])) (cntM_y (show mis σ k b (z, s, lg, tr) (f + m) from ⟨c_177, c_185, c_213, bz_0.mp c_225⟩) hn) (fstM_yb (show mis σ k b (z, s, lg, tr) (f + m) from ⟨c_177, c_185, c_213, bz_0.mp c_225⟩) hfi c_236) hk
            · refine A_goto (tgt := 248) dX12_seekLaws_228 (by decide) ?_
              refine A_iinc13 dX12_seekLaws_248 rfl rfl (by decide) ?_
              refine A_goto (tgt := 149) dX12_seekLaws_251 (by decide) ?_
              first | exact ih (m + 1) _ _ _ _ _ (by omega) (by omega) ((nI_1 (f + m)).trans (by rw [Nat.add_assoc])) (cntM_n (show ¬ mis σ k b (z, s, lg, tr) (f + m) from by first | exact fun q => q.1 c_177 | exact fun q => q.2.1 c_185 | exact fun q => q.2.2.1 c_213 | exact fun q => c_225 (bz_0.mpr q.2.2.2)) hn) (fstM_n (show ¬ mis σ k b (z, s, lg, tr) (f + m) from by first | exact fun q => q.1 c_177 | exact fun q => q.2.1 c_185 | exact fun q => q.2.2.1 c_213 | exact fun q => c_225 (bz_0.mpr q.2.2.2)) hfi) hk | exact ih (m + 1) _ _ _ _ _ (by omega) (by omega) ((nI_1 (f + m)).trans (by rw [Nat.add_assoc])) (cntM_y (show mis σ k b (z, s, lg, tr) (f + m) from ⟨c_177, c_185, c_213, bz_0.mp c_225⟩) hn) (fstM_ya (show mis σ k b (z, s, lg, tr) (f + m) from ⟨c_177, c_185, c_213, bz_0.mp c_225⟩) hfi c_236) hk | exact ih (m + 1) _ _ _ _ _ (by omega) (by omega) ((nI_1 (f + m)).trans (by rw [Nat.add_assoc])) (cntM_y (show mis σ k b (z, s, lg, tr) (f + m) from ⟨c_177, c_185, c_213, bz_0.mp c_225⟩) hn) (fstM_yb (show mis σ k b (z, s, lg, tr) (f + m) from ⟨c_177, c_185, c_213, bz_0.mp c_225⟩) hfi c_236) hk
        · refine A_goto (tgt := 248) dX12_seekLaws_188 (by decide) ?_
          refine A_iinc13 dX12_seekLaws_248 rfl rfl (by decide) ?_
          refine A_goto (tgt := 149) dX12_seekLaws_251 (by decide) ?_
          first | exact ih (m + 1) _ _ _ _ _ (by omega) (by omega) ((nI_1 (f + m)).trans (by rw [Nat.add_assoc])) (cntM_n (show ¬ mis σ k b (z, s, lg, tr) (f + m) from by first | exact fun q => q.1 c_177 | exact fun q => q.2.1 c_185 | exact fun q => q.2.2.1 c_213 | exact fun q => c_225 (bz_0.mpr q.2.2.2)) hn) (fstM_n (show ¬ mis σ k b (z, s, lg, tr) (f + m) from by first | exact fun q => q.1 c_177 | exact fun q => q.2.1 c_185 | exact fun q => q.2.2.1 c_213 | exact fun q => c_225 (bz_0.mpr q.2.2.2)) hfi) hk | exact ih (m + 1) _ _ _ _ _ (by omega) (by omega) ((nI_1 (f + m)).trans (by rw [Nat.add_assoc])) (cntM_y (show mis σ k b (z, s, lg, tr) (f + m) from ⟨c_177, c_185, c_213, bz_0.mp c_225⟩) hn) (fstM_ya (show mis σ k b (z, s, lg, tr) (f + m) from ⟨c_177, c_185, c_213, bz_0.mp c_225⟩) hfi c_236) hk | exact ih (m + 1) _ _ _ _ _ (by omega) (by omega) ((nI_1 (f + m)).trans (by rw [Nat.add_assoc])) (cntM_y (show mis σ k b (z, s, lg, tr) (f + m) from ⟨c_177, c_185, c_213, bz_0.mp c_225⟩) hn) (fstM_yb (show mis σ k b (z, s, lg, tr) (f + m) from ⟨c_177, c_185, c_213, bz_0.mp c_225⟩) hfi c_236) hk
def arrs (L : List Lw) (μ : Mem) : Prop := ∀ (i : Nat) (x : Lw), L[i]? = some x → μ.1 32 i = x.1 ∧ μ.1 33 i = x.2.1 ∧ μ.1 34 i = nI x.2.2.1 ∧ μ.1 35 i = x.2.2.2
def addL (μ : Mem) (j : Nat) (c : Int32) (x : Lw) : Mem := wI (wI (wI (wI (wI (wI μ 0 52 c) 32 j x.1) 33 j x.2.1) 34 j (nI x.2.2.1)) 35 j x.2.2.2) 0 51 (nI (j + 1))
theorem arrs_add {L : List Lw} {μ : Mem} {c : Int32} {x : Lw} (h : arrs L μ) : arrs (L ++ [x]) (addL μ L.length c x) := by
  intro i y hy
  by_cases e : i = L.length
  · subst e
    rw [List.getElem?_append_right (Nat.le_refl _)] at hy
    simp at hy
    subst hy
    simp [addL, wI_at]
  · have hlt : i < L.length := by
      have := (List.getElem?_eq_some_iff.mp hy).1
      simp at this
      omega
    rw [List.getElem?_append_left hlt] at hy
    have := h i y hy
    simp [addL, wI_at, e]
    exact this
theorem arrs_nil (μ : Mem) : arrs [] μ := fun i x h => by simp at h
theorem Lay_addL {F : Mem} {σ μ : Mem} {k : Int32} {j : Nat} {c : Int32} {x : Lw} (h : Lay F σ k μ) : Lay F σ k (addL μ j c x) := by
  unfold addL
  exact Lay.w (Lay.w (Lay.w (Lay.w (Lay.w (Lay.w h rfl ⟨by decide, by decide, by decide, rfl⟩) rfl ⟨by decide, by decide, by decide, rfl⟩) rfl ⟨by decide, by decide, by decide, rfl⟩) rfl ⟨by decide, by decide, by decide, rfl⟩) rfl ⟨by decide, by decide, by decide, rfl⟩) rfl ⟨by decide, by decide, by decide, rfl⟩
def nxL (L : List Lw) (few c : Nat) (x : Lw) : List Lw := if L.length > 0 ∧ few < c then L else if c < few then [x] else L ++ [x]
def nxF (L : List Lw) (few c : Nat) : Nat := if L.length > 0 ∧ few < c then few else c
theorem nI_gt {a : Nat} (h : a < 2147483648) : (0 < nI a) ↔ 0 < a := by
  rw [i_lt, nI_i h]
  have e : (0 : Int32).toInt = 0 := by decide
  omega
theorem nI_le0 {a : Nat} (h : a < 2147483648) : (nI a ≤ 0) ↔ a = 0 := by
  rw [i_le, nI_i h]
  have e : (0 : Int32).toInt = 0 := by decide
  omega
set_option maxHeartbeats 4000000 in
set_option maxRecDepth 100000 in
theorem L_X12_seekLaws_291 {l : Launch} {G : Wd} {μ : Mem} {b d f t lg c few : Nat} {z s tr cl : Int32} {L : List Lw} {x12 x13 x14 x15 : Option Value} {Q : Option Value → Mem → Prop} (h51 : μ.1 0 51 = nI L.length) (h52 : μ.1 0 52 = nI few) (hl : L.length < 700) (hf : few ≤ 60) (hc : c ≤ 60)
    (hk1 : (L.length > 0 ∧ few < c) → AW l G KM RX12 cX12_seekLaws 16 5 none Q 384 [some (.ref (gA G 0)), some (.int (nI b)), some (.int (nI d)), some (.int cl), some (.int (nI f)), some (.int (nI t)), some (.int (nI (8 * b))), some (.int z), some (.int s), some (.int (nI lg)), some (.int tr), some (.int (nI c)), x12, x13, x14, x15] [] μ) (hk2 : ¬ (L.length > 0 ∧ few < c) → c < few → AW l G KM RX12 cX12_seekLaws 16 5 none Q 384 [some (.ref (gA G 0)), some (.int (nI b)), some (.int (nI d)), some (.int cl), some (.int (nI f)), some (.int (nI t)), some (.int (nI (8 * b))), some (.int z), some (.int s), some (.int (nI lg)), some (.int tr), some (.int (nI c)), x12, x13, x14, x15] [] (addL (wI μ 0 51 0) 0 (nI c) (z, s, lg, tr))) (hk3 : ¬ (L.length > 0 ∧ few < c) → ¬ c < few → AW l G KM RX12 cX12_seekLaws 16 5 none Q 384 [some (.ref (gA G 0)), some (.int (nI b)), some (.int (nI d)), some (.int cl), some (.int (nI f)), some (.int (nI t)), some (.int (nI (8 * b))), some (.int z), some (.int s), some (.int (nI lg)), some (.int tr), some (.int (nI c)), x12, x13, x14, x15] [] (addL μ L.length (nI c) (z, s, lg, tr))) : AW l G KM RX12 cX12_seekLaws 16 5 none Q 291 [some (.ref (gA G 0)), some (.int (nI b)), some (.int (nI d)), some (.int cl), some (.int (nI f)), some (.int (nI t)), some (.int (nI (8 * b))), some (.int z), some (.int s), some (.int (nI lg)), some (.int tr), some (.int (nI c)), x12, x13, x14, x15] [] μ := by
  refine A_aload0 dX12_seekLaws_291 ?_
  refine A_getI gf_X12_377 rfl dX12_seekLaws_292 ?_
  rw [h51]
  refine A_if_le (tgt := 310) dX12_seekLaws_295 (by decide) (fun c_295 => ?_) (fun c_295 => ?_)
  · refine A_iload11 dX12_seekLaws_310 ?_
    refine A_aload0 dX12_seekLaws_312 ?_
    refine A_getI gf_X12_380 rfl dX12_seekLaws_313 ?_
    rw [h52]
    refine A_icmp_ge (tgt := 324) dX12_seekLaws_316 (by decide) (fun c_316 => ?_) (fun c_316 => ?_)
    · refine A_aload0 dX12_seekLaws_324 ?_
      refine A_iload11 dX12_seekLaws_325 ?_
      refine A_putI gf_X12_380 rfl dX12_seekLaws_327 ?_
      refine A_aload0 dX12_seekLaws_330 ?_
      refine A_getR gf_X12_109 rfl dX12_seekLaws_331 ?_
      refine A_aload0 dX12_seekLaws_334 ?_
      refine A_getI gf_X12_377 rfl dX12_seekLaws_335 ?_
      refine A_val (y := nI L.length) h51 ?_
      refine A_iload7 dX12_seekLaws_338 ?_
      refine A_iast (rfl) (vp_in_nI (by omega) (by omega)) dX12_seekLaws_340 ?_
      rw [nI_c (by omega)]
      refine A_aload0 dX12_seekLaws_341 ?_
      refine A_getR gf_X12_112 rfl dX12_seekLaws_342 ?_
      refine A_aload0 dX12_seekLaws_345 ?_
      refine A_getI gf_X12_377 rfl dX12_seekLaws_346 ?_
      refine A_val (y := nI L.length) h51 ?_
      refine A_iload8 dX12_seekLaws_349 ?_
      refine A_iast (rfl) (vp_in_nI (by omega) (by omega)) dX12_seekLaws_351 ?_
      rw [nI_c (by omega)]
      refine A_aload0 dX12_seekLaws_352 ?_
      refine A_getR gf_X12_115 rfl dX12_seekLaws_353 ?_
      refine A_aload0 dX12_seekLaws_356 ?_
      refine A_getI gf_X12_377 rfl dX12_seekLaws_357 ?_
      refine A_val (y := nI L.length) h51 ?_
      refine A_iload9 dX12_seekLaws_360 ?_
      refine A_iast (rfl) (vp_in_nI (by omega) (by omega)) dX12_seekLaws_362 ?_
      rw [nI_c (by omega)]
      refine A_aload0 dX12_seekLaws_363 ?_
      refine A_getR gf_X12_118 rfl dX12_seekLaws_364 ?_
      refine A_aload0 dX12_seekLaws_367 ?_
      refine A_getI gf_X12_377 rfl dX12_seekLaws_368 ?_
      refine A_val (y := nI L.length) h51 ?_
      refine A_iload10 dX12_seekLaws_371 ?_
      refine A_iast (rfl) (vp_in_nI (by omega) (by omega)) dX12_seekLaws_373 ?_
      rw [nI_c (by omega)]
      refine A_aload0 dX12_seekLaws_374 ?_
      refine A_dup dX12_seekLaws_375 rfl ?_
      refine A_getI gf_X12_377 rfl dX12_seekLaws_376 ?_
      refine A_val (y := nI L.length) h51 ?_
      refine A_iconst (v := 1) dX12_seekLaws_379 (by decide) ?_
      refine A_iadd dX12_seekLaws_380 ?_
      rw [nI_1]
      refine A_putI gf_X12_377 rfl dX12_seekLaws_381 ?_
      refine hk3 (fun q => ?_) (fun q => ?_)
      · have h1 := q.1; have h2 := (nI_le0 (a := L.length) (by omega)).mp c_295; omega
      · have h2 := (nI_leI (by omega) (by omega)).mp c_316; omega
    · refine A_aload0 dX12_seekLaws_319 ?_
      refine A_iconst (v := 0) dX12_seekLaws_320 (by decide) ?_
      refine A_putI gf_X12_377 rfl dX12_seekLaws_321 ?_
      refine A_aload0 dX12_seekLaws_324 ?_
      refine A_iload11 dX12_seekLaws_325 ?_
      refine A_putI gf_X12_380 rfl dX12_seekLaws_327 ?_
      refine A_aload0 dX12_seekLaws_330 ?_
      refine A_getR gf_X12_109 rfl dX12_seekLaws_331 ?_
      refine A_aload0 dX12_seekLaws_334 ?_
      refine A_getI gf_X12_377 rfl dX12_seekLaws_335 ?_
      refine A_val (y := nI 0) rfl ?_
      refine A_iload7 dX12_seekLaws_338 ?_
      refine A_iast (rfl) (vp_in_nI (by omega) (by omega)) dX12_seekLaws_340 ?_
      rw [nI_c (by omega)]
      refine A_aload0 dX12_seekLaws_341 ?_
      refine A_getR gf_X12_112 rfl dX12_seekLaws_342 ?_
      refine A_aload0 dX12_seekLaws_345 ?_
      refine A_getI gf_X12_377 rfl dX12_seekLaws_346 ?_
      refine A_val (y := nI 0) rfl ?_
      refine A_iload8 dX12_seekLaws_349 ?_
      refine A_iast (rfl) (vp_in_nI (by omega) (by omega)) dX12_seekLaws_351 ?_
      rw [nI_c (by omega)]
      refine A_aload0 dX12_seekLaws_352 ?_
      refine A_getR gf_X12_115 rfl dX12_seekLaws_353 ?_
      refine A_aload0 dX12_seekLaws_356 ?_
      refine A_getI gf_X12_377 rfl dX12_seekLaws_357 ?_
      refine A_val (y := nI 0) rfl ?_
      refine A_iload9 dX12_seekLaws_360 ?_
      refine A_iast (rfl) (vp_in_nI (by omega) (by omega)) dX12_seekLaws_362 ?_
      rw [nI_c (by omega)]
      refine A_aload0 dX12_seekLaws_363 ?_
      refine A_getR gf_X12_118 rfl dX12_seekLaws_364 ?_
      refine A_aload0 dX12_seekLaws_367 ?_
      refine A_getI gf_X12_377 rfl dX12_seekLaws_368 ?_
      refine A_val (y := nI 0) rfl ?_
      refine A_iload10 dX12_seekLaws_371 ?_
      refine A_iast (rfl) (vp_in_nI (by omega) (by omega)) dX12_seekLaws_373 ?_
      rw [nI_c (by omega)]
      refine A_aload0 dX12_seekLaws_374 ?_
      refine A_dup dX12_seekLaws_375 rfl ?_
      refine A_getI gf_X12_377 rfl dX12_seekLaws_376 ?_
      refine A_val (y := nI 0) rfl ?_
      refine A_iconst (v := 1) dX12_seekLaws_379 (by decide) ?_
      refine A_iadd dX12_seekLaws_380 ?_
      rw [nI_1]
      refine A_putI gf_X12_377 rfl dX12_seekLaws_381 ?_
      refine hk2 (fun q => ?_) ?_
      · have h1 := q.1; have h2 := (nI_le0 (a := L.length) (by omega)).mp c_295; omega
      · exact (nI_ltI (by omega) (by omega)).mp (i_nle c_316)
  · refine A_iload11 dX12_seekLaws_298 ?_
    refine A_aload0 dX12_seekLaws_300 ?_
    refine A_getI gf_X12_380 rfl dX12_seekLaws_301 ?_
    rw [h52]
    refine A_icmp_le (tgt := 310) dX12_seekLaws_304 (by decide) (fun c_304 => ?_) (fun c_304 => ?_)
    · refine A_iload11 dX12_seekLaws_310 ?_
      refine A_aload0 dX12_seekLaws_312 ?_
      refine A_getI gf_X12_380 rfl dX12_seekLaws_313 ?_
      rw [h52]
      refine A_icmp_ge (tgt := 324) dX12_seekLaws_316 (by decide) (fun c_316 => ?_) (fun c_316 => ?_)
      · refine A_aload0 dX12_seekLaws_324 ?_
        refine A_iload11 dX12_seekLaws_325 ?_
        refine A_putI gf_X12_380 rfl dX12_seekLaws_327 ?_
        refine A_aload0 dX12_seekLaws_330 ?_
        refine A_getR gf_X12_109 rfl dX12_seekLaws_331 ?_
        refine A_aload0 dX12_seekLaws_334 ?_
        refine A_getI gf_X12_377 rfl dX12_seekLaws_335 ?_
        refine A_val (y := nI L.length) h51 ?_
        refine A_iload7 dX12_seekLaws_338 ?_
        refine A_iast (rfl) (vp_in_nI (by omega) (by omega)) dX12_seekLaws_340 ?_
        rw [nI_c (by omega)]
        refine A_aload0 dX12_seekLaws_341 ?_
        refine A_getR gf_X12_112 rfl dX12_seekLaws_342 ?_
        refine A_aload0 dX12_seekLaws_345 ?_
        refine A_getI gf_X12_377 rfl dX12_seekLaws_346 ?_
        refine A_val (y := nI L.length) h51 ?_
        refine A_iload8 dX12_seekLaws_349 ?_
        refine A_iast (rfl) (vp_in_nI (by omega) (by omega)) dX12_seekLaws_351 ?_
        rw [nI_c (by omega)]
        refine A_aload0 dX12_seekLaws_352 ?_
        refine A_getR gf_X12_115 rfl dX12_seekLaws_353 ?_
        refine A_aload0 dX12_seekLaws_356 ?_
        refine A_getI gf_X12_377 rfl dX12_seekLaws_357 ?_
        refine A_val (y := nI L.length) h51 ?_
        refine A_iload9 dX12_seekLaws_360 ?_
        refine A_iast (rfl) (vp_in_nI (by omega) (by omega)) dX12_seekLaws_362 ?_
        rw [nI_c (by omega)]
        refine A_aload0 dX12_seekLaws_363 ?_
        refine A_getR gf_X12_118 rfl dX12_seekLaws_364 ?_
        refine A_aload0 dX12_seekLaws_367 ?_
        refine A_getI gf_X12_377 rfl dX12_seekLaws_368 ?_
        refine A_val (y := nI L.length) h51 ?_
        refine A_iload10 dX12_seekLaws_371 ?_
        refine A_iast (rfl) (vp_in_nI (by omega) (by omega)) dX12_seekLaws_373 ?_
        rw [nI_c (by omega)]
        refine A_aload0 dX12_seekLaws_374 ?_
        refine A_dup dX12_seekLaws_375 rfl ?_
        refine A_getI gf_X12_377 rfl dX12_seekLaws_376 ?_
        refine A_val (y := nI L.length) h51 ?_
        refine A_iconst (v := 1) dX12_seekLaws_379 (by decide) ?_
        refine A_iadd dX12_seekLaws_380 ?_
        rw [nI_1]
        refine A_putI gf_X12_377 rfl dX12_seekLaws_381 ?_
        refine hk3 (fun q => ?_) (fun q => ?_)
        · have h1 := q.2; have h2 := (nI_leI (by omega) (by omega)).mp c_304; omega
        · have h2 := (nI_leI (by omega) (by omega)).mp c_316; omega
      · refine A_aload0 dX12_seekLaws_319 ?_
        refine A_iconst (v := 0) dX12_seekLaws_320 (by decide) ?_
        refine A_putI gf_X12_377 rfl dX12_seekLaws_321 ?_
        refine A_aload0 dX12_seekLaws_324 ?_
        refine A_iload11 dX12_seekLaws_325 ?_
        refine A_putI gf_X12_380 rfl dX12_seekLaws_327 ?_
        refine A_aload0 dX12_seekLaws_330 ?_
        refine A_getR gf_X12_109 rfl dX12_seekLaws_331 ?_
        refine A_aload0 dX12_seekLaws_334 ?_
        refine A_getI gf_X12_377 rfl dX12_seekLaws_335 ?_
        refine A_val (y := nI 0) rfl ?_
        refine A_iload7 dX12_seekLaws_338 ?_
        refine A_iast (rfl) (vp_in_nI (by omega) (by omega)) dX12_seekLaws_340 ?_
        rw [nI_c (by omega)]
        refine A_aload0 dX12_seekLaws_341 ?_
        refine A_getR gf_X12_112 rfl dX12_seekLaws_342 ?_
        refine A_aload0 dX12_seekLaws_345 ?_
        refine A_getI gf_X12_377 rfl dX12_seekLaws_346 ?_
        refine A_val (y := nI 0) rfl ?_
        refine A_iload8 dX12_seekLaws_349 ?_
        refine A_iast (rfl) (vp_in_nI (by omega) (by omega)) dX12_seekLaws_351 ?_
        rw [nI_c (by omega)]
        refine A_aload0 dX12_seekLaws_352 ?_
        refine A_getR gf_X12_115 rfl dX12_seekLaws_353 ?_
        refine A_aload0 dX12_seekLaws_356 ?_
        refine A_getI gf_X12_377 rfl dX12_seekLaws_357 ?_
        refine A_val (y := nI 0) rfl ?_
        refine A_iload9 dX12_seekLaws_360 ?_
        refine A_iast (rfl) (vp_in_nI (by omega) (by omega)) dX12_seekLaws_362 ?_
        rw [nI_c (by omega)]
        refine A_aload0 dX12_seekLaws_363 ?_
        refine A_getR gf_X12_118 rfl dX12_seekLaws_364 ?_
        refine A_aload0 dX12_seekLaws_367 ?_
        refine A_getI gf_X12_377 rfl dX12_seekLaws_368 ?_
        refine A_val (y := nI 0) rfl ?_
        refine A_iload10 dX12_seekLaws_371 ?_
        refine A_iast (rfl) (vp_in_nI (by omega) (by omega)) dX12_seekLaws_373 ?_
        rw [nI_c (by omega)]
        refine A_aload0 dX12_seekLaws_374 ?_
        refine A_dup dX12_seekLaws_375 rfl ?_
        refine A_getI gf_X12_377 rfl dX12_seekLaws_376 ?_
        refine A_val (y := nI 0) rfl ?_
        refine A_iconst (v := 1) dX12_seekLaws_379 (by decide) ?_
        refine A_iadd dX12_seekLaws_380 ?_
        rw [nI_1]
        refine A_putI gf_X12_377 rfl dX12_seekLaws_381 ?_
        refine hk2 (fun q => ?_) ?_
        · have h1 := q.2; have h2 := (nI_leI (by omega) (by omega)).mp c_304; omega
        · exact (nI_ltI (by omega) (by omega)).mp (i_nle c_316)
    · refine A_goto (tgt := 384) dX12_seekLaws_307 (by decide) ?_
      refine hk1 ⟨?_, ?_⟩
      · rcases Nat.eq_zero_or_pos L.length with q | q
        · exact absurd ((nI_le0 (by omega)).mpr q) c_295
        · exact q
      · exact (nI_ltI (by omega) (by omega)).mp (i_nle c_304)
set_option maxHeartbeats 4000000 in
set_option maxRecDepth 100000 in
theorem L_X12_seekLaws_269 {F : Mem} {l : Launch} {G : Wd} {k : Int32} {σ μ : Mem} {b d f t lg c : Nat} {z s tr fi : Int32} {S : Sc} {x13 x14 x15 : Option Value} {Q : Option Value → Mem → Prop} (hS : SLm S μ) (hL : Lay F σ k μ) (hl : S.1.length < 700) (hf : S.2.1 ≤ 60) (hc : c ≤ 60) (hk : ∀ (μ' : Mem), SLm (nxL S.1 S.2.1 c (z, s, lg, tr), nxF S.1 S.2.1 c, (if fi ≤ S.2.2.1 then S.2.2.1 else fi), S.2.2.2 || !decide (0 ≤ fi)) μ' → Lay F σ k μ' → AW l G KM RX12 cX12_seekLaws 16 5 none Q 384 [some (.ref (gA G 0)), some (.int (nI b)), some (.int (nI d)), some (.int (bz ((S.2.2.2 || !decide (0 ≤ fi)) = true))), some (.int (nI f)), some (.int (nI t)), some (.int (nI (8 * b))), some (.int z), some (.int s), some (.int (nI lg)), some (.int tr), some (.int (nI c)), some (.int fi), x13, x14, x15] [] μ') : AW l G KM RX12 cX12_seekLaws 16 5 none Q 269 [some (.ref (gA G 0)), some (.int (nI b)), some (.int (nI d)), some (.int (bz ((S.2.2.2 || !decide (0 ≤ fi)) = true))), some (.int (nI f)), some (.int (nI t)), some (.int (nI (8 * b))), some (.int z), some (.int s), some (.int (nI lg)), some (.int tr), some (.int (nI c)), some (.int fi), x13, x14, x15] [] μ := by
  refine A_aload0 dX12_seekLaws_269 ?_
  refine A_iload12 dX12_seekLaws_270 ?_
  refine A_aload0 dX12_seekLaws_272 ?_
  refine A_getI gf_X12_383 rfl dX12_seekLaws_273 ?_
  rw [hS.2.2.1]
  refine A_icmp_le (tgt := 284) dX12_seekLaws_276 (by decide) (fun c_276 => ?_) (fun c_276 => ?_)
  · refine A_aload0 dX12_seekLaws_284 ?_
    refine A_getI gf_X12_383 rfl dX12_seekLaws_285 ?_
    rw [hS.2.2.1]
    refine A_putI gf_X12_383 rfl dX12_seekLaws_288 ?_
    have hv : S.2.2.1 = (if fi ≤ S.2.2.1 then S.2.2.1 else fi) := by rw [if_pos c_276]
    refine A_setm (μ' := wI μ 0 53 (if fi ≤ S.2.2.1 then S.2.2.1 else fi)) (by rw [← hv]) ?_
    have hL2 := Lay.w (i := 0) (j := 53) (v := if fi ≤ S.2.2.1 then S.2.2.1 else fi) hL rfl (by decide)
    refine L_X12_seekLaws_291 (L := S.1) (few := S.2.1) hS.1 hS.2.1 hl hf hc (fun h => ?_) (fun h h2 => ?_) (fun h h2 => ?_)
    · refine hk _ ⟨?_, ?_, rfl, ?_⟩ hL2
      · unfold nxL; rw [if_pos h]; exact hS.1
      · unfold nxF; rw [if_pos h]; exact hS.2.1
      · unfold nxL; rw [if_pos h]; exact hS.2.2.2
    · refine hk _ ⟨?_, ?_, rfl, ?_⟩ (Lay_addL (Lay.w (i := 0) (j := 51) hL2 rfl (by decide)))
      · unfold nxL; rw [if_neg h, if_pos h2]; rfl
      · unfold nxF; rw [if_neg h]; rfl
      · unfold nxL; rw [if_neg h, if_pos h2]; exact arrs_add (L := []) (arrs_nil _)
    · refine hk _ ⟨?_, ?_, rfl, ?_⟩ (Lay_addL hL2)
      · unfold nxL; rw [if_neg h, if_neg h2, List.length_append]; rfl
      · unfold nxF; rw [if_neg h]; rfl
      · unfold nxL; rw [if_neg h, if_neg h2]; exact arrs_add (L := S.1) (μ := wI μ 0 53 _) hS.2.2.2
  · refine A_iload12 dX12_seekLaws_279 ?_
    refine A_goto (tgt := 288) dX12_seekLaws_281 (by decide) ?_
    refine A_putI gf_X12_383 rfl dX12_seekLaws_288 ?_
    have hv : fi = (if fi ≤ S.2.2.1 then S.2.2.1 else fi) := by rw [if_neg c_276]
    refine A_setm (μ' := wI μ 0 53 (if fi ≤ S.2.2.1 then S.2.2.1 else fi)) (by rw [← hv]) ?_
    have hL2 := Lay.w (i := 0) (j := 53) (v := if fi ≤ S.2.2.1 then S.2.2.1 else fi) hL rfl (by decide)
    refine L_X12_seekLaws_291 (L := S.1) (few := S.2.1) hS.1 hS.2.1 hl hf hc (fun h => ?_) (fun h h2 => ?_) (fun h h2 => ?_)
    · refine hk _ ⟨?_, ?_, rfl, ?_⟩ hL2
      · unfold nxL; rw [if_pos h]; exact hS.1
      · unfold nxF; rw [if_pos h]; exact hS.2.1
      · unfold nxL; rw [if_pos h]; exact hS.2.2.2
    · refine hk _ ⟨?_, ?_, rfl, ?_⟩ (Lay_addL (Lay.w (i := 0) (j := 51) hL2 rfl (by decide)))
      · unfold nxL; rw [if_neg h, if_pos h2]; rfl
      · unfold nxF; rw [if_neg h]; rfl
      · unfold nxL; rw [if_neg h, if_pos h2]; exact arrs_add (L := []) (arrs_nil _)
    · refine hk _ ⟨?_, ?_, rfl, ?_⟩ (Lay_addL hL2)
      · unfold nxL; rw [if_neg h, if_neg h2, List.length_append]; rfl
      · unfold nxF; rw [if_neg h]; rfl
      · unfold nxL; rw [if_neg h, if_neg h2]; exact arrs_add (L := S.1) (μ := wI μ 0 53 _) hS.2.2.2
set_option maxHeartbeats 4000000 in
set_option maxRecDepth 100000 in
theorem L_X12_seekLaws_254 {F : Mem} {l : Launch} {G : Wd} {k : Int32} {σ μ : Mem} {b d f t lg c : Nat} {z s tr fi : Int32} {S : Sc} {x13 x14 x15 : Option Value} {Q : Option Value → Mem → Prop} (hS : SLm S μ) (hL : Lay F σ k μ) (hl : S.1.length < 700) (hf : S.2.1 ≤ 60) (hc : c ≤ 60) (hk : ∀ (μ' : Mem), SLm (nxL S.1 S.2.1 c (z, s, lg, tr), nxF S.1 S.2.1 c, (if fi ≤ S.2.2.1 then S.2.2.1 else fi), S.2.2.2 || !decide (0 ≤ fi)) μ' → Lay F σ k μ' → AW l G KM RX12 cX12_seekLaws 16 5 none Q 384 [some (.ref (gA G 0)), some (.int (nI b)), some (.int (nI d)), some (.int (bz ((S.2.2.2 || !decide (0 ≤ fi)) = true))), some (.int (nI f)), some (.int (nI t)), some (.int (nI (8 * b))), some (.int z), some (.int s), some (.int (nI lg)), some (.int tr), some (.int (nI c)), some (.int fi), x13, x14, x15] [] μ') : AW l G KM RX12 cX12_seekLaws 16 5 none Q 254 [some (.ref (gA G 0)), some (.int (nI b)), some (.int (nI d)), some (.int (bz (S.2.2.2 = true))), some (.int (nI f)), some (.int (nI t)), some (.int (nI (8 * b))), some (.int z), some (.int s), some (.int (nI lg)), some (.int tr), some (.int (nI c)), some (.int fi), x13, x14, x15] [] μ := by
  refine A_iload3 dX12_seekLaws_254 ?_
  refine A_if_ne (tgt := 263) dX12_seekLaws_255 (by decide) (fun c_255 => ?_) (fun c_255 => ?_)
  · refine A_iconst (v := 1) dX12_seekLaws_263 (by decide) ?_
    refine A_goto (tgt := 268) dX12_seekLaws_264 (by decide) ?_
    refine A_istore3 dX12_seekLaws_268 rfl (by decide) ?_
    have hv : (1 : Int32) = bz ((S.2.2.2 || !decide (0 ≤ fi)) = true) := by rw [bz_t]; have h := Classical.not_not.mp (fun z => c_255 (bz_0.mpr z)); simp_all
    rw [hv]
    exact L_X12_seekLaws_269 hS hL hl hf hc hk
  · refine A_iload12 dX12_seekLaws_258 ?_
    refine A_if_ge (tgt := 267) dX12_seekLaws_260 (by decide) (fun c_260 => ?_) (fun c_260 => ?_)
    · refine A_iconst (v := 0) dX12_seekLaws_267 (by decide) ?_
      refine A_istore3 dX12_seekLaws_268 rfl (by decide) ?_
      have hv : (0 : Int32) = bz ((S.2.2.2 || !decide (0 ≤ fi)) = true) := by rw [bz_f]; have h := bz_0.mp c_255; simp_all
      rw [hv]
      exact L_X12_seekLaws_269 hS hL hl hf hc hk
    · refine A_iconst (v := 1) dX12_seekLaws_263 (by decide) ?_
      refine A_goto (tgt := 268) dX12_seekLaws_264 (by decide) ?_
      refine A_istore3 dX12_seekLaws_268 rfl (by decide) ?_
      have hv : (1 : Int32) = bz ((S.2.2.2 || !decide (0 ≤ fi)) = true) := by rw [bz_t]; simp_all
      rw [hv]
      exact L_X12_seekLaws_269 hS hL hl hf hc hk
theorem eT_s (σ : Mem) (b : Nat) (z s : Int32) (l : Nat) (t : Int32) (n : Nat) : eT σ b z s l t (n + 1) = (z, s, l, t) :: eT σ b z s l (t + 1) n := rfl
theorem okBx.r {σ : Mem} {b : Nat} (h : okBx σ b) : (-5 ≤ (rl σ b 0).toInt ∧ (rl σ b 0).toInt ≤ (rl σ b 1).toInt ∧ (rl σ b 1).toInt ≤ 5) ∧ (8 ≤ (rl σ b 2).toInt ∧ (rl σ b 2).toInt ≤ (rl σ b 3).toInt ∧ (rl σ b 3).toInt ≤ 12) ∧ (0 ≤ (rl σ b 4).toInt ∧ (rl σ b 4).toInt ≤ (rl σ b 5).toInt ∧ (rl σ b 5).toInt ≤ 2) ∧ (0 ≤ (rl σ b 6).toInt ∧ (rl σ b 6).toInt ≤ (rl σ b 7).toInt ∧ (rl σ b 7).toInt ≤ 3) := h.2.2
theorem nI_8 (b p : Nat) : nI (8 * b) + nI p = nI (8 * b + p) := nI_add _ _
theorem i_p1' {a : Int32} (hl : -100 ≤ a.toInt) (hh : a.toInt ≤ 100) : (a + Int32.ofInt 1).toInt = a.toInt + 1 := by
  have h1 : (Int32.ofInt 1).toInt = 1 := by decide
  rw [Int32.toInt_add, h1, Int.bmod_eq_of_le (by omega) (by omega)]
set_option maxHeartbeats 4000000 in
set_option maxRecDepth 100000 in
theorem L_X12_seekLaws_124 {F : Mem} {l : Launch} {G : Wd} {k : Int32} {σ : Mem} {b d f t : Nat} {Q : Option Value → Mem → Prop} {lg : Nat} {z s : Int32} (hb : b < 5) (hok : okBx σ b) (ht : t < 60) (hft : f ≤ t) (hlg : lg ≤ 2) : ∀ (q n : Nat) (P : List Lw) (x cl : Int32) (x11 x12 x13 x14 x15 : Option Value) (μ : Mem), n < q → x.toInt + n = (rl σ b 7).toInt + 1 → 0 ≤ x.toInt → P.length + n ≤ 660 → cl = bz ((scan (cS σ k b f t) (fS σ k b f t) P).2.2.2 = true) → SLm (scan (cS σ k b f t) (fS σ k b f t) P) μ → Lay F σ k μ →
    (∀ (x10 x11 x12 x13 x14 x15 : Option Value) (μ' : Mem), SLm (scan (cS σ k b f t) (fS σ k b f t) (P ++ eT σ b z s lg x n)) μ' → Lay F σ k μ' → AW l G KM RX12 cX12_seekLaws 16 5 none Q 390 [some (.ref (gA G 0)), some (.int (nI b)), some (.int (nI d)), some (.int (bz ((scan (cS σ k b f t) (fS σ k b f t) (P ++ eT σ b z s lg x n)).2.2.2 = true))), some (.int (nI f)), some (.int (nI t)), some (.int (nI (8 * b))), some (.int z), some (.int s), some (.int (nI lg)), x10, x11, x12, x13, x14, x15] [] μ') → AW l G KM RX12 cX12_seekLaws 16 5 none Q 124 [some (.ref (gA G 0)), some (.int (nI b)), some (.int (nI d)), some (.int cl), some (.int (nI f)), some (.int (nI t)), some (.int (nI (8 * b))), some (.int z), some (.int s), some (.int (nI lg)), some (.int x), x11, x12, x13, x14, x15] [] μ := by
  intro q
  induction q with
  | zero => intro n P x cl x11 x12 x13 x14 x15 μ hq; omega
  | succ q ih =>
    intro n P x cl x11 x12 x13 x14 x15 μ hq h1 h2 h3 hcl hS hL hk
    subst hcl
    refine A_iload10 dX12_seekLaws_124 ?_
    refine A_aload0 dX12_seekLaws_126 ?_
    refine A_getR gf_X12_36 rfl dX12_seekLaws_127 ?_
    refine A_iload6 dX12_seekLaws_130 ?_
    refine A_bipush (v := 7) dX12_seekLaws_132 (by decide) ?_
    refine A_iadd dX12_seekLaws_134 ?_
    refine A_iald (rfl) (by rw [show (7 : Int32) = nI 7 from rfl, nI_8]; exact vp_in_nI (by omega) (by omega)) dX12_seekLaws_135 ?_
    rw [show (7 : Int32) = nI 7 from rfl, nI_8, nI_c (by omega), hL.1.1 8 _ rfl]
    refine A_val (y := rl σ b 7) rfl ?_
    refine A_icmp_gt (tgt := 390) dX12_seekLaws_136 (by decide) (fun c_136 => ?_) (fun c_136 => ?_)
    · have e : n = 0 := by have := i_lt.mp c_136; omega
      subst e
      have e2 : P ++ eT σ b z s lg x 0 = P := by simp [eT, iv]
      rw [e2] at hk
      exact hk _ _ _ _ _ _ _ hS hL
    · refine A_iconst (v := 0) dX12_seekLaws_139 (by decide) ?_
      refine A_istore11 dX12_seekLaws_140 rfl (by decide) ?_
      refine A_iconst (v := -1) dX12_seekLaws_142 (by decide) ?_
      refine A_istore12 dX12_seekLaws_143 rfl (by decide) ?_
      refine A_iload4 dX12_seekLaws_145 ?_
      refine A_istore13 dX12_seekLaws_147 rfl (by decide) ?_
      obtain ⟨n, rfl⟩ : ∃ m, n = m + 1 := ⟨n - 1, by have := c_136; rw [i_lt] at this; omega⟩
      refine L_X12_seekLaws_149 (σ := σ) hL hb hok hlg ht (t + 2 - f) 0 _ _ _ _ _ (by omega) (by omega) rfl rfl rfl (fun x14 x15 x13 => ?_)
      refine L_X12_seekLaws_254 (S := scan (cS σ k b f t) (fS σ k b f t) P) (c := cS σ k b f t (z, s, lg, x)) (fi := fS σ k b f t (z, s, lg, x)) hS hL (by have := scan_le (cS σ k b f t) (fS σ k b f t) P; omega) (scan_few _ _ (fun y => by have := cntM_le σ k b y f (t + 1 - f); unfold cS; omega) P _ (by decide)) (by have := cntM_le σ k b (z, s, lg, x) f (t + 1 - f); unfold cS; omega) (fun μ1 hS1 hL1 => ?_)
      refine A_iinc10 dX12_seekLaws_384 rfl rfl (by decide) ?_
      refine A_goto (tgt := 124) dX12_seekLaws_387 (by decide) ?_
      have hxx := i_p1' (a := x) (by omega) (by have := hok.r.2.2.2.2.2; omega)
      refine ih n (P ++ [(z, s, lg, x)]) (x + Int32.ofInt 1) _ _ _ _ _ _ μ1 (by omega) ?_ ?_ ?_ ?_ ?_ hL1 ?_
      · omega
      · omega
      · rw [List.length_append, List.length_singleton]; omega
      · rw [scan_app]; exact rfl
      · rw [scan_app]; exact hS1
      · have e2 : P ++ [(z, s, lg, x)] ++ eT σ b z s lg (x + Int32.ofInt 1) n = P ++ eT σ b z s lg x (n + 1) := by rw [eT_s, List.append_assoc]; rfl
        rw [e2]
        exact hk
theorem iv_len (a : Int32) : ∀ n, (iv a n).length = n := by
  intro n
  induction n generalizing a with
  | zero => rfl
  | succ n ih => show (iv (a + 1) n).length + 1 = n + 1; rw [ih]
theorem ivN_len (a : Nat) : ∀ n, (ivN a n).length = n := by
  intro n
  induction n generalizing a with
  | zero => rfl
  | succ n ih => show (ivN (a + 1) n).length + 1 = n + 1; rw [ih]
theorem eT_len (σ : Mem) (b : Nat) (z s : Int32) (l : Nat) (t : Int32) (n : Nat) : (eT σ b z s l t n).length = n := by unfold eT; rw [List.length_map, iv_len]
theorem eL_s (σ : Mem) (b : Nat) (z s : Int32) (l : Nat) (n : Nat) : eL σ b z s l (n + 1) = eT σ b z s l (rl σ b 6) (rn1 σ b 6) ++ eL σ b z s (l + 1) n := by unfold eL; rfl
theorem eS_s (σ : Mem) (b : Nat) (z s : Int32) (n : Nat) : eS σ b z s (n + 1) = eL σ b z s (lgN σ b) (rn1 σ b 4) ++ eS σ b z (s + 1) n := by unfold eS; rfl
theorem eZ_s (σ : Mem) (b : Nat) (z : Int32) (n : Nat) : eZ σ b z (n + 1) = eS σ b z (rl σ b 2) (rn1 σ b 2) ++ eZ σ b (z + 1) n := by unfold eZ; rfl
theorem eL_len (σ : Mem) (b : Nat) (z s : Int32) : ∀ (n l : Nat), (eL σ b z s l n).length = n * rn1 σ b 6 := by
  intro n
  induction n with
  | zero => intro l; simp [eL, ivN]
  | succ n ih => intro l; rw [eL_s, List.length_append, eT_len, ih, Nat.succ_mul, Nat.add_comm]
theorem eS_len (σ : Mem) (b : Nat) (z : Int32) : ∀ (n : Nat) (s : Int32), (eS σ b z s n).length = n * (rn1 σ b 4 * rn1 σ b 6) := by
  intro n
  induction n with
  | zero => intro l; simp [eS, iv]
  | succ n ih => intro l; rw [eS_s, List.length_append, eL_len, ih, Nat.succ_mul, Nat.add_comm]
theorem eZ_len (σ : Mem) (b : Nat) : ∀ (n : Nat) (z : Int32), (eZ σ b z n).length = n * (rn1 σ b 2 * (rn1 σ b 4 * rn1 σ b 6)) := by
  intro n
  induction n with
  | zero => intro l; simp [eZ, iv]
  | succ n ih => intro l; rw [eZ_s, List.length_append, eS_len, ih, Nat.succ_mul, Nat.add_comm]
theorem rn1_le {σ : Mem} {b : Nat} (h : okBx σ b) : (1 ≤ rn1 σ b 0 ∧ rn1 σ b 0 ≤ 11) ∧ (1 ≤ rn1 σ b 2 ∧ rn1 σ b 2 ≤ 5) ∧ (1 ≤ rn1 σ b 4 ∧ rn1 σ b 4 ≤ 3) ∧ (1 ≤ rn1 σ b 6 ∧ rn1 σ b 6 ≤ 4) := by
  have h := h.r
  simp only [rn1, Nat.reduceAdd]
  omega
theorem rn_i {σ : Mem} {b : Nat} (h : okBx σ b) : (rl σ b 0).toInt + rn1 σ b 0 = (rl σ b 1).toInt + 1 ∧ (rl σ b 2).toInt + rn1 σ b 2 = (rl σ b 3).toInt + 1 ∧ (rl σ b 4).toInt + rn1 σ b 4 = (rl σ b 5).toInt + 1 ∧ (rl σ b 6).toInt + rn1 σ b 6 = (rl σ b 7).toInt + 1 := by
  have h := h.r
  simp only [rn1, Nat.reduceAdd]
  omega
theorem allL_len {σ : Mem} {b : Nat} (h : okBx σ b) : (allL σ b).length ≤ 660 := by
  obtain ⟨h0, h2, h4, h6⟩ := rn1_le h
  unfold allL
  rw [eZ_len]
  calc rn1 σ b 0 * (rn1 σ b 2 * (rn1 σ b 4 * rn1 σ b 6)) ≤ 11 * (5 * (3 * 4)) := Nat.mul_le_mul h0.2 (Nat.mul_le_mul h2.2 (Nat.mul_le_mul h4.2 h6.2))
    _ = 660 := rfl
theorem lgN_i {σ : Mem} {b : Nat} (h : okBx σ b) : rl σ b 4 = nI (lgN σ b) ∧ lgN σ b ≤ 2 ∧ (rl σ b 4).toInt = lgN σ b := by
  have h4 := h.r.2.2.1
  obtain ⟨n, hn, e1, e2, e3⟩ := i_nat (x := rl σ b 4) (i_le.mpr (by rw [show (0 : Int32).toInt = 0 from by decide]; omega))
  have e4 : lgN σ b = n := e3
  rw [e4]
  exact ⟨e1, by omega, e2⟩
set_option maxHeartbeats 4000000 in
set_option maxRecDepth 100000 in
theorem L_X12_seekLaws_98 {F : Mem} {l : Launch} {G : Wd} {k : Int32} {σ : Mem} {b d f t : Nat} {Q : Option Value → Mem → Prop} {z s : Int32} (hb : b < 5) (hok : okBx σ b) (ht : t < 60) (hft : f ≤ t)  : ∀ (q n : Nat) (P : List Lw) (x : Nat) (cl : Int32) (x10 x11 x12 x13 x14 x15 : Option Value) (μ : Mem), n < q → (x : Int) + n = (rl σ b 5).toInt + 1 → (P ++ eL σ b z s x n).length ≤ 660 → cl = bz ((scan (cS σ k b f t) (fS σ k b f t) P).2.2.2 = true) → SLm (scan (cS σ k b f t) (fS σ k b f t) P) μ → Lay F σ k μ →
    (∀ (x8 x9 x10 x11 x12 x13 x14 x15 : Option Value) (μ' : Mem), SLm (scan (cS σ k b f t) (fS σ k b f t) (P ++ eL σ b z s x n)) μ' → Lay F σ k μ' → AW l G KM RX12 cX12_seekLaws 16 5 none Q 396 [some (.ref (gA G 0)), some (.int (nI b)), some (.int (nI d)), some (.int (bz ((scan (cS σ k b f t) (fS σ k b f t) (P ++ eL σ b z s x n)).2.2.2 = true))), some (.int (nI f)), some (.int (nI t)), some (.int (nI (8 * b))), some (.int z), some (.int s), x9, x10, x11, x12, x13, x14, x15] [] μ') → AW l G KM RX12 cX12_seekLaws 16 5 none Q 98 [some (.ref (gA G 0)), some (.int (nI b)), some (.int (nI d)), some (.int cl), some (.int (nI f)), some (.int (nI t)), some (.int (nI (8 * b))), some (.int z), some (.int s), some (.int (nI x)), x10, x11, x12, x13, x14, x15] [] μ := by
  intro q
  induction q with
  | zero => intro n P x cl x10 x11 x12 x13 x14 x15 μ hq; omega
  | succ q ih =>
    intro n P x cl x10 x11 x12 x13 x14 x15 μ hq h1 h3 hcl hS hL hk
    have hr := hok.r
    subst hcl
    refine A_iload9 dX12_seekLaws_98 ?_
    refine A_aload0 dX12_seekLaws_100 ?_
    refine A_getR gf_X12_36 rfl dX12_seekLaws_101 ?_
    refine A_iload6 dX12_seekLaws_104 ?_
    refine A_iconst (v := 5) dX12_seekLaws_106 (by decide) ?_
    refine A_iadd dX12_seekLaws_107 ?_
    refine A_iald (rfl) (by rw [show (5 : Int32) = nI 5 from rfl, nI_8]; exact vp_in_nI (by omega) (by omega)) dX12_seekLaws_108 ?_
    rw [show (5 : Int32) = nI 5 from rfl, nI_8, nI_c (by omega), hL.1.1 8 _ rfl]
    refine A_val (y := rl σ b 5) rfl ?_
    refine A_icmp_gt (tgt := 396) dX12_seekLaws_109 (by decide) (fun c_109 => ?_) (fun c_109 => ?_)
    · have e : n = 0 := by have h9 := i_lt.mp c_109; rw [nI_i (by omega)] at h9; omega
      subst e
      have e2 : P ++ eL σ b z s x 0 = P := by simp [eL, ivN]
      rw [e2] at hk
      exact hk none _ _ _ _ _ _ _ _ hS hL
    · refine A_aload0 dX12_seekLaws_112 ?_
      refine A_getR gf_X12_36 rfl dX12_seekLaws_113 ?_
      refine A_iload6 dX12_seekLaws_116 ?_
      refine A_bipush (v := 6) dX12_seekLaws_118 (by decide) ?_
      refine A_iadd dX12_seekLaws_120 ?_
      refine A_iald (rfl) (by rw [show (6 : Int32) = nI 6 from rfl, nI_8]; exact vp_in_nI (by omega) (by omega)) dX12_seekLaws_121 ?_
      rw [show (6 : Int32) = nI 6 from rfl, nI_8, nI_c (by omega), hL.1.1 8 _ rfl]
      refine A_val (y := rl σ b 6) rfl ?_
      refine A_istore10 dX12_seekLaws_122 rfl (by decide) ?_
      obtain ⟨n, rfl⟩ : ∃ m, n = m + 1 := ⟨n - 1, by have h9 := c_109; rw [i_lt, nI_i (by omega)] at h9; omega⟩
      have hn1 := rn1_le hok
      rw [eL_s, List.length_append, List.length_append, eT_len] at h3
      refine L_X12_seekLaws_124 (lg := x) hb hok ht hft (by omega) (rn1 σ b 6 + 1) (rn1 σ b 6) P (rl σ b 6) _ _ _ _ _ _ μ (by omega) (by have := rn_i hok; omega) (by omega) (by omega) rfl hS hL (fun x10 x11 x12 x13 x14 x15 μ1 hS1 hL1 => ?_)
      refine A_iinc9 dX12_seekLaws_390 rfl rfl (by decide) ?_
      refine A_goto (tgt := 98) dX12_seekLaws_393 (by decide) ?_
      refine A_setl (ls' := [some (.ref (gA G 0)), some (.int (nI b)), some (.int (nI d)), some (.int (bz ((scan (cS σ k b f t) (fS σ k b f t) (P ++ eT σ b z s x (rl σ b 6) (rn1 σ b 6))).2.2.2 = true))), some (.int (nI f)), some (.int (nI t)), some (.int (nI (8 * b))), some (.int z), some (.int s), some (.int (nI (x + 1))), x10, x11, x12, x13, x14, x15]) (by rw [← nI_1 x]; rfl) ?_
      refine ih n (P ++ eT σ b z s x (rl σ b 6) (rn1 σ b 6)) (x + 1) _ _ _ _ _ _ _ μ1 (by omega) (by omega) ?_ rfl hS1 hL1 ?_
      · rw [List.length_append, List.length_append, eT_len]; omega
      · have e2 : P ++ eT σ b z s x (rl σ b 6) (rn1 σ b 6) ++ eL σ b z s (x + 1) n = P ++ eL σ b z s x (n + 1) := by rw [eL_s, List.append_assoc]
        rw [e2]
        exact hk
set_option maxHeartbeats 4000000 in
set_option maxRecDepth 100000 in
theorem L_X12_seekLaws_73 {F : Mem} {l : Launch} {G : Wd} {k : Int32} {σ : Mem} {b d f t : Nat} {Q : Option Value → Mem → Prop} {z : Int32} (hb : b < 5) (hok : okBx σ b) (ht : t < 60) (hft : f ≤ t)  : ∀ (q n : Nat) (P : List Lw) (x : Int32) (cl : Int32) (x9 x10 x11 x12 x13 x14 x15 : Option Value) (μ : Mem), n < q → (x.toInt + n = (rl σ b 3).toInt + 1 ∧ 0 ≤ x.toInt) → (P ++ eS σ b z x n).length ≤ 660 → cl = bz ((scan (cS σ k b f t) (fS σ k b f t) P).2.2.2 = true) → SLm (scan (cS σ k b f t) (fS σ k b f t) P) μ → Lay F σ k μ →
    (∀ (x8 x9 x10 x11 x12 x13 x14 x15 : Option Value) (μ' : Mem), SLm (scan (cS σ k b f t) (fS σ k b f t) (P ++ eS σ b z x n)) μ' → Lay F σ k μ' → AW l G KM RX12 cX12_seekLaws 16 5 none Q 402 [some (.ref (gA G 0)), some (.int (nI b)), some (.int (nI d)), some (.int (bz ((scan (cS σ k b f t) (fS σ k b f t) (P ++ eS σ b z x n)).2.2.2 = true))), some (.int (nI f)), some (.int (nI t)), some (.int (nI (8 * b))), some (.int z), x8, x9, x10, x11, x12, x13, x14, x15] [] μ') → AW l G KM RX12 cX12_seekLaws 16 5 none Q 73 [some (.ref (gA G 0)), some (.int (nI b)), some (.int (nI d)), some (.int cl), some (.int (nI f)), some (.int (nI t)), some (.int (nI (8 * b))), some (.int z), some (.int x), x9, x10, x11, x12, x13, x14, x15] [] μ := by
  intro q
  induction q with
  | zero => intro n P x cl x9 x10 x11 x12 x13 x14 x15 μ hq; omega
  | succ q ih =>
    intro n P x cl x9 x10 x11 x12 x13 x14 x15 μ hq h1 h3 hcl hS hL hk
    have hr := hok.r
    subst hcl
    refine A_iload8 dX12_seekLaws_73 ?_
    refine A_aload0 dX12_seekLaws_75 ?_
    refine A_getR gf_X12_36 rfl dX12_seekLaws_76 ?_
    refine A_iload6 dX12_seekLaws_79 ?_
    refine A_iconst (v := 3) dX12_seekLaws_81 (by decide) ?_
    refine A_iadd dX12_seekLaws_82 ?_
    refine A_iald (rfl) (by rw [show (3 : Int32) = nI 3 from rfl, nI_8]; exact vp_in_nI (by omega) (by omega)) dX12_seekLaws_83 ?_
    rw [show (3 : Int32) = nI 3 from rfl, nI_8, nI_c (by omega), hL.1.1 8 _ rfl]
    refine A_val (y := rl σ b 3) rfl ?_
    refine A_icmp_gt (tgt := 402) dX12_seekLaws_84 (by decide) (fun c_84 => ?_) (fun c_84 => ?_)
    · have e : n = 0 := by have h9 := i_lt.mp c_84; omega
      subst e
      have e2 : P ++ eS σ b z x 0 = P := by simp [eS, iv]
      rw [e2] at hk
      exact hk _ _ _ _ _ _ _ _ _ hS hL
    · refine A_aload0 dX12_seekLaws_87 ?_
      refine A_getR gf_X12_36 rfl dX12_seekLaws_88 ?_
      refine A_iload6 dX12_seekLaws_91 ?_
      refine A_iconst (v := 4) dX12_seekLaws_93 (by decide) ?_
      refine A_iadd dX12_seekLaws_94 ?_
      refine A_iald (rfl) (by rw [show (4 : Int32) = nI 4 from rfl, nI_8]; exact vp_in_nI (by omega) (by omega)) dX12_seekLaws_95 ?_
      rw [show (4 : Int32) = nI 4 from rfl, nI_8, nI_c (by omega), hL.1.1 8 _ rfl]
      refine A_val (y := rl σ b 4) rfl ?_
      refine A_istore9 dX12_seekLaws_96 rfl (by decide) ?_
      obtain ⟨n, rfl⟩ : ∃ m, n = m + 1 := ⟨n - 1, by have h9 := c_84; rw [i_lt] at h9; omega⟩
      have hn1 := rn1_le hok
      obtain ⟨el, el2, el3⟩ := lgN_i hok
      rw [eS_s, List.length_append, List.length_append] at h3
      rw [el]
      refine L_X12_seekLaws_98 (z := z) (s := x) hb hok ht hft (rn1 σ b 4 + 1) (rn1 σ b 4) P (lgN σ b) _ _ _ _ _ _ _ μ (by omega) (by have := rn_i hok; omega) (by rw [List.length_append]; omega) rfl hS hL (fun x8 x9 x10 x11 x12 x13 x14 x15 μ1 hS1 hL1 => ?_)
      refine A_iinc8 dX12_seekLaws_396 rfl rfl (by decide) ?_
      refine A_goto (tgt := 73) dX12_seekLaws_399 (by decide) ?_
      have hxx := i_p1' (a := x) (by omega) (by omega)
      refine ih n (P ++ eL σ b z x (lgN σ b) (rn1 σ b 4)) (x + Int32.ofInt 1) _ _ _ _ _ _ _ _ μ1 (by omega) ⟨by omega, by omega⟩ ?_ rfl hS1 hL1 ?_
      · rw [List.length_append, List.length_append]; show P.length + _ + (eS σ b z (x + 1) n).length ≤ 660; omega
      · have e2 : P ++ eL σ b z x (lgN σ b) (rn1 σ b 4) ++ eS σ b z (x + Int32.ofInt 1) n = P ++ eS σ b z x (n + 1) := by rw [eS_s, List.append_assoc]; rfl
        rw [e2]
        exact hk
set_option maxHeartbeats 4000000 in
set_option maxRecDepth 100000 in
theorem L_X12_seekLaws_48 {F : Mem} {l : Launch} {G : Wd} {k : Int32} {σ : Mem} {b d f t : Nat} {Q : Option Value → Mem → Prop} (hb : b < 5) (hok : okBx σ b) (ht : t < 60) (hft : f ≤ t) : ∀ (q n : Nat) (P : List Lw) (x : Int32) (cl : Int32) (x8 x9 x10 x11 x12 x13 x14 x15 : Option Value) (μ : Mem), n < q → (x.toInt + n = (rl σ b 1).toInt + 1 ∧ -5 ≤ x.toInt) → (P ++ eZ σ b x n).length ≤ 660 → cl = bz ((scan (cS σ k b f t) (fS σ k b f t) P).2.2.2 = true) → SLm (scan (cS σ k b f t) (fS σ k b f t) P) μ → Lay F σ k μ →
    (∀ (x7 x8 x9 x10 x11 x12 x13 x14 x15 : Option Value) (μ' : Mem), SLm (scan (cS σ k b f t) (fS σ k b f t) (P ++ eZ σ b x n)) μ' → Lay F σ k μ' → AW l G KM RX12 cX12_seekLaws 16 5 none Q 408 [some (.ref (gA G 0)), some (.int (nI b)), some (.int (nI d)), some (.int (bz ((scan (cS σ k b f t) (fS σ k b f t) (P ++ eZ σ b x n)).2.2.2 = true))), some (.int (nI f)), some (.int (nI t)), some (.int (nI (8 * b))), x7, x8, x9, x10, x11, x12, x13, x14, x15] [] μ') → AW l G KM RX12 cX12_seekLaws 16 5 none Q 48 [some (.ref (gA G 0)), some (.int (nI b)), some (.int (nI d)), some (.int cl), some (.int (nI f)), some (.int (nI t)), some (.int (nI (8 * b))), some (.int x), x8, x9, x10, x11, x12, x13, x14, x15] [] μ := by
  intro q
  induction q with
  | zero => intro n P x cl x8 x9 x10 x11 x12 x13 x14 x15 μ hq; omega
  | succ q ih =>
    intro n P x cl x8 x9 x10 x11 x12 x13 x14 x15 μ hq h1 h3 hcl hS hL hk
    have hr := hok.r
    subst hcl
    refine A_iload7 dX12_seekLaws_48 ?_
    refine A_aload0 dX12_seekLaws_50 ?_
    refine A_getR gf_X12_36 rfl dX12_seekLaws_51 ?_
    refine A_iload6 dX12_seekLaws_54 ?_
    refine A_iconst (v := 1) dX12_seekLaws_56 (by decide) ?_
    refine A_iadd dX12_seekLaws_57 ?_
    refine A_iald (rfl) (by rw [show (1 : Int32) = nI 1 from rfl, nI_8]; exact vp_in_nI (by omega) (by omega)) dX12_seekLaws_58 ?_
    rw [show (1 : Int32) = nI 1 from rfl, nI_8, nI_c (by omega), hL.1.1 8 _ rfl]
    refine A_val (y := rl σ b 1) rfl ?_
    refine A_icmp_gt (tgt := 408) dX12_seekLaws_59 (by decide) (fun c_59 => ?_) (fun c_59 => ?_)
    · have e : n = 0 := by have h9 := i_lt.mp c_59; omega
      subst e
      have e2 : P ++ eZ σ b x 0 = P := by simp [eZ, iv]
      rw [e2] at hk
      exact hk (some (.int x)) _ _ _ _ _ _ _ _ _ hS hL
    · refine A_aload0 dX12_seekLaws_62 ?_
      refine A_getR gf_X12_36 rfl dX12_seekLaws_63 ?_
      refine A_iload6 dX12_seekLaws_66 ?_
      refine A_iconst (v := 2) dX12_seekLaws_68 (by decide) ?_
      refine A_iadd dX12_seekLaws_69 ?_
      refine A_iald (rfl) (by rw [show (2 : Int32) = nI 2 from rfl, nI_8]; exact vp_in_nI (by omega) (by omega)) dX12_seekLaws_70 ?_
      rw [show (2 : Int32) = nI 2 from rfl, nI_8, nI_c (by omega), hL.1.1 8 _ rfl]
      refine A_val (y := rl σ b 2) rfl ?_
      refine A_istore8 dX12_seekLaws_71 rfl (by decide) ?_
      obtain ⟨n, rfl⟩ : ∃ m, n = m + 1 := ⟨n - 1, by have h9 := c_59; rw [i_lt] at h9; omega⟩
      have hn1 := rn1_le hok
      rw [eZ_s, List.length_append, List.length_append] at h3
      refine L_X12_seekLaws_73 (z := x) hb hok ht hft (rn1 σ b 2 + 1) (rn1 σ b 2) P (rl σ b 2) _ _ _ _ _ _ _ _ μ (by omega) ⟨by have := rn_i hok; omega, by omega⟩ (by rw [List.length_append]; omega) rfl hS hL (fun x8 x9 x10 x11 x12 x13 x14 x15 μ1 hS1 hL1 => ?_)
      refine A_iinc7 dX12_seekLaws_402 rfl rfl (by decide) ?_
      refine A_goto (tgt := 48) dX12_seekLaws_405 (by decide) ?_
      have hxx := i_p1' (a := x) (by omega) (by omega)
      refine ih n (P ++ eS σ b x (rl σ b 2) (rn1 σ b 2)) (x + Int32.ofInt 1) _ _ _ _ _ _ _ _ _ μ1 (by omega) ⟨by omega, by omega⟩ ?_ rfl hS1 hL1 ?_
      · rw [List.length_append, List.length_append]; show P.length + _ + (eZ σ b (x + 1) n).length ≤ 660; omega
      · have e2 : P ++ eS σ b x (rl σ b 2) (rn1 σ b 2) ++ eZ σ b (x + Int32.ofInt 1) n = P ++ eZ σ b x (n + 1) := by rw [eZ_s, List.append_assoc]; rfl
        rw [e2]
        exact hk

/-! the bits of a long, counted in parallel -/
def pcM (c : Nat) : Nat → Nat
  | 0 => 0
  | k + 1 => pcM c k * 256 + c
def pcF1 (b : Nat) : Nat := b - ((b / 2) &&& 85)
def pcF2 (b : Nat) : Nat := (pcF1 b &&& 51) + ((pcF1 b / 4) &&& 51)
def pcS : Nat → Nat → Nat
  | 0, _ => 0
  | k + 1, n => pcS k (n / 256) * 256 + pcF2 (n % 256)
def pcB (n : Nat) : Nat → Nat
  | 0 => 0
  | j + 1 => pcB n j + (n.testBit j).toNat
theorem pc_and {h b m c : Nat} (hb : b < 256) (hc : c < 256) : (h * 256 + b) &&& (m * 256 + c) = (h &&& m) * 256 + (b &&& c) := by
  have e : (256 : Nat) = 2 ^ 8 := rfl
  have hbc : b &&& c < 2 ^ 8 := Nat.lt_of_le_of_lt Nat.and_le_left hb
  apply Nat.eq_of_testBit_eq
  intro i
  rw [Nat.testBit_and, e, Nat.mul_comm h, Nat.mul_comm m, Nat.mul_comm (h &&& m), Nat.testBit_two_pow_mul_add h hb, Nat.testBit_two_pow_mul_add m hc, Nat.testBit_two_pow_mul_add (h &&& m) hbc]
  by_cases q : i < 8
  · rw [if_pos q, if_pos q, if_pos q, Nat.testBit_and]
  · rw [if_neg q, if_neg q, if_neg q, Nat.testBit_and]
theorem pc_d2 : ∀ b : Fin 256, ∀ r : Fin 2, (b.val / 2 + 128 * r.val) &&& 85 = (b.val / 2) &&& 85 := by decide +kernel
theorem pc_d4 : ∀ b : Fin 256, ∀ r : Fin 4, (b.val / 4 + 64 * r.val) &&& 51 = (b.val / 4) &&& 51 := by decide +kernel
theorem pc_f1 : ∀ b : Fin 256, (b.val / 2) &&& 85 ≤ b.val := by decide +kernel
theorem pc_f1l {b : Nat} (h : b < 256) : pcF1 b < 256 := by unfold pcF1; omega
theorem pc_h2 {h b m : Nat} (hb : b < 256) : (h * 256 + b) / 2 &&& (m * 256 + 85) = (h / 2 &&& m) * 256 + (b / 2 &&& 85) := by
  have e : (h * 256 + b) / 2 = (h / 2) * 256 + (b / 2 + 128 * (h % 2)) := by omega
  rw [e, pc_and (by omega) (by omega), pc_d2 ⟨b, hb⟩ ⟨h % 2, by omega⟩]
theorem pc_h4 {h b m : Nat} (hb : b < 256) : (h * 256 + b) / 4 &&& (m * 256 + 51) = (h / 4 &&& m) * 256 + (b / 4 &&& 51) := by
  have e : (h * 256 + b) / 4 = (h / 4) * 256 + (b / 4 + 64 * (h % 4)) := by omega
  rw [e, pc_and (by omega) (by omega), pc_d4 ⟨b, hb⟩ ⟨h % 4, by omega⟩]
theorem pc_1 {h b m : Nat} (hb : b < 256) : (h * 256 + b) - ((h * 256 + b) / 2 &&& (m * 256 + 85)) = (h - (h / 2 &&& m)) * 256 + pcF1 b := by
  rw [pc_h2 hb]
  have a1 := pc_f1 ⟨b, hb⟩
  have a2 : h / 2 &&& m ≤ h / 2 := Nat.and_le_left
  unfold pcF1
  simp only at a1
  omega
theorem pc_2 : ∀ k n, n < 256 ^ k → ((n - (n / 2 &&& pcM 85 k)) &&& pcM 51 k) + ((n - (n / 2 &&& pcM 85 k)) / 4 &&& pcM 51 k) = pcS k n := by
  intro k
  induction k with
  | zero => intro n h; show (_ &&& 0) + (_ &&& 0) = 0; rw [Nat.and_zero, Nat.and_zero]
  | succ k ih =>
    intro n h
    have hb : n % 256 < 256 := by omega
    have e : n = (n / 256) * 256 + n % 256 := by omega
    have hh : n / 256 < 256 ^ k := by rw [Nat.pow_succ] at h; exact Nat.div_lt_of_lt_mul (by omega)
    have i := ih _ hh
    show ((n - (n / 2 &&& (pcM 85 k * 256 + 85))) &&& (pcM 51 k * 256 + 51)) + ((n - (n / 2 &&& (pcM 85 k * 256 + 85))) / 4 &&& (pcM 51 k * 256 + 51)) = pcS k (n / 256) * 256 + pcF2 (n % 256)
    have e1 : n - (n / 2 &&& (pcM 85 k * 256 + 85)) = (n / 256 - (n / 256 / 2 &&& pcM 85 k)) * 256 + pcF1 (n % 256) := by
      have := pc_1 (h := n / 256) (m := pcM 85 k) hb
      rw [← e] at this
      exact this
    rw [e1, pc_and (pc_f1l hb) (by omega), pc_h4 (pc_f1l hb), ← i]
    unfold pcF2
    omega
def pcP (b : Nat) : Nat := pcF2 b % 16
def pcQ (b : Nat) : Nat := pcF2 b / 16
theorem pc_pq : ∀ b : Fin 256, pcP b.val ≤ 4 ∧ pcQ b.val ≤ 4 ∧ pcP b.val + pcQ b.val = pcB b.val 8 := by decide +kernel
theorem pc_and15 {h b m : Nat} (hb : b < 256) : (h * 256 + b) &&& (m * 256 + 15) = (h &&& m) * 256 + b % 16 := by
  rw [pc_and hb (by omega), show (15 : Nat) = 2 ^ 4 - 1 from rfl, Nat.and_two_pow_sub_one_eq_mod]
theorem pc_b8 (n : Nat) : pcB n 8 = pcB (n % 256) 8 := by
  have e : ∀ j, j < 8 → (n % 256).testBit j = n.testBit j := fun j hj => by rw [show (256 : Nat) = 2 ^ 8 from rfl, Nat.testBit_mod_two_pow]; simp [hj]
  simp only [pcB, e 0 (by omega), e 1 (by omega), e 2 (by omega), e 3 (by omega), e 4 (by omega), e 5 (by omega), e 6 (by omega), e 7 (by omega)]
theorem pc_bs (n : Nat) : ∀ m, pcB n (8 + m) = pcB n 8 + pcB (n / 256) m := by
  intro m
  induction m with
  | zero => rfl
  | succ m ih =>
    show pcB n (8 + m) + (n.testBit (8 + m)).toNat = pcB n 8 + (pcB (n / 256) m + ((n / 256).testBit m).toNat)
    rw [ih, show (256 : Nat) = 2 ^ 8 from rfl, Nat.testBit_div_two_pow, Nat.add_comm 8 m]
    omega
theorem pc_dv {x h m r : Nat} (hm : 0 < m) (e : x = h * m + r) (hr : r < m) : x / m = h := by
  rw [e, Nat.add_comm, Nat.add_mul_div_right _ _ hm, Nat.div_eq_of_lt hr, Nat.zero_add]
theorem pc_sum {u0 u1 u2 u3 u4 u5 u6 u7 : Nat} (h0 : u0 ≤ 8) (h1 : u1 ≤ 8) (h2 : u2 ≤ 8) (h3 : u3 ≤ 8) (h4 : u4 ≤ 8) (h5 : u5 ≤ 8) (h6 : u6 ≤ 8) (h7 : u7 ≤ 8) {a b c d : Nat} (ha : a = ((((((u7 * 256 + u6) * 256 + u5) * 256 + u4) * 256 + u3) * 256 + u2) * 256 + u1) * 256 + u0) (hb : b = a + a / 256) (hc : c = b + b / 65536) (hd : d = c + c / 4294967296) : d % 128 = u0 + u1 + u2 + u3 + u4 + u5 + u6 + u7 := by
  have e1 : a / 256 = (((((u7 * 256 + u6) * 256 + u5) * 256 + u4) * 256 + u3) * 256 + u2) * 256 + u1 := pc_dv (by omega) ha (by omega)
  rw [e1, ha] at hb
  have e2 : b / 65536 = ((((u7 * 256 + (u6 + u7)) * 256 + (u5 + u6)) * 256 + (u4 + u5)) * 256 + (u3 + u4)) * 256 + (u2 + u3) := pc_dv (r := (u1 + u2) * 256 + (u0 + u1)) (by omega) (by rw [hb]; clear ha hb hc hd e1; omega) (by clear ha hb hc hd e1; omega)
  rw [e2, hb] at hc
  have e3 : c / 4294967296 = ((u7 * 256 + (u6 + u7)) * 256 + (u5 + u6 + u7)) * 256 + (u4 + u5 + u6 + u7) := pc_dv (r := (((u3 + u4 + u5 + u6) * 256 + (u2 + u3 + u4 + u5)) * 256 + (u1 + u2 + u3 + u4)) * 256 + (u0 + u1 + u2 + u3)) (by omega) (by rw [hc]; clear ha hb hc hd e1 e2; omega) (by clear ha hb hc hd e1 e2; omega)
  rw [e3, hc] at hd
  clear ha hb hc e1 e2 e3
  omega
theorem pc_n {p q x : Nat} (hp : p ≤ 4) (hq : q ≤ 4) (_ : x ≤ 4) : (p + q + 16 * (q + x)) % 16 = p + q := by omega
theorem pc_all {n : Nat} (h : n < 2 ^ 64) {a b c d e f : Nat} (ha : a = n - (n / 2 &&& 6148914691236517205)) (hb : b = (a &&& 3689348814741910323) + (a / 4 &&& 3689348814741910323)) (hc : c = b + b / 16 &&& 1085102592571150095) (hd : d = c + c / 256) (he : e = d + d / 65536) (hf : f = e + e / 4294967296) : f % 128 = pcB n 64 ∧ c < 2 ^ 60 ∧ b < 2 ^ 63 := by
  have e2 := pc_2 8 n h
  rw [show pcM 85 8 = 6148914691236517205 from rfl, show pcM 51 8 = 3689348814741910323 from rfl, ← ha, ← hb] at e2
  have hB : ∀ x, pcB x 8 = pcP (x % 256) + pcQ (x % 256) := fun x => by rw [pc_b8]; exact (pc_pq ⟨x % 256, by omega⟩).2.2.symm
  have eB : pcB n 64 = pcB n 8 + (pcB (n / 256) 8 + (pcB (n / 256 / 256) 8 + (pcB (n / 256 / 256 / 256) 8 + (pcB (n / 256 / 256 / 256 / 256) 8 + (pcB (n / 256 / 256 / 256 / 256 / 256) 8 + (pcB (n / 256 / 256 / 256 / 256 / 256 / 256) 8 + pcB (n / 256 / 256 / 256 / 256 / 256 / 256 / 256) 8)))))) := by
    rw [pc_bs n 56, pc_bs _ 48, pc_bs _ 40, pc_bs _ 32, pc_bs _ 24, pc_bs _ 16, pc_bs _ 8]
  simp only [hB] at eB
  have hF : ∀ x, pcF2 x = pcP x + 16 * pcQ x := fun x => by unfold pcP pcQ; omega
  have hL : ∀ x, pcP (x % 256) ≤ 4 ∧ pcQ (x % 256) ≤ 4 := fun x => ⟨(pc_pq ⟨x % 256, by omega⟩).1, (pc_pq ⟨x % 256, by omega⟩).2.1⟩
  have eS : pcS 8 n = (((((((0 * 256 + pcF2 (n / 256 / 256 / 256 / 256 / 256 / 256 / 256 % 256)) * 256 + pcF2 (n / 256 / 256 / 256 / 256 / 256 / 256 % 256)) * 256 + pcF2 (n / 256 / 256 / 256 / 256 / 256 % 256)) * 256 + pcF2 (n / 256 / 256 / 256 / 256 % 256)) * 256 + pcF2 (n / 256 / 256 / 256 % 256)) * 256 + pcF2 (n / 256 / 256 % 256)) * 256 + pcF2 (n / 256 % 256)) * 256 + pcF2 (n % 256) := rfl
  rw [eS] at e2
  simp only [hF] at e2
  have l0 := hL n
  have l1 := hL (n / 256)
  have l2 := hL (n / 256 / 256)
  have l3 := hL (n / 256 / 256 / 256)
  have l4 := hL (n / 256 / 256 / 256 / 256)
  have l5 := hL (n / 256 / 256 / 256 / 256 / 256)
  have l6 := hL (n / 256 / 256 / 256 / 256 / 256 / 256)
  have l7 := hL (n / 256 / 256 / 256 / 256 / 256 / 256 / 256)
  generalize pcP (n / 256 / 256 / 256 / 256 / 256 / 256 / 256 % 256) = p7 at *
  generalize pcQ (n / 256 / 256 / 256 / 256 / 256 / 256 / 256 % 256) = q7 at *
  generalize pcP (n / 256 / 256 / 256 / 256 / 256 / 256 % 256) = p6 at *
  generalize pcQ (n / 256 / 256 / 256 / 256 / 256 / 256 % 256) = q6 at *
  generalize pcP (n / 256 / 256 / 256 / 256 / 256 % 256) = p5 at *
  generalize pcQ (n / 256 / 256 / 256 / 256 / 256 % 256) = q5 at *
  generalize pcP (n / 256 / 256 / 256 / 256 % 256) = p4 at *
  generalize pcQ (n / 256 / 256 / 256 / 256 % 256) = q4 at *
  generalize pcP (n / 256 / 256 / 256 % 256) = p3 at *
  generalize pcQ (n / 256 / 256 / 256 % 256) = q3 at *
  generalize pcP (n / 256 / 256 % 256) = p2 at *
  generalize pcQ (n / 256 / 256 % 256) = q2 at *
  generalize pcP (n / 256 % 256) = p1 at *
  generalize pcQ (n / 256 % 256) = q1 at *
  generalize pcP (n % 256) = p0 at *
  generalize pcQ (n % 256) = q0 at *
  clear eS hF hL hB ha hb
  have e3 : b + b / 16 = (((((((0 * 256 + (p7 + q7 + 16 * (q7 + 0))) * 256 + (p6 + q6 + 16 * (q6 + p7))) * 256 + (p5 + q5 + 16 * (q5 + p6))) * 256 + (p4 + q4 + 16 * (q4 + p5))) * 256 + (p3 + q3 + 16 * (q3 + p4))) * 256 + (p2 + q2 + 16 * (q2 + p3))) * 256 + (p1 + q1 + 16 * (q1 + p2))) * 256 + (p0 + q0 + 16 * (q0 + p1)) := by omega
  have eM : (1085102592571150095 : Nat) = (((((((0 * 256 + 15) * 256 + 15) * 256 + 15) * 256 + 15) * 256 + 15) * 256 + 15) * 256 + 15) * 256 + 15 := rfl
  rw [e3, eM, pc_and15 (by omega), pc_and15 (by omega), pc_and15 (by omega), pc_and15 (by omega), pc_and15 (by omega), pc_and15 (by omega), pc_and15 (by omega), pc_and15 (by omega), pc_n l0.1 l0.2 l1.1, pc_n l1.1 l1.2 l2.1, pc_n l2.1 l2.2 l3.1, pc_n l3.1 l3.2 l4.1, pc_n l4.1 l4.2 l5.1, pc_n l5.1 l5.2 l6.1, pc_n l6.1 l6.2 l7.1, pc_n l7.1 l7.2 (Nat.zero_le 4), Nat.and_self] at hc
  refine ⟨?_, by omega, by omega⟩
  rw [pc_sum (u0 := p0 + q0) (u1 := p1 + q1) (u2 := p2 + q2) (u3 := p3 + q3) (u4 := p4 + q4) (u5 := p5 + q5) (u6 := p6 + q6) (u7 := p7 + q7) (by omega) (by omega) (by omega) (by omega) (by omega) (by omega) (by omega) (by omega) (by rw [hc, Nat.zero_mul, Nat.zero_add]) hd he hf, eB]
  omega
theorem pc_top {n m : Nat} (h : n < 2 ^ m) : ∀ k, pcB n (m + k) = pcB n m := by
  intro k
  induction k with
  | zero => rfl
  | succ k ih =>
    show pcB n (m + k) + (n.testBit (m + k)).toNat = _
    rw [ih, Nat.testBit_lt_two_pow (Nat.lt_of_lt_of_le h (Nat.pow_le_pow_right (by decide) (by omega)))]
    rfl
theorem pc_la (a b : Nat) : lN a + lN b = lN (a + b) := wb_inj (by rw [Int64.toBitVec_add, wb_tb, wb_tb, wb_tb, BitVec.ofNat_add])
theorem pc_ls {a b : Nat} (h : b ≤ a) (ha : a < 2 ^ 64) : lN a - lN b = lN (a - b) := wb_inj (by
  rw [Int64.toBitVec_sub, wb_tb, wb_tb, wb_tb]
  apply BitVec.eq_of_toNat_eq
  rw [BitVec.toNat_sub, BitVec.toNat_ofNat, BitVec.toNat_ofNat, BitVec.toNat_ofNat, Nat.mod_eq_of_lt ha, Nat.mod_eq_of_lt (show b < 2 ^ 64 by omega), Nat.mod_eq_of_lt (show a - b < 2 ^ 64 by omega)]
  omega)
theorem pc_s1 {n : Nat} (h : n < 2 ^ 64) : lN n - (((lN n).toUInt64 >>> ((1 : Int32).toInt64.toUInt64 &&& Int64.toUInt64 63)).toInt64 &&& 6148914691236517205) = lN (n - (n / 2 &&& 6148914691236517205)) := by
  have e : ((lN n).toUInt64 >>> ((1 : Int32).toInt64.toUInt64 &&& Int64.toUInt64 63)).toInt64 = lN (n / 2) := wb_shr (k := 1) h (by decide)
  rw [e, show (6148914691236517205 : Int64) = lN 6148914691236517205 from rfl, g_and (by omega) (by decide) rfl, pc_ls (Nat.le_trans Nat.and_le_left (Nat.div_le_self _ _)) h]
theorem pc_s2 {n : Nat} (h : n < 2 ^ 64) : (lN n &&& 3689348814741910323) + (((lN n).toUInt64 >>> ((2 : Int32).toInt64.toUInt64 &&& Int64.toUInt64 63)).toInt64 &&& 3689348814741910323) = lN ((n &&& 3689348814741910323) + (n / 4 &&& 3689348814741910323)) := by
  have e : ((lN n).toUInt64 >>> ((2 : Int32).toInt64.toUInt64 &&& Int64.toUInt64 63)).toInt64 = lN (n / 4) := wb_shr (k := 2) h (by decide)
  rw [e, show (3689348814741910323 : Int64) = lN 3689348814741910323 from rfl, g_and h (by decide) rfl, g_and (show n / 4 < 2 ^ 64 by omega) (by decide) rfl, pc_la]
theorem pc_s3 {n : Nat} (h : n < 2 ^ 63) : (lN n + ((lN n).toUInt64 >>> ((4 : Int32).toInt64.toUInt64 &&& Int64.toUInt64 63)).toInt64) &&& 1085102592571150095 = lN (n + n / 16 &&& 1085102592571150095) := by
  have e : ((lN n).toUInt64 >>> ((4 : Int32).toInt64.toUInt64 &&& Int64.toUInt64 63)).toInt64 = lN (n / 16) := wb_shr (k := 4) (by omega) (by decide)
  rw [e, pc_la, show (1085102592571150095 : Int64) = lN 1085102592571150095 from rfl, g_and (by omega) (by decide) rfl]
theorem pc_s8 {n : Nat} (h : n < 2 ^ 64) : lN n + ((lN n).toUInt64 >>> ((8 : Int32).toInt64.toUInt64 &&& Int64.toUInt64 63)).toInt64 = lN (n + n / 256) := by
  have e : ((lN n).toUInt64 >>> ((8 : Int32).toInt64.toUInt64 &&& Int64.toUInt64 63)).toInt64 = lN (n / 256) := wb_shr (k := 8) h (by decide)
  rw [e, pc_la]
theorem pc_s16 {n : Nat} (h : n < 2 ^ 64) : lN n + ((lN n).toUInt64 >>> ((16 : Int32).toInt64.toUInt64 &&& Int64.toUInt64 63)).toInt64 = lN (n + n / 65536) := by
  have e : ((lN n).toUInt64 >>> ((16 : Int32).toInt64.toUInt64 &&& Int64.toUInt64 63)).toInt64 = lN (n / 65536) := wb_shr (k := 16) h (by decide)
  rw [e, pc_la]
theorem pc_s32 {n : Nat} (h : n < 2 ^ 64) : lN n + ((lN n).toUInt64 >>> ((32 : Int32).toInt64.toUInt64 &&& Int64.toUInt64 63)).toInt64 = lN (n + n / 4294967296) := by
  have e : ((lN n).toUInt64 >>> ((32 : Int32).toInt64.toUInt64 &&& Int64.toUInt64 63)).toInt64 = lN (n / 4294967296) := wb_shr (k := 32) h (by decide)
  rw [e, pc_la]
theorem pc_i (n : Nat) : (lN n).toInt32 &&& 127 = nI (n % 128) := by
  apply Int32.toBitVec_inj.mp
  rw [Int32.toBitVec_and]
  have e1 : (lN n).toInt32.toBitVec = BitVec.ofNat 32 n := by
    rw [Int64.toBitVec_toInt32, wb_tb, BitVec.signExtend_eq_setWidth_of_le _ (by decide)]
    apply BitVec.eq_of_toNat_eq
    rw [BitVec.toNat_setWidth, BitVec.toNat_ofNat, BitVec.toNat_ofNat]
    omega
  have e2 : (127 : Int32).toBitVec = BitVec.ofNat 32 127 := rfl
  have e3 : (nI (n % 128)).toBitVec = BitVec.ofNat 32 (n % 128) := rfl
  rw [e1, e2, e3]
  apply BitVec.eq_of_toNat_eq
  rw [BitVec.toNat_and, BitVec.toNat_ofNat, BitVec.toNat_ofNat, BitVec.toNat_ofNat, Nat.mod_eq_of_lt (show 127 < 2 ^ 32 by decide), show (127 : Nat) = 2 ^ 7 - 1 from rfl, Nat.and_two_pow_sub_one_eq_mod]
  omega
theorem pc_sh {f : Nat → Int32} {n : Nat} : ∀ m, (∀ d, d < m → f d = if n.testBit d = true then 1 else 0) → cntSh f m = nI (pcB n m) := by
  intro m
  induction m with
  | zero => intro _; rfl
  | succ m ih =>
    intro h
    show cntSh f m + (if f m = 0 then 0 else 1) = nI (pcB n m + (n.testBit m).toNat)
    rw [ih (fun d hd => h d (by omega)), h m (by omega)]
    cases n.testBit m
    · show nI (pcB n m) + (if (0 : Int32) = 0 then 0 else 1) = nI (pcB n m); rw [if_pos rfl, Int32.add_zero]
    · show nI (pcB n m) + (if (1 : Int32) = 0 then 0 else 1) = nI (pcB n m + 1); rw [if_neg (by decide)]; exact (Int32.ofNat_add _ 1).symm
def pc1 (n : Nat) : Nat := n - (n / 2 &&& 6148914691236517205)
def pc2 (n : Nat) : Nat := (pc1 n &&& 3689348814741910323) + (pc1 n / 4 &&& 3689348814741910323)
def pc3 (n : Nat) : Nat := pc2 n + pc2 n / 16 &&& 1085102592571150095
def pc4 (n : Nat) : Nat := pc3 n + pc3 n / 256
def pc5 (n : Nat) : Nat := pc4 n + pc4 n / 65536
def pc6 (n : Nat) : Nat := pc5 n + pc5 n / 4294967296
theorem pc_lt {n : Nat} (h : n < 2 ^ 64) : pc1 n < 2 ^ 64 ∧ pc2 n < 2 ^ 63 ∧ pc3 n < 2 ^ 60 ∧ pc4 n < 2 ^ 64 ∧ pc5 n < 2 ^ 64 ∧ pc6 n % 128 = pcB n 64 := by
  obtain ⟨a1, a2, a3⟩ := pc_all h (a := pc1 n) (b := pc2 n) (c := pc3 n) (d := pc4 n) (e := pc5 n) (f := pc6 n) rfl rfl rfl rfl rfl rfl
  have h1 : pc1 n ≤ n := Nat.sub_le _ _
  have h4 : pc4 n = pc3 n + pc3 n / 256 := rfl
  have h5 : pc5 n = pc4 n + pc4 n / 65536 := rfl
  exact ⟨by omega, a3, a2, by omega, by omega, a1⟩
set_option maxHeartbeats 400000 in
set_option maxRecDepth 100000 in
theorem T_bitCount {l : Launch} {G : Wd} {N : Nat} {μ : Mem} (hN : N < 2 ^ 64) : Mt l G KC yJ13_bitCount_95d88 cJ13_bitCount_95d88 2 (some .int) 1 [.long (lN N)] μ (Qi (fun v μ' => v = nI (pcB N 64) ∧ μ' = μ)) := by
  refine Mt.ofF (own := RJ13) (n := 0) (by decide +kernel) rfl [some (.long (lN N)), none] rfl (Nat.le_of_ble_eq_true rfl) ?_
  have H := pc_lt hN
  refine A_lload0 dJ13_bitCount_95d88_0 ?_
  refine A_lload0 dJ13_bitCount_95d88_1 ?_
  refine A_iconst (v := 1) dJ13_bitCount_95d88_2 (by decide) ?_
  refine A_lushr dJ13_bitCount_95d88_3 ?_
  refine A_ldc2 dJ13_bitCount_95d88_4 kc_J13_314 ?_
  refine A_land dJ13_bitCount_95d88_7 ?_
  refine A_lsub dJ13_bitCount_95d88_8 ?_
  rw [show _ = lN (pc1 N) from pc_s1 (hN)]
  refine A_lstore0 dJ13_bitCount_95d88_9 (by decide) ?_
  refine A_lload0 dJ13_bitCount_95d88_10 ?_
  refine A_ldc2 dJ13_bitCount_95d88_11 kc_J13_316 ?_
  refine A_land dJ13_bitCount_95d88_14 ?_
  refine A_lload0 dJ13_bitCount_95d88_15 ?_
  refine A_iconst (v := 2) dJ13_bitCount_95d88_16 (by decide) ?_
  refine A_lushr dJ13_bitCount_95d88_17 ?_
  refine A_ldc2 dJ13_bitCount_95d88_18 kc_J13_316 ?_
  refine A_land dJ13_bitCount_95d88_21 ?_
  refine A_ladd dJ13_bitCount_95d88_22 ?_
  rw [show _ = lN (pc2 N) from pc_s2 (H.1)]
  refine A_lstore0 dJ13_bitCount_95d88_23 (by decide) ?_
  refine A_lload0 dJ13_bitCount_95d88_24 ?_
  refine A_lload0 dJ13_bitCount_95d88_25 ?_
  refine A_iconst (v := 4) dJ13_bitCount_95d88_26 (by decide) ?_
  refine A_lushr dJ13_bitCount_95d88_27 ?_
  refine A_ladd dJ13_bitCount_95d88_28 ?_
  refine A_ldc2 dJ13_bitCount_95d88_29 kc_J13_318 ?_
  refine A_land dJ13_bitCount_95d88_32 ?_
  rw [show _ = lN (pc3 N) from pc_s3 (H.2.1)]
  refine A_lstore0 dJ13_bitCount_95d88_33 (by decide) ?_
  refine A_lload0 dJ13_bitCount_95d88_34 ?_
  refine A_lload0 dJ13_bitCount_95d88_35 ?_
  refine A_bipush (v := 8) dJ13_bitCount_95d88_36 (by decide) ?_
  refine A_lushr dJ13_bitCount_95d88_38 ?_
  refine A_ladd dJ13_bitCount_95d88_39 ?_
  rw [show _ = lN (pc4 N) from pc_s8 (Nat.lt_trans H.2.2.1 (by decide))]
  refine A_lstore0 dJ13_bitCount_95d88_40 (by decide) ?_
  refine A_lload0 dJ13_bitCount_95d88_41 ?_
  refine A_lload0 dJ13_bitCount_95d88_42 ?_
  refine A_bipush (v := 16) dJ13_bitCount_95d88_43 (by decide) ?_
  refine A_lushr dJ13_bitCount_95d88_45 ?_
  refine A_ladd dJ13_bitCount_95d88_46 ?_
  rw [show _ = lN (pc5 N) from pc_s16 (H.2.2.2.1)]
  refine A_lstore0 dJ13_bitCount_95d88_47 (by decide) ?_
  refine A_lload0 dJ13_bitCount_95d88_48 ?_
  refine A_lload0 dJ13_bitCount_95d88_49 ?_
  refine A_bipush (v := 32) dJ13_bitCount_95d88_50 (by decide) ?_
  refine A_lushr dJ13_bitCount_95d88_52 ?_
  refine A_ladd dJ13_bitCount_95d88_53 ?_
  rw [show _ = lN (pc6 N) from pc_s32 (H.2.2.2.2.1)]
  refine A_lstore0 dJ13_bitCount_95d88_54 (by decide) ?_
  refine A_lload0 dJ13_bitCount_95d88_55 ?_
  refine A_l2i dJ13_bitCount_95d88_56 ?_
  refine A_bipush (v := 127) dJ13_bitCount_95d88_57 (by decide) ?_
  refine A_iand dJ13_bitCount_95d88_59 ?_
  refine A_iret dJ13_bitCount_95d88_60 ?_
  exact ⟨_, rfl, by rw [pc_i, H.2.2.2.2.2], rfl⟩
theorem ab_c {f g : Nat → Int32} : ∀ m, (∀ d, d < m → f d = g d) → bitD f m = bitD g m := by
  intro m
  induction m with
  | zero => intro _; rfl
  | succ m ih =>
    intro h
    show bitD f m ||| (if f m = 0 then 0 else (1 : Int32) <<< (nI m &&& 31)) = bitD g m ||| (if g m = 0 then 0 else (1 : Int32) <<< (nI m &&& 31))
    rw [ih (fun d hd => h d (by omega)), h m (by omega)]
theorem ab_k : ∀ D : Fin 1024, bitD (fun r => if D.val.testBit r = true then 1 else 0) 10 = nI D.val := by decide +kernel
theorem ab_d {f : Nat → Int32} {D : Nat} (h : D < 1024) (hf : ∀ r, r < 10 → f r = if D.testBit r = true then 1 else 0) : bitD f 10 = nI D := (ab_c 10 hf).trans (ab_k ⟨D, h⟩)
set_option maxHeartbeats 400000 in
set_option maxRecDepth 100000 in
theorem C_about {l : Launch} {G : Wd} {w : Int32} {n : Nat} {σ μ : Mem} (hR : Rc σ n μ) (hn : n + 1 ≤ 600) : Mt l G KC yX11_about cX11_about 2 (some .int) 9 [.ref (gA G 0), .int w] μ (Qi (fun v μ' => v = sp_about σ w ∧ Rc σ (n + 1) μ')) := by
  refine Mt.of (own := RX11) (n := 0) (by decide) rfl [some (.ref (gA G 0)), some (.int w)] rfl (Nat.le_of_ble_eq_true rfl) ?_
  obtain ⟨N, hN1, hN2, hN3⟩ := hR.1.2.1.2.2.1
  obtain ⟨D, hD1, hD2, hD3⟩ := hR.1.2.1.2.2.2.1
  refine A_iload1 dX11_about_0 ?_
  by_cases s_1_0 : w = 0
  · rw [s_1_0]
    refine A_tableIn (tgt := 48) dX11_about_1 (by decide) (by decide) rfl (by decide) ?_
    refine A_aload0 dX11_about_48 ?_
    refine A_getR gf_X11_29 rfl dX11_about_49 ?_
    refine A_getI gf_X11_144 rfl dX11_about_52 ?_
    refine A_iret dX11_about_55 ?_
    refine ⟨_, rfl, ?_, hR.up hn⟩
    exact hR.1.2.2.1.1
  by_cases s_1_1 : w = 1
  · rw [s_1_1]
    refine A_tableIn (tgt := 56) dX11_about_1 (by decide) (by decide) rfl (by decide) ?_
    refine A_aload0 dX11_about_56 ?_
    refine A_getR gf_X11_29 rfl dX11_about_57 ?_
    refine A_getI gf_X11_147 rfl dX11_about_60 ?_
    refine A_iret dX11_about_63 ?_
    refine ⟨_, rfl, ?_, hR.up hn⟩
    exact hR.1.2.2.1.2.1
  by_cases s_1_2 : w = 2
  · rw [s_1_2]
    refine A_tableIn (tgt := 64) dX11_about_1 (by decide) (by decide) rfl (by decide) ?_
    refine A_aload0 dX11_about_64 ?_
    refine A_getR gf_X11_67 rfl dX11_about_65 ?_
    refine A_getI gf_X11_308 rfl dX11_about_68 ?_
    refine A_iret dX11_about_71 ?_
    refine ⟨_, rfl, ?_, hR.up hn⟩
    exact hR.1.2.1.1
  by_cases s_1_3 : w = 3
  · rw [s_1_3]
    refine A_tableIn (tgt := 72) dX11_about_1 (by decide) (by decide) rfl (by decide) ?_
    refine A_aload0 dX11_about_72 ?_
    refine A_getR gf_X11_67 rfl dX11_about_73 ?_
    refine A_getI gf_X11_309 rfl dX11_about_76 ?_
    refine A_iret dX11_about_79 ?_
    refine ⟨_, rfl, ?_, hR.up hn⟩
    exact hR.1.2.1.2.1
  by_cases s_1_4 : w = 4
  · rw [s_1_4]
    refine A_tableIn (tgt := 80) dX11_about_1 (by decide) (by decide) rfl (by decide) ?_
    refine A_aload0 dX11_about_80 ?_
    refine A_getR gf_X11_48 rfl dX11_about_81 ?_
    refine A_getI gf_X11_156 rfl dX11_about_84 ?_
    refine A_iret dX11_about_87 ?_
    refine ⟨_, rfl, ?_, hR.up hn⟩
    exact hR.1.2.2.2.1.1
  by_cases s_1_5 : w = 5
  · rw [s_1_5]
    refine A_tableIn (tgt := 88) dX11_about_1 (by decide) (by decide) rfl (by decide) ?_
    refine A_aload0 dX11_about_88 ?_
    refine A_getR gf_X11_67 rfl dX11_about_89 ?_
    refine A_getL gf_X11_312 rfl dX11_about_92 ?_
    rw [hN2]
    refine A_si1 lk_X11_316 ys_J13_bitCount_95d88 dX11_about_95 (T_bitCount (Nat.lt_trans hN1 (by decide))) (by decide) (Nat.le_of_ble_eq_true rfl) (fun r_95 μ_95 h_95 => ?_)
    refine A_iret dX11_about_98 ?_
    refine ⟨_, rfl, ?_, by rw [h_95.2]; exact hR.up hn⟩
    show r_95 = sp_about σ 5
    rw [h_95.1, show sp_about σ 5 = cntSh (σ.1 27) 60 from rfl, pc_sh 60 hN3, show pcB N 64 = pcB N 60 from pc_top hN1 4]
  by_cases s_1_6 : w = 6
  · rw [s_1_6]
    refine A_tableIn (tgt := 99) dX11_about_1 (by decide) (by decide) rfl (by decide) ?_
    refine A_aload0 dX11_about_99 ?_
    refine A_getI gf_X11_114 rfl dX11_about_100 ?_
    refine A_iret dX11_about_103 ?_
    refine ⟨_, rfl, ?_, hR.up hn⟩
    exact hR.1.1.1
  by_cases s_1_7 : w = 7
  · rw [s_1_7]
    refine A_tableIn (tgt := 104) dX11_about_1 (by decide) (by decide) rfl (by decide) ?_
    refine A_aload0 dX11_about_104 ?_
    refine A_getR gf_X11_67 rfl dX11_about_105 ?_
    refine A_getI gf_X11_322 rfl dX11_about_108 ?_
    refine A_iret dX11_about_111 ?_
    refine ⟨_, rfl, ?_, hR.up hn⟩
    show μ.1 36 4 = bitD (σ.1 28) 10
    rw [hD2, ab_d hD1 hD3]
  refine A_tableOut (tgt := 112) dX11_about_1 (i_out (lo := 0) (hi := 7) (fun j h1 h2 q => ?_)) (by decide) ?_
  · have h3 : j = 0 ∨ j = 1 ∨ j = 2 ∨ j = 3 ∨ j = 4 ∨ j = 5 ∨ j = 6 ∨ j = 7 := by omega
    rcases h3 with rfl | rfl | rfl | rfl | rfl | rfl | rfl | rfl
    · exact s_1_0 (by rw [i_eq, q]; decide)
    · exact s_1_1 (by rw [i_eq, q]; decide)
    · exact s_1_2 (by rw [i_eq, q]; decide)
    · exact s_1_3 (by rw [i_eq, q]; decide)
    · exact s_1_4 (by rw [i_eq, q]; decide)
    · exact s_1_5 (by rw [i_eq, q]; decide)
    · exact s_1_6 (by rw [i_eq, q]; decide)
    · exact s_1_7 (by rw [i_eq, q]; decide)
  refine A_iconst (v := -1) dX11_about_112 (by decide) ?_
  refine A_iret dX11_about_113 ?_
  exact ⟨_, rfl, by simp_all [sp_about], hR.up hn⟩

/-! pure: the number of bits set -/
def pcN (v : Nat) : Nat → Nat
  | 0 => 0
  | k + 1 => pcN v k + (if v.testBit k = true then 1 else 0)
theorem pc_low {b y : Nat} (hb : b < 256) : ∀ k, k ≤ 8 → pcN (b + 256 * y) k = pcN b k := by
  intro k
  induction k with
  | zero => intro _; rfl
  | succ k ih =>
    intro hk
    have e : (b + 256 * y).testBit k = b.testBit k := by
      rw [Nat.add_comm, show 256 * y = 2 ^ 8 * y from rfl, Nat.testBit_two_pow_mul_add y (show b < 2 ^ 8 from hb) k, if_pos (by omega)]
    simp only [pcN, ih (by omega), e]
theorem pc_byte {b y : Nat} (hb : b < 256) : ∀ k, pcN (b + 256 * y) (8 + k) = pcN b 8 + pcN y k := by
  intro k
  induction k with
  | zero => exact pc_low hb 8 (by omega)
  | succ k ih =>
    have e : (b + 256 * y).testBit (8 + k) = y.testBit k := by
      rw [Nat.add_comm, show 256 * y = 2 ^ 8 * y from rfl, Nat.testBit_two_pow_mul_add y (show b < 2 ^ 8 from hb) (8 + k), if_neg (by omega)]
      congr 1
      omega
    rw [show 8 + (k + 1) = (8 + k) + 1 by omega]
    simp only [pcN, ih, e]
    omega
/-- and, of a byte and the rest -/
theorem pc_and {b c y m : Nat} (hb : b < 256) (hc : c < 256) : (b + 256 * y) &&& (c + 256 * m) = (b &&& c) + 256 * (y &&& m) := by
  have h1 : ((b + 256 * y) &&& (c + 256 * m)) % 2 ^ 8 = b &&& c := by
    rw [Nat.and_mod_two_pow]
    congr 1 <;> omega
  have h2 : ((b + 256 * y) &&& (c + 256 * m)) / 2 ^ 8 = y &&& m := by
    rw [Nat.and_div_two_pow]
    congr 1 <;> omega
  have h3 : b &&& c < 256 := Nat.lt_of_le_of_lt Nat.and_le_left hb
  omega
/-- .. and of a number shifted by j -/
theorem pc_sha {b c y m : Nat} (j p q : Nat) (hp : 2 ^ j = p) (hq : 2 ^ (8 - j) = q) (hpq : p * q = 256) (hb : b < 256) (hc : c < q) : ((b + 256 * y) / p) &&& (c + 256 * m) = (b / p &&& c) + 256 * (y / p &&& m) := by
  have hp0 : 0 < p := by subst hp; exact Nat.two_pow_pos j
  have hq0 : 0 < q := by subst hq; exact Nat.two_pow_pos _
  have hX : (b + 256 * y) / p = b / p + q * y := by
    rw [← hpq, Nat.mul_assoc, Nat.add_mul_div_left _ _ hp0]
  have hbp : b / p < q := by rw [Nat.div_lt_iff_lt_mul hp0, Nat.mul_comm, hpq]; exact hb
  have hq256 : q ≤ 256 := by rw [← hpq]; exact Nat.le_mul_of_pos_left q hp0
  have h1 : (((b + 256 * y) / p) &&& (c + 256 * m)) % 256 = b / p &&& c := by
    have e1 : (((b + 256 * y) / p) &&& (c + 256 * m)) % 2 ^ 8 = (((b + 256 * y) / p) % 256) &&& c := by
      rw [Nat.and_mod_two_pow]
      congr 1
      omega
    have e2 : ((((b + 256 * y) / p) % 256) &&& c) % q = (b / p) &&& c := by
      subst hq
      rw [Nat.and_mod_two_pow, Nat.mod_eq_of_lt hc]
      congr 1
      rw [Nat.mod_mod_of_dvd _ (by rw [← hpq]; exact Nat.dvd_mul_left _ _), hX, Nat.add_mul_mod_self_left, Nat.mod_eq_of_lt hbp]
    have e3 : (((b + 256 * y) / p) % 256) &&& c < q := Nat.lt_of_le_of_lt Nat.and_le_right hc
    rw [Nat.mod_eq_of_lt e3] at e2
    rw [← e2]
    exact e1
  have h2 : (((b + 256 * y) / p) &&& (c + 256 * m)) / 256 = y / p &&& m := by
    have e1 : (((b + 256 * y) / p) &&& (c + 256 * m)) / 2 ^ 8 = ((b + 256 * y) / p) / 256 &&& m := by
      rw [Nat.and_div_two_pow]
      congr 1
      omega
    rw [show (256 : Nat) = 2 ^ 8 from rfl]
    rw [e1, Nat.div_div_eq_div_mul, Nat.mul_comm p 256, ← Nat.div_div_eq_div_mul]
    congr 2
    omega
  omega
def mkM (c : Nat) : Nat → Nat
  | 0 => 0
  | k + 1 => c + 256 * mkM c k
def zz1 (k x : Nat) : Nat := x - ((x / 2) &&& mkM 0x55 k)
def zz2 (k x : Nat) : Nat := (x &&& mkM 0x33 k) + ((x / 4) &&& mkM 0x33 k)
def zz3 (k x : Nat) : Nat := (x + x / 16) &&& mkM 0x0f k
def pc1 (b : Nat) : Nat := b - ((b / 2) &&& 0x55)
def pc2 (b : Nat) : Nat := (pc1 b &&& 0x33) + ((pc1 b / 4) &&& 0x33)
theorem pc_b : ∀ b, b < 256 → (pc2 b % 16 ≤ 4 ∧ pc2 b / 16 ≤ 4) ∧ ((pc2 b + pc2 b / 16) % 16 = pcN b 8 ∧ pcN b 8 ≤ 8) := by decide +kernel
theorem zz1_s (k : Nat) {b x : Nat} (hb : b < 256) : zz1 (k + 1) (b + 256 * x) = pc1 b + 256 * zz1 k x := by
  unfold zz1 pc1
  rw [mkM, pc_sha 1 2 128 rfl rfl rfl hb (by decide)]
  have h1 : (b / 2) &&& 0x55 ≤ b / 2 := Nat.and_le_left
  have h2 : (x / 2) &&& mkM 0x55 k ≤ x / 2 := Nat.and_le_left
  omega
theorem pc1_lt {b : Nat} (hb : b < 256) : pc1 b < 256 := by unfold pc1; omega
theorem zz2_s (k : Nat) {b x : Nat} (hb : pc1 b < 256) : zz2 (k + 1) (pc1 b + 256 * x) = pc2 b + 256 * zz2 k x := by
  unfold zz2 pc2
  rw [mkM, pc_sha 2 4 64 rfl rfl rfl hb (by decide), pc_and hb (by decide)]
  omega
theorem zz3_s (k : Nat) {b x : Nat} (h1 : b % 16 ≤ 4) (h2 : b / 16 ≤ 4) (h3 : x % 16 ≤ 4) : zz3 (k + 1) (b + 256 * x) = (b + b / 16) % 16 + 256 * zz3 k x := by
  unfold zz3
  have e : b + 256 * x + (b + 256 * x) / 16 = (b + b / 16 + 16 * (x % 16)) + 256 * (x + x / 16) := by omega
  rw [mkM, e, pc_and (by omega) (by decide)]
  have e2 : (b + b / 16 + 16 * (x % 16)) &&& 0x0f = (b + b / 16) % 16 := by
    rw [show (0x0f : Nat) = 2 ^ 4 - 1 from rfl, Nat.and_two_pow_sub_one_eq_mod]
    omega
  rw [e2]
def sd (x : Nat) : Nat → Nat
  | 0 => 0
  | k + 1 => x % 256 + sd (x / 256) k
/-- all digits up to k are small -/
def dg (x : Nat) : Nat → Prop
  | 0 => x = 0
  | k + 1 => x % 256 ≤ 8 ∧ dg (x / 256) k
theorem zz2_16 (k : Nat) : ∀ x, x < 256 ^ k → zz2 k (zz1 k x) % 16 ≤ 4 := by
  intro x hx
  cases k with
  | zero => simp [zz2, mkM]
  | succ k =>
    have hb : x % 256 < 256 := Nat.mod_lt _ (by decide)
    have e : x = x % 256 + 256 * (x / 256) := by omega
    rw [e, zz1_s k hb, zz2_s k (pc1_lt hb)]
    have := (pc_b (x % 256) hb).1.1
    omega
theorem pc_all : ∀ k x, x < 256 ^ k → sd (zz3 k (zz2 k (zz1 k x))) k = pcN x (8 * k) ∧ dg (zz3 k (zz2 k (zz1 k x))) k := by
  intro k
  induction k with
  | zero => intro x hx; exact ⟨rfl, by simp [dg, zz3, mkM]⟩
  | succ k ih =>
    intro x hx
    have hb : x % 256 < 256 := Nat.mod_lt _ (by decide)
    have hy : x / 256 < 256 ^ k := by
      rw [Nat.pow_succ] at hx
      exact Nat.div_lt_of_lt_mul (by rw [Nat.mul_comm]; exact hx)
    have e : x = x % 256 + 256 * (x / 256) := by omega
    obtain ⟨⟨c1, c2⟩, c3, c4⟩ := pc_b (x % 256) hb
    have E : zz3 (k + 1) (zz2 (k + 1) (zz1 (k + 1) x)) = pcN (x % 256) 8 + 256 * zz3 k (zz2 k (zz1 k (x / 256))) := by
      conv => lhs; rw [e]
      rw [zz1_s k hb, zz2_s k (pc1_lt hb), zz3_s k c1 c2 (zz2_16 k _ hy), c3]
    obtain ⟨i1, i2⟩ := ih (x / 256) hy
    have m1 : (pcN (x % 256) 8 + 256 * zz3 k (zz2 k (zz1 k (x / 256)))) % 256 = pcN (x % 256) 8 := by omega
    have m2 : (pcN (x % 256) 8 + 256 * zz3 k (zz2 k (zz1 k (x / 256)))) / 256 = zz3 k (zz2 k (zz1 k (x / 256))) := by omega
    have P : pcN x (8 * (k + 1)) = pcN (x % 256) 8 + pcN (x / 256) (8 * k) := by
      conv => lhs; rw [e, show 8 * (k + 1) = 8 + 8 * k by omega]
      exact pc_byte hb _
    rw [E, P]
    simp only [sd, dg]
    rw [m1, m2, i1]
    exact ⟨rfl, c4, i2⟩
theorem dg_s {z k : Nat} (h : dg z (k + 1)) : ∃ p y, p ≤ 8 ∧ z = p + 256 * y ∧ dg y k ∧ sd z (k + 1) = p + sd y k := by
  refine ⟨z % 256, z / 256, h.1, by omega, h.2, rfl⟩
theorem pc_d {p q y : Nat} (r : Nat) (hr : 0 < r) (hp : p < r) (e : y = p + r * q) : y / r = q := by
  subst e
  rw [Nat.add_mul_div_left _ _ hr, Nat.div_eq_of_lt hp, Nat.zero_add]
theorem pc_f1 {z p0 p1 p2 p3 p4 p5 p6 p7 : Nat} (h0 : p0 ≤ 8) (Z : z = p0 + 256 * (p1 + 256 * p2 + 65536 * p3 + 16777216 * p4 + 4294967296 * p5 + 1099511627776 * p6 + 281474976710656 * p7)) : z / 2 ^ 8 = p1 + 256 * p2 + 65536 * p3 + 16777216 * p4 + 4294967296 * p5 + 1099511627776 * p6 + 281474976710656 * p7 :=
  pc_d (2 ^ 8) (by decide) (by omega) Z
theorem pc_f2 {A q0 q1 q2 q3 q4 q5 q6 q7 : Nat} (h0 : q0 ≤ 16) (h1 : q1 ≤ 16) (Z : A = q0 + 256 * q1 + 65536 * (q2 + 256 * q3 + 65536 * q4 + 16777216 * q5 + 4294967296 * q6 + 1099511627776 * q7)) : A / 2 ^ 16 = q2 + 256 * q3 + 65536 * q4 + 16777216 * q5 + 4294967296 * q6 + 1099511627776 * q7 :=
  pc_d (2 ^ 16) (by decide) (show q0 + 256 * q1 < 2 ^ 16 by omega) Z
theorem pc_f3 {A q0 q1 q2 q3 q4 q5 q6 q7 : Nat} (h0 : q0 ≤ 32) (h1 : q1 ≤ 32) (h2 : q2 ≤ 32) (h3 : q3 ≤ 32) (Z : A = q0 + 256 * q1 + 65536 * q2 + 16777216 * q3 + 4294967296 * (q4 + 256 * q5 + 65536 * q6 + 16777216 * q7)) : A / 2 ^ 32 = q4 + 256 * q5 + 65536 * q6 + 16777216 * q7 :=
  pc_d (2 ^ 32) (by decide) (show q0 + 256 * q1 + 65536 * q2 + 16777216 * q3 < 2 ^ 32 by omega) Z
theorem pc_f4 {C r0 r : Nat} (h : r0 ≤ 64) (e : C = r0 + 128 * r) : C % 128 = r0 := by omega
theorem pc_fold {z : Nat} (h : dg z 8) : (((z + z / 2 ^ 8) + (z + z / 2 ^ 8) / 2 ^ 16) + ((z + z / 2 ^ 8) + (z + z / 2 ^ 8) / 2 ^ 16) / 2 ^ 32) % 128 = sd z 8 ∧ sd z 8 ≤ 64 ∧ z < 2 ^ 60 := by
  obtain ⟨p0, y0, h0, e0, h, s0⟩ := dg_s h
  obtain ⟨p1, y1, h1, e1, h, s1⟩ := dg_s h
  obtain ⟨p2, y2, h2, e2, h, s2⟩ := dg_s h
  obtain ⟨p3, y3, h3, e3, h, s3⟩ := dg_s h
  obtain ⟨p4, y4, h4, e4, h, s4⟩ := dg_s h
  obtain ⟨p5, y5, h5, e5, h, s5⟩ := dg_s h
  obtain ⟨p6, y6, h6, e6, h, s6⟩ := dg_s h
  obtain ⟨p7, y7, h7, e7, h, s7⟩ := dg_s h
  have hy : y7 = 0 := h
  have hs : sd y7 0 = 0 := rfl
  have S : sd z 8 = p0 + p1 + p2 + p3 + p4 + p5 + p6 + p7 := by rw [s0, s1, s2, s3, s4, s5, s6, s7, hs]; simp only [Nat.add_assoc, Nat.add_zero]
  clear s0 s1 s2 s3 s4 s5 s6 s7
  subst hy
  have Z : z = p0 + 256 * (p1 + 256 * p2 + 65536 * p3 + 16777216 * p4 + 4294967296 * p5 + 1099511627776 * p6 + 281474976710656 * p7) := by
    rw [e0, e1, e2, e3, e4, e5, e6, e7]; omega
  clear e0 e1 e2 e3 e4 e5 e6 e7
  rw [S, pc_f1 h0 Z]
  have A1 : z + (p1 + 256 * p2 + 65536 * p3 + 16777216 * p4 + 4294967296 * p5 + 1099511627776 * p6 + 281474976710656 * p7) = (p0 + p1) + 256 * (p1 + p2) + 65536 * ((p2 + p3) + 256 * (p3 + p4) + 65536 * (p4 + p5) + 16777216 * (p5 + p6) + 4294967296 * (p6 + p7) + 1099511627776 * p7) := by
    rw [Z]; omega
  rw [pc_f2 (by omega) (by omega) A1]
  have B1 : z + (p1 + 256 * p2 + 65536 * p3 + 16777216 * p4 + 4294967296 * p5 + 1099511627776 * p6 + 281474976710656 * p7) + ((p2 + p3) + 256 * (p3 + p4) + 65536 * (p4 + p5) + 16777216 * (p5 + p6) + 4294967296 * (p6 + p7) + 1099511627776 * p7) = (p0 + p1 + (p2 + p3)) + 256 * (p1 + p2 + (p3 + p4)) + 65536 * (p2 + p3 + (p4 + p5)) + 16777216 * (p3 + p4 + (p5 + p6)) + 4294967296 * ((p4 + p5 + (p6 + p7)) + 256 * (p5 + p6 + p7) + 65536 * (p6 + p7) + 16777216 * p7) := by
    rw [A1]; omega
  rw [pc_f3 (by omega) (by omega) (by omega) (by omega) B1]
  refine ⟨?_, by omega, ?_⟩
  · rw [B1]
    refine pc_f4 (r := 2 * (p1 + p2 + (p3 + p4)) + 512 * (p2 + p3 + (p4 + p5)) + 131072 * (p3 + p4 + (p5 + p6)) + 33554432 * ((p4 + p5 + (p6 + p7)) + 256 * (p5 + p6 + p7) + 65536 * (p6 + p7) + 16777216 * p7) + (2 * (p5 + p6 + p7) + 512 * (p6 + p7) + 131072 * p7)) (by omega) ?_
    omega
  · rw [Z]; omega
theorem nI_127 (a : Nat) : nI a &&& 127 = nI (a % 128) := by
  apply Int32.toBitVec_inj.mp
  rw [Int32.toBitVec_and]
  show BitVec.ofNat 32 a &&& 127#32 = BitVec.ofNat 32 (a % 128)
  apply BitVec.eq_of_toNat_eq
  rw [BitVec.toNat_and, BitVec.toNat_ofNat, BitVec.toNat_ofNat, BitVec.toNat_ofNat, show (127 % 2 ^ 32 : Nat) = 2 ^ 7 - 1 from rfl, Nat.and_two_pow_sub_one_eq_mod]
  omega
/-- the library's count of bits -/
theorem pc_bits {x : Nat} (hx : x < 2 ^ 64) : f_J13_bitCount_95d88 (lN x) = nI (pcN x 64) := by
  unfold f_J13_bitCount_95d88 f_J13_bitCount_95d88_z_1 f_J13_bitCount_95d88_z_2 f_J13_bitCount_95d88_z_3 f_J13_bitCount_95d88_z_4 f_J13_bitCount_95d88_z_5 f_J13_bitCount_95d88_z_6
  obtain ⟨h1, h2⟩ := pc_all 8 x (by omega)
  obtain ⟨f1, f2, f3⟩ := pc_fold h2
  have M1 : (6148914691236517205 : Int64) = lN (mkM 0x55 8) := by decide +kernel
  have M2 : (3689348814741910323 : Int64) = lN (mkM 0x33 8) := by decide +kernel
  have M3 : (1085102592571150095 : Int64) = lN (mkM 0x0f 8) := by decide +kernel
  have L1 : mkM 0x55 8 < 2 ^ 64 := by decide +kernel
  have L2 : mkM 0x33 8 < 2 ^ 62 := by decide +kernel
  have L3 : mkM 0x0f 8 < 2 ^ 60 := by decide +kernel
  have q1 : x / 2 ^ 1 &&& mkM 0x55 8 ≤ x / 2 ^ 1 := Nat.and_le_left
  have Z1 : lN x - (((lN x).toUInt64 >>> ((1 : Int32).toInt64.toUInt64 &&& Int64.toUInt64 63)).toInt64 &&& 6148914691236517205) = lN (zz1 8 x) := by
    have := wb_shr (n := x) (k := 1) hx (by decide)
    rw [show (nI 1 : Int32) = 1 from rfl] at this
    rw [this, M1, wb_and (by omega) L1, lN_sub (by omega)]
    rfl
  rw [Z1]
  have z1 : zz1 8 x < 2 ^ 64 := by unfold zz1; omega
  generalize zz1 8 x = y at *
  have q2 : y &&& mkM 0x33 8 ≤ mkM 0x33 8 := Nat.and_le_right
  have q3 : y / 4 &&& mkM 0x33 8 ≤ mkM 0x33 8 := Nat.and_le_right
  have Z2 : (lN y &&& 3689348814741910323) + (((lN y).toUInt64 >>> ((2 : Int32).toInt64.toUInt64 &&& Int64.toUInt64 63)).toInt64 &&& 3689348814741910323) = lN (zz2 8 y) := by
    have := wb_shr (n := y) (k := 2) z1 (by decide)
    rw [show (nI 2 : Int32) = 2 from rfl] at this
    rw [this, M2, wb_and (by omega) (by omega), wb_and (by omega) (by omega), lN_add]
    rfl
  rw [Z2]
  have z2 : zz2 8 y < 2 ^ 63 := by unfold zz2; omega
  generalize zz2 8 y = w at *
  have Z3 : (lN w + ((lN w).toUInt64 >>> ((4 : Int32).toInt64.toUInt64 &&& Int64.toUInt64 63)).toInt64) &&& 1085102592571150095 = lN (zz3 8 w) := by
    have := wb_shr (n := w) (k := 4) (by omega) (by decide)
    rw [show (nI 4 : Int32) = 4 from rfl] at this
    rw [this, M3, lN_add, wb_and (by omega) (by omega)]
    rfl
  rw [Z3]
  generalize zz3 8 w = z at *
  have S8 := wb_shr (n := z) (k := 8) (by omega) (by decide)
  rw [show (nI 8 : Int32) = 8 from rfl] at S8
  rw [S8, lN_add]
  have b1 : z + z / 2 ^ 8 < 2 ^ 61 := by omega
  generalize z + z / 2 ^ 8 = a at *
  have S16 := wb_shr (n := a) (k := 16) (by omega) (by decide)
  rw [show (nI 16 : Int32) = 16 from rfl] at S16
  rw [S16, lN_add]
  have b2 : a + a / 2 ^ 16 < 2 ^ 62 := by omega
  generalize a + a / 2 ^ 16 = c at *
  have S32 := wb_shr (n := c) (k := 32) (by omega) (by decide)
  rw [show (nI 32 : Int32) = 32 from rfl] at S32
  rw [S32, lN_add, lN_i, nI_127, f1, h1]

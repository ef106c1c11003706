/-! pure: the width of a number -/
theorem i32_of {x : Int32} {k : Nat} (hk : k < 2 ^ 31) (h : x.toInt = (k : Int)) : x = nI k := Int32.toInt_inj.mp (by rw [h, nI_toInt hk])
theorem i32_add {a b : Int32} (h1 : -2147483648 ≤ a.toInt + b.toInt) (h2 : a.toInt + b.toInt ≤ 2147483647) : (a + b).toInt = a.toInt + b.toInt := by
  rw [Int32.toInt_add, Int.bmod_eq_of_le (by omega) (by omega)]
theorem i32_sub {a b : Int32} (h1 : -2147483648 ≤ a.toInt - b.toInt) (h2 : a.toInt - b.toInt ≤ 2147483647) : (a - b).toInt = a.toInt - b.toInt := by
  rw [Int32.toInt_sub, Int.bmod_eq_of_le (by omega) (by omega)]
theorem i32_neg {a : Int32} (h1 : -2147483648 < a.toInt) : (-a).toInt = -a.toInt := by
  have := Int32.toInt_lt a
  rw [Int32.toInt_neg, Int.bmod_eq_of_le (by omega) (by omega)]
/-- the number of binary digits -/
def wd (x : Nat) : Nat := if x = 0 then 0 else Nat.log2 x + 1
theorem wd_0 : wd 0 = 0 := rfl
theorem wd_eq {x w : Nat} (h1 : 2 ^ w ≤ x) (h2 : x < 2 ^ (w + 1)) : wd x = w + 1 := by
  unfold wd
  have h0 : x ≠ 0 := by have := Nat.two_pow_pos w; omega
  rw [if_neg h0, (Nat.log2_eq_iff h0).mpr ⟨h1, h2⟩]
theorem wd_b {x : Nat} (h : x ≠ 0) : ∃ w, wd x = w + 1 ∧ 2 ^ w ≤ x ∧ x < 2 ^ (w + 1) := by
  refine ⟨Nat.log2 x, ?_, Nat.log2_self_le h, Nat.lt_log2_self⟩
  unfold wd
  rw [if_neg h]
theorem wd_le {x k : Nat} (h : x < 2 ^ k) : wd x ≤ k := by
  by_cases h0 : x = 0
  · subst h0; exact Nat.zero_le _
  · obtain ⟨w, e, h1, h2⟩ := wd_b h0
    rw [e]
    apply Classical.byContradiction
    intro q
    have : 2 ^ k ≤ 2 ^ w := Nat.pow_le_pow_right (by decide) (by omega)
    omega
theorem wd_div {x : Nat} (k : Nat) (h : 2 ^ k ≤ x) : wd x = wd (x / 2 ^ k) + k := by
  have h0 : x ≠ 0 := by have := Nat.two_pow_pos k; omega
  obtain ⟨w, e, h1, h2⟩ := wd_b h0
  have hk : k ≤ w := by
    apply Classical.byContradiction
    intro q
    have : 2 ^ (w + 1) ≤ 2 ^ k := Nat.pow_le_pow_right (by decide) (by omega)
    omega
  have e1 : 2 ^ w = 2 ^ k * 2 ^ (w - k) := by rw [← Nat.pow_add]; congr 1; omega
  have e2 : 2 ^ (w + 1) = 2 ^ k * 2 ^ (w - k + 1) := by rw [← Nat.pow_add]; congr 1; omega
  have hp := Nat.two_pow_pos k
  rw [e, wd_eq (w := w - k)]
  · omega
  · rw [Nat.le_div_iff_mul_le hp, Nat.mul_comm, ← e1]; exact h1
  · rw [Nat.div_lt_iff_lt_mul hp, Nat.mul_comm, ← e2]; exact h2
theorem nI_shr {y k : Nat} (hy : y < 2 ^ 31) (hk : k < 32) : ((nI y).toUInt32 >>> ((nI k).toUInt32 &&& Int32.toUInt32 31)).toInt32 = nI (y / 2 ^ k) := by
  have h1 : ∀ k, k < 32 → ((nI k).toUInt32 &&& Int32.toUInt32 31).toNat % 32 = k := by decide +kernel
  apply Int32.toBitVec_inj.mp
  apply BitVec.eq_of_toNat_eq
  show ((nI y).toUInt32 >>> ((nI k).toUInt32 &&& Int32.toUInt32 31)).toNat = (BitVec.ofNat 32 (y / 2 ^ k)).toNat
  have h2 : (nI y).toUInt32.toNat = y := by
    show (BitVec.ofNat 32 y).toNat = y
    rw [BitVec.toNat_ofNat, Nat.mod_eq_of_lt (by omega)]
  rw [UInt32.toNat_shiftRight, h1 k hk, h2, Nat.shiftRight_eq_div_pow, BitVec.toNat_ofNat, Nat.mod_eq_of_lt]
  have := Nat.div_le_self y (2 ^ k)
  omega
theorem nz_73 (x1 : Int32) {v n : Nat} (h1 : 1 ≤ v) (h2 : v < 4) (hn : 2 ≤ n) (hn2 : n < 100) : f_J6_numberOfLeadingZeros_0f7a4_73 x1 (nI v) (nI n) = nI (n + 1 - wd v) := by
  have : ∀ n, n < 100 → ∀ v, v < 4 → (decide (v < 1) || (decide (n < 2) || decide (f_J6_numberOfLeadingZeros_0f7a4_73 0 (nI v) (nI n) = nI (n + 1 - wd v)))) = true := by decide +kernel
  have := this n hn2 v h2
  simp only [Bool.or_eq_true, decide_eq_true_eq] at this
  exact (this.resolve_left (by omega)).resolve_left (by omega)
theorem nI_sub2 {n k : Nat} (h : k ≤ n) (hn : n < 2 ^ 31) {c : Int32} (hc : c.toInt = -(k : Int)) : nI n + c = nI (n - k) := by
  apply i32_of (by omega)
  rw [i32_add (by rw [nI_toInt hn, hc]; omega) (by rw [nI_toInt hn, hc]; omega), nI_toInt hn, hc]
  omega
theorem nz_61 (x1 : Int32) {v n : Nat} (h1 : 1 ≤ v) (h2 : v < 16) (hn : 4 ≤ n) (hn2 : n < 100) : f_J6_numberOfLeadingZeros_0f7a4_61 x1 (nI v) (nI n) = nI (n + 1 - wd v) := by
  unfold f_J6_numberOfLeadingZeros_0f7a4_61 f_J6_numberOfLeadingZeros_0f7a4_z_2
  by_cases c : v < 4
  · rw [if_pos (by rw [show (4 : Int32) = nI 4 from rfl, nI_ltI (by omega) (by omega)]; exact c), nz_73 x1 h1 c (by omega) hn2]
  · rw [if_neg (by rw [show (4 : Int32) = nI 4 from rfl, nI_ltI (by omega) (by omega)]; exact c)]
    have e := nI_shr (y := v) (k := 2) (by omega) (by omega)
    rw [show (nI 2 : Int32) = 2 from rfl] at e
    rw [e, nI_sub2 (k := 2) (by omega) (by omega) (by decide), nz_73 x1 (by omega) (by omega) (by omega) (by omega), wd_div (x := v) 2 (by omega)]
    congr 1
    omega
theorem nz_48 (x1 : Int32) {v n : Nat} (h1 : 1 ≤ v) (h2 : v < 256) (hn : 8 ≤ n) (hn2 : n < 100) : f_J6_numberOfLeadingZeros_0f7a4_48 x1 (nI v) (nI n) = nI (n + 1 - wd v) := by
  unfold f_J6_numberOfLeadingZeros_0f7a4_48 f_J6_numberOfLeadingZeros_0f7a4_z_4
  by_cases c : v < 16
  · rw [if_pos (by rw [show (16 : Int32) = nI 16 from rfl, nI_ltI (by omega) (by omega)]; exact c), nz_61 x1 h1 c (by omega) hn2]
  · rw [if_neg (by rw [show (16 : Int32) = nI 16 from rfl, nI_ltI (by omega) (by omega)]; exact c)]
    have e := nI_shr (y := v) (k := 4) (by omega) (by omega)
    rw [show (nI 4 : Int32) = 4 from rfl] at e
    rw [e, nI_sub2 (k := 4) (by omega) (by omega) (by decide), nz_61 x1 (by omega) (by omega) (by omega) (by omega), wd_div (x := v) 4 (by omega)]
    congr 1
    omega
theorem nz_33 (x1 : Int32) {v n : Nat} (h1 : 1 ≤ v) (h2 : v < 65536) (hn : 15 ≤ n) (hn2 : n < 100) : f_J6_numberOfLeadingZeros_0f7a4_33 x1 (nI v) (nI n) = nI (n + 1 - wd v) := by
  unfold f_J6_numberOfLeadingZeros_0f7a4_33 f_J6_numberOfLeadingZeros_0f7a4_z_6
  by_cases c : v < 256
  · rw [if_pos (by rw [show (256 : Int32) = nI 256 from rfl, nI_ltI (by omega) (by omega)]; exact c), nz_48 x1 h1 c (by omega) hn2]
  · rw [if_neg (by rw [show (256 : Int32) = nI 256 from rfl, nI_ltI (by omega) (by omega)]; exact c)]
    have e := nI_shr (y := v) (k := 8) (by omega) (by omega)
    rw [show (nI 8 : Int32) = 8 from rfl] at e
    have hw := wd_le (x := v) (k := 16) h2
    rw [e, nI_sub2 (k := 8) (by omega) (by omega) (by decide)]
    by_cases c2 : n < 16
    · have : n = 15 := by omega
      subst this
      have K : ∀ u, u < 256 → (decide (u < 1) || decide (f_J6_numberOfLeadingZeros_0f7a4_48 0 (nI u) (nI 7) = nI (7 + 1 - wd u))) = true := by decide +kernel
      have := K (v / 2 ^ 8) (by omega)
      simp only [Bool.or_eq_true, decide_eq_true_eq] at this
      have h9 : f_J6_numberOfLeadingZeros_0f7a4_48 x1 (nI (v / 2 ^ 8)) (nI (15 - 8)) = nI (7 + 1 - wd (v / 2 ^ 8)) := this.resolve_left (by omega)
      rw [h9, wd_div (x := v) 8 (by omega)]
      congr 1
      omega
    · rw [nz_48 x1 (by omega) (by omega) (by omega) (by omega), wd_div (x := v) 8 (by omega)]
      congr 1
      omega
/-- of an int -/
theorem nz_i {y : Nat} (hy : y < 2 ^ 32) : f_J6_numberOfLeadingZeros_0f7a4 (nI y) = nI (32 - wd y) := by
  unfold f_J6_numberOfLeadingZeros_0f7a4 f_J6_numberOfLeadingZeros_0f7a4_z_9
  by_cases h0 : y = 0
  · subst h0; decide
  · by_cases h31 : y < 2 ^ 31
    · rw [if_pos (by rw [show (0 : Int32) = nI 0 from rfl, nI_ltI (by omega) (by omega)]; omega)]
      by_cases c : y < 65536
      · rw [if_pos (by rw [show (65536 : Int32) = nI 65536 from rfl, nI_ltI (by omega) (by omega)]; exact c)]
        exact nz_33 (nI y) (n := 31) (by omega) c (by omega) (by omega)
      · rw [if_neg (by rw [show (65536 : Int32) = nI 65536 from rfl, nI_ltI (by omega) (by omega)]; exact c)]
        have e := nI_shr (y := y) (k := 16) h31 (by omega)
        rw [show (nI 16 : Int32) = 16 from rfl] at e
        rw [e, show (31 : Int32) + (-16) = nI 15 from rfl, nz_33 (nI y) (by omega) (by omega) (by omega) (by omega), wd_div (x := y) 16 (by omega)]
        congr 1
        omega
    · have hneg : (nI y).toInt < 0 := by
        show (BitVec.ofNat 32 y).toInt < 0
        rw [BitVec.toInt_eq_toNat_cond, BitVec.toNat_ofNat, Nat.mod_eq_of_lt hy, if_neg (by omega)]
        omega
      have h1 : ¬ 0 < nI y := by
        rw [Int32.lt_iff_toInt_lt]
        have : (0 : Int32).toInt = 0 := rfl
        omega
      have h2 : ¬ nI y = 0 := fun q => by rw [q] at hneg; exact absurd hneg (by decide)
      rw [if_neg h1, if_neg h2, wd_eq (x := y) (w := 31) (by omega) (by omega)]
      rfl
/-- of a long -/
theorem nz_l {x : Nat} (hx : x < 2 ^ 64) : f_X0_widthOf (lN x) = nI (wd x) := by
  unfold f_X0_widthOf f_J13_numberOfLeadingZeros_95d88 f_J13_numberOfLeadingZeros_95d88_z_1
  have e := wb_shr (n := x) (k := 32) hx (by omega)
  rw [show (nI 32 : Int32) = 32 from rfl] at e
  rw [e, lN_i, lN_i]
  have hy : x / 2 ^ 32 < 2 ^ 32 := by omega
  have hm : nI x = nI (x % 2 ^ 32) := by
    apply Int32.toBitVec_inj.mp
    show BitVec.ofNat 32 x = BitVec.ofNat 32 (x % 2 ^ 32)
    apply BitVec.eq_of_toNat_eq
    rw [BitVec.toNat_ofNat, BitVec.toNat_ofNat, Nat.mod_mod]
  have n64 : ∀ k, k ≤ 64 → (64 : Int32) - nI (64 - k) = nI k := by
    intro k hk
    have : ∀ k, k < 65 → (64 : Int32) - nI (64 - k) = nI k := by decide +kernel
    exact this k (by omega)
  by_cases h : x / 2 ^ 32 = 0
  · have hx32 : x < 2 ^ 32 := by omega
    have hw := wd_le hx32
    rw [h, if_pos (show nI 0 = 0 from rfl), hm, Nat.mod_eq_of_lt hx32, nz_i hx32, show (32 : Int32) = nI 32 from rfl, nI_add, show 32 + (32 - wd x) = 64 - wd x by omega]
    exact n64 _ (by omega)
  · have hne : ¬ nI (x / 2 ^ 32) = 0 := by
      intro q
      have := congrArg (fun z => Int32.toBitVec z) q
      have := congrArg BitVec.toNat this
      have e2 : (BitVec.ofNat 32 (x / 2 ^ 32)).toNat = 0 := this
      rw [BitVec.toNat_ofNat, Nat.mod_eq_of_lt hy] at e2
      exact h e2
    have hw := wd_le hy
    rw [if_neg hne, nz_i hy, wd_div (x := x) 32 (by omega), show 32 - wd (x / 2 ^ 32) = 64 - (wd (x / 2 ^ 32) + 32) by omega]
    exact n64 _ (by omega)

/-! pure: rounding to a format -/
def rne (s c : Nat) : Nat := if 2 ^ (c - 1) < s % 2 ^ c then s / 2 ^ c + 1 else if s % 2 ^ c = 2 ^ (c - 1) then (if (s / 2 ^ c) % 2 = 1 then s / 2 ^ c + 1 else s / 2 ^ c) else s / 2 ^ c
theorem lN63 {a : Nat} (h : a < 2 ^ 63) : (lN a).toInt = (a : Int) := by
  have c := BitVec.toInt_eq_toNat_cond (lN a).toBitVec
  rw [wb_tn (by omega)] at c
  show (lN a).toBitVec.toInt = _
  rw [c, if_pos (by omega)]
theorem lN_lt63 {a b : Nat} (ha : a < 2 ^ 63) (hb : b < 2 ^ 63) : lN a < lN b ↔ a < b := by
  rw [Int64.lt_iff_toInt_lt, lN63 ha, lN63 hb]; omega
theorem lN_le63 {a b : Nat} (ha : a < 2 ^ 63) (hb : b < 2 ^ 63) : lN a ≤ lN b ↔ a ≤ b := by
  rw [Int64.le_iff_toInt_le, lN63 ha, lN63 hb]; omega
theorem lN_eq64 {a b : Nat} (ha : a < 2 ^ 64) (hb : b < 2 ^ 64) : lN a = lN b ↔ a = b := by
  constructor
  · intro h
    have := congrArg (fun z => (Int64.toBitVec z).toNat) h
    have e : (lN a).toBitVec.toNat = (lN b).toBitVec.toNat := this
    rw [wb_tn ha, wb_tn hb] at e
    exact e
  · intro h; rw [h]
theorem lN_neg63 {a : Nat} (h1 : 2 ^ 63 ≤ a) (h2 : a < 2 ^ 64) : (lN a).toInt = (a : Int) - 2 ^ 64 := by
  have c := BitVec.toInt_eq_toNat_cond (lN a).toBitVec
  rw [wb_tn h2] at c
  show (lN a).toBitVec.toInt = _
  rw [c, if_neg (by omega)]
  omega
theorem one_shl {k : Nat} (hk : k < 64) : (1 : Int64) <<< ((nI k).toInt64 &&& 63) = lN (2 ^ k) := by
  have := wb_shl 1 hk
  rw [Nat.one_mul] at this
  exact this
theorem msk {k : Nat} (hk : k < 64) : (1 : Int64) <<< ((nI k).toInt64 &&& 63) - 1 = lN (2 ^ k - 1) := by
  rw [one_shl hk, show (1 : Int64) = lN 1 from rfl, lN_sub (Nat.two_pow_pos k)]
theorem rd_pos {s c : Nat} (hs : s < 2 ^ 64) (c1 : 1 ≤ c) (c60 : c ≤ 60) : f_X0_rounded (lN s) (nI c) = lN (rne s c) := by
  obtain ⟨d, rfl⟩ : ∃ d, c = d + 1 := ⟨c - 1, by omega⟩
  unfold f_X0_rounded f_X0_rounded_z_3 f_X0_rounded_z_4 f_X0_rounded_z_5
  rw [if_pos (by rw [show (0 : Int32) = nI 0 from rfl, nI_ltI (by omega) (by omega)]; omega), if_pos (by rw [show (60 : Int32) = nI 60 from rfl, nI_leI (by omega) (by omega)]; omega)]
  have hp : 2 ^ (d + 1) ≤ 2 ^ 60 := Nat.pow_le_pow_right (by decide) c60
  have hr : s % 2 ^ (d + 1) < 2 ^ (d + 1) := Nat.mod_lt _ (Nat.two_pow_pos _)
  have hd : 2 ^ d < 2 ^ (d + 1) := wb_lt2 (by omega)
  have hq : s / 2 ^ (d + 1) < 2 ^ 64 := Nat.lt_of_le_of_lt (Nat.div_le_self _ _) hs
  rw [wb_shr hs (by omega), msk (by omega), wb_mask hs (by omega), nI_pred, one_shl (by omega), wb_a1 hq]
  unfold rne
  rw [Nat.add_sub_cancel]
  have e1 : lN (2 ^ d) < lN (s % 2 ^ (d + 1)) ↔ 2 ^ d < s % 2 ^ (d + 1) := lN_lt63 (by omega) (by omega)
  have e2 : lN (s % 2 ^ (d + 1)) = lN (2 ^ d) ↔ s % 2 ^ (d + 1) = 2 ^ d := lN_eq64 (by omega) (by omega)
  have e3 : lN (s / 2 ^ (d + 1) % 2) = 1 ↔ s / 2 ^ (d + 1) % 2 = 1 := lN_eq64 (b := 1) (by omega) (by omega)
  by_cases c1 : 2 ^ d < s % 2 ^ (d + 1)
  · rw [if_pos (e1.mpr c1), if_pos c1, if_neg pu10, lN_1]
  · rw [if_neg (fun q => c1 (e1.mp q)), if_neg c1]
    by_cases c2 : s % 2 ^ (d + 1) = 2 ^ d
    · rw [if_pos (e2.mpr c2), if_pos c2]
      by_cases c3 : s / 2 ^ (d + 1) % 2 = 1
      · rw [if_pos (e3.mpr c3), if_pos c3, if_neg pu10, lN_1]
      · rw [if_neg (fun q => c3 (e3.mp q)), if_neg c3, if_pos rfl]
    · rw [if_neg (fun q => c2 (e2.mp q)), if_neg c2, if_pos rfl]
theorem rd_neg {s k : Nat} {z : Int32} (hk : k < 64) (hz : z.toInt = -(k : Int)) : f_X0_rounded (lN s) z = lN (s * 2 ^ k) := by
  unfold f_X0_rounded
  have h0 : ¬ 0 < z := by
    rw [Int32.lt_iff_toInt_lt, hz]
    have : (0 : Int32).toInt = 0 := rfl
    omega
  have e : -z = nI k := i32_of (by omega) (by rw [i32_neg (by omega), hz]; omega)
  rw [if_neg h0, e, wb_shl s hk]
theorem rd_big {s : Nat} {z : Int32} (hz : 60 < z.toInt) : f_X0_rounded (lN s) z = lN 0 := by
  unfold f_X0_rounded
  have h0 : 0 < z := by
    rw [Int32.lt_iff_toInt_lt]
    have : (0 : Int32).toInt = 0 := rfl
    omega
  have h1 : ¬ z ≤ 60 := by
    rw [Int32.le_iff_toInt_le]
    have : (60 : Int32).toInt = 60 := rfl
    omega
  rw [if_pos h0, if_neg h1]
  rfl
def pP (i : Nat) : Nat := if i = 0 then 24 else 53
def pL (i : Nat) : Int := if i = 0 then -149 else -1074
def pI (i : Nat) : Nat := if i = 0 then 2139095040 else 9218868437227405312
theorem pC {i : Nat} (hi : i < 2) : (fm_prec i).toInt = (pP i : Int) ∧ (fm_low i).toInt = pL i ∧ fm_inf i = lN (pI i) ∧ fm_prec i - 1 = nI (pP i - 1) := by
  rcases (show i = 0 ∨ i = 1 by omega) with rfl | rfl <;> decide +kernel
theorem near {i : Nat} (hi : i < 2) {s : Nat} (hs0 : s ≠ 0) (hs : s < 2 ^ 64) {x2 : Int32} {E K : Int} (hE : x2.toInt = E) (hE1 : -5000 ≤ E) (hE2 : E ≤ 5000) (hK : K = if E + (wd s : Int) - (pP i : Int) < pL i then pL i else E + (wd s : Int) - (pP i : Int)) {R : Nat} (hR : ∀ z : Int32, z.toInt = K - E → f_X0_rounded (lN s) z = lN R) :
    f_X0_nearest i (lN s) x2 = if lN (pI i) < lN ((K - pL i).toNat * 2 ^ (pP i - 1) + R) then lN (pI i) else lN ((K - pL i).toNat * 2 ^ (pP i - 1) + R) := by
  obtain ⟨c1, c2, c3, c4⟩ := pC hi
  have hw := wd_le hs
  have hP : 24 ≤ pP i ∧ pP i ≤ 53 := by unfold pP; split <;> omega
  have hL : -1074 ≤ pL i ∧ pL i ≤ -149 := by unfold pL; split <;> omega
  unfold f_X0_nearest f_X0_nearest_z_2
  have h0 : ¬ lN s = 0 := by rw [show (0 : Int64) = lN 0 from rfl, lN_eq64 hs (by omega)]; exact hs0
  rw [if_neg h0, nz_l hs]
  have tw : (nI (wd s)).toInt = (wd s : Int) := nI_toInt (by omega)
  have t1 : (x2 + nI (wd s) - fm_prec i).toInt = E + (wd s : Int) - (pP i : Int) := by
    have a : (x2 + nI (wd s)).toInt = E + (wd s : Int) := by rw [i32_add (by rw [hE, tw]; omega) (by rw [hE, tw]; omega), hE, tw]
    rw [i32_sub (by rw [a, c1]; omega) (by rw [a, c1]; omega), a, c1]
  have t2 : (if x2 + nI (wd s) - fm_prec i < fm_low i then fm_low i else x2 + nI (wd s) - fm_prec i).toInt = K := by
    rw [hK]
    by_cases q : E + (wd s : Int) - (pP i : Int) < pL i
    · rw [if_pos q, if_pos (by rw [Int32.lt_iff_toInt_lt, t1, c2]; exact q)]
      exact c2
    · rw [if_neg q, if_neg (by rw [Int32.lt_iff_toInt_lt, t1, c2]; exact q)]
      exact t1
  generalize (if x2 + nI (wd s) - fm_prec i < fm_low i then fm_low i else x2 + nI (wd s) - fm_prec i) = z at t2 ⊢
  have hKL : pL i ≤ K := by rw [hK]; split <;> omega
  have hKU : K ≤ 5100 := by rw [hK]; split <;> omega
  have e1 : z - fm_low i = nI (K - pL i).toNat := by
    apply i32_of (by omega)
    rw [i32_sub (by rw [t2, c2]; omega) (by rw [t2, c2]; omega), t2, c2]
    omega
  have e2 := hR (z - x2) (by rw [i32_sub (by rw [t2, hE]; omega) (by rw [t2, hE]; omega), t2, hE])
  rw [e1, e2, c3, c4, nI_l (by omega), wb_shl _ (by omega), lN_add]

/-! pure: whole numbers to floating ones -/
theorem wd_half {r : Nat} (h : r ≠ 0) : wd r = wd (r / 2) + 1 := by
  by_cases h1 : r = 1
  · subst h1; decide
  · have := wd_div (x := r) 1 (by omega)
    rw [Nat.pow_one] at this
    exact this
theorem rl_29 (x1 : Int64) (x2 x3 : Int32) (x4 mm : Int64) : ∀ k r n, r < 2 ^ 64 → wd r < k → f_X3_real_29 k x1 x2 x3 x4 mm (nI n) (lN r) = f_X3_real_48 x1 x2 x3 x4 mm (nI (n + wd r)) := by
  intro k
  induction k with
  | zero => intro r n h1 h2; omega
  | succ k ih =>
    intro r n h1 h2
    rw [f_X3_real_29]
    by_cases c : r = 0
    · subst c
      rw [if_pos (show lN 0 = 0 from rfl), wd_0, Nat.add_zero]
    · have nz : ¬ lN r = 0 := fun q => c ((lN_eq64 (b := 0) h1 (by omega)).mp q)
      rw [if_neg nz]
      have e := wb_shr (n := r) (k := 1) h1 (by omega)
      rw [show (nI 1 : Int32) = 1 from rfl, Nat.pow_one] at e
      have hw := wd_half c
      rw [e, nI_1, ih (r / 2) (n + 1) (by omega) (by omega), hw]
      congr 1
      congr 1
      omega
/-- the last step: sign, exponent, fraction -/
theorem rl_159 (x1 x4 : Int64) {P a f : Nat} {x2 x3 nn : Int32} {mm sg : Int64} (hP : 1 ≤ P) (hP2 : P ≤ 53) (h2 : x2 = nI P) (ha : nn - 1 + x3 = nI a) (ha2 : a < 2 ^ 11) (hmm : mm = lN f) (hf : f < 2 ^ 64) : f_X3_real_159 x1 x2 x3 x4 mm nn sg = sg ||| lN (a * 2 ^ (P - 1) + f % 2 ^ (P - 1)) := by
  obtain ⟨p, rfl⟩ : ∃ p, P = p + 1 := ⟨P - 1, by omega⟩
  unfold f_X3_real_159
  have hp : 2 ^ p ≤ 2 ^ 52 := Nat.pow_le_pow_right (by decide) (by omega)
  have hm : f % 2 ^ p < 2 ^ p := Nat.mod_lt _ (Nat.two_pow_pos _)
  have hap : a * 2 ^ p ≤ 2047 * 2 ^ 52 := Nat.mul_le_mul (by omega) hp
  rw [h2, ha, hmm, nI_pred, msk (by omega), nI_l (by omega), wb_shl _ (by omega), wb_mask hf (by omega), Nat.add_sub_cancel, Int64.or_assoc, g_or (k := p) rfl hm (by omega)]
theorem rne_b {m n P : Nat} (hn : P < n) (hP : 1 ≤ P) (h1 : 2 ^ (n - 1) ≤ m) (h2 : m < 2 ^ n) : 2 ^ (P - 1) ≤ rne m (n - P) ∧ rne m (n - P) ≤ 2 ^ P := by
  have e1 : 2 ^ (n - 1) = 2 ^ (n - P) * 2 ^ (P - 1) := by rw [← Nat.pow_add]; congr 1; omega
  have e2 : 2 ^ n = 2 ^ (n - P) * 2 ^ P := by rw [← Nat.pow_add]; congr 1; omega
  have hp := Nat.two_pow_pos (n - P)
  have q1 : 2 ^ (P - 1) ≤ m / 2 ^ (n - P) := by rw [Nat.le_div_iff_mul_le hp, Nat.mul_comm, ← e1]; exact h1
  have q2 : m / 2 ^ (n - P) < 2 ^ P := by rw [Nat.div_lt_iff_lt_mul hp, Nat.mul_comm, ← e2]; exact h2
  unfold rne
  repeat' split
  all_goals omega
theorem frac_p {P R : Nat} (hP : 1 ≤ P) (h1 : 2 ^ (P - 1) ≤ R) (h2 : R < 2 ^ P) : R % 2 ^ (P - 1) = R - 2 ^ (P - 1) := by
  obtain ⟨p, rfl⟩ : ∃ p, P = p + 1 := ⟨P - 1, by omega⟩
  rw [Nat.add_sub_cancel] at h1 ⊢
  rw [Nat.pow_succ] at h2
  rw [Nat.mod_eq_sub_mod h1, Nat.mod_eq_of_lt (by omega)]
/-- the rounded significand -/
def rlR (P m : Nat) : Nat := if wd m ≤ P then m * 2 ^ (P - wd m) else rne m (wd m - P)
theorem rlR_b {P m : Nat} (hP : 1 ≤ P) (hm : m ≠ 0) : 2 ^ (P - 1) ≤ rlR P m ∧ rlR P m ≤ 2 ^ P ∧ (wd m ≤ P → rlR P m < 2 ^ P) := by
  obtain ⟨w, e, h1, h2⟩ := wd_b hm
  unfold rlR
  by_cases c : wd m ≤ P
  · rw [if_pos c]
    have hp := Nat.two_pow_pos (P - wd m)
    have e1 : 2 ^ (P - 1) = 2 ^ w * 2 ^ (P - wd m) := by rw [← Nat.pow_add]; congr 1; omega
    have e2 : 2 ^ P = 2 ^ (w + 1) * 2 ^ (P - wd m) := by rw [← Nat.pow_add]; congr 1; omega
    have q1 : 2 ^ (P - 1) ≤ m * 2 ^ (P - wd m) := by rw [e1]; exact Nat.mul_le_mul_right _ h1
    have q2 : m * 2 ^ (P - wd m) < 2 ^ P := by rw [e2]; exact Nat.mul_lt_mul_of_pos_right h2 hp
    exact ⟨q1, by omega, fun _ => q2⟩
  · rw [if_neg c]
    have := rne_b (m := m) (n := wd m) (P := P) (by omega) hP (by rw [e, Nat.add_sub_cancel]; exact h1) (by rw [e]; exact h2)
    exact ⟨this.1, this.2, fun q => absurd q c⟩
theorem rl_147 (x1 x4 : Int64) (x2 x3 : Int32) (mm : Int64) (nn : Int32) : f_X3_real_147 x1 x2 x3 x4 mm nn = f_X3_real_159 x1 x2 x3 x4 mm nn (if (0 : Int64) ≤ x1 then 0 else x4) := by
  unfold f_X3_real_147
  by_cases h : (0 : Int64) ≤ x1
  · rw [if_pos h, if_pos h]
  · rw [if_neg h, if_neg h]
set_option maxHeartbeats 4000000 in
theorem rl_48 (x1 x4 : Int64) {P B m : Nat} (hP : 1 ≤ P) (hP2 : P ≤ 53) (hB : 1 ≤ B) (hB2 : B ≤ 1023) (hm : m ≠ 0) (hm2 : m < 2 ^ 64) (hPw : wd m - P ≤ 60) : f_X3_real_48 x1 (nI P) (nI B) x4 (lN m) (nI (wd m)) = (if (0 : Int64) ≤ x1 then 0 else x4) ||| lN ((wd m + B - 1) * 2 ^ (P - 1) + (rlR P m - 2 ^ (P - 1))) := by
  have hw := wd_le hm2
  obtain ⟨w, ew, w1, w2⟩ := wd_b hm
  obtain ⟨r1, r2, r3⟩ := rlR_b (P := P) hP hm
  have hp : 2 ^ P ≤ 2 ^ 53 := Nat.pow_le_pow_right (by decide) hP2
  have hpp : 2 ^ P = 2 * 2 ^ (P - 1) := by
    obtain ⟨p, rfl⟩ : ∃ p, P = p + 1 := ⟨P - 1, by omega⟩
    rw [Nat.add_sub_cancel, Nat.pow_succ, Nat.mul_comm]
  have ex : ∀ n, 1 ≤ n → n < 100 → nI n - 1 + nI B = nI (n + B - 1) := by
    intro n n1 n2
    obtain ⟨q, rfl⟩ : ∃ q, n = q + 1 := ⟨n - 1, by omega⟩
    rw [nI_pred, nI_add]
    congr 1
    omega
  unfold f_X3_real_48
  by_cases c : wd m ≤ P
  · have eR : rlR P m = m * 2 ^ (P - wd m) := by unfold rlR; rw [if_pos c]
    have es : nI P - nI (wd m) = nI (P - wd m) := by
      apply i32_of (by omega)
      rw [i32_sub (by rw [nI_toInt (by omega), nI_toInt (by omega)]; omega) (by rw [nI_toInt (by omega), nI_toInt (by omega)]; omega), nI_toInt (by omega), nI_toInt (by omega)]
      omega
    rw [if_neg (by rw [nI_ltI (by omega) (by omega)]; omega), es, wb_shl m (by omega), rl_147, rl_159 x1 x4 (P := P) (a := wd m + B - 1) (f := rlR P m) hP hP2 rfl (ex _ (by omega) (by omega)) (by omega) (by rw [eR]) (by omega), frac_p hP r1 (r3 c)]
  · rw [if_pos (by rw [nI_ltI (by omega) (by omega)]; omega)]
    unfold f_X3_real_z_5 f_X3_real_z_6 f_X3_real_z_7
    obtain ⟨d, hd⟩ : ∃ d, wd m - P = d + 1 := ⟨wd m - P - 1, by omega⟩
    have es : nI (wd m) - nI P = nI (d + 1) := by
      apply i32_of (by omega)
      rw [i32_sub (by rw [nI_toInt (by omega), nI_toInt (by omega)]; omega) (by rw [nI_toInt (by omega), nI_toInt (by omega)]; omega), nI_toInt (by omega), nI_toInt (by omega)]
      omega
    have hq : m / 2 ^ (d + 1) < 2 ^ 64 := Nat.lt_of_le_of_lt (Nat.div_le_self _ _) hm2
    have hpd : 2 ^ (d + 1) ≤ 2 ^ 60 := Nat.pow_le_pow_right (by decide) (by omega)
    have hdd : 2 ^ d < 2 ^ (d + 1) := wb_lt2 (by omega)
    have hr : m % 2 ^ (d + 1) < 2 ^ (d + 1) := Nat.mod_lt _ (Nat.two_pow_pos _)
    rw [es, wb_shr hm2 (by omega), msk (by omega), wb_mask hm2 (by omega), nI_pred, one_shl (by omega), wb_a1 hq]
    have e1 : lN (2 ^ d) < lN (m % 2 ^ (d + 1)) ↔ 2 ^ d < m % 2 ^ (d + 1) := lN_lt63 (by omega) (by omega)
    have e2 : lN (m % 2 ^ (d + 1)) = lN (2 ^ d) ↔ m % 2 ^ (d + 1) = 2 ^ d := lN_eq64 (by omega) (by omega)
    have e3 : lN (m / 2 ^ (d + 1) % 2) = 1 ↔ m / 2 ^ (d + 1) % 2 = 1 := lN_eq64 (b := 1) (by omega) (by omega)
    have T : ∀ R, rlR P m = R → f_X3_real_129 x1 (nI P) (nI B) x4 (lN R) (nI (wd m)) = (if (0 : Int64) ≤ x1 then 0 else x4) ||| lN ((wd m + B - 1) * 2 ^ (P - 1) + (R - 2 ^ (P - 1))) := by
      intro R hR
      rw [hR] at r1 r2
      unfold f_X3_real_129 f_X3_real_z_3
      rw [one_shl (show P < 64 by omega)]
      by_cases q : R = 2 ^ P
      · rw [if_pos (by rw [q])]
        have e4 := wb_shr (n := R) (k := 1) (by omega) (by omega)
        rw [show (nI 1 : Int32) = 1 from rfl, Nat.pow_one] at e4
        rw [e4, nI_1, rl_147, rl_159 x1 x4 (P := P) (a := wd m + 1 + B - 1) (f := R / 2) hP hP2 rfl (ex _ (by omega) (by omega)) (by omega) rfl (by omega)]
        have e5 : R / 2 % 2 ^ (P - 1) = 0 := by
          have : R / 2 = 2 ^ (P - 1) := by omega
          rw [this, Nat.mod_self]
        have e6 : R - 2 ^ (P - 1) = 2 ^ (P - 1) := by omega
        rw [e5, e6, show wd m + 1 + B - 1 = (wd m + B - 1) + 1 by omega, Nat.add_mul, Nat.one_mul, Nat.add_zero]
      · rw [if_neg (fun h => q ((lN_eq64 (by omega) (by omega)).mp h)), rl_147, rl_159 x1 x4 (P := P) (a := wd m + B - 1) (f := R) hP hP2 rfl (ex _ (by omega) (by omega)) (by omega) rfl (by omega), frac_p hP r1 (by omega)]
    have eR : rlR P m = rne m (d + 1) := by unfold rlR; rw [if_neg c, hd]
    unfold rne at eR
    rw [Nat.add_sub_cancel] at eR
    by_cases c1 : 2 ^ d < m % 2 ^ (d + 1)
    · rw [if_pos c1] at eR
      rw [if_pos (e1.mpr c1), lN_1, T _ eR, eR]
    · rw [if_neg c1] at eR
      rw [if_neg (fun q => c1 (e1.mp q))]
      by_cases c2 : m % 2 ^ (d + 1) = 2 ^ d
      · rw [if_pos c2] at eR
        rw [if_pos (e2.mpr c2)]
        by_cases c3 : m / 2 ^ (d + 1) % 2 = 1
        · rw [if_pos c3] at eR
          rw [if_pos (e3.mpr c3), lN_1, T _ eR, eR]
        · rw [if_neg c3] at eR
          rw [if_neg (fun q => c3 (e3.mp q)), T _ eR, eR]
      · rw [if_neg c2] at eR
        rw [if_neg (fun q => c2 (e2.mp q)), T _ eR, eR]
theorem rl_20 (x1 x4 : Int64) {P B m : Nat} (hP : 1 ≤ P) (hP2 : P ≤ 53) (hB : 1 ≤ B) (hB2 : B ≤ 1023) (hm : m ≠ 0) (hm2 : m < 2 ^ 64) (hPw : wd m - P ≤ 60) : f_X3_real_20 x1 (nI P) (nI B) x4 (lN m) = (if (0 : Int64) ≤ x1 then 0 else x4) ||| lN ((wd m + B - 1) * 2 ^ (P - 1) + (rlR P m - 2 ^ (P - 1))) := by
  unfold f_X3_real_20
  have := rl_29 x1 (nI P) (nI B) x4 (lN m) 65 m 0 hm2 (by have := wd_le hm2; omega)
  rw [show (nI 0 : Int32) = 0 from rfl, Nat.zero_add] at this
  rw [this, rl_48 x1 x4 hP hP2 hB hB2 hm hm2 hPw]
def pBias (i : Nat) : Nat := if i = 0 then 127 else 1023
/-- the class's rounding of a whole number -/
theorem near_l {i m : Nat} (hi : i < 2) (hm : m ≠ 0) (hm2 : m < 2 ^ 64) : f_X0_nearest i (lN m) 0 = lN ((wd m + pBias i - 1) * 2 ^ (pP i - 1) + (rlR (pP i) m - 2 ^ (pP i - 1))) ∧ (wd m + pBias i - 1) * 2 ^ (pP i - 1) + (rlR (pP i) m - 2 ^ (pP i - 1)) < pI i := by
  have hw := wd_le hm2
  obtain ⟨w, ew, -, -⟩ := wd_b hm
  have hPi : (i = 0 ∧ pP i = 24 ∧ pL i = -149 ∧ pBias i = 127 ∧ pI i = 2139095040) ∨ (i = 1 ∧ pP i = 53 ∧ pL i = -1074 ∧ pBias i = 1023 ∧ pI i = 9218868437227405312) := by
    rcases (show i = 0 ∨ i = 1 by omega) with rfl | rfl
    · exact Or.inl ⟨rfl, rfl, rfl, rfl, rfl⟩
    · exact Or.inr ⟨rfl, rfl, rfl, rfl, rfl⟩
  have hP1 : 24 ≤ pP i ∧ pP i ≤ 53 := by rcases hPi with h | h <;> omega
  obtain ⟨r1, r2, r3⟩ := rlR_b (P := pP i) (m := m) (by omega) hm
  have N := near (i := i) (s := m) (x2 := 0) (E := 0) (K := (wd m : Int) - (pP i : Int)) (R := rlR (pP i) m) hi hm hm2 rfl (by omega) (by omega) (by rw [if_neg (by rcases hPi with h | h <;> omega)]; omega) (fun z hz => by
    unfold rlR
    by_cases c : wd m ≤ pP i
    · rw [if_pos c]
      exact rd_neg (k := pP i - wd m) (by omega) (by rw [hz]; omega)
    · rw [if_neg c]
      have : z = nI (wd m - pP i) := i32_of (by omega) (by rw [hz]; omega)
      rw [this]
      exact rd_pos hm2 (by omega) (by omega))
  have eK : ((wd m : Int) - (pP i : Int) - pL i).toNat = wd m + pBias i - 2 := by rcases hPi with h | h <;> omega
  have hpp : 2 ^ pP i = 2 * 2 ^ (pP i - 1) := by
    obtain ⟨p, hp⟩ : ∃ p, pP i = p + 1 := ⟨pP i - 1, by omega⟩
    rw [hp, Nat.add_sub_cancel, Nat.pow_succ, Nat.mul_comm]
  have eV : (wd m + pBias i - 2) * 2 ^ (pP i - 1) + rlR (pP i) m = (wd m + pBias i - 1) * 2 ^ (pP i - 1) + (rlR (pP i) m - 2 ^ (pP i - 1)) := by
    obtain ⟨q, hq⟩ : ∃ q, wd m + pBias i = q + 2 := ⟨wd m + pBias i - 2, by rcases hPi with h | h <;> omega⟩
    rw [hq, show q + 2 - 2 = q by omega, show q + 2 - 1 = q + 1 by omega, Nat.add_mul, Nat.one_mul]
    omega
  have hlt : (wd m + pBias i - 1) * 2 ^ (pP i - 1) + (rlR (pP i) m - 2 ^ (pP i - 1)) < pI i := by
    have k1 : (wd m + pBias i - 1) * 2 ^ (pP i - 1) ≤ (64 + pBias i - 1) * 2 ^ (pP i - 1) := Nat.mul_le_mul_right _ (by omega)
    have k2 : rlR (pP i) m - 2 ^ (pP i - 1) ≤ 2 ^ (pP i - 1) := by omega
    rcases hPi with ⟨-, h1, -, h3, h4⟩ | ⟨-, h1, -, h3, h4⟩
    · rw [h1, h3] at k1 ⊢
      rw [h1] at k2
      rw [h4]
      omega
    · rw [h1, h3] at k1 ⊢
      rw [h1] at k2
      rw [h4]
      omega
  have hI63 : pI i < 2 ^ 63 := by rcases hPi with h | h <;> omega
  rw [N, eK, eV, if_neg (by rw [lN_lt63 hI63 (by omega)]; omega)]
  exact ⟨rfl, hlt⟩

/-! pure: what a format's bits say -/
def pB (i : Nat) : Nat := if i = 0 then 31 else 63
theorem pD {i : Nat} (hi : i < 2) : (fm_sign i ^^^ (-1 : Int64)) = lN (2 ^ pB i - 1) ∧ fm_sign i = lN ((2 ^ (64 - pB i) - 1) * 2 ^ pB i) ∧ pB i < 64 ∧ pP i - 1 < pB i ∧ pB i - (pP i - 1) ≤ 11 ∧ pI i < 2 ^ pB i ∧ pI i = (2 ^ (pB i - (pP i - 1)) - 1) * 2 ^ (pP i - 1) := by
  rcases (show i = 0 ∨ i = 1 by omega) with rfl | rfl <;> decide +kernel
/-- the magnitude, the field of the exponent, the fraction -/
abbrev fM (i w : Nat) : Nat := w % 2 ^ pB i
abbrev fE (i w : Nat) : Nat := fM i w / 2 ^ (pP i - 1)
abbrev fF (i w : Nat) : Nat := fM i w % 2 ^ (pP i - 1)
def fS (i w : Nat) : Nat := if fE i w = 0 then fF i w else fF i w + 2 ^ (pP i - 1)
def fX (i w : Nat) : Int := pL i + (if fE i w = 0 then 0 else (fE i w : Int) - 1)
theorem f_wo {i w : Nat} (hi : i < 2) (hw : w < 2 ^ 64) : f_X0_withoutSign i (lN w) = lN (fM i w) := by
  obtain ⟨d1, -, d3, -⟩ := pD hi
  unfold f_X0_withoutSign
  rw [d1, wb_mask hw d3]
theorem fM_lt (i w : Nat) : fM i w < 2 ^ pB i := Nat.mod_lt _ (Nat.two_pow_pos _)
theorem fM_63 {i : Nat} (hi : i < 2) (w : Nat) : fM i w < 2 ^ 63 := by
  have h := fM_lt i w
  have : 2 ^ pB i ≤ 2 ^ 63 := Nat.pow_le_pow_right (by decide) (by have := (pD hi).2.2.1; omega)
  omega
theorem fE_lt {i : Nat} (hi : i < 2) (w : Nat) : fE i w < 2048 := by
  obtain ⟨-, -, d3, d4, d5, -⟩ := pD hi
  have h := fM_lt i w
  have e : 2 ^ pB i = 2 ^ (pP i - 1) * 2 ^ (pB i - (pP i - 1)) := by rw [← Nat.pow_add]; congr 1; omega
  have : 2 ^ (pB i - (pP i - 1)) ≤ 2 ^ 11 := Nat.pow_le_pow_right (by decide) d5
  have h2 : fE i w < 2 ^ (pB i - (pP i - 1)) := by
    unfold fE
    rw [Nat.div_lt_iff_lt_mul (Nat.two_pow_pos _), Nat.mul_comm, ← e]
    exact h
  omega
theorem f_ef {i w : Nat} (hi : i < 2) (hw : w < 2 ^ 64) : f_X0_exponentField i (lN w) = lN (fE i w) := by
  obtain ⟨-, -, -, c4⟩ := pC hi
  have hP : pP i ≤ 53 := by unfold pP; split <;> omega
  unfold f_X0_exponentField
  rw [f_wo hi hw, c4, wb_shr (by have := fM_63 hi w; omega) (by omega)]
theorem f_sig {i w : Nat} (hi : i < 2) (hw : w < 2 ^ 64) : f_X0_significand i (lN w) = lN (fS i w) := by
  obtain ⟨-, -, -, c4⟩ := pC hi
  have hP : pP i ≤ 53 := by unfold pP; split <;> omega
  have hM := fM_63 hi w
  have hp : 2 ^ (pP i - 1) ≤ 2 ^ 52 := Nat.pow_le_pow_right (by decide) (by omega)
  have hF : fF i w < 2 ^ (pP i - 1) := Nat.mod_lt _ (Nat.two_pow_pos _)
  unfold f_X0_significand f_X0_significand_z_1 f_X0_significand_z_2 fS
  rw [c4, msk (by omega), f_wo hi hw, wb_mask (by omega) (by omega), f_ef hi hw, one_shl (by omega)]
  have hE := fE_lt hi w
  have e0 : lN (fE i w) = 0 ↔ fE i w = 0 := lN_eq64 (b := 0) (by omega) (by omega)
  by_cases h : fE i w = 0
  · rw [if_pos (e0.mpr h), if_pos h]
  · rw [if_neg (fun q => h (e0.mp q)), if_neg h]
    have := g_or' (k := pP i - 1) (p := 2 ^ (pP i - 1)) (a := fF i w) (b := 1) rfl hF (by omega)
    rw [Nat.one_mul] at this
    exact this
theorem f_exp {i w : Nat} (hi : i < 2) (hw : w < 2 ^ 64) : (f_X0_exponent i (lN w)).toInt = fX i w := by
  obtain ⟨-, c2, -, -⟩ := pC hi
  have hL : -1074 ≤ pL i ∧ pL i ≤ -149 := by unfold pL; split <;> omega
  have hE := fE_lt hi w
  unfold f_X0_exponent fX
  rw [f_ef hi hw]
  have e1 : (1 : Int64) < lN (fE i w) ↔ 1 < fE i w := lN_lt63 (a := 1) (by omega) (by omega)
  have key : ((if (1 : Int64) < lN (fE i w) then lN (fE i w) else 1).toInt32).toInt = (if fE i w = 0 then 0 else (fE i w : Int) - 1) + 1 := by
    by_cases h : 1 < fE i w
    · rw [if_pos (e1.mpr h), if_neg (by omega), lN_i, nI_toInt (by omega)]; omega
    · rw [if_neg (fun q => h (e1.mp q))]
      rcases (show fE i w = 0 ∨ fE i w = 1 by omega) with q | q <;> rw [q] <;> rfl
  have b1 : 0 ≤ (if fE i w = 0 then 0 else (fE i w : Int) - 1) ∧ (if fE i w = 0 then 0 else (fE i w : Int) - 1) < 2048 := by split <;> omega
  have k1 : (1 : Int32).toInt = 1 := rfl
  generalize ((if (1 : Int64) < lN (fE i w) then lN (fE i w) else 1).toInt32) = y at key ⊢
  have a1 : (fm_low i + y).toInt = pL i + ((if fE i w = 0 then 0 else (fE i w : Int) - 1) + 1) := by rw [i32_add (by rw [c2, key]; omega) (by rw [c2, key]; omega), c2, key]
  rw [i32_sub (by rw [a1, k1]; omega) (by rw [a1, k1]; omega), a1, k1]
  omega
/-- the sign put back -/
theorem f_sgn {i m : Nat} (hi : i < 2) (hm : m < 2 ^ pB i) : f_X0_withSign i 1 (lN m) = lN (m + (2 ^ (64 - pB i) - 1) * 2 ^ pB i) := by
  obtain ⟨-, d2, d3, -⟩ := pD hi
  unfold f_X0_withSign
  rw [if_neg pu10, d2]
  have e : 2 ^ 64 = 2 ^ (64 - pB i) * 2 ^ pB i := by rw [← Nat.pow_add]; congr 1; omega
  have h1 := Nat.two_pow_pos (64 - pB i)
  refine g_or' (k := pB i) rfl hm ?_
  rw [Nat.sub_mul, Nat.one_mul]
  have : 2 ^ pB i ≤ 2 ^ (64 - pB i) * 2 ^ pB i := Nat.le_mul_of_pos_left _ h1
  omega
theorem f_nn {w : Nat} (hw : w < 2 ^ 64) : (0 : Int64) ≤ lN w ↔ w < 2 ^ 63 := by
  rw [Int64.le_iff_toInt_le]
  have : (0 : Int64).toInt = 0 := rfl
  rw [this]
  by_cases h : w < 2 ^ 63
  · rw [lN63 h]; omega
  · rw [lN_neg63 (by omega) hw]; omega
/-- own bits: those of the format's type -/
def fok (i w : Nat) : Prop := w < 2 ^ pB i ∨ ∃ m, m < 2 ^ pB i ∧ w = m + (2 ^ (64 - pB i) - 1) * 2 ^ pB i
theorem fok_M {i w : Nat} (hi : i < 2) (h : fok i w) : (w < 2 ^ 63 ∧ fM i w = w) ∨ (2 ^ 63 ≤ w ∧ w = fM i w + (2 ^ (64 - pB i) - 1) * 2 ^ pB i) := by
  obtain ⟨-, -, d3, -⟩ := pD hi
  rcases h with h | ⟨m, h1, h2⟩
  · have : 2 ^ pB i ≤ 2 ^ 63 := Nat.pow_le_pow_right (by decide) (by omega)
    exact Or.inl ⟨by omega, Nat.mod_eq_of_lt h⟩
  · right
    have e : fM i w = m := by
      unfold fM
      rw [h2, Nat.add_mul_mod_self_right, Nat.mod_eq_of_lt h1]
    rw [e]
    refine ⟨?_, h2⟩
    rcases (show i = 0 ∨ i = 1 by omega) with rfl | rfl
    · have e : (2 ^ (64 - pB 0) - 1) * 2 ^ pB 0 = 18446744071562067968 := by decide +kernel
      rw [h2, e]; omega
    · have e : (2 ^ (64 - pB 1) - 1) * 2 ^ pB 1 = 9223372036854775808 := by decide +kernel
      rw [h2, e]; omega
/-- rounding what is in the format already -/
theorem near_same {i w : Nat} (hi : i < 2) (hw : w < 2 ^ 64) (h : fM i w < pI i) : f_X0_nearest i (f_X0_significand i (lN w)) (f_X0_exponent i (lN w)) = lN (fM i w) := by
  have hM := fM_63 hi w
  obtain ⟨-, -, -, -, -, d6, -⟩ := pD hi
  have hP : 24 ≤ pP i ∧ pP i ≤ 53 := by unfold pP; split <;> omega
  have hL : -1074 ≤ pL i ∧ pL i ≤ -149 := by unfold pL; split <;> omega
  have hp : 2 ^ (pP i - 1) ≤ 2 ^ 52 := Nat.pow_le_pow_right (by decide) (by omega)
  have hF : fF i w < 2 ^ (pP i - 1) := Nat.mod_lt _ (Nat.two_pow_pos _)
  have hE := fE_lt hi w
  have eM : fM i w = fE i w * 2 ^ (pP i - 1) + fF i w := by
    have := Nat.div_add_mod (fM i w) (2 ^ (pP i - 1))
    rw [Nat.mul_comm] at this
    exact this.symm
  have hI : pI i < 2 ^ 63 := by
    have : 2 ^ pB i ≤ 2 ^ 63 := Nat.pow_le_pow_right (by decide) (by have := (pD hi).2.2.1; omega)
    omega
  rw [f_sig hi hw]
  by_cases h0 : fS i w = 0
  · have hE0 : fE i w = 0 := by
      apply Classical.byContradiction
      intro q
      unfold fS at h0
      rw [if_neg q] at h0
      have := Nat.two_pow_pos (pP i - 1)
      omega
    have hF0 : fF i w = 0 := by
      unfold fS at h0
      rw [if_pos hE0] at h0
      exact h0
    have hM0 : fM i w = 0 := by rw [eM, hE0, hF0, Nat.zero_mul]
    rw [h0, hM0]
    unfold f_X0_nearest
    rw [if_pos (show lN 0 = 0 from rfl)]
    rfl
  · have hS : fS i w < 2 ^ 64 := by unfold fS; split <;> omega
    by_cases c : fE i w = 0
    · have eS : fS i w = fM i w := by unfold fS; rw [if_pos c, eM, c, Nat.zero_mul, Nat.zero_add]
      have eX : fX i w = pL i := by unfold fX; rw [if_pos c]; omega
      have hwd : wd (fS i w) ≤ pP i - 1 := by
        apply wd_le
        rw [eS, eM, c, Nat.zero_mul, Nat.zero_add]; exact hF
      have N := near (K := pL i) (R := fS i w) hi h0 hS (f_exp hi hw) (by rw [eX]; omega) (by rw [eX]; omega) (by rw [eX]; split <;> omega) (fun z hz => by
        have := rd_neg (s := fS i w) (k := 0) (z := z) (by omega) (by rw [hz, eX]; omega)
        rw [Nat.pow_zero, Nat.mul_one] at this
        exact this)
      rw [N, show (pL i - pL i).toNat = 0 by omega, Nat.zero_mul, Nat.zero_add, eS, if_neg (by rw [lN_lt63 hI hM]; omega)]
    · have eS : fS i w = fF i w + 2 ^ (pP i - 1) := by unfold fS; rw [if_neg c]
      have eX : fX i w = pL i + ((fE i w : Int) - 1) := by unfold fX; rw [if_neg c]
      have e2 : 2 ^ (pP i - 1 + 1) = 2 * 2 ^ (pP i - 1) := by rw [Nat.pow_succ, Nat.mul_comm]
      have hwd : wd (fS i w) = pP i := by
        rw [wd_eq (w := pP i - 1) (by rw [eS]; omega) (by rw [eS, e2]; omega)]
        omega
      have N := near (K := fX i w) (R := fS i w) hi h0 hS (f_exp hi hw) (by rw [eX]; omega) (by rw [eX]; omega) (by rw [hwd, eX]; split <;> omega) (fun z hz => by
        have := rd_neg (s := fS i w) (k := 0) (z := z) (by omega) (by rw [hz]; omega)
        rw [Nat.pow_zero, Nat.mul_one] at this
        exact this)
      have e3 : (fX i w - pL i).toNat = fE i w - 1 := by rw [eX]; omega
      have e4 : (fE i w - 1) * 2 ^ (pP i - 1) + fS i w = fM i w := by
        rw [eS, eM]
        obtain ⟨q, hq⟩ : ∃ q, fE i w = q + 1 := ⟨fE i w - 1, by omega⟩
        rw [hq, Nat.add_sub_cancel, Nat.add_mul, Nat.one_mul]
        omega
      rw [N, e3, e4, if_neg (by rw [lN_lt63 hI hM]; omega)]
def fN (i : Nat) : Int64 := fm_nan i
/-- the same format: one NaN -/
theorem form_same {i w : Nat} (hi : i < 2) (hw : w < 2 ^ 64) (h : fok i w) : f_X0_fromFormat i i (lN w) = if fM i w ≤ pI i then lN w else fm_nan i := by
  obtain ⟨-, -, c3, -⟩ := pC hi
  have hM := fM_63 hi w
  have hMB := fM_lt i w
  obtain ⟨-, -, -, -, -, d6, -⟩ := pD hi
  have hI : pI i < 2 ^ 63 := by
    have : 2 ^ pB i ≤ 2 ^ 63 := Nat.pow_le_pow_right (by decide) (by have := (pD hi).2.2.1; omega)
    omega
  unfold f_X0_fromFormat
  rw [f_wo hi hw, c3]
  have e1 : lN (fM i w) ≤ lN (pI i) ↔ fM i w ≤ pI i := lN_le63 hM hI
  have e2 : lN (fM i w) = lN (pI i) ↔ fM i w = pI i := lN_eq64 (by omega) (by omega)
  by_cases a : fM i w ≤ pI i
  · rw [if_pos (e1.mpr a), if_pos a]
    rcases fok_M hi h with ⟨n1, n2⟩ | ⟨n1, n2⟩
    · rw [if_pos ((f_nn hw).mpr n1)]
      by_cases b : fM i w = pI i
      · rw [if_pos (e2.mpr b), ← b]
        unfold f_X0_withSign
        rw [if_pos rfl, n2]
      · rw [if_neg (fun q => b (e2.mp q)), near_same hi hw (by omega)]
        unfold f_X0_withSign
        rw [if_pos rfl, n2]
    · rw [if_neg (fun q => by have := (f_nn hw).mp q; omega)]
      by_cases b : fM i w = pI i
      · rw [if_pos (e2.mpr b), ← b, f_sgn hi hMB, ← n2]
      · rw [if_neg (fun q => b (e2.mp q)), near_same hi hw (by omega), f_sgn hi hMB, ← n2]
  · rw [if_neg (fun q => a (e1.mp q)), if_neg a]

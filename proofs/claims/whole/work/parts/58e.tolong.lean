/-! pure: floating numbers to whole ones -/
/-- a significand and its exponent, cut to a whole number -/
def sh (s : Nat) (E : Int) : Nat := if 0 ≤ E then s * 2 ^ E.toNat else s / 2 ^ (-E).toNat
theorem sh_0 {s k : Nat} {E : Int} (hs : s < 2 ^ k) (hE : E ≤ -(k : Int)) (hk : 0 < k) : sh s E = 0 := by
  unfold sh
  rw [if_neg (by omega)]
  have : 2 ^ k ≤ 2 ^ (-E).toNat := Nat.pow_le_pow_right (by decide) (by omega)
  exact Nat.div_eq_of_lt (by omega)
theorem sh_f {s : Nat} {x2 : Int32} {E : Int} (hs : s < 2 ^ 63) (hE : x2.toInt = E) (hE1 : -5000 ≤ E) (hE2 : E ≤ 63) : f_X0_shifted (lN s) x2 = lN (sh s E) := by
  unfold f_X0_shifted
  have z0 : (0 : Int32).toInt = 0 := rfl
  have zm : (-63 : Int32).toInt = -63 := by decide
  by_cases c : x2 < 0
  · have cE : E < 0 := by rw [Int32.lt_iff_toInt_lt, hE, z0] at c; exact c
    rw [if_pos c]
    by_cases d : (-63 : Int32) ≤ x2
    · have dE : -63 ≤ E := by rw [Int32.le_iff_toInt_le, hE, zm] at d; exact d
      have en : -x2 = nI (-E).toNat := i32_of (by omega) (by rw [i32_neg (by omega), hE]; omega)
      rw [if_pos d, en, wb_shr (by omega) (by omega)]
      unfold sh
      rw [if_neg (by omega)]
    · have dE : E < -63 := by rw [Int32.le_iff_toInt_le, hE, zm] at d; omega
      rw [if_neg d, sh_0 (k := 63) hs (by omega) (by omega)]
      rfl
  · have cE : 0 ≤ E := by rw [Int32.lt_iff_toInt_lt, hE, z0] at c; omega
    have en : x2 = nI E.toNat := i32_of (by omega) (by rw [hE]; omega)
    rw [if_neg c, en, wb_shl s (by omega)]
    unfold sh
    rw [if_pos cE]
theorem fS_lt {i : Nat} (hi : i < 2) (w : Nat) : fS i w < 2 ^ pP i := by
  have hP : 24 ≤ pP i ∧ pP i ≤ 53 := by unfold pP; split <;> omega
  have hF : fF i w < 2 ^ (pP i - 1) := Nat.mod_lt _ (Nat.two_pow_pos _)
  have hpp : 2 ^ pP i = 2 * 2 ^ (pP i - 1) := by
    obtain ⟨p, hp⟩ : ∃ p, pP i = p + 1 := ⟨pP i - 1, by omega⟩
    rw [hp, Nat.add_sub_cancel, Nat.pow_succ, Nat.mul_comm]
  unfold fS
  split <;> omega
theorem fX_b {i : Nat} (hi : i < 2) (w : Nat) : -1074 ≤ fX i w ∧ fX i w ≤ 2000 := by
  have hL : -1074 ≤ pL i ∧ pL i ≤ -149 := by unfold pL; split <;> omega
  have hE := fE_lt hi w
  unfold fX
  split <;> omega
/-- the class's way to a long -/
theorem toL {i w : Nat} (hi : i < 2) (hw : w < 2 ^ 64) : f_X0_toLong i (lN w) = if fM i w ≤ pI i then (if fX i w + (wd (fS i w) : Int) ≤ 63 then (if (0 : Int64) ≤ lN w then lN (sh (fS i w) (fX i w)) else -(lN (sh (fS i w) (fX i w)))) else (if (0 : Int64) ≤ lN w then 9223372036854775807 else -9223372036854775808)) else 0 := by
  obtain ⟨-, -, c3, -⟩ := pC hi
  have hM := fM_63 hi w
  have hI : pI i < 2 ^ 63 := by
    have h1 := pI_B hi
    have : 2 ^ pB i ≤ 2 ^ 63 := Nat.pow_le_pow_right (by decide) (by have := (pD hi).2.2.1; omega)
    omega
  have hS := fS_lt hi w
  have hP : 24 ≤ pP i ∧ pP i ≤ 53 := by unfold pP; split <;> omega
  have hp : 2 ^ pP i ≤ 2 ^ 53 := Nat.pow_le_pow_right (by decide) hP.2
  have hwd := wd_le hS
  have hXb := fX_b hi w
  have hX := f_exp hi hw
  have e1 : lN (fM i w) ≤ lN (pI i) ↔ fM i w ≤ pI i := lN_le63 hM hI
  have tw : (nI (wd (fS i w))).toInt = (wd (fS i w) : Int) := nI_toInt (by omega)
  have z63 : (63 : Int32).toInt = 63 := by decide
  have e2 : f_X0_exponent i (lN w) + nI (wd (fS i w)) ≤ 63 ↔ fX i w + (wd (fS i w) : Int) ≤ 63 := by
    rw [Int32.le_iff_toInt_le, i32_add (by rw [hX, tw]; omega) (by rw [hX, tw]; omega), hX, tw, z63]
  unfold f_X0_toLong f_X0_toLong_z_4 f_X0_toLong_z_8
  rw [f_wo hi hw, c3, f_sig hi hw, nz_l (by omega)]
  by_cases a : fM i w ≤ pI i
  · rw [if_pos (e1.mpr a), if_pos a]
    by_cases b : fX i w + (wd (fS i w) : Int) ≤ 63
    · rw [if_pos b, if_pos (e2.mpr b), if_pos (e2.mpr b), sh_f (by omega) hX (by omega) (by omega)]
      by_cases n : (0 : Int64) ≤ lN w
      · rw [if_pos n, if_pos n, if_pos rfl]
      · rw [if_neg n, if_neg n, if_neg pu10]
    · rw [if_neg b, if_neg (fun q => b (e2.mp q)), if_neg (fun q => b (e2.mp q))]
      by_cases n : (0 : Int64) ≤ lN w
      · rw [if_pos n, if_pos n, if_pos rfl]
      · rw [if_neg n, if_neg n, if_neg pu10]
  · rw [if_neg (fun q => a (e1.mp q)), if_neg a]
theorem cl_0 (x : Int64) {lo hi : Int64} (h1 : lo ≤ 0) (h2 : 0 ≤ hi) : f_X3_whole_131 x lo hi 0 = 0 := by
  unfold f_X3_whole_131
  rw [if_pos h1, if_pos h2]
theorem cl_hi (x : Int64) {lo hi : Int64} (h1 : lo ≤ 0) (h2 : 0 ≤ hi) : f_X3_whole_131 x lo hi 9223372036854775807 = hi := by
  unfold f_X3_whole_131
  have m := Int64.toInt_lt hi
  have e : (9223372036854775807 : Int64).toInt = 9223372036854775807 := by decide
  have z : (0 : Int64).toInt = 0 := rfl
  rw [Int64.le_iff_toInt_le, z] at h1 h2
  rw [if_pos (by rw [Int64.le_iff_toInt_le, e]; omega)]
  by_cases c : (9223372036854775807 : Int64) ≤ hi
  · rw [if_pos c]
    rw [Int64.le_iff_toInt_le, e] at c
    exact Int64.toInt_inj.mp (by rw [e]; omega)
  · rw [if_neg c]
theorem cl_lo (x : Int64) {lo hi : Int64} (h1 : lo ≤ 0) (h2 : 0 ≤ hi) : f_X3_whole_131 x lo hi (-9223372036854775808) = lo := by
  unfold f_X3_whole_131
  have m := Int64.le_toInt lo
  have e : (-9223372036854775808 : Int64).toInt = -9223372036854775808 := by decide
  have z : (0 : Int64).toInt = 0 := rfl
  rw [Int64.le_iff_toInt_le, z] at h1 h2
  by_cases c : lo ≤ -9223372036854775808
  · rw [if_pos c, if_pos (by rw [Int64.le_iff_toInt_le, e]; omega)]
    rw [Int64.le_iff_toInt_le, e] at c
    exact Int64.toInt_inj.mp (by rw [e]; omega)
  · rw [if_neg c]
theorem neg_l0 : -(lN 0) = 0 := by decide
set_option maxHeartbeats 4000000 in
/-- the reference's way from a double, cut at both ends -/
theorem whole_d {w : Nat} (hw : w < 2 ^ 64) {lo hi : Int64} (h1 : lo ≤ 0) (h2 : 0 ≤ hi) : f_X3_whole (lN w) lo hi = f_X3_whole_131 (lN w) lo hi (f_X0_toLong 1 (lN w)) := by
  have hi1 : (1 : Nat) < 2 := by omega
  have eI : pI 1 = 9218868437227405312 := rfl
  have hF : fF 1 w < 2 ^ 52 := Nat.mod_lt _ (by decide)
  have hE : fE 1 w < 2048 := fE_lt hi1 w
  have eM : fM 1 w = fE 1 w * 2 ^ 52 + fF 1 w := by
    have := Nat.div_add_mod (fM 1 w) (2 ^ 52)
    rw [Nat.mul_comm] at this
    exact this.symm
  have n2047 : nI (fE 1 w) = 2047 ↔ fE 1 w = 2047 := nI_eq (b := 2047) (by omega) (by omega)
  have f0 : lN (fF 1 w) = 0 ↔ fF 1 w = 0 := lN_eq64 (b := 0) (by omega) (by omega)
  have h1023 : (1023 : Int32).toInt = 1023 := by decide
  have hn : (nI (fE 1 w)).toInt = (fE 1 w : Int) := nI_toInt (by omega)
  have hb : (nI (fE 1 w) - 1023).toInt = (fE 1 w : Int) - 1023 := by rw [i32_sub (by rw [hn, h1023]; omega) (by rw [hn, h1023]; omega), hn, h1023]
  -- not NaN
  have G : fM 1 w ≤ pI 1 → f_X3_whole_35 (lN w) lo hi (nI (fE 1 w)) (lN (fF 1 w)) = f_X3_whole_131 (lN w) lo hi (f_X0_toLong 1 (lN w)) := by
    intro a
    rw [toL hi1 hw, if_pos a]
    have T46 : ∀ bl : Int32, f_X3_whole_46 (lN w) lo hi (nI (fE 1 w)) (lN (fF 1 w)) bl = if fX 1 w + (wd (fS 1 w) : Int) ≤ 63 then f_X3_whole_131 (lN w) lo hi (if bl = 0 then lN (sh (fS 1 w) (fX 1 w)) else -(lN (sh (fS 1 w) (fX 1 w)))) else if bl = 0 then hi else lo := by
      intro bl
      unfold f_X3_whole_46
      generalize nI (fE 1 w) - 1023 = bb at hb
      have z0 : (0 : Int32).toInt = 0 := rfl
      have z62 : (62 : Int32).toInt = 62 := by decide
      have z52 : (52 : Int32).toInt = 52 := by decide
      have l0 : (0 : Int32) ≤ bb ↔ 1023 ≤ fE 1 w := by rw [Int32.le_iff_toInt_le, z0, hb]; omega
      have l62 : bb ≤ 62 ↔ fE 1 w ≤ 1085 := by rw [Int32.le_iff_toInt_le, z62, hb]; omega
      have l52 : bb ≤ 52 ↔ fE 1 w ≤ 1075 := by rw [Int32.le_iff_toInt_le, z52, hb]; omega
      by_cases c : fE 1 w = 0
      · have eS : fS 1 w = fF 1 w := by unfold fS; rw [if_pos c]
        have eX : fX 1 w = -1074 := by unfold fX; rw [if_pos c]; rfl
        have hwd := wd_le hF
        rw [if_neg (fun q => by have := l0.mp q; omega), eS, eX, if_pos (by omega), sh_0 (k := 52) hF (by omega) (by omega)]
        by_cases b0 : bl = 0
        · rw [if_pos b0]; exact (cl_0 _ h1 h2).symm
        · rw [if_neg b0, neg_l0]; exact (cl_0 _ h1 h2).symm
      · have eS : fS 1 w = fF 1 w + 2 ^ 52 := by unfold fS; rw [if_neg c]; rfl
        have eX : fX 1 w = (fE 1 w : Int) - 1075 := by unfold fX; rw [if_neg c, show pL 1 = -1074 from rfl]; omega
        have hwd : wd (fS 1 w) = 53 := wd_eq (w := 52) (by omega) (by omega)
        by_cases d : 1023 ≤ fE 1 w
        · rw [if_pos (l0.mpr d)]
          by_cases d62 : fE 1 w ≤ 1085
          · have g63 : (fE 1 w : Int) - 1075 + ((53 : Nat) : Int) ≤ 63 := by omega
            rw [if_pos (l62.mpr d62), hwd, eX, if_pos g63, nw_s hF, ← eS]
            unfold f_X3_whole_116
            have K : ∀ v, v = sh (fS 1 w) ((fE 1 w : Int) - 1075) → (if bl = 0 then f_X3_whole_131 (lN w) lo hi (lN v) else f_X3_whole_131 (lN w) lo hi (-(lN v))) = f_X3_whole_131 (lN w) lo hi (if bl = 0 then lN (sh (fS 1 w) ((fE 1 w : Int) - 1075)) else -(lN (sh (fS 1 w) ((fE 1 w : Int) - 1075)))) := by
              intro v hv
              rw [hv]
              by_cases b0 : bl = 0
              · rw [if_pos b0, if_pos b0]
              · rw [if_neg b0, if_neg b0]
            by_cases d52 : fE 1 w ≤ 1075
            · have e1 : (52 : Int32) - bb = nI (1075 - fE 1 w) := i32_of (by omega) (by rw [i32_sub (by rw [z52, hb]; omega) (by rw [z52, hb]; omega), z52, hb]; omega)
              rw [if_pos (l52.mpr d52), e1, wb_shr (by omega) (by omega)]
              apply K
              unfold sh
              by_cases d9 : fE 1 w = 1075
              · rw [if_pos (by omega), d9]
                simp
              · rw [if_neg (by omega), show (-((fE 1 w : Int) - 1075)).toNat = 1075 - fE 1 w by omega]
            · have e1 : bb - 52 = nI (fE 1 w - 1075) := i32_of (by omega) (by rw [i32_sub (by rw [z52, hb]; omega) (by rw [z52, hb]; omega), z52, hb]; omega)
              rw [if_neg (fun q => d52 (l52.mp q)), e1, wb_shl _ (by omega)]
              apply K
              unfold sh
              rw [if_pos (by omega), show ((fE 1 w : Int) - 1075).toNat = fE 1 w - 1075 by omega]
          · have g63 : ¬ (fE 1 w : Int) - 1075 + ((53 : Nat) : Int) ≤ 63 := by omega
            rw [if_neg (fun q => d62 (l62.mp q)), hwd, eX, if_neg g63]
        · rw [if_neg (fun q => d (l0.mp q)), hwd, eX, if_pos (by omega), sh_0 (k := 53) (by omega) (by omega) (by omega)]
          by_cases b0 : bl = 0
          · rw [if_pos b0]; exact (cl_0 _ h1 h2).symm
          · rw [if_neg b0, neg_l0]; exact (cl_0 _ h1 h2).symm
    unfold f_X3_whole_35
    by_cases n : (0 : Int64) ≤ lN w
    · rw [if_pos n, T46, if_pos n, if_pos n, if_pos rfl, if_pos rfl]
      by_cases q : fX 1 w + (wd (fS 1 w) : Int) ≤ 63
      · rw [if_pos q, if_pos q]
      · rw [if_neg q, if_neg q, cl_hi _ h1 h2]
    · rw [if_neg n, T46, if_neg n, if_neg n, if_neg pu10, if_neg pu10]
      by_cases q : fX 1 w + (wd (fS 1 w) : Int) ≤ 63
      · rw [if_pos q, if_pos q]
      · rw [if_neg q, if_neg q, cl_lo _ h1 h2]
  unfold f_X3_whole f_X3_whole_z_9
  rw [nw_e hw, nw_f hw]
  by_cases c : fE 1 w = 2047
  · rw [if_pos (n2047.mpr c)]
    by_cases d : fF 1 w = 0
    · rw [if_pos (f0.mpr d)]
      exact G (by rw [eM, c, d, eI]; omega)
    · rw [if_neg (fun q => d (f0.mp q)), toL hi1 hw, if_neg (by rw [eM, c, eI]; omega), cl_0 _ h1 h2]
  · rw [if_neg (fun q => c (n2047.mp q))]
    exact G (by rw [eI]; omega)

/-! pure: float to double -/
theorem or_0r (x : Int64) : x ||| (0 : Int64) = x := by rw [Int64.or_comm, or_0l]
/-- the float's exponent field as the reference reads it -/
theorem wd_e (w : Nat) : ((lN w >>> ((23 : Int32).toInt64 &&& 63)).toInt32) &&& (255 : Int32) = nI (fE 0 w) := by
  apply Int32.toBitVec_inj.mp
  rw [Int32.toBitVec_and]
  have h1 : (lN w >>> ((23 : Int32).toInt64 &&& 63)).toBitVec = (BitVec.ofNat 64 w).sshiftRight 23 := by
    rw [Int64.toBitVec_shiftRight, wb_tb]
    have : ((23 : Int32).toInt64 &&& 63).toBitVec.smod 64 = 23#64 := by decide +kernel
    rw [this]
    rfl
  have h2 : ((lN w >>> ((23 : Int32).toInt64 &&& 63)).toInt32).toBitVec = ((BitVec.ofNat 64 w).sshiftRight 23).signExtend 32 := by
    rw [← h1]
    rfl
  rw [h2]
  have eP : fE 0 w = w % 2 ^ 31 / 2 ^ 23 := rfl
  have hE : fE 0 w < 2 ^ 8 := by rw [eP]; omega
  show _ = BitVec.ofNat 32 (fE 0 w)
  apply BitVec.eq_of_getLsbD_eq
  intro i hi
  rw [BitVec.getLsbD_and, BitVec.getLsbD_signExtend, BitVec.getLsbD_ofNat, BitVec.getLsbD_sshiftRight]
  have h255 : (255 : Int32).toBitVec.getLsbD i = decide (i < 8) := by
    have : ∀ i, i < 32 → (255 : Int32).toBitVec.getLsbD i = decide (i < 8) := by decide +kernel
    exact this i hi
  rw [h255]
  by_cases c : i < 8
  · have e1 : (fE 0 w).testBit i = w.testBit (23 + i) := by
      rw [eP, Nat.testBit_div_two_pow, Nat.testBit_mod_two_pow]
      have : i + 23 < 31 := by omega
      rw [Nat.add_comm i 23]
      simp [show 23 + i < 31 by omega]
    rw [e1]
    simp [c, hi, show i < 64 by omega, show ¬ 64 ≤ i by omega, show 23 + i < 64 by omega]
    rw [← BitVec.getLsbD_eq_getElem (show 23 + i < 64 by omega), BitVec.getLsbD_ofNat]
    simp [show 23 + i < 64 by omega]
  · have e1 : (fE 0 w).testBit i = false := by
      apply Nat.testBit_lt_two_pow
      have : 2 ^ 8 ≤ 2 ^ i := Nat.pow_le_pow_right (by decide) (by omega)
      omega
    rw [e1]
    simp [c]
theorem wd_112 (x1 sg : Int64) {a m : Nat} {bb : Int32} (ha : bb + 1023 = nI a) (ha2 : a < 2047) (hm : m < 2 ^ 64) : f_X3_wide_112 x1 sg (lN m) bb = sg ||| lN (a * 2 ^ 52 + m % 2 ^ 23 * 2 ^ 29) := by
  unfold f_X3_wide_112
  have e1 : lN m &&& (8388607 : Int64) = lN (m % 2 ^ 23) := wb_mask (n := m) (k := 23) hm (by omega)
  have e2 := wb_shl a (k := 52) (by omega)
  rw [show (nI 52 : Int32) = 52 from rfl] at e2
  have e3 := wb_shl (m % 2 ^ 23) (k := 29) (by omega)
  rw [show (nI 29 : Int32) = 29 from rfl] at e3
  have hm2 : m % 2 ^ 23 < 2 ^ 23 := Nat.mod_lt _ (by decide)
  rw [ha, nI_l (by omega), e1, e2, e3, Int64.or_assoc, g_or (k := 52) rfl (by omega) (by omega)]
theorem p2d (r : Nat) {a b : Nat} (h : b = a + 1) : r * 2 * 2 ^ a = r * 2 ^ b := by
  subst h
  rw [Nat.pow_succ, Nat.mul_assoc, Nat.mul_comm 2]
theorem s24 {n : Nat} (h : n ≤ 23) : 24 - n = 24 - (n + 1) + 1 := by omega
theorem e9t (r : Nat) (hw : wd r ≤ 23) : r * 2 * 2 ^ (24 - (wd r + 1)) = r * 2 ^ (24 - wd r) := p2d r (s24 hw)
theorem s24c {n k : Nat} (h : n ≤ 23) (h2 : 24 - n < k + 1) : 24 - (n + 1) < k := by omega
theorem s24f {n : Nat} {a b : Int} (h : n ≤ 23) (h2 : b = a - ((24 - n : Nat) : Int)) : b = (a - 1) - ((24 - (n + 1) : Nat) : Int) := by omega
theorem s24g {n : Nat} {a b : Int} (h2 : b = a - ((24 - n : Nat) : Int)) : b ≤ a := by omega
theorem wd_dbl {r : Nat} (h0 : r ≠ 0) : wd (r * 2) = wd r + 1 := by
  obtain ⟨w, ew, w1, w2⟩ := wd_b h0
  rw [ew]
  exact wd_eq (w := w + 1) (by rw [Nat.pow_succ]; omega) (by rw [Nat.pow_succ]; omega)
theorem wd_89 (x1 sg : Int64) : ∀ k r (bb bb' : Int32), r ≠ 0 → r < 2 ^ 24 → 24 - wd r < k → -1000 ≤ bb'.toInt → bb.toInt ≤ 1000 → bb'.toInt = bb.toInt - ((24 - wd r : Nat) : Int) → f_X3_wide_89 k x1 sg (lN r) bb = f_X3_wide_112 x1 sg (lN (r * 2 ^ (24 - wd r))) bb' := by
  intro k
  induction k with
  | zero => intro r bb bb' h0 h1 h2; exact absurd h2 (Nat.not_lt_zero _)
  | succ k ih =>
    intro r bb bb' h0 h1 h2 h3 h4 h5
    have ht : (lN r).toBitVec.toNat = r := wb_tn (by omega)
    have hb := mb_and_bit (lN r) (by rw [ht]; exact h1)
    rw [ht] at hb
    have h9 := s24g h5
    rw [f_X3_wide_89]
    by_cases c : r < 8388608
    · have hw : wd r ≤ 23 := wd_le (k := 23) c
      have hwd := wd_dbl h0
      rw [if_pos (hb.mpr c)]
      have e := wb_shl r (k := 1) (by decide)
      rw [show (nI 1 : Int32) = 1 from rfl, Nat.pow_one] at e
      have hm1 : (-1 : Int32).toInt = -1 := by decide
      have hbb : (bb + -1).toInt = bb.toInt - 1 := by
        clear ih h2 hw hwd h5 hb ht
        rw [i32_add (by rw [hm1]; omega) (by rw [hm1]; omega), hm1]; omega
      have q1 : r * 2 ≠ 0 := by clear ih h2 hw hwd h5 hb ht; omega
      have q2 : r * 2 < 2 ^ 24 := by clear ih h2 hw hwd h5 hb ht; omega
      have q5 : (bb + -1).toInt ≤ 1000 := by rw [hbb]; clear ih h2 hw hwd h5 hb ht; omega
      have I := ih (r * 2) (bb + -1) bb' q1 q2 (by rw [hwd]; exact s24c hw h2) h3 q5 (by rw [hbb, hwd]; exact s24f hw h5)
      rw [hwd, e9t r hw] at I
      rw [e, I]
    · have hw : wd r = 24 := by rw [wd_eq (w := 23) (by omega) (by omega)]
      rw [if_neg (fun q => c (hb.mp q))]
      rw [hw] at h5 ⊢
      have : bb' = bb := Int32.toInt_inj.mp (by rw [h5]; omega)
      rw [this, Nat.sub_self, Nat.pow_zero, Nat.mul_one]
/-- the class: a float's number rounded to double -/
theorem near_67 {w : Nat} (hw : w < 2 ^ 64) (h0 : fS 0 w ≠ 0) (hM : fM 0 w < pI 0) : f_X0_nearest 1 (lN (fS 0 w)) (f_X0_exponent 0 (lN w)) = lN ((fX 0 w + (wd (fS 0 w) : Int) + 1021).toNat * 2 ^ 52 + fS 0 w * 2 ^ (53 - wd (fS 0 w))) ∧ (fX 0 w + (wd (fS 0 w) : Int) + 1021).toNat * 2 ^ 52 + fS 0 w * 2 ^ (53 - wd (fS 0 w)) < pI 1 := by
  have eP : pP 0 = 24 := rfl
  have eI : pI 0 = 2139095040 := rfl
  have hF : fF 0 w < 2 ^ 23 := Nat.mod_lt _ (by decide)
  have hE : fE 0 w < 255 := by
    unfold fE
    rw [eP]
    rw [eI] at hM
    omega
  have hS : fS 0 w < 2 ^ 24 := by unfold fS; rw [eP]; split <;> omega
  have hwd := wd_le hS
  obtain ⟨v, ev, v1, v2⟩ := wd_b h0
  have hX : -149 ≤ fX 0 w ∧ fX 0 w ≤ 104 := by unfold fX; rw [show pL 0 = -149 from rfl]; split <;> omega
  have N := near (i := 1) (s := fS 0 w) (x2 := f_X0_exponent 0 (lN w)) (E := fX 0 w) (K := fX 0 w + (wd (fS 0 w) : Int) - 53) (R := fS 0 w * 2 ^ (53 - wd (fS 0 w))) (by omega) h0 (by omega) (f_exp (by omega) hw) (by omega) (by omega) (by rw [show pP 1 = 53 from rfl, show pL 1 = -1074 from rfl, if_neg (by omega)]; omega) (fun z hz => rd_neg (k := 53 - wd (fS 0 w)) (by omega) (by rw [hz]; omega))
  have q2 : fS 0 w * 2 ^ (53 - wd (fS 0 w)) < 2 ^ 53 := by
    have e2 : 2 ^ 53 = 2 ^ (v + 1) * 2 ^ (53 - wd (fS 0 w)) := by rw [← Nat.pow_add]; congr 1; omega
    rw [e2]
    exact Nat.mul_lt_mul_of_pos_right v2 (Nat.two_pow_pos _)
  have hlt : (fX 0 w + (wd (fS 0 w) : Int) + 1021).toNat * 2 ^ 52 + fS 0 w * 2 ^ (53 - wd (fS 0 w)) < pI 1 := by
    rw [show pI 1 = 9218868437227405312 from rfl]
    omega
  have e1 : (fX 0 w + (wd (fS 0 w) : Int) - 53 - pL 1).toNat = (fX 0 w + (wd (fS 0 w) : Int) + 1021).toNat := by rw [show pL 1 = -1074 from rfl]; congr 1; omega
  have hI1 : pI 1 < 2 ^ 63 := by decide
  rw [N, e1, show pP 1 - 1 = 52 from rfl, if_neg (by rw [lN_lt63 hI1 (by omega)]; omega)]
  exact ⟨rfl, hlt⟩
/-- the reference's number, without sign -/
theorem wd_73 (x1 sg : Int64) {w : Nat} (hw : w < 2 ^ 64) (h0 : fS 0 w ≠ 0) (hM : fM 0 w < pI 0) : f_X3_wide_73 x1 sg (nI (fE 0 w)) (lN (fF 0 w)) = sg ||| lN ((fX 0 w + (wd (fS 0 w) : Int) + 1021).toNat * 2 ^ 52 + fS 0 w * 2 ^ (53 - wd (fS 0 w))) := by
  have eP : pP 0 = 24 := rfl
  have eI : pI 0 = 2139095040 := rfl
  have hF : fF 0 w < 2 ^ 23 := Nat.mod_lt _ (by decide)
  have hE : fE 0 w < 255 := by
    unfold fE
    rw [eP]
    rw [eI] at hM
    omega
  unfold f_X3_wide_73
  by_cases c : fE 0 w = 0
  · have eS : fS 0 w = fF 0 w := by unfold fS; rw [if_pos c]
    have eX : fX 0 w = -149 := by unfold fX; rw [if_pos c]; rfl
    rw [eS] at h0 ⊢
    have hwd := wd_le hF
    obtain ⟨v, ev, v1, v2⟩ := wd_b h0
    rw [c, if_pos (show nI 0 = 0 from rfl)]
    have hm : (-126 : Int32).toInt = -126 := by decide
    have h1023 : (1023 : Int32).toInt = 1023 := by decide
    obtain ⟨bb', hbb⟩ : ∃ bb' : Int32, bb'.toInt = -126 - ((24 - wd (fF 0 w) : Nat) : Int) := by
      refine ⟨-126 - nI (24 - wd (fF 0 w)), ?_⟩
      have hn : (nI (24 - wd (fF 0 w))).toInt = ((24 - wd (fF 0 w) : Nat) : Int) := nI_toInt (by omega)
      rw [i32_sub (by rw [hm, hn]; omega) (by rw [hm, hn]; omega), hm, hn]
    rw [wd_89 x1 sg 24 (fF 0 w) (-126) bb' h0 (by omega) (by omega) (by rw [hbb]; omega) (by rw [hm]; omega) (by rw [hm]; exact hbb)]
    have q1 : 2 ^ 23 ≤ fF 0 w * 2 ^ (24 - wd (fF 0 w)) := by
      have e2 : 2 ^ 23 = 2 ^ v * 2 ^ (24 - wd (fF 0 w)) := by rw [← Nat.pow_add]; congr 1; omega
      rw [e2]
      exact Nat.mul_le_mul_right _ v1
    have q2 : fF 0 w * 2 ^ (24 - wd (fF 0 w)) < 2 ^ 24 := by
      have e2 : 2 ^ 24 = 2 ^ (v + 1) * 2 ^ (24 - wd (fF 0 w)) := by rw [← Nat.pow_add]; congr 1; omega
      rw [e2]
      exact Nat.mul_lt_mul_of_pos_right v2 (Nat.two_pow_pos _)
    have e53 : fF 0 w * 2 ^ (53 - wd (fF 0 w)) = fF 0 w * 2 ^ (24 - wd (fF 0 w)) * 2 ^ 29 := by
      rw [Nat.mul_assoc, ← Nat.pow_add]
      congr 2
      omega
    rw [wd_112 x1 sg (a := 873 + wd (fF 0 w)) (by
      apply i32_of (by omega)
      rw [i32_add (by rw [hbb, h1023]; omega) (by rw [hbb, h1023]; omega), hbb, h1023]
      omega) (by omega) (by omega), e53, eX]
    refine congrArg (fun z => sg ||| lN z) ?_
    have em : fF 0 w * 2 ^ (24 - wd (fF 0 w)) % 2 ^ 23 = fF 0 w * 2 ^ (24 - wd (fF 0 w)) - 2 ^ 23 := by omega
    rw [em]
    generalize fF 0 w * 2 ^ (24 - wd (fF 0 w)) = y at q1 q2 ⊢
    omega
  · have eS : fS 0 w = fF 0 w + 2 ^ 23 := by unfold fS; rw [if_neg c]; rfl
    have eX : fX 0 w = (fE 0 w : Int) - 150 := by unfold fX; rw [if_neg c, show pL 0 = -149 from rfl]; omega
    have hn0 : ¬ nI (fE 0 w) = 0 := by rw [show (0 : Int32) = nI 0 from rfl, nI_eq (by omega) (by omega)]; exact c
    have hwd : wd (fS 0 w) = 24 := by rw [eS]; exact wd_eq (w := 23) (by omega) (by omega)
    rw [if_neg hn0]
    have h127 : (127 : Int32).toInt = 127 := by decide
    have h1023 : (1023 : Int32).toInt = 1023 := by decide
    have hn : (nI (fE 0 w)).toInt = (fE 0 w : Int) := nI_toInt (by omega)
    have hd : (nI (fE 0 w) - 127).toInt = (fE 0 w : Int) - 127 := by rw [i32_sub (by rw [hn, h127]; omega) (by rw [hn, h127]; omega), hn, h127]
    rw [wd_112 x1 sg (a := fE 0 w + 896) (by
      apply i32_of (by omega)
      rw [i32_add (by rw [hd, h1023]; omega) (by rw [hd, h1023]; omega), hd, h1023]
      omega) (by omega) (by omega), hwd, eX, eS]
    refine congrArg (fun z => sg ||| lN z) ?_
    rw [Nat.mod_eq_of_lt hF]
    omega
/-- float to double, on both sides -/
theorem form_67 {w : Nat} (hw : w < 2 ^ 64) (h : fok 0 w) : f_X0_fromFormat 1 0 (lN w) = f_X3_wide (lN w) := by
  have eP : pP 0 = 24 := rfl
  have eI : pI 0 = 2139095040 := rfl
  have hM63 := fM_63 (i := 0) (by omega) w
  have hMB : fM 0 w < 2 ^ 31 := fM_lt 0 w
  have hF : fF 0 w < 2 ^ 23 := Nat.mod_lt _ (by decide)
  have hE : fE 0 w < 256 := by
    unfold fE
    rw [eP]
    omega
  have eM : fM 0 w = fE 0 w * 2 ^ 23 + fF 0 w := by
    have := Nat.div_add_mod (fM 0 w) (2 ^ 23)
    rw [Nat.mul_comm] at this
    exact this.symm
  have em : lN w &&& (8388607 : Int64) = lN (fF 0 w) := by
    have e1 : lN w &&& (8388607 : Int64) = lN (w % 2 ^ 23) := wb_mask (n := w) (k := 23) hw (by omega)
    rw [e1]
    congr 1
    show w % 2 ^ 23 = w % 2 ^ 31 % 2 ^ 23
    omega
  have W : f_X3_wide (lN w) = f_X3_wide_13 (lN w) (if (0 : Int64) ≤ lN w then 0 else -9223372036854775808) := by
    unfold f_X3_wide
    by_cases q : (0 : Int64) ≤ lN w
    · rw [if_pos q, if_pos q]
    · rw [if_neg q, if_neg q]
  have S : ∀ x : Int64, f_X0_withSign 1 (if (0 : Int64) ≤ lN w then 0 else 1) x = (if (0 : Int64) ≤ lN w then (0 : Int64) else -9223372036854775808) ||| x := by
    intro x
    unfold f_X0_withSign
    by_cases q : (0 : Int64) ≤ lN w
    · rw [if_pos q, if_pos q, if_pos rfl, or_0l]
    · rw [if_neg q, if_neg q, if_neg pu10, Int64.or_comm]
      rfl
  have C : f_X0_fromFormat 1 0 (lN w) = if lN (fM 0 w) ≤ lN (pI 0) then (if lN (fM 0 w) = lN (pI 0) then f_X0_withSign 1 (if (0 : Int64) ≤ lN w then 0 else 1) (fm_inf 1) else f_X0_withSign 1 (if (0 : Int64) ≤ lN w then 0 else 1) (f_X0_nearest 1 (lN (fS 0 w)) (f_X0_exponent 0 (lN w)))) else fm_nan 1 := by
    unfold f_X0_fromFormat
    rw [f_wo (by omega) hw, f_sig (by omega) hw, show fm_inf 0 = lN (pI 0) from rfl]
    by_cases q : (0 : Int64) ≤ lN w
    · simp only [if_pos q]
    · simp only [if_neg q]
  rw [C, W]
  simp only [S]
  generalize (if (0 : Int64) ≤ lN w then (0 : Int64) else -9223372036854775808) = sg
  have e1 : lN (fM 0 w) ≤ lN (pI 0) ↔ fM 0 w ≤ pI 0 := lN_le63 hM63 (by decide)
  have e2 : lN (fM 0 w) = lN (pI 0) ↔ fM 0 w = pI 0 := lN_eq64 (by omega) (by decide)
  unfold f_X3_wide_13
  rw [wd_e, em]
  have n255 : nI (fE 0 w) = 255 ↔ fE 0 w = 255 := nI_eq (b := 255) (by omega) (by omega)
  have n0 : nI (fE 0 w) = 0 ↔ fE 0 w = 0 := nI_eq (b := 0) (by omega) (by omega)
  have f0 : lN (fF 0 w) = 0 ↔ fF 0 w = 0 := lN_eq64 (b := 0) (by omega) (by omega)
  by_cases c : fE 0 w = 255
  · rw [if_pos (n255.mpr c)]
    by_cases d : fF 0 w = 0
    · have q : fM 0 w = pI 0 := by rw [eM, c, d, eI]
      rw [if_pos (f0.mpr d), if_pos (e1.mpr (by omega)), if_pos (e2.mpr q)]
      rfl
    · have q : ¬ fM 0 w ≤ pI 0 := by rw [eM, c, eI]; omega
      rw [if_neg (fun x => d (f0.mp x)), if_neg (fun x => q (e1.mp x))]
      rfl
  · have q : fM 0 w < pI 0 := by rw [eI]; omega
    rw [if_neg (fun x => c (n255.mp x)), if_pos (e1.mpr (by omega)), if_neg (fun x => by have := e2.mp x; omega)]
    by_cases z : fS 0 w = 0
    · have z1 : fE 0 w = 0 := by
        apply Classical.byContradiction
        intro y
        unfold fS at z
        rw [if_neg y] at z
        have := Nat.two_pow_pos (pP 0 - 1)
        omega
      have z2 : fF 0 w = 0 := by
        unfold fS at z
        rw [if_pos z1] at z
        exact z
      rw [if_pos (n0.mpr z1), if_pos (f0.mpr z2), z]
      unfold f_X0_nearest
      rw [if_pos (show lN 0 = 0 from rfl), or_0r]
    · obtain ⟨a1, -⟩ := near_67 hw z q
      rw [a1]
      have R := wd_73 (lN w) sg hw z q
      by_cases z1 : fE 0 w = 0
      · have z2 : ¬ fF 0 w = 0 := by
          intro y
          apply z
          unfold fS
          rw [if_pos z1]
          exact y
        rw [if_pos (n0.mpr z1), if_neg (fun x => z2 (f0.mp x)), R]
      · rw [if_neg (fun x => z1 (n0.mp x)), R]

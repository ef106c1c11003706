theorem lN_neg {w : Nat} (h0 : w ≠ 0) (hw : w < 2 ^ 64) : -(lN w) = lN (2 ^ 64 - w) := by
  apply wb_inj
  rw [Int64.toBitVec_neg, wb_tb, wb_tb]
  apply BitVec.eq_of_toNat_eq
  rw [BitVec.toNat_neg, BitVec.toNat_ofNat, BitVec.toNat_ofNat, Nat.mod_eq_of_lt hw]
theorem or_0l (x : Int64) : (0 : Int64) ||| x = x := by
  apply Int64.toBitVec_inj.mp
  rw [Int64.toBitVec_or]
  simp
theorem pI_B {i : Nat} (hi : i < 2) : pI i < 2 ^ pB i := (pD hi).2.2.2.2.2.1
/-- a whole number in a format, on both sides -/
theorem from_l {i : Nat} (hi : i < 2) (v : Int64) : f_X0_fromLong i v = f_X3_real v (nI (pP i)) (nI (pBias i)) (fm_sign i) ∧ ∃ X, X < 2 ^ pB i ∧ (f_X0_fromLong i v = lN X ∨ f_X0_fromLong i v = lN (X + (2 ^ (64 - pB i) - 1) * 2 ^ pB i)) := by
  obtain ⟨w, hw, rfl⟩ := wb_of v
  have hP : 24 ≤ pP i ∧ pP i ≤ 53 := by unfold pP; split <;> omega
  have hB : 1 ≤ pBias i ∧ pBias i ≤ 1023 := by unfold pBias; split <;> omega
  unfold f_X0_fromLong f_X3_real
  by_cases h0 : w = 0
  · subst h0
    have hn : f_X0_withSign i 0 (f_X0_nearest i (lN 0) 0) = lN 0 := by
      unfold f_X0_withSign f_X0_nearest
      rw [if_pos rfl, if_pos (show lN 0 = 0 from rfl)]
      rfl
    rw [if_pos (show (0 : Int64) ≤ lN 0 by decide), if_pos rfl, if_pos (show lN 0 = 0 from rfl), hn]
    exact ⟨rfl, 0, Nat.two_pow_pos _, Or.inl rfl⟩
  · have nz : ¬ lN w = 0 := fun q => h0 ((lN_eq64 (b := 0) hw (by omega)).mp q)
    rw [if_neg nz]
    by_cases c : w < 2 ^ 63
    · have nn := (f_nn hw).mpr c
      obtain ⟨n1, n2⟩ := near_l hi h0 hw
      have hPw : wd w - pP i ≤ 60 := by have := wd_le hw; omega
      rw [if_pos nn, if_pos rfl, if_pos nn, rl_20 (lN w) (fm_sign i) (by omega) hP.2 hB.1 hB.2 h0 hw hPw, if_pos nn, or_0l, n1]
      unfold f_X0_withSign
      rw [if_pos rfl]
      exact ⟨rfl, _, Nat.lt_trans n2 (pI_B hi), Or.inl rfl⟩
    · have nn : ¬ (0 : Int64) ≤ lN w := fun q => c ((f_nn hw).mp q)
      have hm0 : 2 ^ 64 - w ≠ 0 := by omega
      have hm : 2 ^ 64 - w < 2 ^ 64 := by omega
      obtain ⟨n1, n2⟩ := near_l hi hm0 hm
      have hPw : wd (2 ^ 64 - w) - pP i ≤ 60 := by have := wd_le hm; omega
      rw [if_neg nn, if_neg pu10, if_neg nn, lN_neg h0 hw, rl_20 (lN w) (fm_sign i) (by omega) hP.2 hB.1 hB.2 hm0 hm hPw, if_neg nn, n1]
      refine ⟨?_, _, Nat.lt_trans n2 (pI_B hi), Or.inr (f_sgn hi (Nat.lt_trans n2 (pI_B hi)))⟩
      unfold f_X0_withSign
      rw [if_neg pu10, Int64.or_comm]
theorem fit32 {x : Int64} (h1 : -2147483648 ≤ x.toInt) (h2 : x.toInt ≤ 2147483647) : (x.toInt32).toInt64 = x := by
  apply Int64.toInt_inj.mp
  rw [Int32.toInt_toInt64, Int64.toInt_toInt32, Int.bmod_eq_of_le (by omega) (by omega)]
/-- to float: an int holds it -/
theorem from_l6 (v : Int64) : f_X0_fromLong 0 v = ((f_X3_real v (24 : Int32) (127 : Int32) (-2147483648 : Int64)).toInt32).toInt64 := by
  obtain ⟨h1, X, h2, h3⟩ := from_l (i := 0) (by omega) v
  have e : f_X3_real v (nI (pP 0)) (nI (pBias 0)) (fm_sign 0) = f_X3_real v (24 : Int32) (127 : Int32) (-2147483648 : Int64) := rfl
  rw [e] at h1
  rw [← h1]
  have eB : 2 ^ pB 0 = 2147483648 := by decide +kernel
  have eS : (2 ^ (64 - pB 0) - 1) * 2 ^ pB 0 = 18446744071562067968 := by decide +kernel
  rw [eB] at h2
  rw [eS] at h3
  rcases h3 with h3 | h3
  · rw [h3, fit32 (by rw [lN63 (by omega)]; omega) (by rw [lN63 (by omega)]; omega)]
  · rw [h3, fit32 (by rw [lN_neg63 (by omega) (by omega)]; omega) (by rw [lN_neg63 (by omega) (by omega)]; omega)]
theorem from_l7 (v : Int64) : f_X0_fromLong 1 v = f_X3_real v (53 : Int32) (1023 : Int32) (-9223372036854775808 : Int64) := (from_l (i := 1) (by omega) v).1
/-! whole numbers to whole numbers -/
theorem low_cut (v : Int64) {j : Nat} (hj : 1 ≤ j) (hj5 : j ≤ 5) : f_X2_lowestBits v (nI j) = f_X3_cutTo (nI j) v := by
  rcases (show j = 1 ∨ j = 2 ∨ j = 3 ∨ j = 4 ∨ j = 5 by omega) with rfl | rfl | rfl | rfl | rfl
  · unfold f_X2_lowestBits f_X3_cutTo
    rw [if_pos (show (nI 1 : Int32) = 1 from rfl), if_pos (show (nI 1 : Int32) = 1 from rfl)]
    obtain ⟨w, hw, rfl⟩ := wb_of v
    have e : lN w &&& (65535 : Int64) = lN (w % 2 ^ 16) := wb_mask (n := w) (k := 16) hw (by omega)
    rw [e, lN_i]
    have e2 : ((nI w).toUInt32 % 65536).toInt32 = nI (w % 2 ^ 16) := by
      apply Int32.toBitVec_inj.mp
      apply BitVec.eq_of_toNat_eq
      show ((nI w).toUInt32 % 65536).toNat = (BitVec.ofNat 32 (w % 2 ^ 16)).toNat
      rw [UInt32.toNat_mod, BitVec.toNat_ofNat]
      have h1 : (nI w).toUInt32.toNat = w % 2 ^ 32 := by
        show (BitVec.ofNat 32 w).toNat = _
        rw [BitVec.toNat_ofNat]
      have h2 : (65536 : UInt32).toNat = 65536 := rfl
      rw [h1, h2]
      omega
    rw [e2, nI_l (by omega)]
  · rfl
  · rfl
  · rfl
  · rfl
/-- what fits stays -/
theorem low_fit (v : Int64) {j : Nat} (hj : 1 ≤ j) (hj5 : j ≤ 5) (h : ¬ f_X2_areBitsOf v (nI j) = 0) : f_X2_lowestBits v (nI j) = v := by
  have B : ∀ (L G : Int64), st_L (nI j).toNatClampNeg = L → st_G (nI j).toNatClampNeg = G → L.toInt ≤ v.toInt ∧ v.toInt ≤ G.toInt := by
    intro L G hL hG
    unfold f_X2_areBitsOf at h
    rw [hL, hG] at h
    have c1 : ¬ v < L := fun q => h (by rw [if_pos q])
    have c2 : ¬ G < v := fun q => h (by rw [if_neg c1, if_pos q])
    rw [Int64.lt_iff_toInt_lt] at c1 c2
    omega
  rcases (show j = 1 ∨ j = 2 ∨ j = 3 ∨ j = 4 ∨ j = 5 by omega) with rfl | rfl | rfl | rfl | rfl
  · obtain ⟨b1, b2⟩ := B 0 65535 rfl rfl
    have z0 : (0 : Int64).toInt = 0 := rfl
    have z1 : (65535 : Int64).toInt = 65535 := by decide
    rw [low_cut v (by omega) (by omega)]
    unfold f_X3_cutTo
    rw [if_pos (show (nI 1 : Int32) = 1 from rfl)]
    obtain ⟨w, hw, rfl⟩ := wb_of v
    have e : lN w &&& (65535 : Int64) = lN (w % 2 ^ 16) := wb_mask (n := w) (k := 16) hw (by omega)
    rw [z0] at b1
    rw [z1] at b2
    have c : w < 2 ^ 63 := by
      apply Classical.byContradiction
      intro q
      rw [lN_neg63 (by omega) hw] at b1
      omega
    rw [lN63 c] at b2
    rw [e, Nat.mod_eq_of_lt (by omega)]
  · obtain ⟨b1, b2⟩ := B (-128) 127 rfl rfl
    have z0 : (-128 : Int64).toInt = -128 := by decide
    have z1 : (127 : Int64).toInt = 127 := by decide
    rw [z0] at b1
    rw [z1] at b2
    show v.toInt32.toInt8.toInt32.toInt64 = v
    apply Int64.toInt_inj.mp
    rw [Int32.toInt_toInt64, Int8.toInt_toInt32, Int32.toInt_toInt8, Int64.toInt_toInt32, Int.bmod_eq_of_le (n := v.toInt) (by omega) (by omega), Int.bmod_eq_of_le (by omega) (by omega)]
  · obtain ⟨b1, b2⟩ := B (-32768) 32767 rfl rfl
    have z0 : (-32768 : Int64).toInt = -32768 := by decide
    have z1 : (32767 : Int64).toInt = 32767 := by decide
    rw [z0] at b1
    rw [z1] at b2
    show v.toInt32.toInt16.toInt32.toInt64 = v
    apply Int64.toInt_inj.mp
    rw [Int32.toInt_toInt64, Int16.toInt_toInt32, Int32.toInt_toInt16, Int64.toInt_toInt32, Int.bmod_eq_of_le (n := v.toInt) (by omega) (by omega), Int.bmod_eq_of_le (by omega) (by omega)]
  · obtain ⟨b1, b2⟩ := B (-2147483648) 2147483647 rfl rfl
    have z0 : (-2147483648 : Int64).toInt = -2147483648 := by decide
    have z1 : (2147483647 : Int64).toInt = 2147483647 := by decide
    rw [z0] at b1
    rw [z1] at b2
    show v.toInt32.toInt64 = v
    exact fit32 b1 b2
  · rfl

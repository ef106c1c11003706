/-! pure: box -/
theorem pu_isb (v : Int64) : ∀ j, j < 8 → f_X2_areBitsOf v (nI j) = f_X3_isBits (nI j) v := by
  intro j hj
  rcases (show j = 0 ∨ (1 ≤ j ∧ j ≤ 5) ∨ j = 6 ∨ j = 7 by omega) with rfl | ⟨h1, h2⟩ | rfl | rfl
  · unfold f_X2_areBitsOf f_X3_isBits
    rw [show st_L (nI 0).toNatClampNeg = 0 from rfl, show st_G (nI 0).toNatClampNeg = 1 from rfl, if_pos (show (nI 0 : Int32) = 0 from rfl)]
    have z0 : (0 : Int64).toInt = 0 := rfl
    have z1 : (1 : Int64).toInt = 1 := rfl
    by_cases a : v = 0
    · subst a; rfl
    · by_cases b : v = 1
      · subst b; rfl
      · rw [if_neg a, if_neg b]
        by_cases c : v < 0
        · rw [if_pos c]
        · rw [if_neg c, if_pos]
          rw [Int64.lt_iff_toInt_lt, z1]
          rw [Int64.lt_iff_toInt_lt, z0] at c
          have n0 : v.toInt ≠ 0 := fun q => a (Int64.toInt_inj.mp (by rw [q, z0]))
          have n1 : v.toInt ≠ 1 := fun q => b (Int64.toInt_inj.mp (by rw [q, z1]))
          omega
  · rw [pu_abits v j h1 h2]
    have : ∀ j, j < 6 → (decide (j < 1) || (!decide (nI j = 0) && (!decide (nI j = 6) && !decide (nI j = 7)))) = true := by decide +kernel
    have := this j (by omega)
    simp only [Bool.or_eq_true, decide_eq_true_eq, Bool.and_eq_true, Bool.not_eq_true', decide_eq_false_iff_not] at this
    have := this.resolve_left (by omega)
    unfold f_X3_isBits
    rw [if_neg this.1, if_neg this.2.1, if_neg this.2.2]
  · rfl
  · unfold f_X2_areBitsOf
    rw [show st_L (nI 7).toNatClampNeg = -9223372036854775808 from rfl, show st_G (nI 7).toNatClampNeg = 9223372036854775807 from rfl, if_neg (pu_mn v), if_neg (pu_mx v)]
    rfl
theorem fok_6 {w : Nat} (hw : w < 2 ^ 64) (h : ¬ f_X2_areBitsOf (lN w) 6 = 0) : fok 0 w := by
  unfold f_X2_areBitsOf at h
  rw [show st_L (6 : Int32).toNatClampNeg = -2147483648 from rfl, show st_G (6 : Int32).toNatClampNeg = 2147483647 from rfl] at h
  have z0 : (-2147483648 : Int64).toInt = -2147483648 := by decide
  have z1 : (2147483647 : Int64).toInt = 2147483647 := by decide
  have c1 : ¬ lN w < -2147483648 := fun q => h (by rw [if_pos q])
  have c2 : ¬ 2147483647 < lN w := fun q => h (by rw [if_neg c1, if_pos q])
  rw [Int64.lt_iff_toInt_lt, z0] at c1
  rw [Int64.lt_iff_toInt_lt, z1] at c2
  have e : (2 ^ (64 - pB 0) - 1) * 2 ^ pB 0 = 18446744071562067968 := by decide +kernel
  have eB : 2 ^ pB 0 = 2147483648 := by decide +kernel
  unfold fok
  rw [e, eB]
  by_cases c : w < 2 ^ 63
  · rw [lN63 c] at c2
    exact Or.inl (by omega)
  · rw [lN_neg63 (by omega) hw] at c1
    exact Or.inr ⟨w - 18446744071562067968, by omega, by omega⟩
theorem fok_7 {w : Nat} (hw : w < 2 ^ 64) : fok 1 w := by
  have e : (2 ^ (64 - pB 1) - 1) * 2 ^ pB 1 = 9223372036854775808 := by decide +kernel
  have eB : 2 ^ pB 1 = 9223372036854775808 := by decide +kernel
  unfold fok
  rw [e, eB]
  by_cases c : w < 2 ^ 63
  · exact Or.inl (by omega)
  · exact Or.inr ⟨w - 9223372036854775808, by omega, by omega⟩
theorem one_6 {w : Nat} (hw : w < 2 ^ 64) (h : fok 0 w) : f_X0_fromFormat 0 0 (lN w) = f_X3_one 6 (lN w) := by
  rw [form_same (by omega) hw h]
  unfold f_X3_one
  rw [if_pos rfl, if_neg (show ¬ (6 : Int32) = 7 by decide)]
  have e : lN w &&& (2147483647 : Int64) = lN (fM 0 w) := wb_mask (n := w) (k := 31) hw (by omega)
  have hM := fM_63 (i := 0) (by omega) w
  rw [e, show (2139095040 : Int64) = lN (pI 0) from rfl, show (2143289344 : Int64) = fm_nan 0 from rfl]
  have e1 : lN (fM 0 w) ≤ lN (pI 0) ↔ fM 0 w ≤ pI 0 := lN_le63 hM (by decide)
  by_cases a : fM 0 w ≤ pI 0
  · rw [if_pos a, if_pos (e1.mpr a)]
  · rw [if_neg a, if_neg (fun q => a (e1.mp q))]
theorem one_7 {w : Nat} (hw : w < 2 ^ 64) : f_X0_fromFormat 1 1 (lN w) = f_X3_one 7 (lN w) := by
  rw [form_same (by omega) hw (fok_7 hw)]
  unfold f_X3_one
  rw [if_neg (show ¬ (7 : Int32) = 6 by decide), if_pos rfl]
  have e : lN w &&& (9223372036854775807 : Int64) = lN (fM 1 w) := wb_mask (n := w) (k := 63) hw (by omega)
  have hM := fM_63 (i := 1) (by omega) w
  rw [e, show (9218868437227405312 : Int64) = lN (pI 1) from rfl, show (9221120237041090560 : Int64) = fm_nan 1 from rfl]
  have e1 : lN (fM 1 w) ≤ lN (pI 1) ↔ fM 1 w ≤ pI 1 := lN_le63 hM (by decide)
  by_cases a : fM 1 w ≤ pI 1
  · rw [if_pos a, if_pos (e1.mpr a)]
  · rw [if_neg a, if_neg (fun q => a (e1.mp q))]
theorem pu_one (v : Int64) {j : Nat} (hj : j < 8) (h : ¬ f_X2_areBitsOf v (nI j) = 0) : f_X2_withOneNaN (nI j) v = f_X3_one (nI j) v := by
  obtain ⟨w, hw, rfl⟩ := wb_of v
  unfold f_X2_withOneNaN
  rcases (show j < 6 ∨ j = 6 ∨ j = 7 by omega) with h6 | rfl | rfl
  · have : ∀ j, j < 6 → ¬ (6 : Int32) ≤ nI j ∧ ¬ nI j = 6 ∧ ¬ nI j = 7 := by decide +kernel
    obtain ⟨a, b, c⟩ := this j h6
    unfold f_X3_one
    rw [if_neg a, if_neg b, if_neg c]
  · rw [if_pos (by decide)]
    exact one_6 hw (fok_6 hw h)
  · rw [if_pos (by decide)]
    exact one_7 hw
theorem pu_bx : ∀ j, j < 40 → (decide (f_X2_isBox (nI j) = 0 ∧ f_X3_isBox (nI j) = 0) || (decide (8 ≤ j) && (decide (j < 16) && (decide (f_X2_isBox (nI j) = 1) && (decide (f_X3_isBox (nI j) = 1) && (decide (f_X2_withoutBox (nI j) = nI (j - 8)) && decide (nI j - 8 = nI (j - 8)))))))) = true := by decide +kernel
theorem pe_box {so : Nat → Int32} {fi : Nat → Int32} {el : Nat → Int32} {ab : Nat → Int64} {sz : Int32} {ot : Nat → Int32} {ob : Nat → Int64} {oc : Int32} {th : Int32} {ro : Nat → Int32} {rf : Nat → Int32} {re : Nat → Int32} {av : Nat → Int32} {un : Nat → Int32} {ty : Int32} {kp : Nat → Int32} {bt : Nat → Int64} {rk : Int32} (hI : Inv (so, fi, el, ab, sz, ot, ob, oc) (th, ro, rf, re, av, un, ty, kp, bt, rk)) (x1 : Int32) (x2 : Int64) : (f_X2_box so fi el ab sz ot ob oc x1 x2).1 = (f_X3_box th ro rf re av un ty kp bt rk x1 x2).1 ∧ Inv (f_X2_box so fi el ab sz ot ob oc x1 x2).2 ((f_X3_box th ro rf re av un ty kp bt rk x1 x2).2.1, ro, rf, re, av, un, ty, (f_X3_box th ro rf re av un ty kp bt rk x1 x2).2.2.1, (f_X3_box th ro rf re av un ty kp bt rk x1 x2).2.2.2.1, (f_X3_box th ro rf re av un ty kp bt rk x1 x2).2.2.2.2) := by
  obtain ⟨n, m, g1, g2, g3, g4, g5⟩ := hI
  have h1 : sz = nI n := g1
  have h2 : ty = nI n := g2
  have h3 : oc = nI m := g3
  have h4 : rk = nI m := g4
  have hJ : jv n m so fi el ab ot ob ro rf re av un kp bt := g5
  clear g1 g2 g3 g4 g5
  subst h1 h2 h3 h4
  obtain ⟨hs, he, ha, hb, ho, hf⟩ := hJ
  have hn := hs.1
  have hm := ho.1
  have I0 : Inv (so, fi, el, ab, nI n, ot, ob, nI m) (0, ro, rf, re, av, un, nI n, kp, bt, nI m) := ⟨n, m, rfl, rfl, rfl, rfl, hs, he, ha, hb, ho, hf⟩
  unfold f_X2_box f_X3_box f_X2_isFullOfObjects f_X2_addObject f_X3_keep
  rcases pu_has (by omega) so fi el ab ro rf re av un kp bt (nI m) (n := n) x1 with ⟨h1, h2⟩ | ⟨i, hi, rfl, h1, h2⟩
  · rw [if_pos h1, if_pos h2]
    exact ⟨rfl, I0⟩
  · rw [h1, h2, if_neg pu10, if_neg pu10]
    have B := pu_bx i (by omega)
    simp only [Bool.or_eq_true, decide_eq_true_eq, Bool.and_eq_true] at B
    rcases B with ⟨b1, b2⟩ | ⟨i8, i16, b1, b2, b3, b4⟩
    · rw [if_pos b1, if_pos b2]
      exact ⟨rfl, I0⟩
    · rw [b1, b2, if_neg pu10, if_neg pu10, b3, b4, ← pu_isb x2 (i - 8) (by omega)]
      by_cases c : f_X2_areBitsOf x2 (nI (i - 8)) = 0
      · rw [if_pos c, if_pos c]
        exact ⟨rfl, I0⟩
      · rw [if_neg c, if_neg c, pu_one x2 (by omega) c]
        rcases pu_full hm with ⟨f1, f2, f3⟩ | ⟨f1, f2, f3⟩
        · rw [if_neg f2, if_neg pu10, if_pos f1]
          exact ⟨rfl, I0⟩
        · rw [if_pos f2, if_pos rfl, if_neg f1]
          have e3 := pu_addobj ho f3 hi i8 (f_X3_one (nI (i - 8)) x2)
          refine ⟨?_, n, m + 1, rfl, rfl, nI_1 m, nI_1 m, hs, he, ha, hb, ?_, hf⟩
          · show nI m = nI m + 1 - 1
            rw [nI_1, nI_pred]
          · show jv_o n (m + 1) (upd ot (nI m).toNatClampNeg (nI i)) (vp_updL ob (nI m).toNatClampNeg (f_X3_one (nI (i - 8)) x2)) (upd kp (nI m).toNatClampNeg (nI i)) (vp_updL bt (nI m).toNatClampNeg (f_X3_one (nI (i - 8)) x2))
            rw [nI_clamp (by omega)]
            exact e3

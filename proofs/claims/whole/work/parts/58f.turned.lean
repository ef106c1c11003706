/-! pure: turned -/
theorem sh_scale (s k : Nat) (E : Int) : sh (s * 2 ^ k) (E - (k : Int)) = sh s E := by
  unfold sh
  by_cases a : 0 ≤ E - (k : Int)
  · rw [if_pos a, if_pos (by omega), Nat.mul_assoc, ← Nat.pow_add, show k + (E - (k : Int)).toNat = E.toNat by omega]
  · rw [if_neg a]
    by_cases b : 0 ≤ E
    · rw [if_pos b, show k = E.toNat + (-(E - (k : Int))).toNat by omega, Nat.pow_add, ← Nat.mul_assoc]
      have e : (-(E - ((E.toNat + (-(E - (k : Int))).toNat : Nat) : Int))).toNat = (-(E - (k : Int))).toNat := by omega
      rw [e, Nat.mul_div_cancel _ (Nat.two_pow_pos _)]
    · rw [if_neg b, show (-(E - (k : Int))).toNat = (-E).toNat + k by omega, Nat.pow_add, Nat.mul_div_mul_right _ _ (Nat.two_pow_pos k)]
theorem tl_c : f_X0_toLong 1 (fm_nan 1) = 0 ∧ f_X0_toLong 1 (0 ||| fm_inf 1) = 9223372036854775807 ∧ f_X0_toLong 1 (-9223372036854775808 ||| fm_inf 1) = -9223372036854775808 ∧ f_X0_toLong 1 (0 ||| 0) = 0 ∧ f_X0_toLong 1 (-9223372036854775808 ||| 0) = 0 := by decide +kernel
/-- a number of the double format, put together -/
theorem tl_V {q y w2 : Nat} (hw2 : w2 < 2 ^ 64) (hM : fM 1 w2 = q * 2 ^ 52 + y) (h1 : 2 ^ 52 ≤ y) (h2 : y < 2 ^ 53) (hV : q * 2 ^ 52 + y < pI 1) : f_X0_toLong 1 (lN w2) = if (q : Int) - 1074 + 53 ≤ 63 then (if (0 : Int64) ≤ lN w2 then lN (sh y ((q : Int) - 1074)) else -(lN (sh y ((q : Int) - 1074)))) else (if (0 : Int64) ≤ lN w2 then 9223372036854775807 else -9223372036854775808) := by
  have eE : fE 1 w2 = q + 1 := by
    show fM 1 w2 / 2 ^ 52 = q + 1
    rw [hM]; omega
  have eF : fF 1 w2 = y - 2 ^ 52 := by
    show fM 1 w2 % 2 ^ 52 = y - 2 ^ 52
    rw [hM]; omega
  have eS : fS 1 w2 = y := by unfold fS; rw [eE, if_neg (by omega), eF, show pP 1 - 1 = 52 from rfl]; omega
  have eX : fX 1 w2 = (q : Int) - 1074 := by unfold fX; rw [eE, if_neg (by omega), show pL 1 = -1074 from rfl]; omega
  have hwd : wd y = 53 := wd_eq (w := 52) h1 h2
  rw [toL (by omega) hw2, if_pos (by rw [hM]; omega), eS, eX, hwd]
  rfl
theorem V63a {V : Nat} (h : V < 2 ^ 63) : V < 2 ^ 64 := by omega
theorem V63b {V : Nat} (h : V < 2 ^ 63) : V + 9223372036854775808 < 2 ^ 64 := by omega
theorem V63c {V : Nat} (h : V < 2 ^ 63) : (-9223372036854775808 : Int64) ||| lN V = lN (V + 9223372036854775808) := by
  rw [Int64.or_comm]
  have := g_or' (k := 63) (p := 2 ^ 63) (a := V) (b := 1) rfl h (by omega)
  rw [Nat.one_mul] at this
  exact this
theorem V63d {V : Nat} (h : V < 2 ^ 63) : fM 1 (V + 9223372036854775808) = V := by
  show (V + 9223372036854775808) % 2 ^ 63 = V
  omega
theorem V63e {V : Nat} (h : V < 2 ^ 63) : ¬ (0 : Int64) ≤ lN (V + 9223372036854775808) := fun x => by
  have := (f_nn (V63b h)).mp x
  omega
/-- from a float: by way of double, or at once -/
theorem tl_67 {w : Nat} (hw : w < 2 ^ 64) (h : fok 0 w) : f_X0_toLong 0 (lN w) = f_X0_toLong 1 (f_X3_wide (lN w)) := by
  have eP : pP 0 = 24 := rfl
  have eI : pI 0 = 2139095040 := rfl
  have hM63 := fM_63 (i := 0) (by omega) w
  rw [← form_67 hw h]
  have S : ∀ x : Int64, f_X0_withSign 1 (if (0 : Int64) ≤ lN w then 0 else 1) x = (if (0 : Int64) ≤ lN w then (0 : Int64) else -9223372036854775808) ||| x := by
    intro x
    unfold f_X0_withSign
    by_cases q : (0 : Int64) ≤ lN w
    · rw [if_pos q, if_pos q, if_pos rfl, or_0l]
    · rw [if_neg q, if_neg q, if_neg pu10, Int64.or_comm]
      rfl
  have C : f_X0_fromFormat 1 0 (lN w) = if lN (fM 0 w) ≤ lN (pI 0) then (if lN (fM 0 w) = lN (pI 0) then f_X0_withSign 1 (if (0 : Int64) ≤ lN w then 0 else 1) (fm_inf 1) else f_X0_withSign 1 (if (0 : Int64) ≤ lN w then 0 else 1) (f_X0_nearest 1 (lN (fS 0 w)) (f_X0_exponent 0 (lN w)))) else fm_nan 1 := by
    unfold f_X0_fromFormat
    rw [f_wo (by omega) hw, f_sig (by omega) hw, show fm_inf 0 = lN (pI 0) from rfl]
    by_cases q : (0 : Int64) ≤ lN w
    · simp only [if_pos q]
    · simp only [if_neg q]
  rw [C]
  simp only [S]
  have e1 : lN (fM 0 w) ≤ lN (pI 0) ↔ fM 0 w ≤ pI 0 := lN_le63 hM63 (by decide)
  have e2 : lN (fM 0 w) = lN (pI 0) ↔ fM 0 w = pI 0 := lN_eq64 (by omega) (by decide)
  obtain ⟨t1, t2, t3, t4, t5⟩ := tl_c
  rw [toL (by omega) hw]
  by_cases a : fM 0 w ≤ pI 0
  · rw [if_pos a, if_pos (e1.mpr a)]
    by_cases b : fM 0 w = pI 0
    · rw [if_pos (e2.mpr b)]
      have b1 : fE 0 w = 255 := by
        show fM 0 w / 2 ^ 23 = 255
        rw [b, eI]
      have b2 : fF 0 w = 0 := by
        show fM 0 w % 2 ^ 23 = 0
        rw [b, eI]
      have eS : fS 0 w = 2 ^ 23 := by unfold fS; rw [b1, if_neg (by omega), b2]; rfl
      have eX : fX 0 w = 105 := by unfold fX; rw [b1, if_neg (by omega)]; rfl
      have hwd : wd (fS 0 w) = 24 := by rw [eS]; exact wd_eq (w := 23) (by omega) (by omega)
      rw [hwd, eX, if_neg (by omega)]
      by_cases n : (0 : Int64) ≤ lN w
      · rw [if_pos n, if_pos n, t2]
      · rw [if_neg n, if_neg n, t3]
    · rw [if_neg (fun q => b (e2.mp q))]
      have q : fM 0 w < pI 0 := by omega
      by_cases z : fS 0 w = 0
      · have z1 : fE 0 w = 0 := by
          apply Classical.byContradiction
          intro y
          unfold fS at z
          rw [if_neg y] at z
          have := Nat.two_pow_pos (pP 0 - 1)
          omega
        have eX : fX 0 w = -149 := by unfold fX; rw [if_pos z1]; rfl
        have n0 : f_X0_nearest 1 (lN 0) (f_X0_exponent 0 (lN w)) = 0 := by
          unfold f_X0_nearest
          rw [if_pos (show lN 0 = 0 from rfl)]
        have s0 : sh 0 (-149) = 0 := by decide
        rw [z, eX, wd_0, if_pos (by omega), s0, n0]
        by_cases n : (0 : Int64) ≤ lN w
        · rw [if_pos n, if_pos n, t4]; rfl
        · rw [if_neg n, if_neg n, t5, neg_l0]
      · obtain ⟨a1, a2⟩ := near_67 hw z q
        obtain ⟨v, ev, v1, v2⟩ := wd_b z
        have hS : fS 0 w < 2 ^ 24 := fS_lt (i := 0) (by omega) w
        have hwd := wd_le hS
        have hX : -149 ≤ fX 0 w ∧ fX 0 w ≤ 2000 := by
          have := fE_lt (i := 0) (by omega) w
          unfold fX
          rw [show pL 0 = -149 from rfl]
          split <;> omega
        have y1 : 2 ^ 52 ≤ fS 0 w * 2 ^ (53 - wd (fS 0 w)) := by
          have e3 : 2 ^ 52 = 2 ^ v * 2 ^ (53 - wd (fS 0 w)) := by rw [← Nat.pow_add]; congr 1; omega
          rw [e3]
          exact Nat.mul_le_mul_right _ v1
        have y2 : fS 0 w * 2 ^ (53 - wd (fS 0 w)) < 2 ^ 53 := by
          have e3 : 2 ^ 53 = 2 ^ (v + 1) * 2 ^ (53 - wd (fS 0 w)) := by rw [← Nat.pow_add]; congr 1; omega
          rw [e3]
          exact Nat.mul_lt_mul_of_pos_right v2 (Nat.two_pow_pos _)
        have hI1 : pI 1 < 2 ^ 63 := by decide
        have eQ : (((fX 0 w + (wd (fS 0 w) : Int) + 1021).toNat : Nat) : Int) - 1074 = fX 0 w - ((53 - wd (fS 0 w) : Nat) : Int) := by omega
        have eC : ((((fX 0 w + (wd (fS 0 w) : Int) + 1021).toNat : Nat) : Int) - 1074 + 53 ≤ 63) ↔ (fX 0 w + (wd (fS 0 w) : Int) ≤ 63) := by omega
        have eH := sh_scale (fS 0 w) (53 - wd (fS 0 w)) (fX 0 w)
        rw [← eQ] at eH
        rw [a1, ← eH]
        generalize (fX 0 w + (wd (fS 0 w) : Int) + 1021).toNat = qq at a2 eC ⊢
        generalize fS 0 w * 2 ^ (53 - wd (fS 0 w)) = yy at a2 y1 y2 ⊢
        have FIN : ∀ w2, w2 < 2 ^ 64 → fM 1 w2 = qq * 2 ^ 52 + yy → ((0 : Int64) ≤ lN w2 ↔ (0 : Int64) ≤ lN w) → (if fX 0 w + (wd (fS 0 w) : Int) ≤ 63 then (if (0 : Int64) ≤ lN w then lN (sh yy ((qq : Int) - 1074)) else -(lN (sh yy ((qq : Int) - 1074)))) else (if (0 : Int64) ≤ lN w then 9223372036854775807 else -9223372036854775808)) = f_X0_toLong 1 (lN w2) := by
          intro w2 g1 g2 g3
          rw [tl_V g1 g2 y1 y2 a2]
          by_cases c1 : fX 0 w + (wd (fS 0 w) : Int) ≤ 63
          · rw [if_pos c1, if_pos (eC.mpr c1)]
            by_cases n : (0 : Int64) ≤ lN w
            · rw [if_pos n, if_pos (g3.mpr n)]
            · rw [if_neg n, if_neg (fun x => n (g3.mp x))]
          · rw [if_neg c1, if_neg (fun x => c1 (eC.mp x))]
            by_cases n : (0 : Int64) ≤ lN w
            · rw [if_pos n, if_pos (g3.mpr n)]
            · rw [if_neg n, if_neg (fun x => n (g3.mp x))]
        have hVs : qq * 2 ^ 52 + yy < 2 ^ 63 := by omega
        generalize qq * 2 ^ 52 + yy = V at FIN hVs
        by_cases n : (0 : Int64) ≤ lN w
        · have E : (if (0 : Int64) ≤ lN w then (0 : Int64) else -9223372036854775808) ||| lN V = lN V := by rw [if_pos n, or_0l]
          rw [E]
          exact FIN V (V63a hVs) (Nat.mod_eq_of_lt hVs) (iff_of_true ((f_nn (V63a hVs)).mpr hVs) n)
        · have E : (if (0 : Int64) ≤ lN w then (0 : Int64) else -9223372036854775808) ||| lN V = lN (V + 9223372036854775808) := by
            rw [if_neg n]
            exact V63c hVs
          rw [E]
          exact FIN _ (V63b hVs) (V63d hVs) (iff_of_false (V63e hVs) n)
  · rw [if_neg a, if_neg (fun q => a (e1.mp q)), t1]
/-- cut at the ends of int -/
theorem near_int (x v : Int64) : f_X2_nearestInt v = f_X3_whole_131 x (-2147483648) 2147483647 v := by
  unfold f_X2_nearestInt f_X3_whole_131
  rw [show st_G (4 : Int32).toNatClampNeg = 2147483647 from rfl, show st_L (4 : Int32).toNatClampNeg = -2147483648 from rfl]
  have z0 : (-2147483648 : Int64).toInt = -2147483648 := by decide
  have z1 : (2147483647 : Int64).toInt = 2147483647 := by decide
  by_cases a : v < 2147483647
  · rw [if_pos a]
    rw [Int64.lt_iff_toInt_lt, z1] at a
    by_cases b : v < -2147483648
    · rw [if_pos b, if_neg (by rw [Int64.le_iff_toInt_le, z0]; rw [Int64.lt_iff_toInt_lt, z0] at b; omega)]
    · rw [if_neg b, if_pos (by rw [Int64.le_iff_toInt_le, z0]; rw [Int64.lt_iff_toInt_lt, z0] at b; omega), if_pos (by rw [Int64.le_iff_toInt_le, z1]; omega)]
  · rw [if_neg a, if_neg (show ¬ (2147483647 : Int64) < -2147483648 by decide)]
    rw [Int64.lt_iff_toInt_lt, z1] at a
    rw [if_pos (by rw [Int64.le_iff_toInt_le, z0]; omega)]
    by_cases c : v ≤ 2147483647
    · rw [if_pos c]
      rw [Int64.le_iff_toInt_le, z1] at c
      exact Int64.toInt_inj.mp (by rw [z1]; omega)
    · rw [if_neg c]
theorem near_long (x v : Int64) : v = f_X3_whole_131 x (-9223372036854775808) 9223372036854775807 v := by
  unfold f_X3_whole_131
  have e1 : (-9223372036854775808 : Int64) ≤ v := by
    have := pu_mn v
    rw [Int64.lt_iff_toInt_lt] at this
    rw [Int64.le_iff_toInt_le]; omega
  have e2 : v ≤ (9223372036854775807 : Int64) := by
    have := pu_mx v
    rw [Int64.lt_iff_toInt_lt] at this
    rw [Int64.le_iff_toInt_le]; omega
  rw [if_pos e1, if_pos e2]
/-- what the reference reads of a double, NaN or not -/
theorem whole_1 {w : Nat} (hw : w < 2 ^ 64) {lo hi : Int64} (h1 : lo ≤ 0) (h2 : 0 ≤ hi) : ∃ x, f_X3_whole (f_X3_one 7 (lN w)) lo hi = f_X3_whole_131 x lo hi (f_X0_toLong 1 (lN w)) := by
  rw [← one_7 hw, form_same (by omega) hw (fok_7 hw)]
  by_cases a : fM 1 w ≤ pI 1
  · rw [if_pos a, whole_d hw h1 h2]
    exact ⟨_, rfl⟩
  · rw [if_neg a, toL (by omega) hw, if_neg a]
    obtain ⟨w2, hw2, e⟩ := wb_of (fm_nan 1)
    have t := tl_c.1
    rw [e] at t ⊢
    rw [whole_d hw2 h1 h2, t]
    exact ⟨_, rfl⟩
theorem whole_0 {w : Nat} (hw : w < 2 ^ 64) (h : fok 0 w) {lo hi : Int64} (h1 : lo ≤ 0) (h2 : 0 ≤ hi) : ∃ x, f_X3_whole (f_X3_wide (lN w)) lo hi = f_X3_whole_131 x lo hi (f_X0_toLong 0 (lN w)) := by
  rw [tl_67 hw h]
  obtain ⟨w2, hw2, e⟩ := wb_of (f_X3_wide (lN w))
  rw [e, whole_d hw2 h1 h2]
  exact ⟨_, rfl⟩
theorem pu_num (n : Nat) (hn : 23 ≤ n ∧ n ≤ 40) (ro rf re av un kp : Nat → Int32) (bt : Nat → Int64) (rk x : Int32) : (f_X2_isNumber x = 0 ∧ f_X3_isNumber x = 0) ∨ ∃ j, 1 ≤ j ∧ j ≤ 7 ∧ x = nI j ∧ f_X2_isNumber (nI j) = 1 ∧ f_X3_isNumber (nI j) = 1 ∧ f_X3_isType ro rf re av un (nI n) kp bt rk (nI j) = 1 := by
  unfold f_X2_isNumber f_X3_isNumber f_X3_in
  by_cases a : x < 1
  · exact Or.inl ⟨by rw [if_pos a], by rw [if_pos a]⟩
  · by_cases b : (7 : Int32) < x
    · exact Or.inl ⟨by rw [if_neg a, if_pos b], by rw [if_neg a, if_pos b]⟩
    · have h0 : ¬ x < 0 := by
        rw [Int32.lt_iff_toInt_lt] at a ⊢
        have z0 : (0 : Int32).toInt = 0 := rfl
        have z1 : (1 : Int32).toInt = 1 := rfl
        omega
      obtain ⟨j, hj, rfl⟩ := nI_of h0
      rw [show (1 : Int32) = nI 1 from rfl, nI_ltI (by omega) (by omega)] at a
      rw [show (7 : Int32) = nI 7 from rfl, nI_ltI (by omega) (by omega)] at b
      have a' : ¬ nI j < 1 := by rw [show (1 : Int32) = nI 1 from rfl, nI_ltI (by omega) (by omega)]; exact a
      have b' : ¬ (7 : Int32) < nI j := by rw [show (7 : Int32) = nI 7 from rfl, nI_ltI (by omega) (by omega)]; exact b
      refine Or.inr ⟨j, by omega, by omega, rfl, by rw [if_neg a', if_neg b'], by rw [if_neg a', if_neg b'], ?_⟩
      rcases pu_has (n := n) (by omega) ro rf re (fun _ => 0) ro rf re av un kp bt rk (nI j) with ⟨q, -⟩ | ⟨i, hi, e, -, q⟩
      · exfalso
        unfold f_X1_has at q
        rw [if_neg h0, if_neg (by rw [nI_leI (by omega) (by omega)]; omega)] at q
        exact absurd q (by decide)
      · rw [e]; exact q
/-- the numbers, pair by pair -/
theorem pu_turn (v : Int64) {j k : Nat} (j1 : 1 ≤ j) (j7 : j ≤ 7) (k1 : 1 ≤ k) (k7 : k ≤ 7) (hv : ¬ f_X2_areBitsOf v (nI j) = 0) :
    (if (f_X2_isWhole (nI k)) = 0 then (f_X2_turnedToFloating (nI j) v (nI k)) else (f_X2_turnedToWhole (nI j) v (nI k))) = (if nI j = nI k then ((f_X3_one (nI j) v), (0 : Int32))
  else if (6 : Int32) ≤ nI j then (if nI j = (6 : Int32) then (if nI k ≤ (5 : Int32) then (if nI k = (5 : Int32) then ((f_X3_whole (f_X3_wide v) (-9223372036854775808 : Int64) (9223372036854775807 : Int64)), (0 : Int32))
        else ((f_X3_cutTo (nI k) (f_X3_whole (f_X3_wide v) (-2147483648 : Int64) (2147483647 : Int64))), (0 : Int32)))
      else if nI k = (7 : Int32) then ((f_X3_wide v), (0 : Int32))
      else ((f_X3_narrow (f_X3_wide v)), (0 : Int32)))
    else if nI k ≤ (5 : Int32) then (if nI k = (5 : Int32) then ((f_X3_whole (f_X3_one (7 : Int32) v) (-9223372036854775808 : Int64) (9223372036854775807 : Int64)), (0 : Int32))
      else ((f_X3_cutTo (nI k) (f_X3_whole (f_X3_one (7 : Int32) v) (-2147483648 : Int64) (2147483647 : Int64))), (0 : Int32)))
    else if nI k = (7 : Int32) then ((f_X3_one (7 : Int32) v), (0 : Int32))
    else ((f_X3_narrow (f_X3_one (7 : Int32) v)), (0 : Int32)))
  else if nI k = (6 : Int32) then (((f_X3_real v (24 : Int32) (127 : Int32) (-2147483648 : Int64)).toInt32).toInt64, (0 : Int32))
  else if nI k = (7 : Int32) then ((f_X3_real v (53 : Int32) (1023 : Int32) (-9223372036854775808 : Int64)), (0 : Int32))
  else ((f_X3_cutTo (nI k) v), (0 : Int32))).1 := by
  have w1 : ∀ a, a < 8 → (decide (a < 1) || (decide (f_X2_isWhole (nI a) = if a ≤ 5 then 1 else 0) && (decide (decide ((6 : Int32) ≤ nI a) = decide (6 ≤ a)) && (decide (decide (nI a ≤ (5 : Int32)) = decide (a ≤ 5)) && (decide (decide (nI a = (5 : Int32)) = decide (a = 5)) && (decide (decide (nI a = (6 : Int32)) = decide (a = 6)) && decide (decide (nI a = (7 : Int32)) = decide (a = 7)))))))) = true := by decide +kernel
  have W : ∀ a, 1 ≤ a → a ≤ 7 → (f_X2_isWhole (nI a) = if a ≤ 5 then 1 else 0) ∧ ((6 : Int32) ≤ nI a ↔ 6 ≤ a) ∧ (nI a ≤ (5 : Int32) ↔ a ≤ 5) ∧ (nI a = (5 : Int32) ↔ a = 5) ∧ (nI a = (6 : Int32) ↔ a = 6) ∧ (nI a = (7 : Int32) ↔ a = 7) := by
    intro a h1 h2
    have := w1 a (by omega)
    simp only [Bool.or_eq_true, Bool.and_eq_true, decide_eq_true_eq, decide_eq_decide] at this
    exact this.resolve_left (by omega)
  obtain ⟨p1, p2, p3, p4, p5, p6⟩ := W j j1 j7
  obtain ⟨q1, q2, q3, q4, q5, q6⟩ := W k k1 k7
  have ejk : nI j = nI k ↔ j = k := nI_eq (by omega) (by omega)
  unfold f_X2_turnedToFloating f_X2_turnedToWhole fx_X2_formatOf
  simp only [p1, q1, p2, p3, p4, p5, p6, q2, q3, q4, q5, q6, ejk]
  obtain ⟨w, hw, rfl⟩ := wb_of v
  have lo1 : (-9223372036854775808 : Int64) ≤ 0 := by decide
  have hi1 : (0 : Int64) ≤ 9223372036854775807 := by decide
  have lo2 : (-2147483648 : Int64) ≤ 0 := by decide
  have hi2 : (0 : Int64) ≤ 2147483647 := by decide
  rcases (show j ≤ 5 ∨ j = 6 ∨ j = 7 by omega) with hj | rfl | rfl
  · rcases (show k ≤ 5 ∨ k = 6 ∨ k = 7 by omega) with hk | rfl | rfl
    · rw [if_pos hk, if_neg pu10, if_pos hj, if_neg pu10]
      by_cases e : j = k
      · subst e
        rw [if_pos rfl, low_fit (lN w) j1 hj hv]
        unfold f_X3_one
        rw [if_neg (fun q => by have := p5.mp q; omega), if_neg (fun q => by have := p6.mp q; omega)]
      · rw [if_neg e, if_neg (by omega), if_neg (by omega), if_neg (by omega), low_cut (lN w) k1 hk]
    · simp only [hj, show ¬ (6 : Nat) ≤ 5 by omega, show ¬ j = 6 by omega, show ¬ 6 ≤ j by omega, if_true, if_false, if_neg pu10]
      exact from_l6 (lN w)
    · simp only [hj, show ¬ (7 : Nat) ≤ 5 by omega, show ¬ (7 : Nat) = 6 by omega, show ¬ j = 7 by omega, show ¬ 6 ≤ j by omega, if_true, if_false, if_neg pu10]
      exact from_l7 (lN w)
  · have hk6 := fok_6 hw hv
    rcases (show k ≤ 4 ∨ k = 5 ∨ k = 6 ∨ k = 7 by omega) with hk | rfl | rfl | rfl
    · obtain ⟨x, hx⟩ := whole_0 hw hk6 lo2 hi2
      have hk5 : k ≤ 5 := by omega
      have n6 : ¬ (6 : Nat) = k := by omega
      have n5 : ¬ k = 5 := by omega
      simp only [hk5, n6, n5, if_true, if_false, show ¬ (6 : Nat) ≤ 5 by omega, show (6 : Nat) ≤ 6 by omega, if_neg pu10]
      rw [hx, ← near_int, low_cut _ k1 hk5]
    · obtain ⟨x, hx⟩ := whole_0 hw hk6 lo1 hi1
      simp only [show (5 : Nat) ≤ 5 by omega, show ¬ (6 : Nat) = 5 by omega, if_true, if_false, show ¬ (6 : Nat) ≤ 5 by omega, show (6 : Nat) ≤ 6 by omega, if_neg pu10]
      rw [hx]
      exact near_long x _
    · exact one_6 hw hk6
    · exact form_67 hw hk6
  · rcases (show k ≤ 4 ∨ k = 5 ∨ k = 6 ∨ k = 7 by omega) with hk | rfl | rfl | rfl
    · obtain ⟨x, hx⟩ := whole_1 hw lo2 hi2
      have hk5 : k ≤ 5 := by omega
      have n6 : ¬ (7 : Nat) = k := by omega
      have n5 : ¬ k = 5 := by omega
      simp only [hk5, n6, n5, if_true, if_false, show ¬ (7 : Nat) ≤ 5 by omega, show (6 : Nat) ≤ 7 by omega, show ¬ (7 : Nat) = 6 by omega, if_neg pu10]
      rw [hx, ← near_int, low_cut _ k1 hk5]
    · obtain ⟨x, hx⟩ := whole_1 hw lo1 hi1
      simp only [show (5 : Nat) ≤ 5 by omega, show ¬ (7 : Nat) = 5 by omega, if_true, if_false, show ¬ (7 : Nat) ≤ 5 by omega, show (6 : Nat) ≤ 7 by omega, show ¬ (7 : Nat) = 6 by omega, if_neg pu10]
      rw [hx]
      exact near_long x _
    · exact form_76 hw
    · exact one_7 hw
theorem pe_turned {so : Nat → Int32} {fi : Nat → Int32} {el : Nat → Int32} {ab : Nat → Int64} {sz : Int32} {ot : Nat → Int32} {ob : Nat → Int64} {oc : Int32} {th : Int32} {ro : Nat → Int32} {rf : Nat → Int32} {re : Nat → Int32} {av : Nat → Int32} {un : Nat → Int32} {ty : Int32} {kp : Nat → Int32} {bt : Nat → Int64} {rk : Int32} (hI : Inv (so, fi, el, ab, sz, ot, ob, oc) (th, ro, rf, re, av, un, ty, kp, bt, rk)) (x1 : Int32) (x2 : Int64) (x3 : Int32) : f_X2_turned so fi el ab sz ot ob oc x1 x2 x3 = (f_X3_turned th ro rf re av un ty kp bt rk x1 x2 x3).1 := by
  obtain ⟨n, m, g1, g2, g3, g4, g5⟩ := hI
  have h1 : sz = nI n := g1
  have h2 : ty = nI n := g2
  have h3 : oc = nI m := g3
  have h4 : rk = nI m := g4
  have hJ : jv n m so fi el ab ot ob ro rf re av un kp bt := g5
  clear g1 g2 g3 g4 g5
  subst h1 h2 h3 h4
  obtain ⟨hs, he, ha, hb, ho, hf⟩ := hJ
  have hn := hs.1
  have hm := ho.1
  unfold f_X2_turned f_X3_turned
  rcases pu_num n hn ro rf re av un kp bt (nI m) x1 with ⟨a1, a2⟩ | ⟨j, j1, j7, rfl, a1, a2, a3⟩
  · rw [if_pos a1]
    repeat' split
    all_goals first | rfl | (exfalso; simp_all; done)
  · rcases pu_num n hn ro rf re av un kp bt (nI m) x3 with ⟨b1, b2⟩ | ⟨k, k1, k7, rfl, b1, b2, b3⟩
    · rw [a1, if_neg pu10, if_pos b1, a3, if_neg pu10, a2]
      by_cases c : f_X3_isType ro rf re av un (nI n) kp bt (nI m) x3 = 0
      · rw [if_pos c]
      · rw [if_neg c, if_neg pu10, if_pos b2]
    · rw [a1, b1, if_neg pu10, if_neg pu10, a3, if_neg pu10, b3, if_neg pu10, a2, if_neg pu10, b2, if_neg pu10, ← pu_isb x2 j (by omega)]
      by_cases c : f_X2_areBitsOf x2 (nI j) = 0
      · rw [if_pos c, if_pos c]
      · rw [if_neg c, if_neg c]
        exact pu_turn x2 j1 j7 k1 k7 c

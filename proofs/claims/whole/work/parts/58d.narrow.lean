/-! pure: double to float -/
theorem nI_2047 (a : Nat) : nI a &&& 2047 = nI (a % 2048) := by
  apply Int32.toBitVec_inj.mp
  rw [Int32.toBitVec_and]
  show BitVec.ofNat 32 a &&& 2047#32 = BitVec.ofNat 32 (a % 2048)
  apply BitVec.eq_of_toNat_eq
  rw [BitVec.toNat_and, BitVec.toNat_ofNat, BitVec.toNat_ofNat, BitVec.toNat_ofNat, show (2047 % 2 ^ 32 : Nat) = 2 ^ 11 - 1 from rfl, Nat.and_two_pow_sub_one_eq_mod]
  omega
/-- the double's exponent field as the reference reads it -/
theorem nw_e {w : Nat} (hw : w < 2 ^ 64) : ((((lN w).toUInt64 >>> ((52 : Int32).toInt64.toUInt64 &&& Int64.toUInt64 63)).toInt64).toInt32) &&& (2047 : Int32) = nI (fE 1 w) := by
  have e := wb_shr (n := w) (k := 52) hw (by omega)
  rw [show (nI 52 : Int32) = 52 from rfl] at e
  rw [e, lN_i, nI_2047]
  congr 1
  show w / 2 ^ 52 % 2048 = w % 2 ^ 63 / 2 ^ 52
  omega
theorem nw_f {w : Nat} (hw : w < 2 ^ 64) : lN w &&& (4503599627370495 : Int64) = lN (fF 1 w) := by
  have e1 : lN w &&& (4503599627370495 : Int64) = lN (w % 2 ^ 52) := wb_mask (n := w) (k := 52) hw (by omega)
  rw [e1]
  congr 1
  show w % 2 ^ 52 = w % 2 ^ 63 % 2 ^ 52
  omega
theorem nw_s {f : Nat} (hf : f < 2 ^ 52) : lN f ||| (4503599627370496 : Int64) = lN (f + 2 ^ 52) := by
  have := g_or' (k := 52) (p := 2 ^ 52) (a := f) (b := 1) rfl hf (by omega)
  rw [Nat.one_mul] at this
  exact this
/-- the capped sum -/
def cap (V : Nat) : Nat := if pI 0 < V then pI 0 else V
theorem nw_191 (x1 sg : Int64) {V : Nat} (hV : V < 2 ^ 63) : f_X3_narrow_191 x1 sg (lN V) = sg ||| lN (cap V) := by
  unfold f_X3_narrow_191 cap
  rw [show (2139095040 : Int64) = lN (pI 0) from rfl]
  have e : lN V < lN (pI 0) ↔ V < pI 0 := lN_lt63 hV (by decide)
  by_cases c : V < pI 0
  · rw [if_pos (e.mpr c), if_neg (by omega)]
  · rw [if_neg (fun q => c (e.mp q))]
    by_cases d : pI 0 < V
    · rw [if_pos d]
    · rw [if_neg d, show V = pI 0 by omega]
theorem rne_le {s c : Nat} : rne s c ≤ s / 2 ^ c + 1 := by
  unfold rne
  repeat' split
  all_goals omega
theorem nw_99 (x1 sg : Int64) {s c : Nat} {bb : Int32} (hs : s < 2 ^ 64) (c1 : 1 ≤ c) (c54 : c ≤ 54) : f_X3_narrow_99 x1 sg (lN s) bb (nI c) = f_X3_narrow_167 x1 sg (lN (rne s c)) bb := by
  obtain ⟨d, rfl⟩ : ∃ d, c = d + 1 := ⟨c - 1, by omega⟩
  unfold f_X3_narrow_99 f_X3_narrow_z_4 f_X3_narrow_z_5 f_X3_narrow_z_6
  have hp : 2 ^ (d + 1) ≤ 2 ^ 60 := Nat.pow_le_pow_right (by decide) (by omega)
  have hr : s % 2 ^ (d + 1) < 2 ^ (d + 1) := Nat.mod_lt _ (Nat.two_pow_pos _)
  have hd : 2 ^ d < 2 ^ (d + 1) := wb_lt2 (by omega)
  have hq : s / 2 ^ (d + 1) < 2 ^ 64 := Nat.lt_of_le_of_lt (Nat.div_le_self _ _) hs
  rw [if_pos (by rw [show (54 : Int32) = nI 54 from rfl, nI_leI (by omega) (by omega)]; exact c54), wb_shr hs (by omega), msk (by omega), wb_mask hs (by omega), nI_pred, one_shl (by omega), wb_a1 hq]
  unfold rne
  rw [Nat.add_sub_cancel]
  have e1 : lN (2 ^ d) < lN (s % 2 ^ (d + 1)) ↔ 2 ^ d < s % 2 ^ (d + 1) := lN_lt63 (by omega) (by omega)
  have e2 : lN (s % 2 ^ (d + 1)) = lN (2 ^ d) ↔ s % 2 ^ (d + 1) = 2 ^ d := lN_eq64 (by omega) (by omega)
  have e3 : lN (s / 2 ^ (d + 1) % 2) = 1 ↔ s / 2 ^ (d + 1) % 2 = 1 := lN_eq64 (b := 1) (by omega) (by omega)
  by_cases c1 : 2 ^ d < s % 2 ^ (d + 1)
  · rw [if_pos (e1.mpr c1), if_pos c1, lN_1]
  · rw [if_neg (fun q => c1 (e1.mp q)), if_neg c1]
    by_cases c2 : s % 2 ^ (d + 1) = 2 ^ d
    · rw [if_pos (e2.mpr c2), if_pos c2]
      by_cases c3 : s / 2 ^ (d + 1) % 2 = 1
      · rw [if_pos (e3.mpr c3), if_pos c3, lN_1]
      · rw [if_neg (fun q => c3 (e3.mp q)), if_neg c3]
    · rw [if_neg (fun q => c2 (e2.mp q)), if_neg c2]
/-- the class: nothing is left of what is too small -/
theorem near_cap {s : Nat} (hs0 : s ≠ 0) (hs : s < 2 ^ 64) {x2 : Int32} {E K : Int} (hE : x2.toInt = E) (hE1 : -5000 ≤ E) (hE2 : E ≤ 5000) (hK : K = if E + (wd s : Int) - 24 < -149 then -149 else E + (wd s : Int) - 24) {R : Nat} (hR : ∀ z : Int32, z.toInt = K - E → f_X0_rounded (lN s) z = lN R) (hV : (K + 149).toNat * 2 ^ 23 + R < 2 ^ 63) : f_X0_nearest 0 (lN s) x2 = lN (cap ((K + 149).toNat * 2 ^ 23 + R)) := by
  have N := near (i := 0) (s := s) (by omega) hs0 hs hE hE1 hE2 (K := K) hK hR
  have e : (K - pL 0).toNat = (K + 149).toNat := by rw [show pL 0 = -149 from rfl]; congr 1
  rw [N, e, show pP 0 - 1 = 23 from rfl]
  unfold cap
  have e1 : lN (pI 0) < lN ((K + 149).toNat * 2 ^ 23 + R) ↔ pI 0 < (K + 149).toNat * 2 ^ 23 + R := lN_lt63 (by decide) hV
  by_cases c : pI 0 < (K + 149).toNat * 2 ^ 23 + R
  · rw [if_pos (e1.mpr c), if_pos c]
  · rw [if_neg (fun q => c (e1.mp q)), if_neg c]
theorem rne_0 {s c : Nat} (hs : s < 2 ^ 53) (hc : 55 ≤ c) : rne s c = 0 := by
  have h1 : 2 ^ 54 ≤ 2 ^ (c - 1) := Nat.pow_le_pow_right (by decide) (by omega)
  have h2 : 2 ^ (c - 1) ≤ 2 ^ c := Nat.pow_le_pow_right (by decide) (by omega)
  have h3 : s % 2 ^ c = s := Nat.mod_eq_of_lt (by omega)
  have h4 : s / 2 ^ c = 0 := Nat.div_eq_of_lt (by omega)
  unfold rne
  rw [h3, h4, if_neg (by omega), if_neg (by omega)]
set_option maxHeartbeats 4000000 in
theorem nw_13 (x1 sg : Int64) {w : Nat} (hw : w < 2 ^ 64) (hM : fM 1 w < pI 1) : f_X3_narrow_z_10 (lN w) sg (nI (fE 1 w)) = sg ||| f_X0_nearest 0 (lN (fS 1 w)) (f_X0_exponent 1 (lN w)) := by
  have eI : pI 1 = 9218868437227405312 := rfl
  have hF : fF 1 w < 2 ^ 52 := Nat.mod_lt _ (by decide)
  have hE : fE 1 w < 2047 := by
    show w % 2 ^ 63 / 2 ^ 52 < 2047
    rw [eI] at hM
    have : w % 2 ^ 63 < 9218868437227405312 := hM
    omega
  have n2047 : ¬ nI (fE 1 w) = 2047 := by rw [show (2047 : Int32) = nI 2047 from rfl, nI_eq (by omega) (by omega)]; omega
  have hX := f_exp (i := 1) (by omega) hw
  unfold f_X3_narrow_z_10
  rw [if_neg n2047]
  by_cases c : fE 1 w = 0
  · have eS : fS 1 w = fF 1 w := by unfold fS; rw [if_pos c]
    have eX : fX 1 w = -1074 := by unfold fX; rw [if_pos c]; rfl
    rw [c, if_pos (show nI 0 = 0 from rfl), eS]
    rw [eX] at hX
    by_cases z : fF 1 w = 0
    · rw [z]
      unfold f_X0_nearest
      rw [if_pos (show lN 0 = 0 from rfl), or_0r]
    · have hwd := wd_le hF
      have N := near_cap (K := -149) (R := 0) z (by omega) hX (by omega) (by omega) (by rw [if_pos (by omega)]) (fun q hq => rd_big (by rw [hq]; omega)) (by decide)
      rw [N]
      have : cap ((-149 + 149 : Int).toNat * 2 ^ 23 + 0) = 0 := by decide
      rw [this]
      exact (or_0r sg).symm
  · have n0 : ¬ nI (fE 1 w) = 0 := by rw [show (0 : Int32) = nI 0 from rfl, nI_eq (by omega) (by omega)]; exact c
    have eS : fS 1 w = fF 1 w + 2 ^ 52 := by unfold fS; rw [if_neg c]; rfl
    have eX : fX 1 w = (fE 1 w : Int) - 1075 := by unfold fX; rw [if_neg c, show pL 1 = -1074 from rfl]; omega
    have hS0 : fS 1 w ≠ 0 := by omega
    have hS53 : fS 1 w < 2 ^ 53 := by omega
    have hwd : wd (fS 1 w) = 53 := wd_eq (w := 52) (by omega) (by omega)
    rw [eX] at hX
    rw [if_neg n0, nw_f hw, nw_s hF, ← eS]
    unfold f_X3_narrow_z_13
    have h1023 : (1023 : Int32).toInt = 1023 := by decide
    have hm126 : (-126 : Int32).toInt = -126 := by decide
    have hm97 : (-97 : Int32).toInt = -97 := by decide
    have h126 : (126 : Int32).toInt = 126 := by decide
    have hn : (nI (fE 1 w)).toInt = (fE 1 w : Int) := nI_toInt (by omega)
    have hb : (nI (fE 1 w) - 1023).toInt = (fE 1 w : Int) - 1023 := by rw [i32_sub (by rw [hn, h1023]; omega) (by rw [hn, h1023]; omega), hn, h1023]
    generalize nI (fE 1 w) - 1023 = bb at hb
    have le : (-126 : Int32) ≤ bb ↔ 897 ≤ fE 1 w := by rw [Int32.le_iff_toInt_le, hm126, hb]; omega
    by_cases g : 897 ≤ fE 1 w
    · rw [if_pos (le.mpr g), show (29 : Int32) = nI 29 from rfl, nw_99 (lN w) sg (by omega) (by omega) (by omega)]
      unfold f_X3_narrow_167
      have ea : bb + 126 = nI (fE 1 w - 897) := i32_of (by omega) (by rw [i32_add (by rw [hb, h126]; omega) (by rw [hb, h126]; omega), hb, h126]; omega)
      have es := wb_shl (fE 1 w - 897) (k := 23) (by omega)
      rw [show (nI 23 : Int32) = 23 from rfl] at es
      have hr := rne_le (s := fS 1 w) (c := 29)
      have hq : fS 1 w / 2 ^ 29 < 2 ^ 24 := by omega
      rw [if_pos (le.mpr g), ea, nI_l (by omega), es, lN_add, nw_191 (lN w) sg (by omega)]
      have N := near_cap (K := (fE 1 w : Int) - 1046) (R := rne (fS 1 w) 29) hS0 (by omega) hX (by omega) (by omega) (by rw [hwd, if_neg (by omega)]; omega) (fun q hq => by
        have : q = nI 29 := i32_of (by omega) (by rw [hq]; omega)
        rw [this]
        exact rd_pos (by omega) (by omega) (by omega)) (by
        have : ((fE 1 w : Int) - 1046 + 149).toNat = fE 1 w - 897 := by omega
        rw [this]; omega)
      have e9 : ((fE 1 w : Int) - 1046 + 149).toNat = fE 1 w - 897 := by omega
      rw [N, e9]
    · have ec : (-97 : Int32) - bb = nI (926 - fE 1 w) := i32_of (by omega) (by rw [i32_sub (by rw [hb, hm97]; omega) (by rw [hb, hm97]; omega), hb, hm97]; omega)
      rw [if_neg (fun q => g (le.mp q)), ec]
      have K0 : (-149 : Int) = if (fE 1 w : Int) - 1075 + (wd (fS 1 w) : Int) - 24 < -149 then -149 else (fE 1 w : Int) - 1075 + (wd (fS 1 w) : Int) - 24 := by rw [hwd, if_pos (by omega)]
      by_cases d : 926 - fE 1 w ≤ 54
      · rw [nw_99 (lN w) sg (by omega) (by omega) d]
        unfold f_X3_narrow_167
        have hr := rne_le (s := fS 1 w) (c := 926 - fE 1 w)
        have hq : fS 1 w / 2 ^ (926 - fE 1 w) ≤ fS 1 w := Nat.div_le_self _ _
        rw [if_neg (fun q => g (le.mp q)), nw_191 (lN w) sg (by omega)]
        have N := near_cap (K := -149) (R := rne (fS 1 w) (926 - fE 1 w)) hS0 (by omega) hX (by omega) (by omega) K0 (fun q hq => by
          have : q = nI (926 - fE 1 w) := i32_of (by omega) (by rw [hq]; omega)
          rw [this]
          exact rd_pos (by omega) (by omega) (by omega)) (by
          have : (-149 + 149 : Int).toNat = 0 := by decide
          rw [this, Nat.zero_mul, Nat.zero_add]; omega)
        have e9 : (-149 + 149 : Int).toNat = 0 := by decide
        rw [N, e9, Nat.zero_mul, Nat.zero_add]
      · unfold f_X3_narrow_99
        rw [if_neg (by rw [show (54 : Int32) = nI 54 from rfl, nI_leI (by omega) (by omega)]; exact d)]
        have N := near_cap (K := -149) (R := 0) hS0 (by omega) hX (by omega) (by omega) K0 (fun q hq => by
          by_cases b60 : 926 - fE 1 w ≤ 60
          · have : q = nI (926 - fE 1 w) := i32_of (by omega) (by rw [hq]; omega)
            rw [this, rd_pos (by omega) (by omega) b60, rne_0 hS53 (by omega)]
          · exact rd_big (by rw [hq]; omega)) (by decide)
        rw [N]
        have : cap ((-149 + 149 : Int).toNat * 2 ^ 23 + 0) = 0 := by decide
        rw [this]
        exact (or_0r sg).symm
/-- double to float, on both sides -/
theorem form_76 {w : Nat} (hw : w < 2 ^ 64) : f_X0_fromFormat 0 1 (lN w) = f_X3_narrow (f_X3_one 7 (lN w)) := by
  have hM63 := fM_63 (i := 1) (by omega) w
  have eI : pI 1 = 9218868437227405312 := rfl
  have hF : fF 1 w < 2 ^ 52 := Nat.mod_lt _ (by decide)
  have O : f_X3_one 7 (lN w) = if fM 1 w ≤ pI 1 then lN w else 9221120237041090560 := by
    rw [← one_7 hw, form_same (by omega) hw (fok_7 hw)]
    rfl
  have S : ∀ x : Int64, f_X0_withSign 0 (if (0 : Int64) ≤ lN w then 0 else 1) x = (if (0 : Int64) ≤ lN w then (0 : Int64) else -2147483648) ||| x := by
    intro x
    unfold f_X0_withSign
    by_cases q : (0 : Int64) ≤ lN w
    · rw [if_pos q, if_pos q, if_pos rfl, or_0l]
    · rw [if_neg q, if_neg q, if_neg pu10, Int64.or_comm]
      rfl
  have C : f_X0_fromFormat 0 1 (lN w) = if lN (fM 1 w) ≤ lN (pI 1) then (if lN (fM 1 w) = lN (pI 1) then f_X0_withSign 0 (if (0 : Int64) ≤ lN w then 0 else 1) (fm_inf 0) else f_X0_withSign 0 (if (0 : Int64) ≤ lN w then 0 else 1) (f_X0_nearest 0 (lN (fS 1 w)) (f_X0_exponent 1 (lN w)))) else fm_nan 0 := by
    unfold f_X0_fromFormat
    rw [f_wo (by omega) hw, f_sig (by omega) hw, show fm_inf 1 = lN (pI 1) from rfl]
    by_cases q : (0 : Int64) ≤ lN w
    · simp only [if_pos q]
    · simp only [if_neg q]
  have W : f_X3_narrow (lN w) = f_X3_narrow_13 (lN w) (if (0 : Int64) ≤ lN w then 0 else -2147483648) := by
    unfold f_X3_narrow
    by_cases q : (0 : Int64) ≤ lN w
    · rw [if_pos q, if_pos q]
    · rw [if_neg q, if_neg q]
  have e1 : lN (fM 1 w) ≤ lN (pI 1) ↔ fM 1 w ≤ pI 1 := lN_le63 hM63 (by decide)
  have e2 : lN (fM 1 w) = lN (pI 1) ↔ fM 1 w = pI 1 := lN_eq64 (by omega) (by decide)
  rw [C, O]
  simp only [S]
  by_cases a : fM 1 w ≤ pI 1
  · rw [if_pos (e1.mpr a), if_pos a, W]
    generalize (if (0 : Int64) ≤ lN w then (0 : Int64) else -2147483648) = sg
    unfold f_X3_narrow_13
    rw [nw_e hw]
    by_cases b : fM 1 w = pI 1
    · have b1 : fE 1 w = 2047 := by
        show fM 1 w / 2 ^ 52 = 2047
        rw [b, eI]
      have b2 : fF 1 w = 0 := by
        show fM 1 w % 2 ^ 52 = 0
        rw [b, eI]
      unfold f_X3_narrow_z_10
      rw [if_pos (e2.mpr b), b1, if_pos (show nI 2047 = 2047 from rfl), nw_f hw, b2, if_pos (show lN 0 = 0 from rfl)]
      rfl
    · rw [if_neg (fun q => b (e2.mp q)), nw_13 (lN w) sg hw (by omega)]
  · rw [if_neg (fun q => a (e1.mp q)), if_neg a]
    decide +kernel

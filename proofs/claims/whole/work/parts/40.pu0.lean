/-! pure: types of both sides, bits -/
theorem pu_in {n : Nat} (hn : n ≤ 60) (x : Int32) : ((x < 0 ∨ nI n ≤ x) ∧ (x < 0 ∨ nI n - 1 < x)) ∨ ∃ i, i < n ∧ x = nI i ∧ ¬ nI i < 0 ∧ ¬ nI n ≤ nI i ∧ ¬ nI n - 1 < nI i := by
  by_cases h0 : x < 0
  · exact Or.inl ⟨Or.inl h0, Or.inl h0⟩
  · obtain ⟨j, hj, rfl⟩ := nI_of h0
    by_cases h : j < n
    · refine Or.inr ⟨j, h, rfl, h0, ?_, ?_⟩
      · rw [nI_leI (by omega) hj]; omega
      · obtain ⟨k, rfl⟩ : ∃ k, n = k + 1 := ⟨n - 1, by omega⟩
        rw [nI_pred, nI_ltI (by omega) hj]; omega
    · refine Or.inl ⟨Or.inr ?_, Or.inr ?_⟩
      · rw [nI_leI (by omega) hj]; omega
      · cases n with
        | zero => rw [Int32.lt_iff_toInt_lt, nI_toInt hj]; show (-1 : Int) < _; omega
        | succ k => rw [nI_pred, nI_ltI (by omega) hj]; omega
theorem pu_has {n : Nat} (hn : n ≤ 60) (so fi el : Nat → Int32) (ab : Nat → Int64) (ro rf re av un kp : Nat → Int32) (bt : Nat → Int64) (rk x : Int32) :
    (f_X1_has so fi el ab (nI n) x = 0 ∧ f_X3_isType ro rf re av un (nI n) kp bt rk x = 0) ∨ ∃ i, i < n ∧ x = nI i ∧ f_X1_has so fi el ab (nI n) (nI i) = 1 ∧ f_X3_isType ro rf re av un (nI n) kp bt rk (nI i) = 1 := by
  unfold f_X1_has f_X3_isType f_X3_in
  rcases pu_in hn x with ⟨h1, h2⟩ | ⟨i, hi, rfl, h1, h2, h3⟩
  · refine Or.inl ⟨?_, ?_⟩
    · by_cases h : x < 0
      · rw [if_pos h]
      · rw [if_neg h, if_pos (h1.resolve_left h)]
    · by_cases h : x < 0
      · rw [if_pos h]
      · rw [if_neg h, if_pos (h2.resolve_left h)]
  · exact Or.inr ⟨i, hi, rfl, by rw [if_neg h1, if_neg h2], by rw [if_neg h1, if_neg h3]⟩
theorem pu_obj {m : Nat} (hm : m ≤ 60) (so fi el : Nat → Int32) (ab : Nat → Int64) (sz : Int32) (ot : Nat → Int32) (ob : Nat → Int64) (ro rf re av un : Nat → Int32) (ty : Int32) (kp : Nat → Int32) (bt : Nat → Int64) (x : Int32) :
    (f_X2_isObject so fi el ab sz ot ob (nI m) x = 0 ∧ f_X3_isObject ro rf re av un ty kp bt (nI m) x = 0) ∨ ∃ i, i < m ∧ x = nI i ∧ f_X2_isObject so fi el ab sz ot ob (nI m) (nI i) = 1 ∧ f_X3_isObject ro rf re av un ty kp bt (nI m) (nI i) = 1 := by
  unfold f_X2_isObject f_X3_isObject f_X3_in
  rcases pu_in hm x with ⟨h1, h2⟩ | ⟨i, hi, rfl, h1, h2, h3⟩
  · refine Or.inl ⟨?_, ?_⟩
    · by_cases h : x < 0
      · rw [if_pos h]
      · rw [if_neg h, if_pos (h1.resolve_left h)]
    · by_cases h : x < 0
      · rw [if_pos h]
      · rw [if_neg h, if_pos (h2.resolve_left h)]
  · exact Or.inr ⟨i, hi, rfl, by rw [if_neg h1, if_neg h2], by rw [if_neg h1, if_neg h3]⟩
/-! bit t of a row -/
theorem pu_bit {t : Nat} (ht : t < 64) : (f_X1_bit (nI t)).toBitVec = 1#64 <<< t := by
  have : ∀ t, t < 64 → (f_X1_bit (nI t)).toBitVec = 1#64 <<< t := by decide +kernel
  exact this t ht
theorem pu_bitD {t j : Nat} (ht : t < 64) : (f_X1_bit (nI t)).toBitVec.getLsbD j = decide (j = t) := by
  rw [pu_bit ht, BitVec.getLsbD_shiftLeft]
  by_cases h : j = t
  · subst h
    simp [ht]
  · by_cases h2 : j < t
    · simp [h, h2]
    · have h3 : ¬ (j - t = 0) := by omega
      simp [h, h3]
theorem Bt_bit {t j : Nat} (ht : t < 64) : Bt (f_X1_bit (nI t)) j ↔ j = t := by
  unfold Bt
  rw [pu_bitD ht]
  simp
theorem Bt_or (a b : Int64) (j : Nat) : Bt (a ||| b) j ↔ Bt a j ∨ Bt b j := by
  unfold Bt
  rw [Int64.toBitVec_or, BitVec.getLsbD_or]
  simp
theorem Bt_0 (j : Nat) : ¬ Bt 0 j := by
  unfold Bt
  simp
theorem Bt_and0 (v : Int64) {t : Nat} (ht : t < 64) : (v &&& f_X1_bit (nI t)) = 0 ↔ ¬ Bt v t := by
  unfold Bt
  constructor
  · intro h hb
    have h2 : (v &&& f_X1_bit (nI t)).toBitVec.getLsbD t = false := by rw [h]; simp
    rw [Int64.toBitVec_and, BitVec.getLsbD_and, hb, pu_bitD ht] at h2
    simp at h2
  · intro h
    apply Int64.toBitVec_inj.mp
    apply BitVec.eq_of_getLsbD_eq
    intro j hj
    rw [Int64.toBitVec_and, BitVec.getLsbD_and, pu_bitD ht]
    by_cases hjt : j = t
    · subst hjt; simp at h; simp [h]
    · simp [hjt]
theorem pu_un (so fi el : Nat → Int32) (ab : Nat → Int64) (sz : Int32) {s t : Nat} (hs : s < 2 ^ 31) (ht : t < 64) :
    (Bt (ab s) t ∧ f_X1_isUnder so fi el ab sz (nI s) (nI t) = 1) ∨ (¬ Bt (ab s) t ∧ f_X1_isUnder so fi el ab sz (nI s) (nI t) = 0) := by
  unfold f_X1_isUnder
  rw [nI_clamp hs]
  by_cases h : Bt (ab s) t
  · exact Or.inl ⟨h, if_neg (fun q => (Bt_and0 _ ht).mp q h)⟩
  · exact Or.inr ⟨h, if_pos ((Bt_and0 _ ht).mpr h)⟩
theorem pu_ix {s t : Nat} (hs : s < 40) (ht : t < 40) : (((40 : Int32) * nI s) + nI t).toNatClampNeg = 40 * s + t := by
  have h := ix40v (a := nI s) (b := nI t) (by rw [vp_in_iff, nI_toInt (by omega)]; omega) (by rw [vp_in_iff, nI_toInt (by omega)]; omega)
  rw [h, nI_clamp (by omega), nI_clamp (by omega)]
/-- both sides' 'under' of two references -/
theorem pu_un3 {n : Nat} {so el : Nat → Int32} {ab : Nat → Int64} {ro re av un : Nat → Int32} (hb : jv_b n so el ab ro re av un) (hn : n ≤ 40) (fi : Nat → Int32) (sz : Int32) {s t : Nat} (hs : 8 ≤ s ∧ s < n) (ht : 8 ≤ t ∧ t < n) :
    (Bt (ab s) t ∧ f_X1_isUnder so fi el ab sz (nI s) (nI t) = 1 ∧ ¬ un (((40 : Int32) * nI s) + nI t).toNatClampNeg = 0) ∨ (¬ Bt (ab s) t ∧ f_X1_isUnder so fi el ab sz (nI s) (nI t) = 0 ∧ un (((40 : Int32) * nI s) + nI t).toNatClampNeg = 0) := by
  rw [pu_ix (by omega) (by omega)]
  have h := hb.2.2.1 s t hs.1 hs.2 ht.1 ht.2
  rcases pu_un so fi el ab sz (s := s) (t := t) (by omega) (by omega) with ⟨h1, h2⟩ | ⟨h1, h2⟩
  · exact Or.inl ⟨h1, h2, h.mpr h1⟩
  · exact Or.inr ⟨h1, h2, Classical.byContradiction fun q => h1 (h.mp q)⟩

/-! pure: make, and the plain part of type -/
theorem pu_addobj {n m : Nat} {ot : Nat → Int32} {ob : Nat → Int64} {kp : Nat → Int32} {bt : Nat → Int64} (ho : jv_o n m ot ob kp bt) (hm : m < 60) {a : Nat} (ha : a < n) (ha8 : 8 ≤ a) (v : Int64) : jv_o n (m + 1) (upd ot m (nI a)) (vp_updL ob m v) (upd kp m (nI a)) (vp_updL bt m v) := by
  refine ⟨by omega, fun i hi => ?_⟩
  by_cases h : i = m
  · subst h
    simp only [upd, vp_updL]
    exact ⟨by simp, by simp, a, ha, ha8, by simp⟩
  · have := ho.2 i (by omega)
    simp only [upd, vp_updL, h, if_false]
    exact this
theorem pu_full {m : Nat} (hm : m ≤ 60) : (nI m = 60 ∧ ¬ nI m < 60 ∧ m = 60) ∨ (¬ nI m = 60 ∧ nI m < 60 ∧ m < 60) := by
  have e : (60 : Int32) = nI 60 := rfl
  by_cases h : m = 60
  · subst h; exact Or.inl ⟨rfl, by decide, rfl⟩
  · refine Or.inr ⟨?_, ?_, by omega⟩
    · rw [e, nI_eq (by omega) (by omega)]; exact h
    · rw [e, nI_ltI (by omega) (by omega)]; omega
theorem pu_made1 : ∀ i, i < 23 → ¬ (23 : Int32) ≤ nI i ∧ nI i ≤ 22 := by decide +kernel
theorem pu_made2 : ∀ i, i < 40 → 23 ≤ i → (23 : Int32) ≤ nI i ∧ ¬ nI i ≤ 22 ∧ ¬ nI i = 16 ∧ ¬ nI i = 21 ∧ ¬ nI i = 22 := by decide +kernel
theorem pu_made {n m : Nat} {so fi el : Nat → Int32} {ab : Nat → Int64} {ot : Nat → Int32} {ob : Nat → Int64} {ro rf re av un : Nat → Int32} {kp : Nat → Int32} {bt : Nat → Int64} (hs : jv_s n so fi ro rf) {i : Nat} (hi : i < n) (th : Int32) (h2 : f_X3_isType ro rf re av un (nI n) kp bt (nI m) (nI i) = 1) :
    f_X3_make th ro rf re av un (nI n) kp bt (nI m) (nI i) = f_X3_make_64 th ro rf re av un (nI n) kp bt (nI m) (nI i) (f_X2_mayBeMade so fi el ab (nI n) ot ob (nI m) (nI i)) 0 ∧ (¬ f_X2_mayBeMade so fi el ab (nI n) ot ob (nI m) (nI i) = 0 → 8 ≤ i) := by
  have hn := hs.1
  unfold f_X3_make f_X2_mayBeMade f_X1_sortOf
  rw [h2, if_neg pu10, nI_clamp (by omega)]
  by_cases h : i < 23
  · have := pu_made1 i h
    rw [if_neg this.1]
    by_cases c1 : nI i = 16
    · refine ⟨by simp [c1], fun _ => ?_⟩
      have := congrArg Int32.toInt c1
      rw [nI_toInt (by omega)] at this
      have h16 : (16 : Int32).toInt = 16 := rfl
      omega
    · by_cases c2 : nI i = 21
      · refine ⟨by simp [c2], fun _ => ?_⟩
        have := congrArg Int32.toInt c2
        rw [nI_toInt (by omega)] at this
        have h16 : (21 : Int32).toInt = 21 := rfl
        omega
      · by_cases c3 : nI i = 22
        · refine ⟨by simp [c3], fun _ => ?_⟩
          have := congrArg Int32.toInt c3
          rw [nI_toInt (by omega)] at this
          have h16 : (22 : Int32).toInt = 22 := rfl
          omega
        · exact ⟨by simp [c1, c2, c3, this.2], fun q => absurd (by simp [c1, c2, c3]) q⟩
  · have := pu_made2 i (by omega) (by omega)
    have e := (hs.2.1 i hi).1
    rw [if_pos this.1, e]
    refine ⟨?_, fun _ => by omega⟩
    rcases hs.2.2.2.2.1 i (by omega) hi with h | h | h
    · rw [h]; simp [this]
    · rw [h]; simp [this]
    · rw [h]; simp [this]
theorem pe_make {so : Nat → Int32} {fi : Nat → Int32} {el : Nat → Int32} {ab : Nat → Int64} {sz : Int32} {ot : Nat → Int32} {ob : Nat → Int64} {oc : Int32} {th : Int32} {ro : Nat → Int32} {rf : Nat → Int32} {re : Nat → Int32} {av : Nat → Int32} {un : Nat → Int32} {ty : Int32} {kp : Nat → Int32} {bt : Nat → Int64} {rk : Int32} (hI : Inv (so, fi, el, ab, sz, ot, ob, oc) (th, ro, rf, re, av, un, ty, kp, bt, rk)) (x1 : Int32) : (f_X2_make so fi el ab sz ot ob oc x1).1 = (f_X3_make th ro rf re av un ty kp bt rk x1).1 ∧ Inv (f_X2_make so fi el ab sz ot ob oc x1).2 ((f_X3_make th ro rf re av un ty kp bt rk x1).2.1, ro, rf, re, av, un, ty, (f_X3_make th ro rf re av un ty kp bt rk x1).2.2.1, (f_X3_make th ro rf re av un ty kp bt rk x1).2.2.2.1, (f_X3_make th ro rf re av un ty kp bt rk x1).2.2.2.2) := by
  obtain ⟨n, m, g1, g2, g3, g4, g5⟩ := hI
  have h1 : sz = nI n := g1
  have h2 : ty = nI n := g2
  have h3 : oc = nI m := g3
  have h4 : rk = nI m := g4
  have hJ : jv n m so fi el ab ot ob ro rf re av un kp bt := g5
  clear g1 g2 g3 g4 g5
  subst h1 h2 h3 h4
  obtain ⟨hs, he, ha, hb, ho, hf⟩ := hJ
  have hn := hs.1
  have hm := ho.1
  rcases pu_has (by omega) so fi el ab ro rf re av un kp bt (nI m) (n := n) x1 with ⟨h1, h2⟩ | ⟨i, hi, rfl, h1, h2⟩
  · unfold f_X2_make f_X3_make
    rw [if_pos h1, if_pos h2]
    exact ⟨rfl, n, m, rfl, rfl, rfl, rfl, hs, he, ha, hb, ho, hf⟩
  · obtain ⟨e1, e2⟩ := pu_made (so := so) (fi := fi) (el := el) (ab := ab) (ot := ot) (ob := ob) (av := av) (un := un) (re := re) (kp := kp) (bt := bt) (m := m) hs hi th h2
    rw [e1]
    unfold f_X2_make f_X3_make_64 f_X2_isFullOfObjects f_X2_addObject f_X3_keep
    rw [h1, if_neg pu10]
    by_cases c : f_X2_mayBeMade so fi el ab (nI n) ot ob (nI m) (nI i) = 0
    · rw [if_pos c, if_pos c]
      exact ⟨rfl, n, m, rfl, rfl, rfl, rfl, hs, he, ha, hb, ho, hf⟩
    · rw [if_neg c, if_neg c]
      rcases pu_full hm with ⟨f1, f2, f3⟩ | ⟨f1, f2, f3⟩
      · rw [if_neg (by rw [if_neg f2]; decide), if_pos f1]
        exact ⟨rfl, n, m, rfl, rfl, rfl, rfl, hs, he, ha, hb, ho, hf⟩
      · rw [if_pos (by rw [if_pos f2]), if_neg f1]
        have e3 := pu_addobj ho f3 hi (e2 c) 0
        refine ⟨?_, n, m + 1, rfl, rfl, nI_1 m, nI_1 m, hs, he, ha, hb, ?_, hf⟩
        · show nI m = nI m + 1 - 1
          rw [nI_1, nI_pred]
        · show jv_o n (m + 1) (upd ot (nI m).toNatClampNeg (nI i)) (vp_updL ob (nI m).toNatClampNeg 0) (upd kp (nI m).toNatClampNeg (nI i)) (vp_updL bt (nI m).toNatClampNeg 0)
          rw [nI_clamp (by omega)]
          exact e3

/-! pure: type -/
theorem Bt_tb {x t : Nat} (hx : x < 2 ^ 64) : Bt (lN x) t ↔ x.testBit t = true := by
  unfold Bt
  rw [wb_tb, BitVec.getLsbD_ofNat]
  constructor
  · intro h; simp at h; exact h.2
  · intro h
    have : t < 64 := by
      apply Classical.byContradiction
      intro q
      rw [Nat.testBit_lt_two_pow (Nat.lt_of_lt_of_le hx (Nat.pow_le_pow_right (by decide) (by omega)))] at h
      exact absurd h (by decide)
    simp [this, h]
/-- bits that aren't there don't count -/
theorem pc_none {x a : Nat} : ∀ k, (∀ t, a ≤ t → x.testBit t = false) → pcN x (a + k) = pcN x a := by
  intro k h
  induction k with
  | zero => rfl
  | succ k ih =>
    rw [show a + (k + 1) = (a + k) + 1 by omega]
    simp only [pcN, ih, h (a + k) (by omega)]
    simp
theorem pc_zero {x : Nat} : ∀ k, (∀ t, t < k → x.testBit t = false) → pcN x k = 0 := by
  intro k
  induction k with
  | zero => intro _; rfl
  | succ k ih =>
    intro h
    simp only [pcN, ih (fun t ht => h t (by omega)), h k (by omega)]
    simp
theorem pc_le {x : Nat} : ∀ k, pcN x k ≤ k := by
  intro k
  induction k with
  | zero => exact Nat.le_refl 0
  | succ k ih => simp only [pcN]; split <;> omega
theorem pu_t83 {n x : Nat} {ro rf re av un : Nat → Int32} (hn : n ≤ 40) (th th2 : Int32) (kp : Nat → Int32) (bt : Nat → Int64) (rk y2 : Int32) {s : Nat} (s8 : 8 ≤ s) (sn : s < n) (hu : ∀ t, 8 ≤ t → t < n → (¬ un (40 * s + t) = 0 ↔ x.testBit t = true)) (h8 : pcN x 8 = 0) :
    ∀ k t, 8 ≤ t → t ≤ n → t + k = 41 → (f_X3_type_83 k th ro rf re av un (nI n) kp bt rk (nI s) y2 (nI (pcN x t)) (nI t) th2).1 = nI (pcN x n) := by
  have q1 : ¬ nI s ≤ 7 := fun q => by have := (pu_ref (by omega)).mp q; omega
  intro k
  induction k with
  | zero => intro t h1 h2 h3; omega
  | succ k ih =>
    intro t h1 h2 h3
    rw [f_X3_type_83]
    unfold f_X3_isReference
    by_cases c : t = n
    · subst c
      rw [if_pos (by rw [nI_leI (by omega) (by omega)]; omega)]
    · rw [if_neg (by rw [nI_leI (by omega) (by omega)]; omega), if_neg q1, if_neg pu10, pu_ix (by omega) (by omega), nI_1]
      have e := hu t h1 (by omega)
      have ip := ih (t + 1) (by omega) (by omega) (by omega)
      by_cases g : x.testBit t = true
      · rw [if_neg (e.mpr g), nI_1]
        rw [show pcN x (t + 1) = pcN x t + 1 by simp only [pcN, g, if_true]] at ip
        exact ip
      · rw [if_pos (Classical.byContradiction fun q => g (e.mp q))]
        rw [show pcN x (t + 1) = pcN x t by simp [pcN, g]] at ip
        rw [show nI (pcN x t) + (0 : Int32) = nI (pcN x t) by simp]
        exact ip
theorem pe_type {so : Nat → Int32} {fi : Nat → Int32} {el : Nat → Int32} {ab : Nat → Int64} {sz : Int32} {ot : Nat → Int32} {ob : Nat → Int64} {oc : Int32} {th : Int32} {ro : Nat → Int32} {rf : Nat → Int32} {re : Nat → Int32} {av : Nat → Int32} {un : Nat → Int32} {ty : Int32} {kp : Nat → Int32} {bt : Nat → Int64} {rk : Int32} (hI : Inv (so, fi, el, ab, sz, ot, ob, oc) (th, ro, rf, re, av, un, ty, kp, bt, rk)) (x1 : Int32) (x2 : Int32) : f_X2_type so fi el ab sz ot ob oc x1 x2 = (f_X3_type th ro rf re av un ty kp bt rk x1 x2).1 := by
  obtain ⟨n, m, g1, g2, g3, g4, g5⟩ := hI
  have h1 : sz = nI n := g1
  have h2 : ty = nI n := g2
  have h3 : oc = nI m := g3
  have h4 : rk = nI m := g4
  have hJ : jv n m so fi el ab ot ob ro rf re av un kp bt := g5
  clear g1 g2 g3 g4 g5
  subst h1 h2 h3 h4
  obtain ⟨hs, he, ha, hb, ho, hf⟩ := hJ
  have hn := hs.1
  have hm := ho.1
  unfold f_X2_type f_X3_type
  rcases pu_has (by omega) so fi el ab ro rf re av un kp bt (nI m) (n := n) x1 with ⟨h1, h2⟩ | ⟨i, hi, rfl, h1, h2⟩
  · rw [if_pos h1, if_pos h2]
  · simp only [h1, h2, if_neg pu10]
    have ci : (nI i).toNatClampNeg = i := nI_clamp (by omega)
    unfold f_X1_sortOf f_X1_isFinal f_X1_elementOf f_X1_countAbove
    rw [ci]
    obtain ⟨s1, s2⟩ := hs.2.1 i hi
    rw [s1, s2]
    by_cases c0 : x2 = 0
    · simp only [c0, if_true]
    · by_cases c1 : x2 = 1
      · simp only [c0, c1, if_true, if_false]
        by_cases g : fi i = 0
        · simp [g]
        · simp [g]
      · by_cases c2 : x2 = 2
        · simp only [c0, c1, c2, if_true, if_false]
          by_cases g : so i = 3
          · simp [g, (he.1 i hi g).1]
          · simp [g, (he.2.1 i hi g).2]
        · by_cases c3 : x2 = 3
          · simp only [c0, c1, c2, if_false]
            rw [if_pos c3, if_pos c3]
            obtain ⟨x, hx, ex⟩ := wb_of (ab i)
            rw [ex, pc_bits hx]
            have B : ∀ t, x.testBit t = true → 8 ≤ i ∧ 8 ≤ t ∧ t < n := fun t ht => hb.2.1 i t hi (by rw [ex]; exact (Bt_tb hx).mpr ht)
            have F : ∀ t, ¬ (8 ≤ i ∧ 8 ≤ t ∧ t < n) → x.testBit t = false := fun t q => by
              cases h : x.testBit t with
              | false => rfl
              | true => exact absurd (B t h) q
            have e1 : pcN x 64 = pcN x n := by
              have := pc_none (x := x) (a := n) (64 - n) (fun t ht => F t (by omega))
              rw [show n + (64 - n) = 64 by omega] at this
              exact this
            rw [e1]
            by_cases i8 : 8 ≤ i
            · have := pu_t83 (n := n) (x := x) (ro := ro) (rf := rf) (re := re) (av := av) (un := un) hn.2 th 0 kp bt (nI m) x2 i8 hi (fun t t8 tn => by rw [hb.2.2.1 i t i8 hi t8 tn, ex]; exact Bt_tb hx) (pc_zero 8 (fun t ht => F t (by omega))) 33 8 (by omega) (by omega) (by omega)
              rw [pc_zero 8 (fun t ht => F t (by omega))] at this
              exact this.symm
            · rw [pc_zero n (fun t ht => F t (by omega))]
              rw [f_X3_type_83]
              unfold f_X3_isReference
              rw [if_pos ((pu_ref (by omega)).mpr (by omega))]
              by_cases z : nI n ≤ 8
              · rw [if_pos z]; rfl
              · rw [if_neg z, if_pos rfl]; rfl
          · simp only [c0, c1, c2, c3, if_false]

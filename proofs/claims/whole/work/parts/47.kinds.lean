/-! pure: kind, given, targets, cast -/
theorem pu_ctx (x : Int32) : (f_X2_isContext x = 0 ∧ f_X3_in x 0 5 = 0) ∨ ∃ c, c < 6 ∧ x = nI c ∧ f_X2_isContext (nI c) = 1 ∧ f_X3_in (nI c) 0 5 = 1 := by
  by_cases h0 : x < 0
  · exact Or.inl ⟨by unfold f_X2_isContext; rw [if_pos h0], by unfold f_X3_in; rw [if_pos h0]⟩
  · by_cases h5 : (5 : Int32) < x
    · exact Or.inl ⟨by unfold f_X2_isContext; rw [if_neg h0, if_pos h5], by unfold f_X3_in; rw [if_neg h0, if_pos h5]⟩
    · obtain ⟨c, hc, rfl⟩ := nI_of h0
      have : c < 6 := by
        rw [show (5 : Int32) = nI 5 from rfl, nI_ltI (by omega) hc] at h5
        omega
      exact Or.inr ⟨c, this, rfl, by unfold f_X2_isContext; rw [if_neg h0, if_neg h5], by unfold f_X3_in; rw [if_neg h0, if_neg h5]⟩
theorem pe_kind {so : Nat → Int32} {fi : Nat → Int32} {el : Nat → Int32} {ab : Nat → Int64} {sz : Int32} {ot : Nat → Int32} {ob : Nat → Int64} {oc : Int32} {th : Int32} {ro : Nat → Int32} {rf : Nat → Int32} {re : Nat → Int32} {av : Nat → Int32} {un : Nat → Int32} {ty : Int32} {kp : Nat → Int32} {bt : Nat → Int64} {rk : Int32} (hI : Inv (so, fi, el, ab, sz, ot, ob, oc) (th, ro, rf, re, av, un, ty, kp, bt, rk)) (x1 : Int32) (x2 : Int32) (x3 : Int32) : f_X2_kind so fi el ab sz ot ob oc x1 x2 x3 = (f_X3_kind th ro rf re av un ty kp bt rk x1 x2 x3).1 := by
  obtain ⟨n, m, g1, g2, g3, g4, g5⟩ := hI
  have h1 : sz = nI n := g1
  have h2 : ty = nI n := g2
  have h3 : oc = nI m := g3
  have h4 : rk = nI m := g4
  have hJ : jv n m so fi el ab ot ob ro rf re av un kp bt := g5
  clear g1 g2 g3 g4 g5
  subst h1 h2 h3 h4
  obtain ⟨hs, he, ha, hb, ho, hf⟩ := hJ
  have hn := hs.1
  have hm := ho.1
  unfold f_X2_kind f_X3_kind
  rcases pu_has (by omega) so fi el ab ro rf re av un kp bt (nI m) (n := n) x1 with ⟨h1, h2⟩ | ⟨i, hi, rfl, h1, h2⟩
  · rw [if_pos h1, if_pos h2]
  · rw [h1, h2, if_neg pu10, if_neg pu10]
    rcases pu_has (by omega) so fi el ab ro rf re av un kp bt (nI m) (n := n) x2 with ⟨h3, h4⟩ | ⟨j, hj, rfl, h3, h4⟩
    · rw [if_pos h3, if_pos h4]
    · rw [h3, h4, if_neg pu10, if_neg pu10]
      rcases pu_ctx x3 with ⟨h5, h6⟩ | ⟨c, hc, rfl, h5, h6⟩
      · rw [if_pos h5, if_pos h6]
      · rw [h5, h6, if_neg pu10, if_neg pu10]
        exact pu_kind hs he hb (nI n) ot ob (nI m) (nI n) kp bt (nI m) hi hj hc
theorem pu_hpos (b : Bool) (x2 x3 : Int32) {q : Nat} (hq : q ≤ 11) : ∃ r, r ≤ 12 ∧ pu_h b x2 x3 (nI q) = nI r := by
  unfold pu_h
  repeat' split
  all_goals first | exact ⟨q, by omega, rfl⟩ | exact ⟨12, by omega, rfl⟩ | exact ⟨0, by omega, rfl⟩
theorem pu_kind0 {n : Nat} {so fi el : Nat → Int32} {ab : Nat → Int64} {ro rf re av un : Nat → Int32} (hs : jv_s n so fi ro rf) (he : jv_e n so el re) (hb : jv_b n so el ab ro re av un) (sz : Int32) (ot : Nat → Int32) (ob : Nat → Int64) (oc ty : Int32) (kp : Nat → Int32) (bt : Nat → Int64) (rk : Int32) {i j c : Nat} (hi : i < n) (hj : j < n) (hc : c < 6) :
    f_X3_kindOf ro rf re av un ty kp bt rk (nI i) (nI j) (nI c) ≤ 0 ↔ f_X2_allowedKind so fi el ab sz ot ob oc (nI i) (nI j) (nI c) = 0 := by
  rw [← pu_kind hs he hb sz ot ob oc ty kp bt rk hi hj hc]
  obtain ⟨k1, k2, -, -⟩ := pu_step hs he hb sz ot ob oc ty kp bt rk hi hj
  rw [pu_allowed]
  generalize f_X2_stepsBetween so fi el ab sz ot ob oc (nI i) (nI j) = z at k1 k2 ⊢
  rw [← k2]
  obtain ⟨r, hr, e⟩ := pu_hpos (decide (nI i = 21)) (nI j) (nI c) k1
  rw [e, show (0 : Int32) = nI 0 from rfl, nI_leI (by omega) (by omega), nI_eq (by omega) (by omega)]
  omega
theorem pu_tl {n : Nat} {so fi el : Nat → Int32} {ab : Nat → Int64} {ro rf re av un : Nat → Int32} (hs : jv_s n so fi ro rf) (he : jv_e n so el re) (hb : jv_b n so el ab ro re av un) (ot : Nat → Int32) (ob : Nat → Int64) (oc : Int32) (th th2 : Int32) (kp : Nat → Int32) (bt : Nat → Int64) (rk : Int32) {i c : Nat} (hi : i < n) (hc : c < 6) :
    ∀ k t, t + k = 41 → 1 ≤ k → ∀ nn, f_X2_targets_25 k so fi el ab (nI n) ot ob oc (nI i) (nI c) nn (nI t) = (f_X3_targets_29 k th ro rf re av un (nI n) kp bt rk (nI i) (nI c) nn (nI t) th2).1 := by
  have hn := hs.1
  intro k
  induction k with
  | zero => intro t h1 h2; omega
  | succ k ih =>
    intro t h1 _ nn
    rw [f_X2_targets_25, f_X3_targets_29]
    unfold f_X1_size
    by_cases h : nI n ≤ nI t
    · rw [if_pos h, if_pos h]
    · rw [if_neg h, if_neg h]
      rw [nI_leI (by omega) (by omega)] at h
      have e := pu_kind0 hs he hb (nI n) ot ob oc (nI n) kp bt rk hi (j := t) (by omega) hc
      by_cases g : f_X2_allowedKind so fi el ab (nI n) ot ob oc (nI i) (nI t) (nI c) = 0
      · rw [if_pos g, if_pos (e.mpr g), nI_1, show nn + (0 : Int32) = nn by simp]
        exact ih (t + 1) (by omega) (by omega) nn
      · rw [if_neg g, if_neg (fun q => g (e.mp q)), nI_1]
        exact ih (t + 1) (by omega) (by omega) (nn + 1)
theorem pe_targets {so : Nat → Int32} {fi : Nat → Int32} {el : Nat → Int32} {ab : Nat → Int64} {sz : Int32} {ot : Nat → Int32} {ob : Nat → Int64} {oc : Int32} {th : Int32} {ro : Nat → Int32} {rf : Nat → Int32} {re : Nat → Int32} {av : Nat → Int32} {un : Nat → Int32} {ty : Int32} {kp : Nat → Int32} {bt : Nat → Int64} {rk : Int32} (hI : Inv (so, fi, el, ab, sz, ot, ob, oc) (th, ro, rf, re, av, un, ty, kp, bt, rk)) (x1 : Int32) (x2 : Int32) : f_X2_targets so fi el ab sz ot ob oc x1 x2 = (f_X3_targets th ro rf re av un ty kp bt rk x1 x2).1 := by
  obtain ⟨n, m, g1, g2, g3, g4, g5⟩ := hI
  have h1 : sz = nI n := g1
  have h2 : ty = nI n := g2
  have h3 : oc = nI m := g3
  have h4 : rk = nI m := g4
  have hJ : jv n m so fi el ab ot ob ro rf re av un kp bt := g5
  clear g1 g2 g3 g4 g5
  subst h1 h2 h3 h4
  obtain ⟨hs, he, ha, hb, ho, hf⟩ := hJ
  have hn := hs.1
  have hm := ho.1
  unfold f_X2_targets f_X3_targets
  rcases pu_has (by omega) so fi el ab ro rf re av un kp bt (nI m) (n := n) x1 with ⟨h1, h2⟩ | ⟨i, hi, rfl, h1, h2⟩
  · rw [if_pos h1, if_pos h2]
  · rw [h1, h2, if_neg pu10, if_neg pu10]
    rcases pu_ctx x2 with ⟨h5, h6⟩ | ⟨c, hc, rfl, h5, h6⟩
    · rw [if_pos h5, if_pos h6]
    · rw [h5, h6, if_neg pu10, if_neg pu10]
      exact pu_tl hs he hb ot ob (nI m) th 0 kp bt (nI m) hi hc 41 0 (by omega) (by omega) 0
theorem pu_mn (v : Int64) : ¬ v < -9223372036854775808 := by
  rw [Int64.lt_iff_toInt_lt]
  have h := Int64.le_toInt v
  have e : (-9223372036854775808 : Int64).toInt = -9223372036854775808 := by decide
  rw [e]
  omega
theorem pu_mx (v : Int64) : ¬ 9223372036854775807 < v := by
  rw [Int64.lt_iff_toInt_lt]
  have h := Int64.toInt_lt v
  have e : (9223372036854775807 : Int64).toInt = 9223372036854775807 := by decide
  rw [e]
  omega
theorem pu_abits (v : Int64) : ∀ i, 1 ≤ i → i ≤ 5 → f_X2_areBitsOf v (nI i) = f_X3_has (nI i) v := by
  intro i h1 h2
  rcases (show i = 1 ∨ i = 2 ∨ i = 3 ∨ i = 4 ∨ i = 5 by omega) with rfl | rfl | rfl | rfl | rfl
  · rfl
  · rfl
  · rfl
  · rfl
  · unfold f_X2_areBitsOf
    rw [show st_L (nI 5).toNatClampNeg = -9223372036854775808 from rfl, show st_G (nI 5).toNatClampNeg = 9223372036854775807 from rfl, if_neg (pu_mn v), if_neg (pu_mx v)]
    rfl
theorem pu_whole : ∀ i, i < 40 → (f_X2_isWhole (nI i) = f_X3_in (nI i) 1 5 ∧ (f_X2_isWhole (nI i) = 0 ∨ (1 ≤ i ∧ i ≤ 5))) ∧ ((4 : Int32) < nI i ↔ (5 : Int32) ≤ nI i) := by decide +kernel
theorem pu_small : ∀ j, j < 40 → f_X2_isBox (nI j) = f_X3_isBox (nI j) ∧ ((f_X2_withoutBox (nI j) < 1 ∨ 3 < f_X2_withoutBox (nI j)) ∨ (f_X2_withoutBox (nI j) = nI 1 ∨ f_X2_withoutBox (nI j) = nI 2 ∨ f_X2_withoutBox (nI j) = nI 3)) := by decide +kernel
theorem pe_given {so : Nat → Int32} {fi : Nat → Int32} {el : Nat → Int32} {ab : Nat → Int64} {sz : Int32} {ot : Nat → Int32} {ob : Nat → Int64} {oc : Int32} {th : Int32} {ro : Nat → Int32} {rf : Nat → Int32} {re : Nat → Int32} {av : Nat → Int32} {un : Nat → Int32} {ty : Int32} {kp : Nat → Int32} {bt : Nat → Int64} {rk : Int32} (hI : Inv (so, fi, el, ab, sz, ot, ob, oc) (th, ro, rf, re, av, un, ty, kp, bt, rk)) (x1 : Int64) (x2 : Int32) (x3 : Int32) : f_X2_given so fi el ab sz ot ob oc x1 x2 x3 = (f_X3_given th ro rf re av un ty kp bt rk x1 x2 x3).1 := by
  obtain ⟨n, m, g1, g2, g3, g4, g5⟩ := hI
  have h1 : sz = nI n := g1
  have h2 : ty = nI n := g2
  have h3 : oc = nI m := g3
  have h4 : rk = nI m := g4
  have hJ : jv n m so fi el ab ot ob ro rf re av un kp bt := g5
  clear g1 g2 g3 g4 g5
  subst h1 h2 h3 h4
  obtain ⟨hs, he, ha, hb, ho, hf⟩ := hJ
  have hn := hs.1
  have hm := ho.1
  unfold f_X2_given f_X3_given
  rcases pu_has (by omega) so fi el ab ro rf re av un kp bt (nI m) (n := n) x2 with ⟨h1, h2⟩ | ⟨i, hi, rfl, h1, h2⟩
  · rw [if_pos h1, if_pos h2]
  · simp only [h1, h2, if_neg pu10]
    rcases pu_has (by omega) so fi el ab ro rf re av un kp bt (nI m) (n := n) x3 with ⟨h3, h4⟩ | ⟨j, hj, rfl, h3, h4⟩
    · rw [if_pos h3, if_pos h4]
    · simp only [h3, h4, if_neg pu10]
      obtain ⟨⟨w1, w2⟩, w3⟩ := pu_whole i (by omega)
      rw [← w1]
      by_cases c1 : f_X2_isWhole (nI i) = 0
      · rw [if_pos c1, if_pos c1]
      · rw [if_neg c1, if_neg c1]
        have hi5 := w2.resolve_left c1
        rw [← pu_abits x1 i hi5.1 hi5.2]
        by_cases c2 : f_X2_areBitsOf x1 (nI i) = 0
        · rw [if_pos c2, if_pos c2]
        · rw [if_neg c2, if_neg c2]
          have e := pu_kind0 hs he hb (nI n) ot ob (nI m) (nI n) kp bt (nI m) hi hj (c := 2) (by omega)
          rw [show (nI 2 : Int32) = 2 from rfl] at e
          obtain ⟨s1, s2⟩ := pu_small j (by omega)
          have E : (if f_X3_isBox (nI j) = 0 then f_X3_given_62 th ro rf re av un (nI n) kp bt (nI m) x1 (nI i) (nI j) (nI j) 0 else f_X3_given_62 th ro rf re av un (nI n) kp bt (nI m) x1 (nI i) (nI j) (nI j - 8) 0) = f_X3_given_62 th ro rf re av un (nI n) kp bt (nI m) x1 (nI i) (nI j) (f_X2_withoutBox (nI j)) 0 := by
            unfold f_X2_withoutBox
            rw [s1]
            by_cases c3 : f_X3_isBox (nI j) = 0
            · rw [if_pos c3, if_pos c3]
            · rw [if_neg c3, if_neg c3]
          rw [E]
          unfold f_X2_constantFits f_X3_given_62 f_X3_in
          generalize f_X2_withoutBox (nI j) = w at s2
          by_cases g : f_X2_allowedKind so fi el ab (nI n) ot ob (nI m) (nI i) (nI j) 2 = 0
          · have g' := e.mpr g
            by_cases c4 : (4 : Int32) < nI i
            · simp [g, g', c4, w3.mp c4]
            · have c4' : ¬ (5 : Int32) ≤ nI i := fun q => c4 (w3.mpr q)
              by_cases c5 : w < 1
              · simp [g, g', c4, c4', c5]
              · by_cases c6 : 3 < w
                · simp [g, g', c4, c4', c5, c6]
                · have e7 : f_X2_areBitsOf x1 w = f_X3_has w x1 := by
                    rcases s2 with h | h | h | h
                    · exact absurd h (fun q => q.elim c5 c6)
                    · rw [h]; exact pu_abits x1 1 (by omega) (by omega)
                    · rw [h]; exact pu_abits x1 2 (by omega) (by omega)
                    · rw [h]; exact pu_abits x1 3 (by omega) (by omega)
                  rw [e7]
                  by_cases c7 : f_X3_has w x1 = 0
                  · simp [g, g', c4, c4', c5, c6, c7]
                  · simp [g, g', c4, c4', c5, c6, c7]
          · have g' : ¬ f_X3_kindOf ro rf re av un (nI n) kp bt (nI m) (nI i) (nI j) 2 ≤ 0 := fun q => g (e.mp q)
            rw [if_neg g]
            repeat' split
            all_goals first | rfl | exact absurd ‹_› g' | exact absurd rfl ‹_› | (exfalso; simp_all; done)

def pu_cb (i j : Nat) (d : Int32) : Bool := decide (i < 8) || (decide (pu_h true (nI j) (nI 3) (pu_s2 (nI i) (nI j) 0 0 0 d) = 0) || ((decide (pu_h true (nI j) (nI 3) (pu_s2 (nI i) (nI j) 0 0 0 d) = 7) && decide (i = j + 8)) || (decide (pu_h true (nI j) (nI 3) (pu_s2 (nI i) (nI j) 0 0 0 d) = 8) || decide (pu_h true (nI j) (nI 3) (pu_s2 (nI i) (nI j) 0 0 0 d) = 11))))
theorem pu_c0 : ∀ i, i < 40 → ∀ j, j < 8 → pu_cb i j 0 = true ∧ pu_cb i j 1 = true := by decide +kernel
theorem pu_hb (b : Bool) (x2 z : Int32) : pu_h b x2 (nI 3) z = pu_h true x2 (nI 3) z := rfl
theorem pu_ck {n : Nat} {so fi el : Nat → Int32} {ab : Nat → Int64} {ro rf : Nat → Int32} (hs : jv_s n so fi ro rf) (sz : Int32) (ot : Nat → Int32) (ob : Nat → Int64) (oc : Int32) {i j : Nat} (hi : i < n) (i8 : 8 ≤ i) (hj : j < n) (z : Int32) (hz : z = f_X2_allowedKind so fi el ab sz ot ob oc (nI i) (nI j) 3) :
    (j < 8 → z = 0 ∨ (z = 7 ∧ i = j + 8) ∨ z = 8 ∨ z = 11) ∧ (8 ≤ j → ¬ z = 8) := by
  have hn := hs.1
  rw [pu_allowed, show (3 : Int32) = nI 3 from rfl, pu_hb, pu_steps] at hz
  rcases pu_prim i (by omega) with ⟨i8', -⟩ | ⟨-, p1, p2, p3, p4⟩
  · omega
  · rcases pu_prim j (by omega) with ⟨j8, q1, q2, q3, q4, q5⟩ | ⟨j8, q1, q2, q3, q4⟩
    · refine ⟨fun _ => ?_, fun h => by omega⟩
      have e : ∀ a b c d, pu_s2 (nI i) (nI j) a b c d = pu_s2 (nI i) (nI j) 0 0 0 d := by
        intro a b c d; unfold pu_s2; rw [p1, q1]; simp only [if_neg pu10, if_true]
      rw [e] at hz
      have hg := pu_gd01 so fi el ab sz (nI i) (f_X2_boxed (nI j)) 41 (nI i) (f_X2_boxed (nI j)) 0
      have hg : f_X1_goesDown so fi el ab sz (nI i) (f_X2_boxed (nI j)) = 0 ∨ f_X1_goesDown so fi el ab sz (nI i) (f_X2_boxed (nI j)) = 1 := hg
      have K := pu_c0 i (by omega) j j8
      unfold pu_cb at K
      simp only [Bool.or_eq_true, Bool.and_eq_true, decide_eq_true_eq] at K
      rcases hg with hg | hg
      · rw [hg] at hz; subst hz; exact K.1.resolve_left (by omega)
      · rw [hg] at hz; subst hz; exact K.2.resolve_left (by omega)
    · refine ⟨fun h => by omega, fun _ h => ?_⟩
      have e : ∀ a b c d, pu_s2 (nI i) (nI j) a b c d = 1 ∨ pu_s2 (nI i) (nI j) a b c d = 9 ∨ pu_s2 (nI i) (nI j) a b c d = 10 ∨ pu_s2 (nI i) (nI j) a b c d = 0 := by
        intro a b c d; unfold pu_s2; rw [p1, q1]
        simp only [if_true]
        repeat' split
        all_goals simp
      have e2 : ∀ x2 z, pu_h true x2 (nI 3) z = z ∨ pu_h true x2 (nI 3) z = 0 := by
        intro x2 z; unfold pu_h
        rw [if_neg (by decide), if_neg (by decide)]
        split
        · exact Or.inl rfl
        · exact Or.inr rfl
      rw [h] at hz
      rcases e2 (nI j) (pu_s2 (nI i) (nI j) (f_X1_isUnder so fi el ab sz (f_X2_boxed (nI i)) (nI j)) (f_X1_isUnder so fi el ab sz (nI i) (nI j)) (f_X1_goesDown so fi el ab sz (nI i) (nI j)) (f_X1_goesDown so fi el ab sz (nI i) (f_X2_boxed (nI j)))) with q | q
      · rw [q] at hz
        rcases e (f_X1_isUnder so fi el ab sz (f_X2_boxed (nI i)) (nI j)) (f_X1_isUnder so fi el ab sz (nI i) (nI j)) (f_X1_goesDown so fi el ab sz (nI i) (nI j)) (f_X1_goesDown so fi el ab sz (nI i) (f_X2_boxed (nI j))) with w | w | w | w <;> rw [w] at hz <;> exact absurd hz (by decide)
      · rw [q] at hz; exact absurd hz (by decide)
set_option maxHeartbeats 4000000 in
theorem pe_cast {so : Nat → Int32} {fi : Nat → Int32} {el : Nat → Int32} {ab : Nat → Int64} {sz : Int32} {ot : Nat → Int32} {ob : Nat → Int64} {oc : Int32} {th : Int32} {ro : Nat → Int32} {rf : Nat → Int32} {re : Nat → Int32} {av : Nat → Int32} {un : Nat → Int32} {ty : Int32} {kp : Nat → Int32} {bt : Nat → Int64} {rk : Int32} (hI : Inv (so, fi, el, ab, sz, ot, ob, oc) (th, ro, rf, re, av, un, ty, kp, bt, rk)) (x1 : Int32) (x2 : Int32) (x3 : Int32) : f_X2_cast so fi el ab sz ot ob oc x1 x2 x3 = (f_X3_cast th ro rf re av un ty kp bt rk x1 x2 x3).1 := by
  obtain ⟨n, m, g1, g2, g3, g4, g5⟩ := hI
  have h1 : sz = nI n := g1
  have h2 : ty = nI n := g2
  have h3 : oc = nI m := g3
  have h4 : rk = nI m := g4
  have hJ : jv n m so fi el ab ot ob ro rf re av un kp bt := g5
  clear g1 g2 g3 g4 g5
  subst h1 h2 h3 h4
  obtain ⟨hs, he, ha, hb, ho, hf⟩ := hJ
  have hn := hs.1
  have hm := ho.1
  unfold f_X2_cast f_X3_cast
  rcases pu_obj hm so fi el ab (nI n) ot ob ro rf re av un (nI n) kp bt x1 with ⟨h1, h2⟩ | ⟨q, hq, rfl, h1, h2⟩
  · rw [if_pos h1, if_pos h2]
  · rcases pu_has (by omega) so fi el ab ro rf re av un kp bt (nI m) (n := n) x2 with ⟨h3, h4⟩ | ⟨i, hi, rfl, h3, h4⟩
    · simp only [h1, h2, h3, h4, if_neg pu10, if_true]
    · rcases pu_has (by omega) so fi el ab ro rf re av un kp bt (nI m) (n := n) x3 with ⟨h5, h6⟩ | ⟨j, hj, rfl, h5, h6⟩
      · simp only [h1, h2, h3, h4, h5, h6, if_neg pu10, if_true]
      · simp only [h1, h2, h3, h4, h5, h6, if_neg pu10, if_true]
        obtain ⟨k1, -, a, an, a8, k2⟩ := ho.2 q hq
        have e1 : ot (nI q).toNatClampNeg = nI a := by rw [nI_clamp (by omega)]; exact k2
        have e2 : kp (nI q).toNatClampNeg = nI a := by rw [nI_clamp (by omega)]; exact k1.trans k2
        have ek := pu_kind hs he hb (nI n) ot ob (nI m) (nI n) kp bt (nI m) hi hj (c := 3) (by omega)
        rw [show (nI 3 : Int32) = 3 from rfl] at ek
        rw [e1, e2, ← ek]
        have hr : ∀ x, f_X3_isReference ro rf re av un (nI n) kp bt (nI m) x = if x ≤ 7 then 0 else 1 := fun x => rfl
        rw [hr]
        rcases pu_prim i (by omega) with ⟨i8, p1, p2, p3, p4, p5⟩ | ⟨i8, p1, p2, p3, p4⟩
        · simp only [p1, p3, if_neg pu10, if_true]
        · simp only [p1, p3, if_neg pu10, if_true, if_false]
          rcases pu_un3 hb hn.2 fi (nI n) (s := a) (t := i) ⟨a8, an⟩ ⟨i8, hi⟩ with ⟨r0, r1, r2⟩ | ⟨r0, r1, r2⟩
          · simp only [r1, r2, if_neg pu10, if_false]
            have hz := pu_ck hs (nI n) ot ob (nI m) (el := el) (ab := ab) hi i8 hj _ rfl
            generalize f_X2_allowedKind so fi el ab (nI n) ot ob (nI m) (nI i) (nI j) 3 = z at hz ⊢
            by_cases z0 : z = 0
            · simp only [z0, if_true]
            · simp only [z0, if_false]
              rcases pu_prim j (by omega) with ⟨j8, q1, q2, q3, q4, q5⟩ | ⟨j8, q1, q2, q3, q4⟩
              · simp only [q1, q2, q4, q5, if_neg pu10, if_false]
                by_cases a22 : nI a = 22
                · simp only [a22, if_true]
                · simp only [a22, if_false]
                  have a22' : ¬ a = 22 := fun h => a22 (by rw [h]; rfl)
                  rcases (hz.1 j8).resolve_left z0 with ⟨z7, ij⟩ | z8 | z11
                  · subst ij
                    rw [z7]
                    simp only [r1, if_neg pu10, show ¬ (7 : Int32) = 8 by decide, show ¬ (7 : Int32) = 11 by decide, if_false]
                  · rw [z8]
                    simp only [show ¬ (8 : Int32) = 11 by decide, if_false, if_true]
                  · rw [z11]
                    simp only [show ¬ (11 : Int32) = 8 by decide, if_false, if_true]
                    rcases pu_un3 hb hn.2 fi (nI n) (s := a) (t := j + 8) ⟨a8, an⟩ ⟨by omega, by omega⟩ with ⟨w0, w1, -⟩ | ⟨w0, w1, -⟩
                    · have : a = j + 8 := hb.2.2.2.2.2 a (j + 8) an a22' (by omega) (by omega) w0
                      subst this
                      simp only [w1, if_neg pu10, if_true]
                    · have : ¬ nI a = nI (j + 8) := by
                        rw [nI_eq (by omega) (by omega)]
                        intro h
                        subst h
                        exact w0 (pu_refl hb a8 an)
                      simp only [w1, this, if_true, if_false]
              · simp only [q1, q2, q4, if_true]
                have z8 := hz.2 j8
                by_cases a22 : nI a = 22
                · have : a = 22 := by
                    rw [show (22 : Int32) = nI 22 from rfl, nI_eq (by omega) (by omega)] at a22
                    exact a22
                  subst this
                  rcases pu_un3 hb hn.2 fi (nI n) (s := 22) (t := j) ⟨a8, an⟩ ⟨j8, hj⟩ with ⟨-, -, w2⟩ | ⟨w0, -, -⟩
                  · simp only [a22, if_true]
                    rw [a22] at w2
                    simp only [w2, if_false]
                  · exact absurd (pu_null hs hb j8 hj) w0
                · simp only [a22, z8, if_false]
                  rcases pu_un3 hb hn.2 fi (nI n) (s := a) (t := j) ⟨a8, an⟩ ⟨j8, hj⟩ with ⟨-, w1, w2⟩ | ⟨-, w1, w2⟩
                  · simp only [w1, w2, if_neg pu10, if_false]
                  · simp only [w1, w2, if_true]
          · simp only [r1, r2, if_true]

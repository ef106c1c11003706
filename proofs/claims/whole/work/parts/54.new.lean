set_option maxHeartbeats 4000000 in
theorem pe_newClass {so : Nat → Int32} {fi : Nat → Int32} {el : Nat → Int32} {ab : Nat → Int64} {sz : Int32} {ot : Nat → Int32} {ob : Nat → Int64} {oc : Int32} {th : Int32} {ro : Nat → Int32} {rf : Nat → Int32} {re : Nat → Int32} {av : Nat → Int32} {un : Nat → Int32} {ty : Int32} {kp : Nat → Int32} {bt : Nat → Int64} {rk : Int32} (hI : Inv (so, fi, el, ab, sz, ot, ob, oc) (th, ro, rf, re, av, un, ty, kp, bt, rk)) (x1 : Int32) (x2 : Int32) (x3 : Int32) (hz : x3 = 0 ∨ x3 = 1) : (f_X2_newClass so fi el ab sz ot ob oc x1 x2 x3).1 = (f_X3_newClass th ro rf re av un ty kp bt rk x1 x2 x3).1 ∧ Inv (f_X2_newClass so fi el ab sz ot ob oc x1 x2 x3).2 ((f_X3_newClass th ro rf re av un ty kp bt rk x1 x2 x3).2.1, (f_X3_newClass th ro rf re av un ty kp bt rk x1 x2 x3).2.2.1, (f_X3_newClass th ro rf re av un ty kp bt rk x1 x2 x3).2.2.2.1, (f_X3_newClass th ro rf re av un ty kp bt rk x1 x2 x3).2.2.2.2.1, (f_X3_newClass th ro rf re av un ty kp bt rk x1 x2 x3).2.2.2.2.2.1, (f_X3_newClass th ro rf re av un ty kp bt rk x1 x2 x3).2.2.2.2.2.2.1, (f_X3_newClass th ro rf re av un ty kp bt rk x1 x2 x3).2.2.2.2.2.2.2, kp, bt, rk) := by
  obtain ⟨n, m, g1, g2, g3, g4, g5⟩ := hI
  have h1 : sz = nI n := g1
  have h2 : ty = nI n := g2
  have h3 : oc = nI m := g3
  have h4 : rk = nI m := g4
  have hJ : jv n m so fi el ab ot ob ro rf re av un kp bt := g5
  clear g1 g2 g3 g4 g5
  subst h1 h2 h3 h4
  obtain ⟨hs, he, ha, hb, ho, hf⟩ := hJ
  have hn := hs.1
  have hm := ho.1
  have hJ : jv n m so fi el ab ot ob ro rf re av un kp bt := ⟨hs, he, ha, hb, ho, hf⟩
  have I0 : Inv (so, fi, el, ab, nI n, ot, ob, nI m) (0, ro, rf, re, av, un, nI n, kp, bt, nI m) := ⟨n, m, rfl, rfl, rfl, rfl, hJ⟩
  have h16 : so 16 = 1 ∧ fi 16 = 0 := by
    rw [(hs.2.2.2.1 16 (by omega)).1, (hs.2.2.2.1 16 (by omega)).2]
    exact pu_16
  have p16 : pok n so 16 := pok_c hs (i := 16) (by omega) (Or.inl h16)
  have c16 : (16 : Int32).toNatClampNeg = 16 := rfl
  rcases pu_ton (n := n) (by omega) so fi el ab ot ob (nI m) ro rf re av un kp bt (nI m) x1 with ⟨a1, a2, a3⟩ | ⟨a1, a2⟩
  · unfold f_X2_newClass f_X3_newClass
    rw [if_pos a1, if_neg a2, if_pos a3]
    exact ⟨rfl, I0⟩
  · rcases pu_ton (n := n) (by omega) so fi el ab ot ob (nI m) ro rf re av un kp bt (nI m) x2 with ⟨b1, b2, b3⟩ | ⟨b1, b2⟩
    · unfold f_X2_newClass f_X3_newClass
      rw [a1, if_neg pu10, if_pos b1, if_neg b2, if_pos b3]
      rcases a2 with rfl | ⟨i, hi, rfl, i1, i2, i3⟩
      · rw [if_pos rfl]
        exact ⟨rfl, I0⟩
      · rw [if_neg i1, i3, if_neg pu10]
        exact ⟨rfl, I0⟩
    · have E3 : f_X3_newClass th ro rf re av un (nI n) kp bt (nI m) x1 x2 x3 = f_X3_newClass_33 th ro rf re av un (nI n) kp bt (nI m) x1 x2 x3 0 := by
        unfold f_X3_newClass
        rcases a2 with rfl | ⟨i, hi, rfl, i1, i2, i3⟩
        · rcases b2 with rfl | ⟨j, hj, rfl, j1, j2, j3⟩
          · rw [if_pos rfl, if_pos rfl]
          · rw [if_pos rfl, if_neg j1, j3, if_neg pu10]
        · rcases b2 with rfl | ⟨j, hj, rfl, j1, j2, j3⟩
          · rw [if_neg i1, i3, if_neg pu10, if_pos rfl]
          · rw [if_neg i1, i3, if_neg pu10, if_neg j1, j3, if_neg pu10]
      -- the face
      have F : (f_X2_isInterfaceOrNone so fi el ab (nI n) ot ob (nI m) x2 = 0 ∧ f_X3_newClass_62 th ro rf re av un (nI n) kp bt (nI m) x1 x2 x3 0 = (-2, 0, ro, rf, re, av, un, nI n)) ∨ (f_X2_isInterfaceOrNone so fi el ab (nI n) ot ob (nI m) x2 = 1 ∧ pok n so x2 ∧ f_X3_newClass_62 th ro rf re av un (nI n) kp bt (nI m) x1 x2 x3 0 = f_X3_newClass_77 th ro rf re av un (nI n) kp bt (nI m) x1 x2 x3 0) := by
        unfold f_X2_isInterfaceOrNone f_X3_newClass_62 f_X1_sortOf f_X3_isFace
        rcases b2 with rfl | ⟨j, hj, rfl, j1, j2, j3⟩
        · right
          rw [if_pos rfl, if_pos (show (-1 : Int32) < 0 by decide)]
          exact ⟨rfl, Or.inl rfl, rfl⟩
        · rw [if_neg j1, if_neg j2, nI_clamp (by omega), (hs.2.1 j hj).1]
          by_cases c : so j = 2
          · right
            rw [if_pos c, if_neg pu10]
            exact ⟨rfl, pok_c hs hj (Or.inr c), rfl⟩
          · left
            rw [if_neg c, if_pos rfl]
            exact ⟨rfl, rfl⟩
      rw [E3]
      unfold f_X2_newClass
      rw [a1, b1, if_neg pu10, if_neg pu10]
      unfold f_X1_isFull
      rcases a2 with rfl | ⟨i, hi, rfl, i1, i2, i3⟩
      · rw [if_pos rfl, show f_X1_mayHaveSubclass so fi el ab (nI n) 16 = 1 from by unfold f_X1_mayHaveSubclass; rw [c16, h16.1, h16.2]; decide, if_neg pu10]
        unfold f_X3_newClass_33
        rw [if_pos (show (-1 : Int32) < 0 by decide)]
        rcases F with ⟨f1, f2⟩ | ⟨f1, f2, f3⟩
        · rw [if_pos f1, f2]
          exact ⟨rfl, I0⟩
        · rw [f1, if_neg pu10, f3]
          unfold f_X3_newClass_77
          rcases pu_40 hn.2 with ⟨g1, g2, g3⟩ | ⟨g1, g2, g3⟩
          · rw [if_neg g2, if_neg pu10, if_pos g1]
            exact ⟨rfl, I0⟩
          · rw [if_pos g2, if_pos rfl, if_neg g1, if_neg (show ¬ (0 : Int32) ≤ -1 by decide)]
            exact pu_class hJ g3 0 p16 (by decide) f2 hz rfl rfl
      · rw [if_neg i1]
        unfold f_X3_newClass_33 f_X1_mayHaveSubclass
        rw [if_neg i2, nI_clamp (by omega), (hs.2.1 i hi).1, (hs.2.1 i hi).2]
        by_cases c1 : so i = 1
        · rw [if_pos c1, if_pos c1]
          by_cases c2 : fi i = 0
          · rw [if_pos c2, if_pos c2]
            by_cases c3 : nI i = 17
            · rw [if_pos c3, if_pos c3, if_pos rfl]
              exact ⟨rfl, I0⟩
            · rw [if_neg c3, if_neg c3, if_neg pu10]
              rcases F with ⟨f1, f2⟩ | ⟨f1, f2, f3⟩
              · rw [if_pos f1, f2]
                exact ⟨rfl, I0⟩
              · rw [f1, if_neg pu10, f3]
                unfold f_X3_newClass_77
                rcases pu_40 hn.2 with ⟨g1, g2, g3⟩ | ⟨g1, g2, g3⟩
                · rw [if_neg g2, if_neg pu10, if_pos g1]
                  exact ⟨rfl, I0⟩
                · rw [if_pos g2, if_pos rfl, if_neg g1, if_pos (nI_pos' (by omega))]
                  exact pu_class hJ g3 0 (pok_c hs hi (Or.inl ⟨c1, c2⟩)) i1 f2 hz rfl rfl
          · rw [if_neg c2, if_neg c2, if_pos rfl]
            exact ⟨rfl, I0⟩
        · rw [if_neg c1, if_neg c1, if_pos rfl]
          exact ⟨rfl, I0⟩
set_option maxHeartbeats 4000000 in
theorem pe_newInterface {so : Nat → Int32} {fi : Nat → Int32} {el : Nat → Int32} {ab : Nat → Int64} {sz : Int32} {ot : Nat → Int32} {ob : Nat → Int64} {oc : Int32} {th : Int32} {ro : Nat → Int32} {rf : Nat → Int32} {re : Nat → Int32} {av : Nat → Int32} {un : Nat → Int32} {ty : Int32} {kp : Nat → Int32} {bt : Nat → Int64} {rk : Int32} (hI : Inv (so, fi, el, ab, sz, ot, ob, oc) (th, ro, rf, re, av, un, ty, kp, bt, rk)) (x1 : Int32) (x2 : Int32) : (f_X2_newInterface so fi el ab sz ot ob oc x1 x2).1 = (f_X3_newInterface th ro rf re av un ty kp bt rk x1 x2).1 ∧ Inv (f_X2_newInterface so fi el ab sz ot ob oc x1 x2).2 ((f_X3_newInterface th ro rf re av un ty kp bt rk x1 x2).2.1, (f_X3_newInterface th ro rf re av un ty kp bt rk x1 x2).2.2.1, (f_X3_newInterface th ro rf re av un ty kp bt rk x1 x2).2.2.2.1, (f_X3_newInterface th ro rf re av un ty kp bt rk x1 x2).2.2.2.2.1, (f_X3_newInterface th ro rf re av un ty kp bt rk x1 x2).2.2.2.2.2.1, (f_X3_newInterface th ro rf re av un ty kp bt rk x1 x2).2.2.2.2.2.2.1, (f_X3_newInterface th ro rf re av un ty kp bt rk x1 x2).2.2.2.2.2.2.2, kp, bt, rk) := by
  obtain ⟨n, m, g1, g2, g3, g4, g5⟩ := hI
  have h1 : sz = nI n := g1
  have h2 : ty = nI n := g2
  have h3 : oc = nI m := g3
  have h4 : rk = nI m := g4
  have hJ : jv n m so fi el ab ot ob ro rf re av un kp bt := g5
  clear g1 g2 g3 g4 g5
  subst h1 h2 h3 h4
  obtain ⟨hs, he, ha, hb, ho, hf⟩ := hJ
  have hn := hs.1
  have hm := ho.1
  have hJ : jv n m so fi el ab ot ob ro rf re av un kp bt := ⟨hs, he, ha, hb, ho, hf⟩
  have I0 : Inv (so, fi, el, ab, nI n, ot, ob, nI m) (0, ro, rf, re, av, un, nI n, kp, bt, nI m) := ⟨n, m, rfl, rfl, rfl, rfl, hJ⟩
  have IF : ∀ x : Int32, (x = -1 ∨ ∃ i, i < n ∧ x = nI i ∧ ¬ nI i = -1 ∧ ¬ nI i < 0 ∧ f_X3_isType ro rf re av un (nI n) kp bt (nI m) (nI i) = 1) → (f_X2_isInterfaceOrNone so fi el ab (nI n) ot ob (nI m) x = 0 ∧ ¬ x < 0 ∧ f_X3_isFace ro rf re av un (nI n) kp bt (nI m) x = 0) ∨ (f_X2_isInterfaceOrNone so fi el ab (nI n) ot ob (nI m) x = 1 ∧ pok n so x ∧ (x < 0 ∨ (¬ x < 0 ∧ f_X3_isFace ro rf re av un (nI n) kp bt (nI m) x = 1))) := by
    intro x b2
    unfold f_X2_isInterfaceOrNone f_X1_sortOf f_X3_isFace
    rcases b2 with rfl | ⟨j, hj, rfl, j1, j2, j3⟩
    · right
      rw [if_pos rfl]
      exact ⟨rfl, Or.inl rfl, Or.inl (by decide)⟩
    · rw [if_neg j1, nI_clamp (by omega), (hs.2.1 j hj).1]
      by_cases c : so j = 2
      · right
        rw [if_pos c]
        exact ⟨rfl, pok_c hs hj (Or.inr c), Or.inr ⟨j2, rfl⟩⟩
      · left
        rw [if_neg c]
        exact ⟨rfl, j2, rfl⟩
  rcases pu_ton (n := n) (by omega) so fi el ab ot ob (nI m) ro rf re av un kp bt (nI m) x1 with ⟨a1, a2, a3⟩ | ⟨a1, a2⟩
  · unfold f_X2_newInterface f_X3_newInterface
    rw [if_pos a1, if_neg a2, if_pos a3]
    exact ⟨rfl, I0⟩
  · rcases pu_ton (n := n) (by omega) so fi el ab ot ob (nI m) ro rf re av un kp bt (nI m) x2 with ⟨b1, b2, b3⟩ | ⟨b1, b2⟩
    · unfold f_X2_newInterface f_X3_newInterface
      rw [a1, if_neg pu10, if_pos b1, if_neg b2, if_pos b3]
      rcases a2 with rfl | ⟨i, hi, rfl, i1, i2, i3⟩
      · rw [if_pos rfl]
        exact ⟨rfl, I0⟩
      · rw [if_neg i1, i3, if_neg pu10]
        exact ⟨rfl, I0⟩
    · have E3 : f_X3_newInterface th ro rf re av un (nI n) kp bt (nI m) x1 x2 = f_X3_newInterface_33 th ro rf re av un (nI n) kp bt (nI m) x1 x2 0 := by
        unfold f_X3_newInterface
        rcases a2 with rfl | ⟨i, hi, rfl, i1, i2, i3⟩
        · rcases b2 with rfl | ⟨j, hj, rfl, j1, j2, j3⟩
          · rw [if_pos rfl, if_pos rfl]
          · rw [if_pos rfl, if_neg j1, j3, if_neg pu10]
        · rcases b2 with rfl | ⟨j, hj, rfl, j1, j2, j3⟩
          · rw [if_neg i1, i3, if_neg pu10, if_pos rfl]
          · rw [if_neg i1, i3, if_neg pu10, if_neg j1, j3, if_neg pu10]
      rw [E3]
      unfold f_X2_newInterface f_X3_newInterface_33 f_X1_isFull
      rw [a1, b1, if_neg pu10, if_neg pu10]
      rcases IF x1 a2 with ⟨f1, f2, f3⟩ | ⟨f1, f2, f3⟩
      · rw [if_pos f1, if_neg f2, if_pos f3]
        exact ⟨rfl, I0⟩
      · rw [f1, if_neg pu10]
        have E45 : (if x1 < 0 then f_X3_newInterface_45 th ro rf re av un (nI n) kp bt (nI m) x1 x2 0 else if f_X3_isFace ro rf re av un (nI n) kp bt (nI m) x1 = 0 then ((-2 : Int32), (0 : Int32), ro, rf, re, av, un, nI n) else f_X3_newInterface_45 th ro rf re av un (nI n) kp bt (nI m) x1 x2 0) = f_X3_newInterface_45 th ro rf re av un (nI n) kp bt (nI m) x1 x2 0 := by
          rcases f3 with f3 | ⟨f3, f4⟩
          · rw [if_pos f3]
          · rw [if_neg f3, f4, if_neg pu10]
        rw [E45]
        unfold f_X3_newInterface_45
        rcases IF x2 b2 with ⟨g1, g2, g3⟩ | ⟨g1, g2, g3⟩
        · rw [if_pos g1, if_neg g2, if_pos g3]
          exact ⟨rfl, I0⟩
        · rw [g1, if_neg pu10]
          have E60 : (if x2 < 0 then f_X3_newInterface_60 th ro rf re av un (nI n) kp bt (nI m) x1 x2 0 else if f_X3_isFace ro rf re av un (nI n) kp bt (nI m) x2 = 0 then ((-2 : Int32), (0 : Int32), ro, rf, re, av, un, nI n) else f_X3_newInterface_60 th ro rf re av un (nI n) kp bt (nI m) x1 x2 0) = f_X3_newInterface_60 th ro rf re av un (nI n) kp bt (nI m) x1 x2 0 := by
            rcases g3 with g3 | ⟨g3, g4⟩
            · rw [if_pos g3]
            · rw [if_neg g3, g4, if_neg pu10]
          rw [E60]
          unfold f_X3_newInterface_60
          rcases pu_40 hn.2 with ⟨k1, k2, k3⟩ | ⟨k1, k2, k3⟩
          · rw [if_neg k2, if_neg pu10, if_pos k1]
            exact ⟨rfl, I0⟩
          · rw [if_pos k2, if_pos rfl, if_neg k1]
            exact pu_iface hJ k3 0 f2 g2 rfl rfl

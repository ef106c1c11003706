/-! pure: conditional, make, unboxed, the plain part of type -/
theorem pu_box {i n : Nat} (hi : i < n) (hn : 23 ≤ n ∧ n ≤ 40) : ∃ a, 8 ≤ a ∧ a < n ∧ f_X2_boxed (nI i) = nI a ∧ (if (8 : Int32) ≤ nI i then nI i else nI i + 8) = nI a := by
  rcases pu_prim i (by omega) with ⟨p0, -, p1, -, p2, p3⟩ | ⟨p0, -, p1, -, p2⟩
  · exact ⟨i + 8, by omega, by omega, p1, by rw [if_neg p2, p3]⟩
  · exact ⟨i, p0, hi, p1, by rw [if_pos p2]⟩
theorem pu_129 (th : Int32) (ro rf re av un : Nat → Int32) (ty : Int32) (kp : Nat → Int32) (bt : Nat → Int64) (rk : Int32) (i j : Nat) (th2 : Int32) {a b : Nat} (ha : (if (8 : Int32) ≤ nI i then nI i else nI i + 8) = nI a) (hb : (if (8 : Int32) ≤ nI j then nI j else nI j + 8) = nI b) {u v : Int32} (hu : un (((40 : Int32) * nI a) + nI b).toNatClampNeg = 0 ↔ u = 0) (hv : un (((40 : Int32) * nI b) + nI a).toNatClampNeg = 0 ↔ v = 0) :
    (f_X3_conditional_129 th ro rf re av un ty kp bt rk (nI i) (nI j) th2).1 = pu_c3e i j u v := by
  have e : f_X3_conditional_129 th ro rf re av un ty kp bt rk (nI i) (nI j) th2 = f_X3_conditional_159 th ro rf re av un ty kp bt rk (nI i) (nI j) (nI a) (nI b) th2 := by
    unfold f_X3_conditional_129 f_X3_conditional_143
    rw [← ha, ← hb]
    by_cases h1 : (8 : Int32) ≤ nI i <;> by_cases h2 : (8 : Int32) ≤ nI j <;> simp only [h1, h2, if_true, if_false]
  rw [e]
  unfold f_X3_conditional_159 pu_c3e
  rw [ha, hb]
  by_cases h1 : u = 0
  · rw [if_pos (hu.mpr h1), if_pos h1]
    by_cases h2 : v = 0
    · rw [if_pos (hv.mpr h2), if_pos h2]
    · rw [if_neg (fun q => h2 (hv.mp q)), if_neg h2]
  · rw [if_neg (fun q => h1 (hu.mp q)), if_neg h1]
theorem pu_cond3 (th : Int32) (ro rf re av un : Nat → Int32) (ty : Int32) (kp : Nat → Int32) (bt : Nat → Int64) (rk : Int32) (i j : Nat) {a b : Nat} (h1 : f_X3_isType ro rf re av un ty kp bt rk (nI i) = 1) (h2 : f_X3_isType ro rf re av un ty kp bt rk (nI j) = 1) (ha : (if (8 : Int32) ≤ nI i then nI i else nI i + 8) = nI a) (hb : (if (8 : Int32) ≤ nI j then nI j else nI j + 8) = nI b) {u v : Int32} (hu : un (((40 : Int32) * nI a) + nI b).toNatClampNeg = 0 ↔ u = 0) (hv : un (((40 : Int32) * nI b) + nI a).toNatClampNeg = 0 ↔ v = 0) :
    (f_X3_conditional th ro rf re av un ty kp bt rk (nI i) (nI j)).1 = pu_c3 i j u v := by
  unfold f_X3_conditional f_X3_conditional_44 f_X3_conditional_69 f_X3_conditional_58 pu_c3 pu_c3b pu_c3c pu_c3d
  rw [h1, h2, if_neg pu10, if_neg pu10]
  simp only [apply_ite Prod.fst, pu_129 th ro rf re av un ty kp bt rk i j _ ha hb hu hv]
theorem pe_conditional {so : Nat → Int32} {fi : Nat → Int32} {el : Nat → Int32} {ab : Nat → Int64} {sz : Int32} {ot : Nat → Int32} {ob : Nat → Int64} {oc : Int32} {th : Int32} {ro : Nat → Int32} {rf : Nat → Int32} {re : Nat → Int32} {av : Nat → Int32} {un : Nat → Int32} {ty : Int32} {kp : Nat → Int32} {bt : Nat → Int64} {rk : Int32} (hI : Inv (so, fi, el, ab, sz, ot, ob, oc) (th, ro, rf, re, av, un, ty, kp, bt, rk)) (x1 : Int32) (x2 : Int32) : f_X2_conditional so fi el ab sz ot ob oc x1 x2 = (f_X3_conditional th ro rf re av un ty kp bt rk x1 x2).1 := by
  obtain ⟨n, m, g1, g2, g3, g4, g5⟩ := hI
  have h1 : sz = nI n := g1
  have h2 : ty = nI n := g2
  have h3 : oc = nI m := g3
  have h4 : rk = nI m := g4
  have hJ : jv n m so fi el ab ot ob ro rf re av un kp bt := g5
  clear g1 g2 g3 g4 g5
  subst h1 h2 h3 h4
  obtain ⟨hs, he, ha, hb, ho, hf⟩ := hJ
  have hn := hs.1
  have hm := ho.1
  rcases pu_has (by omega) so fi el ab ro rf re av un kp bt (nI m) (n := n) x1 with ⟨h1, h2⟩ | ⟨i, hi, rfl, h1, h2⟩
  · unfold f_X2_conditional f_X3_conditional
    rw [if_pos h1, if_pos h2]
  · rcases pu_has (by omega) so fi el ab ro rf re av un kp bt (nI m) (n := n) x2 with ⟨h3, h4⟩ | ⟨j, hj, rfl, h3, h4⟩
    · unfold f_X2_conditional f_X3_conditional
      rw [h1, h2, if_neg pu10, if_neg pu10, if_pos h3, if_pos h4]
    · obtain ⟨a, a1, a2, a3, a4⟩ := pu_box hi hn
      obtain ⟨b, b1, b2, b3, b4⟩ := pu_box hj hn
      have hc := pu_cond i (by omega) j (by omega)
      have K : ∀ u v : Int32, f_X1_isUnder so fi el ab (nI n) (nI a) (nI b) = u → f_X1_isUnder so fi el ab (nI n) (nI b) (nI a) = v → f_X2_conditional so fi el ab (nI n) ot ob (nI m) (nI i) (nI j) = pu_c2 i j u v := by
        intro u v hu hv
        unfold f_X2_conditional f_X2_conditionalOfReferences pu_c2
        rw [h1, h3, if_neg pu10, if_neg pu10, a3, b3, hu, hv]
      rcases pu_un3 hb (by omega) fi (nI n) (s := a) (t := b) ⟨a1, a2⟩ ⟨b1, b2⟩ with ⟨-, r1, r2⟩ | ⟨-, r1, r2⟩
      · rcases pu_un3 hb (by omega) fi (nI n) (s := b) (t := a) ⟨b1, b2⟩ ⟨a1, a2⟩ with ⟨-, r3, r4⟩ | ⟨-, r3, r4⟩
        · rw [K 1 1 r1 r3, hc.2.2]
          exact (pu_cond3 th ro rf re av un (nI n) kp bt (nI m) i j h2 h4 a4 b4 (iff_of_false r2 (by decide)) (iff_of_false r4 (by decide))).symm
        · rw [K 1 0 r1 r3, hc.2.1]
          exact (pu_cond3 th ro rf re av un (nI n) kp bt (nI m) i j h2 h4 a4 b4 (iff_of_false r2 (by decide)) (iff_of_true r4 (by decide))).symm
      · rcases pu_un3 hb (by omega) fi (nI n) (s := b) (t := a) ⟨b1, b2⟩ ⟨a1, a2⟩ with ⟨-, r3, r4⟩ | ⟨-, r3, r4⟩
        · rw [K 0 1 r1 r3, hc.1.2]
          exact (pu_cond3 th ro rf re av un (nI n) kp bt (nI m) i j h2 h4 a4 b4 (iff_of_true r2 (by decide)) (iff_of_false r4 (by decide))).symm
        · rw [K 0 0 r1 r3, hc.1.1]
          exact (pu_cond3 th ro rf re av un (nI n) kp bt (nI m) i j h2 h4 a4 b4 (iff_of_true r2 (by decide)) (iff_of_true r4 (by decide))).symm
theorem pe_unboxed {so : Nat → Int32} {fi : Nat → Int32} {el : Nat → Int32} {ab : Nat → Int64} {sz : Int32} {ot : Nat → Int32} {ob : Nat → Int64} {oc : Int32} {th : Int32} {ro : Nat → Int32} {rf : Nat → Int32} {re : Nat → Int32} {av : Nat → Int32} {un : Nat → Int32} {ty : Int32} {kp : Nat → Int32} {bt : Nat → Int64} {rk : Int32} (hI : Inv (so, fi, el, ab, sz, ot, ob, oc) (th, ro, rf, re, av, un, ty, kp, bt, rk)) (x1 : Int32) (x2 : Int32) : (f_X3_unboxed th ro rf re av un ty kp bt rk x1 x2).2 = k_X2_unboxed so fi el ab sz ot ob oc x1 x2 ∧ (k_X2_unboxed so fi el ab sz ot ob oc x1 x2 = 0 → f_X2_unboxed so fi el ab sz ot ob oc x1 x2 = (f_X3_unboxed th ro rf re av un ty kp bt rk x1 x2).1) := by
  obtain ⟨n, m, g1, g2, g3, g4, g5⟩ := hI
  have h1 : sz = nI n := g1
  have h2 : ty = nI n := g2
  have h3 : oc = nI m := g3
  have h4 : rk = nI m := g4
  have hJ : jv n m so fi el ab ot ob ro rf re av un kp bt := g5
  clear g1 g2 g3 g4 g5
  subst h1 h2 h3 h4
  obtain ⟨hs, he, ha, hb, ho, hf⟩ := hJ
  have hn := hs.1
  have hm := ho.1
  unfold k_X2_unboxed f_X2_unboxed f_X3_unboxed
  rcases pu_obj hm so fi el ab (nI n) ot ob ro rf re av un (nI n) kp bt x1 with ⟨h1, h2⟩ | ⟨i, hi, rfl, h1, h2⟩
  · simp [h1, h2]
  · rcases pu_has (by omega) so fi el ab ro rf re av un kp bt (nI m) (n := n) x2 with ⟨h3, h4⟩ | ⟨j, hj, rfl, h3, h4⟩
    · simp [h1, h2, h3, h4]
    · have hB : f_X2_isBox (nI j) = f_X3_isBox (nI j) := by
        have : ∀ j, j < 40 → f_X2_isBox (nI j) = f_X3_isBox (nI j) := by decide +kernel
        exact this j (by omega)
      obtain ⟨k1, k2, -⟩ := ho.2 i hi
      have e1 : kp (nI i).toNatClampNeg = ot (nI i).toNatClampNeg := by rw [nI_clamp (by omega)]; exact k1
      have e2 : bt (nI i).toNatClampNeg = ob (nI i).toNatClampNeg := by rw [nI_clamp (by omega)]; exact k2
      rw [h1, h2, h3, h4, hB, e1, e2]
      simp only [if_neg pu10]
      by_cases c1 : f_X3_isBox (nI j) = 0
      · simp [c1]
      · by_cases c2 : ot (nI i).toNatClampNeg = 22
        · simp [c1, c2]
        · by_cases c3 : ot (nI i).toNatClampNeg = nI j
          · have c4 : ¬ nI j = 22 := fun q => c2 (c3.trans q)
            simp [c1, c3, c4]
          · simp [c1, c2, c3]

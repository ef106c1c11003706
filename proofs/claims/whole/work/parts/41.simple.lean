/-! pure: the simple answers -/
theorem pu10 : ¬ (1 : Int32) = 0 := by decide
theorem pe_count {so : Nat → Int32} {fi : Nat → Int32} {el : Nat → Int32} {ab : Nat → Int64} {sz : Int32} {ot : Nat → Int32} {ob : Nat → Int64} {oc : Int32} {th : Int32} {ro : Nat → Int32} {rf : Nat → Int32} {re : Nat → Int32} {av : Nat → Int32} {un : Nat → Int32} {ty : Int32} {kp : Nat → Int32} {bt : Nat → Int64} {rk : Int32} (hI : Inv (so, fi, el, ab, sz, ot, ob, oc) (th, ro, rf, re, av, un, ty, kp, bt, rk)) (x1 : Int32) : f_X2_count so fi el ab sz ot ob oc x1 = (f_X3_count th ro rf re av un ty kp bt rk x1).1 := by
  obtain ⟨n, m, g1, g2, g3, g4, g5⟩ := hI
  have h1 : sz = nI n := g1
  have h2 : ty = nI n := g2
  have h3 : oc = nI m := g3
  have h4 : rk = nI m := g4
  have hJ : jv n m so fi el ab ot ob ro rf re av un kp bt := g5
  clear g1 g2 g3 g4 g5
  subst h1 h2 h3 h4
  obtain ⟨hs, he, ha, hb, ho, hf⟩ := hJ
  have hn := hs.1
  have hm := ho.1
  unfold f_X2_count f_X3_count f_X1_size
  by_cases h : x1 = 0
  · rw [if_pos h, if_pos h]
  · rw [if_neg h, if_neg h]
    by_cases h' : x1 = 1
    · rw [if_pos h', if_pos h']
    · rw [if_neg h', if_neg h']
theorem pe_typeOf {so : Nat → Int32} {fi : Nat → Int32} {el : Nat → Int32} {ab : Nat → Int64} {sz : Int32} {ot : Nat → Int32} {ob : Nat → Int64} {oc : Int32} {th : Int32} {ro : Nat → Int32} {rf : Nat → Int32} {re : Nat → Int32} {av : Nat → Int32} {un : Nat → Int32} {ty : Int32} {kp : Nat → Int32} {bt : Nat → Int64} {rk : Int32} (hI : Inv (so, fi, el, ab, sz, ot, ob, oc) (th, ro, rf, re, av, un, ty, kp, bt, rk)) (x1 : Int32) : f_X2_typeOf so fi el ab sz ot ob oc x1 = (f_X3_typeOf th ro rf re av un ty kp bt rk x1).1 := by
  obtain ⟨n, m, g1, g2, g3, g4, g5⟩ := hI
  have h1 : sz = nI n := g1
  have h2 : ty = nI n := g2
  have h3 : oc = nI m := g3
  have h4 : rk = nI m := g4
  have hJ : jv n m so fi el ab ot ob ro rf re av un kp bt := g5
  clear g1 g2 g3 g4 g5
  subst h1 h2 h3 h4
  obtain ⟨hs, he, ha, hb, ho, hf⟩ := hJ
  have hn := hs.1
  have hm := ho.1
  unfold f_X2_typeOf f_X3_typeOf
  rcases pu_obj hm so fi el ab (nI n) ot ob ro rf re av un (nI n) kp bt x1 with ⟨h1, h2⟩ | ⟨i, hi, rfl, h1, h2⟩
  · rw [if_pos h1, if_pos h2]
  · rw [h1, h2, if_neg pu10, if_neg pu10, nI_clamp (by omega)]
    exact (ho.2 i hi).1.symm
theorem pu_prom : ∀ i, i < 40 → (if (f_X2_isNumber (f_X2_withoutBox (nI i))) = 0 then (-2 : Int32) else (if (f_X2_withoutBox (nI i)) < (4 : Int32) then (4 : Int32) else (f_X2_withoutBox (nI i)))) = (if (f_X3_numberOf (nI i)) = 0 then ((-2 : Int32), (0 : Int32)) else ((f_X3_promotedOf (f_X3_numberOf (nI i))), (0 : Int32))).1 := by decide +kernel
theorem pe_promoted {so : Nat → Int32} {fi : Nat → Int32} {el : Nat → Int32} {ab : Nat → Int64} {sz : Int32} {ot : Nat → Int32} {ob : Nat → Int64} {oc : Int32} {th : Int32} {ro : Nat → Int32} {rf : Nat → Int32} {re : Nat → Int32} {av : Nat → Int32} {un : Nat → Int32} {ty : Int32} {kp : Nat → Int32} {bt : Nat → Int64} {rk : Int32} (hI : Inv (so, fi, el, ab, sz, ot, ob, oc) (th, ro, rf, re, av, un, ty, kp, bt, rk)) (x1 : Int32) : f_X2_promoted so fi el ab sz ot ob oc x1 = (f_X3_promoted th ro rf re av un ty kp bt rk x1).1 := by
  obtain ⟨n, m, g1, g2, g3, g4, g5⟩ := hI
  have h1 : sz = nI n := g1
  have h2 : ty = nI n := g2
  have h3 : oc = nI m := g3
  have h4 : rk = nI m := g4
  have hJ : jv n m so fi el ab ot ob ro rf re av un kp bt := g5
  clear g1 g2 g3 g4 g5
  subst h1 h2 h3 h4
  obtain ⟨hs, he, ha, hb, ho, hf⟩ := hJ
  have hn := hs.1
  have hm := ho.1
  unfold f_X2_promoted f_X3_promoted
  rcases pu_has (by omega) so fi el ab ro rf re av un kp bt (nI m) (n := n) x1 with ⟨h1, h2⟩ | ⟨i, hi, rfl, h1, h2⟩
  · rw [if_pos h1, if_pos h2]
  · rw [h1, h2, if_neg pu10, if_neg pu10]
    exact pu_prom i (by omega)
theorem pu_both : ∀ i, i < 40 → ∀ j, j < 40 → (if (f_X2_isNumber (f_X2_withoutBox (nI i))) = 0 then (-2 : Int32)
  else if (f_X2_isNumber (f_X2_withoutBox (nI j))) = 0 then (-2 : Int32)
  else (f_X2_promotedOfTwo (f_X2_withoutBox (nI i)) (f_X2_withoutBox (nI j)))) = (if (f_X3_numberOf (nI i)) = 0 then ((-2 : Int32), (0 : Int32))
  else if (f_X3_numberOf (nI j)) = 0 then ((-2 : Int32), (0 : Int32))
  else ((f_X3_bothOf (f_X3_numberOf (nI i)) (f_X3_numberOf (nI j))), (0 : Int32))).1 := by decide +kernel
theorem pe_both {so : Nat → Int32} {fi : Nat → Int32} {el : Nat → Int32} {ab : Nat → Int64} {sz : Int32} {ot : Nat → Int32} {ob : Nat → Int64} {oc : Int32} {th : Int32} {ro : Nat → Int32} {rf : Nat → Int32} {re : Nat → Int32} {av : Nat → Int32} {un : Nat → Int32} {ty : Int32} {kp : Nat → Int32} {bt : Nat → Int64} {rk : Int32} (hI : Inv (so, fi, el, ab, sz, ot, ob, oc) (th, ro, rf, re, av, un, ty, kp, bt, rk)) (x1 : Int32) (x2 : Int32) : f_X2_both so fi el ab sz ot ob oc x1 x2 = (f_X3_both th ro rf re av un ty kp bt rk x1 x2).1 := by
  obtain ⟨n, m, g1, g2, g3, g4, g5⟩ := hI
  have h1 : sz = nI n := g1
  have h2 : ty = nI n := g2
  have h3 : oc = nI m := g3
  have h4 : rk = nI m := g4
  have hJ : jv n m so fi el ab ot ob ro rf re av un kp bt := g5
  clear g1 g2 g3 g4 g5
  subst h1 h2 h3 h4
  obtain ⟨hs, he, ha, hb, ho, hf⟩ := hJ
  have hn := hs.1
  have hm := ho.1
  unfold f_X2_both f_X3_both
  rcases pu_has (by omega) so fi el ab ro rf re av un kp bt (nI m) (n := n) x1 with ⟨h1, h2⟩ | ⟨i, hi, rfl, h1, h2⟩
  · rw [if_pos h1, if_pos h2]
  · rw [h1, h2, if_neg pu10, if_neg pu10]
    rcases pu_has (by omega) so fi el ab ro rf re av un kp bt (nI m) (n := n) x2 with ⟨h3, h4⟩ | ⟨j, hj, rfl, h3, h4⟩
    · rw [if_pos h3, if_pos h4]
    · rw [h3, h4, if_neg pu10, if_neg pu10]
      exact pu_both i (by omega) j (by omega)
theorem pu_prim : ∀ i, i < 40 → (i < 8 ∧ f_X2_isPrimitive (nI i) = 1 ∧ f_X2_boxed (nI i) = nI (i + 8) ∧ nI i ≤ 7 ∧ ¬ (8 : Int32) ≤ nI i ∧ nI i + 8 = nI (i + 8)) ∨ (8 ≤ i ∧ f_X2_isPrimitive (nI i) = 0 ∧ f_X2_boxed (nI i) = nI i ∧ ¬ nI i ≤ 7 ∧ (8 : Int32) ≤ nI i) := by decide +kernel
theorem pe_under {so : Nat → Int32} {fi : Nat → Int32} {el : Nat → Int32} {ab : Nat → Int64} {sz : Int32} {ot : Nat → Int32} {ob : Nat → Int64} {oc : Int32} {th : Int32} {ro : Nat → Int32} {rf : Nat → Int32} {re : Nat → Int32} {av : Nat → Int32} {un : Nat → Int32} {ty : Int32} {kp : Nat → Int32} {bt : Nat → Int64} {rk : Int32} (hI : Inv (so, fi, el, ab, sz, ot, ob, oc) (th, ro, rf, re, av, un, ty, kp, bt, rk)) (x1 : Int32) (x2 : Int32) : f_X2_under so fi el ab sz ot ob oc x1 x2 = (f_X3_under th ro rf re av un ty kp bt rk x1 x2).1 := by
  obtain ⟨n, m, g1, g2, g3, g4, g5⟩ := hI
  have h1 : sz = nI n := g1
  have h2 : ty = nI n := g2
  have h3 : oc = nI m := g3
  have h4 : rk = nI m := g4
  have hJ : jv n m so fi el ab ot ob ro rf re av un kp bt := g5
  clear g1 g2 g3 g4 g5
  subst h1 h2 h3 h4
  obtain ⟨hs, he, ha, hb, ho, hf⟩ := hJ
  have hn := hs.1
  have hm := ho.1
  unfold f_X2_under f_X3_under f_X3_isReference
  rcases pu_has (by omega) so fi el ab ro rf re av un kp bt (nI m) (n := n) x1 with ⟨h1, h2⟩ | ⟨i, hi, rfl, h1, h2⟩
  · rw [if_pos h1, if_pos h2]
  · rw [h1, h2, if_neg pu10, if_neg pu10]
    rcases pu_has (by omega) so fi el ab ro rf re av un kp bt (nI m) (n := n) x2 with ⟨h3, h4⟩ | ⟨j, hj, rfl, h3, h4⟩
    · rw [if_pos h3, if_pos h4]
    · rw [h3, h4, if_neg pu10, if_neg pu10]
      rcases pu_prim i (by omega) with ⟨-, p1, -, p2, -⟩ | ⟨p0, p1, -, p2, -⟩
      · rw [p1, if_neg pu10, if_pos p2, if_pos rfl]
      · rw [if_pos p1, if_neg p2, if_neg pu10]
        rcases pu_prim j (by omega) with ⟨-, q1, -, q2, -⟩ | ⟨q0, q1, -, q2, -⟩
        · rw [q1, if_neg pu10, if_pos q2, if_pos rfl]
        · rw [if_pos q1, if_neg q2, if_neg pu10]
          rcases pu_un3 hb (by omega) fi (nI n) (s := i) (t := j) ⟨p0, hi⟩ ⟨q0, hj⟩ with ⟨-, r1, r2⟩ | ⟨-, r1, r2⟩
          · rw [r1, if_neg pu10, if_neg r2]
          · rw [if_pos r1, if_pos r2]
/-- of two answers of 'under', both ways, and the numbers -/
def pu_c2 (i j : Nat) (u v : Int32) : Int32 := if nI i = nI j then nI i
  else if (f_X2_withoutBox (nI i)) = (f_X2_withoutBox (nI j)) then (f_X2_withoutBox (nI i))
  else if (f_X2_isNumber (f_X2_withoutBox (nI i))) = 0 then (if u = 0 then (if v = 0 then (16 : Int32) else (f_X2_boxed (nI i))) else (f_X2_boxed (nI j)))
  else if (f_X2_isNumber (f_X2_withoutBox (nI j))) = 0 then (if u = 0 then (if v = 0 then (16 : Int32) else (f_X2_boxed (nI i))) else (f_X2_boxed (nI j)))
  else if (f_X2_isByteAndShort (f_X2_withoutBox (nI i)) (f_X2_withoutBox (nI j))) = 0 then (f_X2_promotedOfTwo (f_X2_withoutBox (nI i)) (f_X2_withoutBox (nI j)))
  else (3 : Int32)
def pu_c3e (i j : Nat) (u v : Int32) : Int32 := if u = 0 then (if v = 0 then (16 : Int32) else if (8 : Int32) ≤ nI i then nI i else nI i + 8) else if (8 : Int32) ≤ nI j then nI j else nI j + 8
def pu_c3d (i j : Nat) (u v : Int32) : Int32 := if (f_X3_numberOf (nI i)) ≤ 0 then pu_c3e i j u v
  else if (f_X3_numberOf (nI j)) ≤ 0 then pu_c3e i j u v
  else if (f_X3_numberOf (nI i)) = (f_X3_numberOf (nI j)) then (f_X3_numberOf (nI i))
  else if (f_X3_in (f_X3_numberOf (nI i)) (2 : Int32) (3 : Int32)) = 0 then (f_X3_bothOf (f_X3_numberOf (nI i)) (f_X3_numberOf (nI j)))
  else if (f_X3_in (f_X3_numberOf (nI j)) (2 : Int32) (3 : Int32)) = 0 then (f_X3_bothOf (f_X3_numberOf (nI i)) (f_X3_numberOf (nI j)))
  else (3 : Int32)
def pu_c3c (i j : Nat) : Int32 := if nI j ≤ nI i then nI j else nI i
def pu_c3b (i j : Nat) (u v : Int32) : Int32 := if (8 : Int32) ≤ nI j then pu_c3d i j u v
  else if nI i = (nI j + (8 : Int32)) then pu_c3c i j
  else pu_c3d i j u v
def pu_c3 (i j : Nat) (u v : Int32) : Int32 := if nI i = nI j then nI i
  else if (8 : Int32) ≤ nI i then pu_c3b i j u v
  else if nI j = (nI i + (8 : Int32)) then pu_c3c i j
  else pu_c3b i j u v
theorem pu_cond : ∀ i, i < 40 → ∀ j, j < 40 → (pu_c2 i j 0 0 = pu_c3 i j 0 0 ∧ pu_c2 i j 0 1 = pu_c3 i j 0 1) ∧ (pu_c2 i j 1 0 = pu_c3 i j 1 0 ∧ pu_c2 i j 1 1 = pu_c3 i j 1 1) := by decide +kernel

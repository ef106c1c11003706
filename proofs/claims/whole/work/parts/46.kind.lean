theorem pu_upl {ro rf re av un : Nat → Int32} {ty : Int32} {kp : Nat → Int32} {bt : Nat → Int64} {rk x y : Int32} (h : x ≤ 7 ∨ y ≤ 7 ∨ x = y) : f_X3_isUp ro rf re av un ty kp bt rk x y = 0 := by
  unfold f_X3_isUp f_X3_isReference
  by_cases h1 : x ≤ 7
  · simp [h1]
  · by_cases h2 : y ≤ 7
    · simp [h1, h2]
    · have : x = y := (h.resolve_left h1).resolve_left h2
      simp [h1, h2, this]
theorem pu_up {ro rf re av un : Nat → Int32} {ty : Int32} {kp : Nat → Int32} {bt : Nat → Int64} {rk : Int32} {s t : Nat} (s8 : 8 ≤ s) (sn : s < 40) (t8 : 8 ≤ t) (tn : t < 40) (hst : ¬ s = t) : (un (((40 : Int32) * nI s) + nI t).toNatClampNeg = 0 → f_X3_isUp ro rf re av un ty kp bt rk (nI s) (nI t) = 0) ∧ (¬ un (((40 : Int32) * nI s) + nI t).toNatClampNeg = 0 → f_X3_isUp ro rf re av un ty kp bt rk (nI s) (nI t) = 1) := by
  have q1 : ¬ nI s ≤ 7 := fun q => by have := (pu_ref (by omega)).mp q; omega
  have q2 : ¬ nI t ≤ 7 := fun q => by have := (pu_ref (by omega)).mp q; omega
  have q3 : ¬ nI s = nI t := by rw [nI_eq (by omega) (by omega)]; exact hst
  unfold f_X3_isUp f_X3_isReference
  constructor
  · intro h; simp [q1, q2, q3, h]
  · intro h; simp [q1, q2, q3, h]
theorem pu_dnl {ro rf re av un : Nat → Int32} {ty : Int32} {kp : Nat → Int32} {bt : Nat → Int64} {rk x y : Int32} (h : x ≤ 7 ∨ y ≤ 7) : f_X3_isDown ro rf re av un ty kp bt rk x y = 0 := by
  unfold f_X3_isDown
  rw [f_X3_isDown_5]
  unfold f_X3_isReference
  by_cases h1 : x ≤ 7
  · simp [h1]
  · simp [h1, h.resolve_left h1]
theorem pu_lpr (k x2 x3 u6 u9 d10 d11 : Int32) : pu_l k x2 x3 0 u6 u9 d10 d11 = pu_l k x2 x3 0 0 u9 d10 d11 := by
  unfold pu_l
  simp
theorem pu_l11 (k x2 x3 pr u6 u9 d10 d11 : Int32) (h : (8 : Int32) ≤ x3) : pu_l k x2 x3 pr u6 u9 d10 d11 = pu_l k x2 x3 pr u6 u9 d10 0 := by
  unfold pu_l
  simp [h]
theorem pu_gd {n : Nat} {so fi el : Nat → Int32} {ab : Nat → Int64} {ro rf re av un : Nat → Int32} (hs : jv_s n so fi ro rf) (he : jv_e n so el re) (hb : jv_b n so el ab ro re av un) (sz ty : Int32) (kp : Nat → Int32) (bt : Nat → Int64) (rk : Int32) {s t : Nat} (s8 : 8 ≤ s) (sn : s < n) (t8 : 8 ≤ t) (tn : t < n) : f_X1_goesDown so fi el ab sz (nI s) (nI t) = f_X3_isDown ro rf re av un ty kp bt rk (nI s) (nI t) := by
  have hn := hs.1
  exact pu_down hs he hb sz ty kp bt rk (nI s) (nI t) (nI s) (nI t) s s8 sn t t8 tn 40 39 0 (by omega) (by omega) (by omega)
/-- 'down' is 0 or 1 -/
theorem pu_gd01 (so fi el : Nat → Int32) (ab : Nat → Int64) (sz x1 x2 : Int32) : ∀ k s t d, f_X1_goesDown_8 k so fi el ab sz x1 x2 s t d = 0 ∨ f_X1_goesDown_8 k so fi el ab sz x1 x2 s t d = 1 := by
  have h57 : ∀ s t, f_X1_goesDown_57 so fi el ab sz x1 x2 s t = 0 ∨ f_X1_goesDown_57 so fi el ab sz x1 x2 s t = 1 := by
    intro s t
    unfold f_X1_goesDown_57
    repeat' split
    all_goals first | exact Or.inl rfl | exact Or.inr rfl
  intro k
  induction k with
  | zero => intro s t d; exact Or.inl rfl
  | succ k ih =>
    intro s t d
    rw [f_X1_goesDown_8]
    repeat' split
    all_goals first | exact h57 s t | exact ih _ _ _
theorem pu_so1 : ∀ i, i < 16 → (decide (i < 8) || (decide (f_X1_init.1 i = 1) && !decide (nI i = 22))) = true := by decide +kernel
/-- no box goes down to a box -/
theorem pu_bxd {n : Nat} {so fi el : Nat → Int32} {ab : Nat → Int64} {ro rf re av un : Nat → Int32} (hs : jv_s n so fi ro rf) (hb : jv_b n so el ab ro re av un) (sz : Int32) {s t : Nat} (s8 : 8 ≤ s) (s16 : s < 16) (t8 : 8 ≤ t) (t16 : t < 16) : f_X1_goesDown so fi el ab sz (nI s) (nI t) = 0 := by
  have hn := hs.1
  have a1 : so s = 1 := by
    rw [(hs.2.2.2.1 s (by omega)).1]
    have := pu_so1 s s16
    simp only [Bool.or_eq_true, Bool.and_eq_true, decide_eq_true_eq] at this
    exact (this.resolve_left (by omega)).1
  have a2 : so t = 1 := by
    rw [(hs.2.2.2.1 t (by omega)).1]
    have := pu_so1 t t16
    simp only [Bool.or_eq_true, Bool.and_eq_true, decide_eq_true_eq] at this
    exact (this.resolve_left (by omega)).1
  have cs : (nI s).toNatClampNeg = s := nI_clamp (by omega)
  have ct : (nI t).toNatClampNeg = t := nI_clamp (by omega)
  unfold f_X1_goesDown
  rw [f_X1_goesDown_8]
  unfold f_X1_isArrayOfReferences f_X1_goesDown_57 f_X1_mayShareObjects
  rw [cs, ct, a1, a2]
  rcases pu_un3 hb hn.2 fi sz (s := s) (t := t) ⟨s8, by omega⟩ ⟨t8, by omega⟩ with ⟨-, r1, -⟩ | ⟨r0, r1, -⟩
  · rw [r1]; simp
  · rcases pu_un3 hb hn.2 fi sz (s := t) (t := s) ⟨t8, by omega⟩ ⟨s8, by omega⟩ with ⟨r2, -, -⟩ | ⟨-, r3, -⟩
    · have : t = s := hb.2.2.2.2.2 t s (by omega) (by omega) s8 s16 r2
      subst this
      exact absurd r2 r0
    · rw [r1, r3]; simp
set_option maxHeartbeats 4000000 in
theorem pu_step {n : Nat} {so fi el : Nat → Int32} {ab : Nat → Int64} {ro rf re av un : Nat → Int32} (hs : jv_s n so fi ro rf) (he : jv_e n so el re) (hb : jv_b n so el ab ro re av un) (sz : Int32) (ot : Nat → Int32) (ob : Nat → Int64) (oc ty : Int32) (kp : Nat → Int32) (bt : Nat → Int64) (rk : Int32) {i j : Nat} (hi : i < n) (hj : j < n) :
    pu_ok i j (if (8 : Int32) ≤ nI i then 0 else 1) (f_X3_isUp ro rf re av un ty kp bt rk (nI i + (8 : Int32)) (nI j)) (f_X3_isUp ro rf re av un ty kp bt rk (nI i) (nI j)) (f_X3_isDown ro rf re av un ty kp bt rk (nI i) (nI j)) (f_X3_isDown ro rf re av un ty kp bt rk (nI i) (nI j + (8 : Int32))) (f_X2_stepsBetween so fi el ab sz ot ob oc (nI i) (nI j)) := by
  have hn := hs.1
  rw [pu_steps]
  rcases pu_prim i (by omega) with ⟨i8, p1, p2, p3, p4, p5⟩ | ⟨i8, p1, p2, p3, p4⟩
  · rw [if_neg p4, pu_upl (x := nI i) (Or.inl p3), pu_dnl (x := nI i) (Or.inl p3), pu_dnl (x := nI i) (Or.inl p3), p5]
    rcases pu_prim j (by omega) with ⟨j8, q1, q2, q3, q4, q5⟩ | ⟨j8, q1, q2, q3, q4⟩
    · rw [pu_upl (y := nI j) (Or.inr (Or.inl q3))]
      by_cases hij : i = j
      · subst hij
        have e : ∀ a b c d, pu_s2 (nI i) (nI i) a b c d = pu_s2 (nI i) (nI i) 0 0 0 0 := by intro a b c d; unfold pu_s2; rw [if_pos rfl, if_pos rfl]
        rw [e]
        exact pu_ok_of (pu_k1 i i8)
      · have e : ∀ a b c d, pu_s2 (nI i) (nI j) a b c d = pu_s2 (nI i) (nI j) 0 0 0 0 := by
          intro a b c d; unfold pu_s2; rw [p1, q1]; simp only [if_neg pu10]
        rw [e]
        have := pu_k2 i i8 j j8
        simp only [Bool.or_eq_true, beq_iff_eq] at this
        exact pu_ok_of (this.resolve_left hij)
    · have e : ∀ a b c d, pu_s2 (nI i) (nI j) a b c d = pu_s2 (nI i) (nI j) a 0 0 0 := by
        intro a b c d; unfold pu_s2; rw [p1]; simp only [if_neg pu10]
      have k3 := pu_k3 i i8 j (by omega)
      simp only [Bool.or_eq_true, Bool.and_eq_true, beq_iff_eq, decide_eq_true_eq] at k3
      have k3 := k3.resolve_left (by omega)
      rw [e, p2]
      by_cases hij : j = i + 8
      · subst hij
        rw [pu_upl (x := nI (i + 8)) (Or.inr (Or.inr rfl))]
        have e2 : ∀ a, pu_s2 (nI i) (nI (i + 8)) a 0 0 0 = pu_s2 (nI i) (nI (i + 8)) 0 0 0 0 := by
          intro a; unfold pu_s2; rw [p1, q1, p2]; simp only [if_neg pu10, if_true]
        rw [e2]
        exact pu_ok_of k3.2
      · rcases pu_un3 hb hn.2 fi sz (s := i + 8) (t := j) ⟨by omega, by omega⟩ ⟨j8, hj⟩ with ⟨-, r1, r2⟩ | ⟨-, r1, r2⟩
        · rw [r1, (pu_up (by omega) (by omega) j8 (by omega) (by omega)).2 r2]
          exact pu_ok_of (k3.1.resolve_left hij)
        · rw [r1, (pu_up (by omega) (by omega) j8 (by omega) (by omega)).1 r2]
          exact pu_ok_of k3.2
  · rw [if_pos p4]
    have lpr : ∀ u6 u9 d10 d11 z, pu_ok i j 0 0 u9 d10 d11 z → pu_ok i j 0 u6 u9 d10 d11 z := fun u6 u9 d10 d11 z h => ⟨h.1, h.2.1, h.2.2.1, fun k h1 h2 => by rw [pu_lpr]; exact h.2.2.2 k h1 h2⟩
    apply lpr
    rcases pu_prim j (by omega) with ⟨j8, q1, q2, q3, q4, q5⟩ | ⟨j8, q1, q2, q3, q4⟩
    · rw [pu_upl (y := nI j) (Or.inr (Or.inl q3)), pu_dnl (y := nI j) (Or.inr q3), q5, q2]
      have hij : ¬ nI i = nI j := by rw [nI_eq (by omega) (by omega)]; omega
      have e : ∀ a b c d, pu_s2 (nI i) (nI j) a b c d = pu_s2 (nI i) (nI j) 0 0 0 d := by
        intro a b c d; unfold pu_s2; rw [p1, q1]; simp only [if_neg pu10, if_true]
      have k4 := pu_k4 i (by omega) j j8
      simp only [Bool.or_eq_true, Bool.and_eq_true, decide_eq_true_eq] at k4
      have k4 := k4.resolve_left (by omega)
      rw [e]
      by_cases i16 : i < 16
      · have e2 := pu_bxd hs hb sz i8 i16 (t := j + 8) (by omega) (by omega)
        rw [← pu_gd hs he hb sz ty kp bt rk i8 hi (t := j + 8) (by omega) (by omega), e2]
        exact pu_ok_of k4.2
      · rw [← pu_gd hs he hb sz ty kp bt rk i8 hi (t := j + 8) (by omega) (by omega)]
        have hg := pu_gd01 so fi el ab sz (nI i) (nI (j + 8)) 41 (nI i) (nI (j + 8)) 0
        have hg : f_X1_goesDown so fi el ab sz (nI i) (nI (j + 8)) = 0 ∨ f_X1_goesDown so fi el ab sz (nI i) (nI (j + 8)) = 1 := hg
        rcases hg with hg | hg
        · rw [hg]; exact pu_ok_of k4.2
        · rw [hg]; exact pu_ok_of (k4.1.resolve_left i16)
    · have l11 : ∀ u9 d10 d11 z, pu_ok i j 0 0 u9 d10 0 z → pu_ok i j 0 0 u9 d10 d11 z := fun u9 d10 d11 z h => ⟨h.1, h.2.1, h.2.2.1, fun k h1 h2 => by rw [pu_l11 _ _ _ _ _ _ _ _ q4]; exact h.2.2.2 k h1 h2⟩
      apply l11
      by_cases hij : i = j
      · subst hij
        have e : ∀ a b c d, pu_s2 (nI i) (nI i) a b c d = pu_s2 (nI i) (nI i) 0 0 0 0 := by intro a b c d; unfold pu_s2; rw [if_pos rfl, if_pos rfl]
        rw [e, pu_upl (x := nI i) (Or.inr (Or.inr rfl))]
        have d0 : f_X3_isDown ro rf re av un ty kp bt rk (nI i) (nI i) = 0 := pu_dn0 hs hb ty kp bt rk (nI i) (nI i) 39 i8 hi i8 hi (pu_refl hb i8 hi)
        rw [d0]
        have := pu_k1b i (by omega)
        simp only [Bool.or_eq_true, decide_eq_true_eq] at this
        exact pu_ok_of (this.resolve_left (by omega))
      · have e : ∀ a b c d, pu_s2 (nI i) (nI j) a b c d = pu_s2 (nI i) (nI j) 0 b c 0 := by
          intro a b c d; unfold pu_s2; rw [p1, q1]; simp only [if_true]
        have k5 := pu_k5 i (by omega) j (by omega)
        simp only [Bool.or_eq_true, Bool.and_eq_true, beq_iff_eq, decide_eq_true_eq] at k5
        have k5 := ((k5.resolve_left (by omega)).resolve_left (by omega)).resolve_left hij
        rw [e]
        rcases pu_un3 hb hn.2 fi sz (s := i) (t := j) ⟨i8, hi⟩ ⟨j8, hj⟩ with ⟨r0, r1, r2⟩ | ⟨-, r1, r2⟩
        · rw [r1, (pu_up i8 (by omega) j8 (by omega) hij).2 r2]
          have d0 : f_X3_isDown ro rf re av un ty kp bt rk (nI i) (nI j) = 0 := pu_dn0 hs hb ty kp bt rk (nI i) (nI j) 39 i8 hi j8 hj r0
          rw [d0]
          have e3 : ∀ c, pu_s2 (nI i) (nI j) 0 1 c 0 = pu_s2 (nI i) (nI j) 0 1 0 0 := by intro c; unfold pu_s2; simp only [if_neg pu10]
          rw [e3]
          exact pu_ok_of k5.1
        · rw [r1, (pu_up i8 (by omega) j8 (by omega) hij).1 r2, ← pu_gd hs he hb sz ty kp bt rk i8 hi j8 hj]
          have hg := pu_gd01 so fi el ab sz (nI i) (nI j) 41 (nI i) (nI j) 0
          have hg : f_X1_goesDown so fi el ab sz (nI i) (nI j) = 0 ∨ f_X1_goesDown so fi el ab sz (nI i) (nI j) = 1 := hg
          rcases hg with hg | hg
          · rw [hg]; exact pu_ok_of k5.2.2
          · rw [hg]; exact pu_ok_of k5.2.1
theorem pu_kind {n : Nat} {so fi el : Nat → Int32} {ab : Nat → Int64} {ro rf re av un : Nat → Int32} (hs : jv_s n so fi ro rf) (he : jv_e n so el re) (hb : jv_b n so el ab ro re av un) (sz : Int32) (ot : Nat → Int32) (ob : Nat → Int64) (oc ty : Int32) (kp : Nat → Int32) (bt : Nat → Int64) (rk : Int32) {i j c : Nat} (hi : i < n) (hj : j < n) (hc : c < 6) :
    f_X2_allowedKind so fi el ab sz ot ob oc (nI i) (nI j) (nI c) = f_X3_kindOf ro rf re av un ty kp bt rk (nI i) (nI j) (nI c) := by
  have hn := hs.1
  obtain ⟨k1, k2, k3, k4⟩ := pu_step hs he hb sz ot ob oc ty kp bt rk hi hj
  rw [pu_allowed]
  generalize f_X2_stepsBetween so fi el ab sz ot ob oc (nI i) (nI j) = z at k1 k2 k3 k4 ⊢
  unfold f_X3_kindOf
  have h12 : f_X3_leads ro rf re av un ty kp bt rk 12 (nI i) (nI j) = 0 ↔ ¬ nI j = 21 := by
    rw [pu_leads]
    unfold pu_l
    simp
  have h := pu_kindOf (ro := ro) (rf := rf) (re := re) (av := av) (un := un) (ty := ty) (kp := kp) (bt := bt) (rk := rk) (x1 := nI i) (x2 := nI j) (x3 := nI c) (K := z.toNatClampNeg) k1 (fun k h1 h2 => by rw [pu_leads]; exact k4 k h1 h2) h12 13 1 (by omega) (by omega) (by omega)
  rw [show (1 : Int32) = nI 1 from rfl, h, ← pu_hg (b := decide (nI i = 21)) (by omega) (by omega) hc, k2]
  intro h21
  rw [k3, decide_eq_true_eq, show (21 : Int32) = nI 21 from rfl, nI_eq (by omega) (by omega)]
  omega

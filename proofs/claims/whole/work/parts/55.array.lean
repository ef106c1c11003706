/-! pure: array -/
theorem pu_srch {n : Nat} {so fi el : Nat → Int32} {ab : Nat → Int64} {ro rf re av un : Nat → Int32} (hs : jv_s n so fi ro rf) (he : jv_e n so el re) (th th2 : Int32) (kp : Nat → Int32) (bt : Nat → Int64) (rk x1 : Int32) :
    ∀ k t, 23 ≤ t → t ≤ n → t + k = 41 → (∃ r, t ≤ r ∧ r < n ∧ f_X1_arrayOf_3 k so fi el ab (nI n) x1 (nI t) = nI r ∧ f_X3_array_31 k th ro rf re av un (nI n) kp bt rk x1 (nI t) th2 = (nI r, th2, ro, rf, re, av, un, nI n)) ∨ ((∀ r, t ≤ r → r < n → so r = 3 → ¬ el r = x1) ∧ f_X1_arrayOf_3 k so fi el ab (nI n) x1 (nI t) = -1 ∧ f_X3_array_31 k th ro rf re av un (nI n) kp bt rk x1 (nI t) th2 = f_X3_array_31 1 th ro rf re av un (nI n) kp bt rk x1 (nI n) th2) := by
  have hn := hs.1
  intro k
  induction k with
  | zero => intro t h1 h2 h3; omega
  | succ k ih =>
    intro t h1 h2 h3
    by_cases c : t = n
    · right
      subst c
      have le : nI t ≤ nI t := by rw [nI_leI (by omega) (by omega)]; omega
      refine ⟨fun r q1 q2 => by omega, ?_, ?_⟩
      · rw [f_X1_arrayOf_3, if_pos le]
      · rw [f_X3_array_31, f_X3_array_31, if_pos le, if_pos le]
    · have nle : ¬ nI n ≤ nI t := by rw [nI_leI (by omega) (by omega)]; omega
      have I := ih (t + 1) (by omega) (by omega) (by omega)
      clear ih
      generalize f_X3_array_31 1 th ro rf re av un (nI n) kp bt rk x1 (nI n) th2 = E at I ⊢
      simp only [f_X1_arrayOf_3, f_X3_array_31, if_neg nle]
      rw [nI_clamp (by omega), (hs.2.1 t (by omega)).1, nI_1]
      by_cases c3 : so t = 3
      · simp only [if_pos c3]
        rw [(he.1 t (by omega) c3).1]
        by_cases c4 : el t = x1
        · left
          simp only [if_pos c4]
          exact ⟨t, by omega, by omega, rfl, rfl⟩
        · simp only [if_neg c4]
          rcases I with ⟨r, r1, r2, r3, r4⟩ | ⟨r1, r2, r3⟩
          · exact Or.inl ⟨r, by omega, r2, r3, r4⟩
          · refine Or.inr ⟨fun r q1 q2 q3 => ?_, r2, r3⟩
            by_cases e : r = t
            · subst e; exact c4
            · exact r1 r (by omega) q2 q3
      · simp only [if_neg c3]
        rcases I with ⟨r, r1, r2, r3, r4⟩ | ⟨r1, r2, r3⟩
        · exact Or.inl ⟨r, by omega, r2, r3, r4⟩
        · refine Or.inr ⟨fun r q1 q2 q3 => ?_, r2, r3⟩
          by_cases e : r = t
          · subst e; exact absurd q3 c3
          · exact r1 r (by omega) q2 q3
/-- the rows while the arrays are placed: those below o are done -/
def plc (n : Nat) (so el : Nat → Int32) (ab : Nat → Int64) (A : Int64) (x o : Nat) (ab2 : Nat → Int64) : Prop :=
  (∀ s t, s < n → s ≠ 22 → (Bt (ab2 s) t ↔ Bt (ab s) t ∨ (t = n ∧ 23 ≤ s ∧ s < o ∧ so s = 3 ∧ Bt (ab (el s).toNatClampNeg) x))) ∧
  (∀ t, Bt (ab2 22) t ↔ Bt (ab 22) t ∨ t = n) ∧
  (∀ t, Bt (ab2 n) t ↔ Bt A t ∨ t = n ∨ (23 ≤ t ∧ t < o ∧ so t = 3 ∧ Bt (ab x) (el t).toNatClampNeg)) ∧
  (∀ s, 8 ≤ s → s < 22 → ab2 s = ab s)
theorem plc_0 {n : Nat} {so el : Nat → Int32} {ab : Nat → Int64} {A : Int64} {x : Nat} (hn : 23 ≤ n) (hn2 : n < 40) : plc n so el ab A x 23 (abN ab n A) := by
  refine ⟨fun s t h1 h2 => ?_, abN_22 ab A (by omega) (by omega), fun t => ?_, fun s h1 h2 => abN_old ab A (by omega) (by omega)⟩
  · rw [abN_old ab A (by omega) h2]
    exact ⟨Or.inl, fun h => h.elim id (fun q => by omega)⟩
  · rw [abN_n ab A (by omega) (by omega)]
    constructor
    · rintro (h | h)
      · exact Or.inl h
      · exact Or.inr (Or.inl h)
    · rintro (h | h | h)
      · exact Or.inl h
      · exact Or.inr h
      · omega
theorem plc_no {n : Nat} {so el : Nat → Int32} {ab : Nat → Int64} {A : Int64} {x o : Nat} {ab2 : Nat → Int64} (h : plc n so el ab A x o ab2) (h3 : ¬ so o = 3) : plc n so el ab A x (o + 1) ab2 := by
  obtain ⟨p1, p2, p3, p4⟩ := h
  refine ⟨fun s t h1 h2 => (p1 s t h1 h2).trans ?_, p2, fun t => (p3 t).trans ?_, p4⟩
  · constructor
    · rintro (h | ⟨a, b, c, d, e⟩)
      · exact Or.inl h
      · exact Or.inr ⟨a, b, by omega, d, e⟩
    · rintro (h | ⟨a, b, c, d, e⟩)
      · exact Or.inl h
      · by_cases q : s = o
        · subst q; exact absurd d h3
        · exact Or.inr ⟨a, b, by omega, d, e⟩
  · constructor
    · rintro (h | h | ⟨b, c, d, e⟩)
      · exact Or.inl h
      · exact Or.inr (Or.inl h)
      · exact Or.inr (Or.inr ⟨b, by omega, d, e⟩)
    · rintro (h | h | ⟨b, c, d, e⟩)
      · exact Or.inl h
      · exact Or.inr (Or.inl h)
      · by_cases q : t = o
        · subst q; exact absurd d h3
        · exact Or.inr (Or.inr ⟨b, by omega, d, e⟩)
set_option maxHeartbeats 4000000 in
theorem plc_yes {n : Nat} {so fi el : Nat → Int32} {ab : Nat → Int64} {A : Int64} {x o e : Nat} {ab2 : Nat → Int64} {so2 fi2 el2 : Nat → Int32} {sz : Int32} (hn : 23 ≤ n) (hn2 : n < 40) (h : plc n so el ab A x o ab2) (h3 : so o = 3) (ho : 23 ≤ o) (hon : o < n) (hx : x < n) (hx22 : x ≠ 22) (he : e < n) (he22 : e ≠ 22) (eo : el o = nI e) (e2 : el2 o = nI e) (en : el2 n = nI x) :
    plc n so el ab A x (o + 1) (f_X1_placeArrays so2 fi2 el2 ab2 sz (nI n) (nI o)) := by
  obtain ⟨p1, p2, p3, p4⟩ := h
  have cn : (nI n).toNatClampNeg = n := nI_clamp (by omega)
  have co : (nI o).toNatClampNeg = o := nI_clamp (by omega)
  have ce : (el o).toNatClampNeg = e := by rw [eo, nI_clamp (by omega)]
  -- the first look
  have X1 : Bt (ab2 x) e ↔ Bt (ab x) e := by
    rw [p1 x e hx hx22]
    exact ⟨fun h => h.elim id (fun q => by omega), Or.inl⟩
  have step : ∀ ab3 : Nat → Int64, (∀ s t, s ≠ n → (Bt (ab3 s) t ↔ Bt (ab2 s) t)) → (∀ t, Bt (ab3 n) t ↔ Bt (ab2 n) t ∨ (t = o ∧ Bt (ab x) e)) → (∀ s, 8 ≤ s → s < 22 → ab3 s = ab2 s) → plc n so el ab A x (o + 1) (f_X1_placeArrays_32 so2 fi2 el2 ab sz (nI n) (nI o) ab3) := by
    intro ab3 q1 q2 q3
    have X2 : Bt (ab3 e) x ↔ Bt (ab e) x := by
      rw [q1 e x (by omega), p1 e x he he22]
      exact ⟨fun h => h.elim id (fun q => by omega), Or.inl⟩
    have R : ∀ ab4 : Nat → Int64, (∀ s t, s ≠ o → (Bt (ab4 s) t ↔ Bt (ab3 s) t)) → (∀ t, Bt (ab4 o) t ↔ Bt (ab3 o) t ∨ (t = n ∧ Bt (ab e) x)) → (∀ s, 8 ≤ s → s < 22 → ab4 s = ab3 s) → plc n so el ab A x (o + 1) ab4 := by
      intro ab4 r1 r2 r3
      refine ⟨fun s t h1 h2 => ?_, fun t => ?_, fun t => ?_, fun s h1 h2 => ((r3 s h1 h2).trans (q3 s h1 h2)).trans (p4 s h1 h2)⟩
      · by_cases c : s = o
        · subst c
          rw [r2, q1 s t (by omega), p1 s t h1 h2, ce]
          constructor
          · rintro ((h | ⟨a, b, c, d, f⟩) | ⟨a, b⟩)
            · exact Or.inl h
            · omega
            · exact Or.inr ⟨a, ho, by omega, h3, b⟩
          · rintro (h | ⟨a, b, c, d, f⟩)
            · exact Or.inl (Or.inl h)
            · exact Or.inr ⟨a, f⟩
        · rw [r1 s t c, q1 s t (by omega), p1 s t h1 h2]
          constructor
          · rintro (h | ⟨a, b, c, d, f⟩)
            · exact Or.inl h
            · exact Or.inr ⟨a, b, by omega, d, f⟩
          · rintro (h | ⟨a, b, c, d, f⟩)
            · exact Or.inl h
            · exact Or.inr ⟨a, b, by omega, d, f⟩
      · rw [r1 22 t (by omega), q1 22 t (by omega), p2]
      · rw [r1 n t (by omega), q2, p3]
        constructor
        · rintro ((h | h | ⟨b, c, d, f⟩) | ⟨a, b⟩)
          · exact Or.inl h
          · exact Or.inr (Or.inl h)
          · exact Or.inr (Or.inr ⟨b, by omega, d, f⟩)
          · subst a; exact Or.inr (Or.inr ⟨ho, by omega, h3, by rw [ce]; exact b⟩)
        · rintro (h | h | ⟨b, c, d, f⟩)
          · exact Or.inl (Or.inl h)
          · exact Or.inl (Or.inr (Or.inl h))
          · by_cases q : t = o
            · subst q
              rw [ce] at f
              exact Or.inr ⟨rfl, f⟩
            · exact Or.inl (Or.inr (Or.inr ⟨b, by omega, d, f⟩))
    unfold f_X1_placeArrays_32
    rw [cn, co, e2, en]
    rcases pu_un so2 fi2 el2 ab3 sz (s := e) (t := x) (by omega) (by omega) with ⟨g1, g2⟩ | ⟨g1, g2⟩
    · rw [g2, if_neg pu10]
      refine R _ (fun s t hs => ?_) (fun t => ?_) (fun s s1 s2 => ?_)
      · unfold vp_updL; rw [if_neg hs]
      · unfold vp_updL; rw [if_pos rfl, Bt_or, Bt_bit (by omega)]
        exact ⟨fun h => h.elim Or.inl (fun q => Or.inr ⟨q, X2.mp g1⟩), fun h => h.elim Or.inl (fun q => Or.inr q.1)⟩
      · unfold vp_updL; rw [if_neg (by omega)]
    · rw [if_pos g2]
      refine R ab3 (fun s t _ => Iff.rfl) (fun t => ?_) (fun s _ _ => rfl)
      exact ⟨Or.inl, fun h => h.elim id (fun q => absurd (X2.mpr q.2) g1)⟩
  unfold f_X1_placeArrays
  rw [cn, co, e2, en]
  rcases pu_un so2 fi2 el2 ab2 sz (s := x) (t := e) (by omega) (by omega) with ⟨g1, g2⟩ | ⟨g1, g2⟩
  · rw [g2, if_neg pu10]
    have := step (vp_updL ab2 n (ab2 n ||| f_X1_bit (nI o))) (fun s t hs => by unfold vp_updL; rw [if_neg hs]) (fun t => by
      unfold vp_updL; rw [if_pos rfl, Bt_or, Bt_bit (by omega)]
      exact ⟨fun h => h.elim Or.inl (fun q => Or.inr ⟨q, X1.mp g1⟩), fun h => h.elim Or.inl (fun q => Or.inr q.1)⟩) (fun s s1 s2 => by unfold vp_updL; rw [if_neg (by omega)])
    exact this
  · rw [if_pos g2]
    exact step ab2 (fun s t _ => Iff.rfl) (fun t => ⟨Or.inl, fun h => h.elim id (fun q => absurd (X1.mpr q.2) g1)⟩) (fun s _ _ => rfl)
theorem plc_loop {n : Nat} {so fi el : Nat → Int32} {ab : Nat → Int64} {ro rf re : Nat → Int32} (hs : jv_s n so fi ro rf) (he : jv_e n so el re) (hn2 : n < 40) {A : Int64} {x : Nat} (hx : x < n) (hx22 : x ≠ 22) {so2 fi2 el2 : Nat → Int32} {sz sz2 x1 : Int32} (es : ∀ i, i < n → so2 i = so i) (ee : ∀ i, i < n → el2 i = el i) (en : el2 n = nI x) :
    ∀ k o ab2, 23 ≤ o → o ≤ n → o + k = 41 → plc n so el ab A x o ab2 → ∃ ab3, plc n so el ab A x n ab3 ∧ f_X1_addArray_32 k so fi el ab sz x1 (nI n) (nI o) so2 fi2 el2 ab2 sz2 = (nI n, so2, fi2, el2, ab3, sz2) := by
  have hn := hs.1
  intro k
  induction k with
  | zero => intro o ab2 h1 h2 h3; omega
  | succ k ih =>
    intro o ab2 h1 h2 h3 hp
    rw [f_X1_addArray_32]
    by_cases c : o = n
    · subst c
      rw [if_pos (by rw [nI_leI (by omega) (by omega)]; omega)]
      exact ⟨ab2, hp, rfl⟩
    · rw [if_neg (by rw [nI_leI (by omega) (by omega)]; omega), nI_clamp (by omega), es o (by omega), nI_1]
      by_cases c3 : so o = 3
      · rw [if_pos c3]
        obtain ⟨e, e1, e2, e3, -⟩ := pu_el he (show o < n by omega) c3
        exact ih (o + 1) _ (by omega) (by omega) (by omega) (plc_yes (fi := fi) hn.1 hn2 hp c3 h1 (by omega) hx hx22 (show e < n by omega) e2 e3 (by rw [ee o (by omega)]; exact e3) en)
      · rw [if_neg c3]
        exact ih (o + 1) ab2 (by omega) (by omega) (by omega) (plc_no hp c3)
theorem pu_rows : (∀ t, t < 64 → (decide (f_X1_init.2.2.2.1 16 &&& f_X1_bit (nI t) = 0) || decide (t < 23)) = true ∧ (decide (f_X1_init.2.2.2.1 19 &&& f_X1_bit (nI t) = 0) || decide (t < 23)) = true ∧ (decide (f_X1_init.2.2.2.1 20 &&& f_X1_bit (nI t) = 0) || decide (t < 23)) = true) ∧ f_X1_init.2.2.2.1 16 ||| f_X1_init.2.2.2.1 19 = f_X1_init.2.2.2.1 19 := by decide +kernel
theorem pu_19 : f_X1_init.1 19 = 2 ∧ f_X1_init.1 20 = 2 := by decide +kernel
theorem Bt_64 {v : Int64} {t : Nat} (h : Bt v t) : t < 64 := by
  unfold Bt at h
  apply Classical.byContradiction
  intro q
  rw [BitVec.getLsbD_of_ge _ _ (by omega)] at h
  exact absurd h (by decide)
theorem Bt_23 {v : Int64} (h : ∀ t, t < 64 → (decide (v &&& f_X1_bit (nI t) = 0) || decide (t < 23)) = true) {t : Nat} (ht : Bt v t) : t < 23 := by
  have h64 := Bt_64 ht
  have := h t h64
  simp only [Bool.or_eq_true, decide_eq_true_eq] at this
  rcases this with q | q
  · exact absurd ht ((Bt_and0 v h64).mp q)
  · exact q
theorem upd_upd (f : Nat → Int32) (n : Nat) (a b : Int32) : upd (upd f n a) n b = upd f n b := by
  funext i
  by_cases h : i = n
  · subst h; simp [upd]
  · simp [upd, h]
set_option maxHeartbeats 4000000 in
theorem pe_array {so : Nat → Int32} {fi : Nat → Int32} {el : Nat → Int32} {ab : Nat → Int64} {sz : Int32} {ot : Nat → Int32} {ob : Nat → Int64} {oc : Int32} {th : Int32} {ro : Nat → Int32} {rf : Nat → Int32} {re : Nat → Int32} {av : Nat → Int32} {un : Nat → Int32} {ty : Int32} {kp : Nat → Int32} {bt : Nat → Int64} {rk : Int32} (hI : Inv (so, fi, el, ab, sz, ot, ob, oc) (th, ro, rf, re, av, un, ty, kp, bt, rk)) (x1 : Int32) : (f_X2_array so fi el ab sz ot ob oc x1).1 = (f_X3_array th ro rf re av un ty kp bt rk x1).1 ∧ Inv (f_X2_array so fi el ab sz ot ob oc x1).2 ((f_X3_array th ro rf re av un ty kp bt rk x1).2.1, (f_X3_array th ro rf re av un ty kp bt rk x1).2.2.1, (f_X3_array th ro rf re av un ty kp bt rk x1).2.2.2.1, (f_X3_array th ro rf re av un ty kp bt rk x1).2.2.2.2.1, (f_X3_array th ro rf re av un ty kp bt rk x1).2.2.2.2.2.1, (f_X3_array th ro rf re av un ty kp bt rk x1).2.2.2.2.2.2.1, (f_X3_array th ro rf re av un ty kp bt rk x1).2.2.2.2.2.2.2, kp, bt, rk) := by
  obtain ⟨n, m, g1, g2, g3, g4, g5⟩ := hI
  have h1 : sz = nI n := g1
  have h2 : ty = nI n := g2
  have h3 : oc = nI m := g3
  have h4 : rk = nI m := g4
  have hJ : jv n m so fi el ab ot ob ro rf re av un kp bt := g5
  clear g1 g2 g3 g4 g5
  subst h1 h2 h3 h4
  obtain ⟨hs, he, ha, hb, ho, hf⟩ := hJ
  have hn := hs.1
  have hm := ho.1
  have hJ : jv n m so fi el ab ot ob ro rf re av un kp bt := ⟨hs, he, ha, hb, ho, hf⟩
  have I0 : Inv (so, fi, el, ab, nI n, ot, ob, nI m) (0, ro, rf, re, av, un, nI n, kp, bt, nI m) := ⟨n, m, rfl, rfl, rfl, rfl, hJ⟩
  rcases pu_has (by omega) so fi el ab ro rf re av un kp bt (nI m) (n := n) x1 with ⟨h1, h2⟩ | ⟨x, hx, rfl, h1, h2⟩
  · unfold f_X2_array f_X3_array
    rw [if_pos h1, if_pos h2]
    exact ⟨rfl, I0⟩
  · unfold f_X2_array f_X3_array
    rw [h1, h2, if_neg pu10, if_neg pu10, nI_clamp (show x < 2 ^ 31 by omega), (hs.2.1 x hx).1]
    have e22 : nI x = 22 ↔ so x = 4 := by
      rw [show (22 : Int32) = nI 22 from rfl, nI_eq (by omega) (by omega), pu_so4 hs hx]
    by_cases c : so x = 4
    · rw [if_pos (e22.mpr c), if_pos c]
      exact ⟨rfl, I0⟩
    · rw [if_neg (fun q => c (e22.mp q)), if_neg c]
      have x22 : x ≠ 22 := fun q => c ((pu_so4 hs hx).mpr q)
      have S := pu_srch (ab := ab) (av := av) (un := un) hs he th 0 kp bt (nI m) (nI x) 18 23 (by omega) (by omega) (by omega)
      unfold f_X1_arrayOf
      rcases S with ⟨r, r1, r2, r3, r4⟩ | ⟨r1, r2, r3⟩
      · rw [show (23 : Int32) = nI 23 from rfl, r3, r4, if_neg (fun q => by have := nI_pos (n := r) (by omega); rw [q] at this; exact absurd (by decide) this)]
        exact ⟨rfl, I0⟩
      · rw [show (23 : Int32) = nI 23 from rfl, r2, r3, if_pos rfl]
        have lenn : nI n ≤ nI n := by rw [nI_leI (by omega) (by omega)]; omega
        rw [f_X3_array_31, if_pos lenn]
        unfold f_X1_isFull
        rcases pu_40 hn.2 with ⟨g1, g2, g3⟩ | ⟨g1, g2, g3⟩
        · rw [if_neg g2, if_neg pu10, if_pos g1]
          exact ⟨rfl, I0⟩
        · rw [if_pos g2, if_pos rfl, if_neg g1]
          have no : ∀ i, i < n → so i = 3 → ¬ el i = nI x := fun i hi h3 => r1 i (pu_so3 hs h3) hi h3
          have E2 : ∃ ab3, plc n so el ab (ab 20 ||| ab 19) x n ab3 ∧ f_X1_addArray so fi el ab (nI n) (nI x) = (nI n, upd so n 3, upd fi n (vp_nar .boolean 0), upd el n (nI x), ab3, nI (n + 1)) := by
            unfold f_X1_addArray
            rw [pu_add1 so fi el ab g3, show (20 : Int32).toNatClampNeg = 20 from rfl, show (19 : Int32).toNatClampNeg = 19 from rfl]
            simp only []
            rw [nI_clamp (show n < 2 ^ 31 by omega), upd_upd]
            exact plc_loop (fi := fi) (sz := nI n) (x1 := nI x) hs he g3 hx x22 (fun i hi => upd_ne so 3 (by omega)) (fun i hi => upd_ne el (nI x) (by omega)) (upd_at (α := Nat) el n (nI x)) 18 23 _ (by omega) (by omega) (by omega) (plc_0 hn.1 g3)
          obtain ⟨ab3, P, E2⟩ := E2
          rw [E2]
          unfold f_X3_array_z_3 f_X3_array_z_4
          rw [pu_add3 0 ro rf re av un kp bt (nI m) g3]
          refine ⟨rfl, n + 1, m, rfl, rfl, rfl, rfl, ?_⟩
          have b1 := hb.1
          have hs4 := hs.2.2.2.1
          have k16 : ab 16 = f_X1_init.2.2.2.1 16 := b1 16 (by omega) (by omega)
          have k19 : ab 19 = f_X1_init.2.2.2.1 19 := b1 19 (by omega) (by omega)
          have k20 : ab 20 = f_X1_init.2.2.2.1 20 := b1 20 (by omega) (by omega)
          have q16 : pok n so 16 := pok_c hs (i := 16) (by omega) (Or.inl (by rw [(hs4 16 (by omega)).1, (hs4 16 (by omega)).2]; exact pu_16))
          have q19 : pok n so 19 := pok_c hs (i := 19) (by omega) (Or.inr (by rw [(hs4 19 (by omega)).1]; exact pu_19.1))
          have q20 : pok n so 20 := pok_c hs (i := 20) (by omega) (Or.inr (by rw [(hs4 20 (by omega)).1]; exact pu_19.2))
          have HA := hA3 (n := n) (ab := ab) (A := ab 20 ||| ab 19) (A0 := f_X1_aboveOrNothing so fi el ab (nI n) 16) (A1 := f_X1_aboveOrNothing so fi el ab (nI n) 19) (A2 := f_X1_aboveOrNothing so fi el ab (nI n) 20) (p0 := 16) (p1 := 19) (p2 := 20) (fun t => by
            unfold f_X1_aboveOrNothing
            rw [if_neg (by decide), if_neg (by decide), if_neg (by decide), show (20 : Int32).toNatClampNeg = 20 from rfl, show (19 : Int32).toNatClampNeg = 19 from rfl, show (16 : Int32).toNatClampNeg = 16 from rfl, Bt_or]
            constructor
            · rintro (h | h)
              · exact Or.inr (Or.inr h)
              · exact Or.inr (Or.inl h)
            · rintro (h | h | h)
              · right
                rw [k19, ← pu_rows.2, Bt_or, ← k16]
                exact Or.inl h
              · exact Or.inr h
              · exact Or.inl h) (pok_b (by omega) q16) (pok_b (by omega) q19) (pok_b (by omega) q20)
          obtain ⟨P1, P2, P3, P4⟩ := P
          refine pu_jv (σ := 3) (ε := nI x) (ρ := nI x) (φ := vp_nar .boolean 0) (x := x) (p0 := 16) (p1 := 19) (p2 := 20) hJ g3 0 (nI m) (Or.inr (Or.inr rfl)) (mb_Bn (Or.inl rfl)) (fun _ => ⟨hx, x22, rfl, rfl, no⟩) (fun h => absurd rfl h) (pok3 q16 q19 q20) (fun _ k a t hk han hp ht => ?_) (fun s t s1 s2 => (P1 s t s1 s2).trans ?_) P2 (fun t => (P3 t).trans ?_) P4
          · rcases (show k = 0 ∨ k = 1 ∨ k = 2 by omega) with rfl | rfl | rfl
            · have : 16 = a := by
                have hp : (16 : Int32) = nI a := hp
                rw [show (16 : Int32) = nI 16 from rfl, nI_eq (by omega) (by omega)] at hp
                exact hp
              subst this
              rw [k16] at ht
              exact Bt_23 (fun t ht => (pu_rows.1 t ht).1) ht
            · have : 19 = a := by
                have hp : (19 : Int32) = nI a := hp
                rw [show (19 : Int32) = nI 19 from rfl, nI_eq (by omega) (by omega)] at hp
                exact hp
              subst this
              rw [k19] at ht
              exact Bt_23 (fun t ht => (pu_rows.1 t ht).2.1) ht
            · have : 20 = a := by
                have hp : (20 : Int32) = nI a := hp
                rw [show (20 : Int32) = nI 20 from rfl, nI_eq (by omega) (by omega)] at hp
                exact hp
              subst this
              rw [k20] at ht
              exact Bt_23 (fun t ht => (pu_rows.1 t ht).2.2) ht
          · constructor
            · rintro (h | ⟨a, b, c, d, f⟩)
              · exact Or.inl h
              · exact Or.inr ⟨a, rfl, d, f⟩
            · rintro (h | ⟨a, -, d, f⟩)
              · exact Or.inl h
              · exact Or.inr ⟨a, pu_so3 hs d, s1, d, f⟩
          · rw [HA]
            constructor
            · rintro (h | h | ⟨b, c, d, f⟩)
              · exact Or.inr (Or.inl h)
              · exact Or.inl h
              · exact Or.inr (Or.inr ⟨rfl, c, d, f⟩)
            · rintro (h | h | ⟨-, c, d, f⟩)
              · exact Or.inr (Or.inl h)
              · exact Or.inl h
              · exact Or.inr (Or.inr ⟨pu_so3 hs d, c, d, f⟩)

/-! pure: what the tables hold; 'down' of both sides -/
theorem pu_so0 : ∀ i, i < 23 → ¬ f_X1_init.1 i = 3 ∧ (f_X1_init.1 i = 4 ↔ i = 22) := by decide +kernel
theorem pu_so4 {n : Nat} {so fi ro rf : Nat → Int32} (hs : jv_s n so fi ro rf) {i : Nat} (hi : i < n) : so i = 4 ↔ i = 22 := by
  by_cases h : i < 23
  · rw [(hs.2.2.2.1 i h).1]; exact (pu_so0 i h).2
  · constructor
    · intro q
      rcases hs.2.2.2.2.1 i (by omega) hi with h' | h' | h' <;> rw [h'] at q <;> exact absurd q (by decide)
    · intro q; omega
theorem pu_so3 {n : Nat} {so fi ro rf : Nat → Int32} (hs : jv_s n so fi ro rf) {i : Nat} (h3 : so i = 3) : 23 ≤ i := by
  by_cases h : i < 23
  · rw [(hs.2.2.2.1 i h).1] at h3; exact absurd h3 (pu_so0 i h).1
  · omega
theorem pu_refl {n : Nat} {so el : Nat → Int32} {ab : Nat → Int64} {ro re av un : Nat → Int32} (hb : jv_b n so el ab ro re av un) {s : Nat} (h1 : 8 ≤ s) (h2 : s < n) : Bt (ab s) s :=
  (hb.2.2.2.1 s s h1 h2 h1 h2).mpr fun P hP => hP s s h1 h2 h1 h2 (Or.inl rfl)
theorem pu_null {n : Nat} {so fi el : Nat → Int32} {ab : Nat → Int64} {ro rf re av un : Nat → Int32} (hs : jv_s n so fi ro rf) (hb : jv_b n so el ab ro re av un) {t : Nat} (h1 : 8 ≤ t) (h2 : t < n) : Bt (ab 22) t :=
  (hb.2.2.2.1 22 t (by omega) (by have := hs.1; omega) h1 h2).mpr fun P hP => hP 22 t (by omega) (by have := hs.1; omega) h1 h2 (Or.inr (Or.inl (by rw [(hs.2.1 22 (by have := hs.1; omega)).1]; exact (pu_so4 hs (by have := hs.1; omega)).mpr rfl)))
theorem pu_el {n : Nat} {so el re : Nat → Int32} (he : jv_e n so el re) {s : Nat} (hs : s < n) (h3 : so s = 3) : ∃ a, a < s ∧ a ≠ 22 ∧ el s = nI a ∧ re s = nI a := by
  obtain ⟨h1, a, h2, h4, h5⟩ := he.1 s hs h3
  exact ⟨a, h2, h4, h5, h1.trans h5⟩
theorem pu_arr {n : Nat} {so fi el : Nat → Int32} {ab : Nat → Int64} {ro rf re av un : Nat → Int32} (hs : jv_s n so fi ro rf) (he : jv_e n so el re) (hb : jv_b n so el ab ro re av un) {s t a b : Nat} (h1 : s < n) (h2 : t < n) (h3 : so s = 3) (h4 : so t = 3) (ea : el s = nI a) (eb : el t = nI b) (ha : 8 ≤ a) (hab : a < n) (hb8 : 8 ≤ b) (hbn : b < n) : Bt (ab s) t ↔ Bt (ab a) b := by
  have hn := hs.1
  have s8 := pu_so3 hs h3
  have t8 := pu_so3 hs h4
  constructor
  · intro h
    rcases hb.2.2.2.2.1 s t h1 h2 h3 h4 h with h | h
    · subst h
      have : a = b := by
        have := ea.symm.trans eb
        rwa [nI_eq (by omega) (by omega)] at this
      subst this
      exact pu_refl hb ha hab
    · rw [ea, eb, nI_clamp (by omega), nI_clamp (by omega)] at h
      exact h
  · intro h
    have h' := (hb.2.2.2.1 a b ha hab hb8 hbn).mp h
    refine (hb.2.2.2.1 s t (by omega) h1 (by omega) h2).mpr fun P hP => hP s t (by omega) h1 (by omega) h2 (Or.inr (Or.inr (Or.inr ?_)))
    obtain ⟨-, -, -, -, re1⟩ := pu_el he h1 h3
    have r1 : re s = nI a := ((he.1 s h1 h3).1).trans ea
    have r2 : re t = nI b := ((he.1 t h2 h4).1).trans eb
    refine ⟨by rw [(hs.2.1 s h1).1]; exact h3, by rw [(hs.2.1 t h2).1]; exact h4, Or.inr ⟨?_, ?_, ?_⟩⟩
    · rw [r1, show (7 : Int32) = nI 7 from rfl, nI_ltI (by omega) (by omega)]; omega
    · rw [r2, show (7 : Int32) = nI 7 from rfl, nI_ltI (by omega) (by omega)]; omega
    · rw [r1, r2, nI_clamp (by omega), nI_clamp (by omega)]
      exact h' P hP
theorem pu_ref {s : Nat} (hs : s < 2 ^ 31) : nI s ≤ 7 ↔ s < 8 := by
  rw [show (7 : Int32) = nI 7 from rfl, nI_leI hs (by omega)]; omega
theorem pu_aor {n : Nat} {so fi el : Nat → Int32} {ab : Nat → Int64} {ro rf re : Nat → Int32} (hs : jv_s n so fi ro rf) (he : jv_e n so el re) (sz : Int32) {s : Nat} (h1 : s < n) :
    (f_X1_isArrayOfReferences so fi el ab sz (nI s) = 1 ∧ so s = 3 ∧ ∃ a, a < s ∧ a ≠ 22 ∧ el s = nI a ∧ re s = nI a ∧ 8 ≤ a) ∨ (f_X1_isArrayOfReferences so fi el ab sz (nI s) = 0 ∧ (so s = 3 → re s ≤ 7)) := by
  have hn := hs.1
  unfold f_X1_isArrayOfReferences
  rw [nI_clamp (by omega)]
  by_cases h3 : so s = 3
  · obtain ⟨a, a1, a2, a3, a4⟩ := pu_el he h1 h3
    rw [if_pos h3]
    by_cases h8 : a < 8
    · right
      rw [a3, a4]
      exact ⟨if_pos ((pu_ref (by omega)).mpr h8), fun _ => (pu_ref (by omega)).mpr h8⟩
    · left
      refine ⟨?_, h3, a, a1, a2, a3, a4, by omega⟩
      rw [a3]
      exact if_neg (fun q => h8 ((pu_ref (by omega)).mp q))
  · right
    exact ⟨if_neg h3, fun h => absurd h h3⟩
theorem pu_dn0 {n : Nat} {so fi el : Nat → Int32} {ab : Nat → Int64} {ro rf re av un : Nat → Int32} (hs : jv_s n so fi ro rf) (hb : jv_b n so el ab ro re av un) (ty : Int32) (kp : Nat → Int32) (bt : Nat → Int64) (rk y1 y2 : Int32) (k : Nat) {s t : Nat} (s8 : 8 ≤ s) (sn : s < n) (t8 : 8 ≤ t) (tn : t < n) (h : Bt (ab s) t) :
    f_X3_isDown_5 (k + 1) ro rf re av un ty kp bt rk y1 y2 (nI s) (nI t) = 0 := by
  have hn := hs.1
  rcases pu_un3 hb hn.2 fi 0 (s := s) (t := t) ⟨s8, sn⟩ ⟨t8, tn⟩ with ⟨-, -, r⟩ | ⟨r, -, -⟩
  · simp only [f_X3_isDown_5]
    simp only [r, if_false]
    simp
  · exact absurd h r
theorem pu_dn1 {n : Nat} {so fi el : Nat → Int32} {ab : Nat → Int64} {ro rf re av un : Nat → Int32} (hs : jv_s n so fi ro rf) (hb : jv_b n so el ab ro re av un) (ty : Int32) (kp : Nat → Int32) (bt : Nat → Int64) (rk y1 y2 : Int32) (k : Nat) {s t : Nat} (s8 : 8 ≤ s) (sn : s < n) (t8 : 8 ≤ t) (tn : t < n) (s22 : s ≠ 22) (t22 : t ≠ 22) (h : ¬ Bt (ab s) t) (h' : Bt (ab t) s) :
    f_X3_isDown_5 (k + 1) ro rf re av un ty kp bt rk y1 y2 (nI s) (nI t) = 1 := by
  have hn := hs.1
  have q1 : ¬ nI s ≤ 7 := fun q => by have := (pu_ref (by omega)).mp q; omega
  have q2 : ¬ nI t ≤ 7 := fun q => by have := (pu_ref (by omega)).mp q; omega
  have q3 : ¬ ro (nI s).toNatClampNeg = 4 := by rw [nI_clamp (by omega), (hs.2.1 s sn).1, pu_so4 hs sn]; exact s22
  have q4 : ¬ ro (nI t).toNatClampNeg = 4 := by rw [nI_clamp (by omega), (hs.2.1 t tn).1, pu_so4 hs tn]; exact t22
  rcases pu_un3 hb hn.2 fi 0 (s := s) (t := t) ⟨s8, sn⟩ ⟨t8, tn⟩ with ⟨r, -, -⟩ | ⟨-, -, r⟩
  · exact absurd r h
  · rcases pu_un3 hb hn.2 fi 0 (s := t) (t := s) ⟨t8, tn⟩ ⟨s8, sn⟩ with ⟨-, -, r2⟩ | ⟨r2, -, -⟩
    · simp only [f_X3_isDown_5, f_X3_isReference]
      simp [q1, q2, q3, q4, r, r2]
    · exact absurd h' r2
set_option maxHeartbeats 4000000 in
theorem pu_down {n : Nat} {so fi el : Nat → Int32} {ab : Nat → Int64} {ro rf re av un : Nat → Int32} (hs : jv_s n so fi ro rf) (he : jv_e n so el re) (hb : jv_b n so el ab ro re av un) (sz ty : Int32) (kp : Nat → Int32) (bt : Nat → Int64) (rk x1 x2 y1 y2 : Int32) :
    ∀ s, 8 ≤ s → s < n → ∀ t, 8 ≤ t → t < n → ∀ k k' d, s ≤ k → s ≤ k' → s + d ≤ 39 → f_X1_goesDown_8 (k + 1) so fi el ab sz x1 x2 (nI s) (nI t) (nI d) = f_X3_isDown_5 (k' + 1) ro rf re av un ty kp bt rk y1 y2 (nI s) (nI t) := by
  have hn := hs.1
  intro s
  induction s using Nat.strongRecOn with
  | _ s ih =>
  intro s8 sn t t8 tn k k' d hk hk' hd
  have hd4 : ¬ (40 : Int32) ≤ nI d := by
    rw [show (40 : Int32) = nI 40 from rfl, nI_leI (by omega) (by omega)]; omega
  have q1 : ¬ nI s ≤ 7 := fun q => by have := (pu_ref (by omega)).mp q; omega
  have q2 : ¬ nI t ≤ 7 := fun q => by have := (pu_ref (by omega)).mp q; omega
  have cs : (nI s).toNatClampNeg = s := nI_clamp (by omega)
  have ct : (nI t).toNatClampNeg = t := nI_clamp (by omega)
  have s22 : nI s = 22 ↔ ro s = 4 := by
    rw [show (22 : Int32) = nI 22 from rfl, nI_eq (by omega) (by omega), (hs.2.1 s sn).1, pu_so4 hs sn]
  have t22 : nI t = 22 ↔ ro t = 4 := by
    rw [show (22 : Int32) = nI 22 from rfl, nI_eq (by omega) (by omega), (hs.2.1 t tn).1, pu_so4 hs tn]
  have L1 : f_X1_goesDown_8 (k + 1) so fi el ab sz x1 x2 (nI s) (nI t) (nI d) = (if (f_X1_isArrayOfReferences so fi el ab sz (nI s)) = 0 then f_X1_goesDown_57 so fi el ab sz x1 x2 (nI s) (nI t)
  else if (f_X1_isArrayOfReferences so fi el ab sz (nI t)) = 0 then f_X1_goesDown_57 so fi el ab sz x1 x2 (nI s) (nI t)
  else f_X1_goesDown_8 k so fi el ab sz x1 x2 (el s) (el t) (nI (d + 1))) := by
    simp only [f_X1_goesDown_8]
    rw [if_neg hd4, cs, ct, nI_1]
  have FL : (¬ (so s = 3 ∧ so t = 3 ∧ ¬ re s ≤ 7 ∧ ¬ re t ≤ 7)) → f_X1_goesDown_57 so fi el ab sz x1 x2 (nI s) (nI t) = f_X3_isDown_5 (k' + 1) ro rf re av un ty kp bt rk y1 y2 (nI s) (nI t) := by
    intro hna
    have so_s := (hs.2.1 s sn).1
    have so_t := (hs.2.1 t tn).1
    have fi_s := (hs.2.1 s sn).2
    have fi_t := (hs.2.1 t tn).2
    have E161 : ∀ back : Int32 → Int32 → Int32, f_X3_isDown_161 ro rf re av un ty kp bt rk y1 y2 (nI s) (nI t) back = 0 := by
      intro back
      unfold f_X3_isDown_161 f_X3_isReference
      rw [cs, ct, so_s, so_t]
      by_cases c1 : so s = 3
      · by_cases c2 : so t = 3
        · by_cases c3 : re s ≤ 7
          · simp [c1, c2, c3]
          · by_cases c4 : re t ≤ 7
            · simp [c1, c2, c3, c4]
            · exact absurd ⟨c1, c2, c3, c4⟩ hna
        · simp [c1, c2]
      · simp [c1]
    simp only [f_X3_isDown_5]
    unfold f_X1_goesDown_57 f_X3_isReference f_X3_isDown_98 f_X3_isDown_129 f_X1_mayShareObjects f_X1_isOpenClass
    simp only [E161, cs, ct, so_s, so_t, fi_s, fi_t]
    rw [if_neg q1, if_neg q2, if_neg pu10, if_neg pu10]
    rw [so_s] at s22
    rw [so_t] at t22
    by_cases a1 : nI s = 22
    · rw [if_pos a1, if_pos (s22.mp a1)]
    · rw [if_neg a1, if_neg (fun q => a1 (s22.mpr q))]
      by_cases a2 : nI t = 22
      · rw [if_pos a2, if_pos (t22.mp a2)]
      · rw [if_neg a2, if_neg (fun q => a2 (t22.mpr q))]
        rcases pu_un3 hb hn.2 fi sz (s := s) (t := t) ⟨s8, sn⟩ ⟨t8, tn⟩ with ⟨-, r1, r2⟩ | ⟨-, r1, r2⟩
        · rw [r1, if_neg pu10, if_neg r2]
        · rw [if_pos r1, if_pos r2]
          rcases pu_un3 hb hn.2 fi sz (s := t) (t := s) ⟨t8, tn⟩ ⟨s8, sn⟩ with ⟨-, r3, r4⟩ | ⟨-, r3, r4⟩
          · rw [r3, if_neg pu10, if_neg r4]
          · rw [if_pos r3, if_pos r4]
            by_cases b1 : so s = 2
            · simp only [b1, if_true]
              by_cases b2 : so t = 2
              · simp [b2]
              · by_cases b3 : so t = 1
                · by_cases b4 : fi t = 0 <;> simp [b3, b4]
                · simp [b2, b3]
            · simp only [b1, if_false]
              by_cases b2 : so t = 2
              · by_cases b3 : so s = 1
                · by_cases b4 : fi s = 0 <;> simp [b2, b3, b4]
                · simp [b2, b3]
              · simp [b2]
  rcases pu_aor (ab := ab) hs he sz sn with ⟨r1, s3, a, a1, a2, a3, a4, a8⟩ | ⟨r1, r2⟩
  · rcases pu_aor (ab := ab) hs he sz tn with ⟨r3, t3, b, b1, b2, b3, b4, b8⟩ | ⟨r3, r4⟩
    · rw [L1, r1, r3, if_neg pu10, if_neg pu10, a3, b3]
      obtain ⟨k0, rfl⟩ : ∃ k0, k = k0 + 1 := ⟨k - 1, by omega⟩
      obtain ⟨k1, rfl⟩ : ∃ k1, k' = k1 + 1 := ⟨k' - 1, by omega⟩
      have H := ih a a1 a8 (by omega) b b8 (by omega) k0 k1 (d + 1) (by omega) (by omega) (by omega)
      rw [H]
      have A1 := pu_arr hs he hb sn tn s3 t3 a3 b3 a8 (by omega) b8 (by omega)
      have A2 := pu_arr hs he hb tn sn t3 s3 b3 a3 b8 (by omega) a8 (by omega)
      have s22' : s ≠ 22 := by have := pu_so3 hs s3; omega
      have t22' : t ≠ 22 := by have := pu_so3 hs t3; omega
      by_cases u1 : Bt (ab s) t
      · rw [pu_dn0 hs hb ty kp bt rk y1 y2 (k1 + 1) s8 sn t8 tn u1, pu_dn0 hs hb ty kp bt rk y1 y2 k1 a8 (by omega) b8 (by omega) (A1.mp u1)]
      · by_cases u2 : Bt (ab t) s
        · rw [pu_dn1 hs hb ty kp bt rk y1 y2 (k1 + 1) s8 sn t8 tn s22' t22' u1 u2, pu_dn1 hs hb ty kp bt rk y1 y2 k1 a8 (by omega) b8 (by omega) a2 b2 (fun q => u1 (A1.mpr q)) (A2.mp u2)]
        · have so_s := (hs.2.1 s sn).1
          have so_t := (hs.2.1 t tn).1
          have p1 : ¬ nI a ≤ 7 := fun q => by have := (pu_ref (by omega)).mp q; omega
          have p2 : ¬ nI b ≤ 7 := fun q => by have := (pu_ref (by omega)).mp q; omega
          have w1 : un (((40 : Int32) * nI s) + nI t).toNatClampNeg = 0 := by
            rcases pu_un3 hb hn.2 fi sz (s := s) (t := t) ⟨s8, sn⟩ ⟨t8, tn⟩ with ⟨r, -, -⟩ | ⟨-, -, r⟩
            · exact absurd r u1
            · exact r
          have w2 : un (((40 : Int32) * nI t) + nI s).toNatClampNeg = 0 := by
            rcases pu_un3 hb hn.2 fi sz (s := t) (t := s) ⟨t8, tn⟩ ⟨s8, sn⟩ with ⟨r, -, -⟩ | ⟨-, -, r⟩
            · exact absurd r u2
            · exact r
          have w3 : un (((40 : Int32) * nI a) + nI b).toNatClampNeg = 0 := by
            rcases pu_un3 hb hn.2 fi sz (s := a) (t := b) ⟨a8, by omega⟩ ⟨b8, by omega⟩ with ⟨r, -, -⟩ | ⟨-, -, r⟩
            · exact absurd (A1.mpr r) u1
            · exact r
          rw [show f_X3_isDown_5 (k1 + 1 + 1) ro rf re av un ty kp bt rk y1 y2 (nI s) (nI t) = f_X3_isDown_5 (k1 + 1) ro rf re av un ty kp bt rk y1 y2 (nI a) (nI b) from ?_]
          rw [f_X3_isDown_5]
          unfold f_X3_isDown_98 f_X3_isDown_129 f_X3_isDown_161 f_X3_isUp f_X3_isReference
          simp only [cs, ct, so_s, so_t, s3, t3, a4, b4, w1, w2, w3, q1, q2, p1, p2]
          simp
    · rw [L1, r1, if_neg pu10, if_pos r3]
      exact FL (fun q => q.2.2.2 (r4 q.2.1))
  · rw [L1, if_pos r1]
    exact FL (fun q => q.2.2.1 (r2 q.1))

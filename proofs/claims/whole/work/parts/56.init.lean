/-! pure: the start -/
theorem in_Q1 (so2 fi2 el2 av2 : Nat → Int32) (ty2 : Int32) : (f_X3_init_140 so2 fi2 el2 av2 ty2).2.2.2.2.2.1 = f_X3_fill 0 (f_X3_init_140 so2 fi2 el2 av2 ty2).2.1 (f_X3_init_140 so2 fi2 el2 av2 ty2).2.2.1 (f_X3_init_140 so2 fi2 el2 av2 ty2).2.2.2.1 (f_X3_init_140 so2 fi2 el2 av2 ty2).2.2.2.2.1 (fun _ => 0) (f_X3_init_140 so2 fi2 el2 av2 ty2).2.2.2.2.2.2.1 (fun _ => 0) (fun _ => 0) 0 := by
  unfold f_X3_init_140 f_X3_init_z_1 f_X3_init_z_2 f_X3_init_z_3 f_X3_init_z_4 f_X3_init_z_5 f_X3_init_z_6 f_X3_init_z_7 f_X3_init_z_8
  rfl
theorem in_90 : ∀ k j, 1 ≤ k → j + k = 17 → ∀ a b c d e, ∃ so2 fi2 el2 av2 ty2, f_X3_init_90 k (nI j) a b c d e = f_X3_init_140 so2 fi2 el2 av2 ty2 := by
  intro k
  induction k with
  | zero => intro j h; omega
  | succ k ih =>
    intro j h1 h2 a b c d e
    rw [f_X3_init_90]
    by_cases g : j = 16
    · subst g
      rw [if_pos (by decide)]
      exact ⟨_, _, _, _, _, rfl⟩
    · rw [if_neg (by rw [show (16 : Int32) = nI 16 from rfl, nI_leI (by omega) (by omega)]; omega), nI_1]
      split
      · exact ih (j + 1) (by omega) (by omega) _ _ _ _ _
      · exact ih (j + 1) (by omega) (by omega) _ _ _ _ _
theorem in_63 : ∀ k j, 1 ≤ k → j + k = 9 → ∀ a b c d e, ∃ so2 fi2 el2 av2 ty2, f_X3_init_63 k (nI j) a b c d e = f_X3_init_140 so2 fi2 el2 av2 ty2 := by
  intro k
  induction k with
  | zero => intro j h; omega
  | succ k ih =>
    intro j h1 h2 a b c d e
    rw [f_X3_init_63]
    by_cases g : j = 8
    · subst g
      rw [if_pos (by decide)]
      exact in_90 9 8 (by omega) (by omega) _ _ _ _ _
    · rw [if_neg (by rw [show (8 : Int32) = nI 8 from rfl, nI_leI (by omega) (by omega)]; omega), nI_1]
      exact ih (j + 1) (by omega) (by omega) _ _ _ _ _
theorem in_E1 : ∃ so2 fi2 el2 av2 ty2, f_X3_init = f_X3_init_140 so2 fi2 el2 av2 ty2 := in_63 9 0 (by omega) (by omega) (fun _ => 0) (fun _ => 0) (fun _ => 0) (fun _ => 0) 0
theorem in_Q : f_X3_init.2.2.2.2.2.1 = f_X3_fill 0 f_X3_init.2.1 f_X3_init.2.2.1 f_X3_init.2.2.2.1 f_X3_init.2.2.2.2.1 (fun _ => 0) f_X3_init.2.2.2.2.2.2.1 (fun _ => 0) (fun _ => 0) 0 := by
  obtain ⟨a, b, c, d, e, h⟩ := in_E1
  rw [h]
  exact in_Q1 a b c d e
/-! parents are below 40 -/
theorem in_av {th : Int32} {so fi el av un : Nat → Int32} {ty : Int32} {kp : Nat → Int32} {bt : Nat → Int64} {oc s f e a b c : Int32} (h : ∀ j, (av j).toInt < 40) (ha : a.toInt < 40) (hb : b.toInt < 40) (hc : c.toInt < 40) : ∀ j, ((f_X3_add th so fi el av un ty kp bt oc s f e a b c).2.2.2.2.1 j).toInt < 40 := by
  intro j
  unfold f_X3_add
  simp only [upd]
  repeat' split
  all_goals first | assumption | exact h j
theorem in_vz8 (so2 : Nat → Int32) (fi2 : Nat → Int32) (el2 : Nat → Int32) (av2 : Nat → Int32) (ty2 : Int32) (z_1_0 : Int32) (z_1_1 : Nat → Int32) (z_1_2 : Nat → Int32) (z_1_3 : Nat → Int32) (z_1_4 : Nat → Int32) (z_1_5 : Int32) (z_2_0 : Int32) (z_2_1 : Nat → Int32) (z_2_2 : Nat → Int32) (z_2_3 : Nat → Int32) (z_2_4 : Nat → Int32) (z_2_5 : Int32) (z_3_0 : Int32) (z_3_1 : Nat → Int32) (z_3_2 : Nat → Int32) (z_3_3 : Nat → Int32) (z_3_4 : Nat → Int32) (z_3_5 : Int32) (z_4_0 : Int32) (z_4_1 : Nat → Int32) (z_4_2 : Nat → Int32) (z_4_3 : Nat → Int32) (z_4_4 : Nat → Int32) (z_4_5 : Int32) (z_5_0 : Int32) (z_5_1 : Nat → Int32) (z_5_2 : Nat → Int32) (z_5_3 : Nat → Int32) (z_5_4 : Nat → Int32) (z_5_5 : Int32) (z_6_0 : Int32) (z_6_1 : Nat → Int32) (z_6_2 : Nat → Int32) (z_6_3 : Nat → Int32) (z_6_4 : Nat → Int32) (z_6_5 : Int32) (z_7_0 : Int32) (z_7_1 : Nat → Int32) (z_7_2 : Nat → Int32) (z_7_3 : Nat → Int32) (z_7_4 : Nat → Int32) (z_7_5 : Int32) (z_8 : Nat → Int32) (h : ∀ j, (z_7_4 j).toInt < 40) : ∀ j, ((f_X3_init_z_8 so2 fi2 el2 av2 ty2 z_1_0 z_1_1 z_1_2 z_1_3 z_1_4 z_1_5 z_2_0 z_2_1 z_2_2 z_2_3 z_2_4 z_2_5 z_3_0 z_3_1 z_3_2 z_3_3 z_3_4 z_3_5 z_4_0 z_4_1 z_4_2 z_4_3 z_4_4 z_4_5 z_5_0 z_5_1 z_5_2 z_5_3 z_5_4 z_5_5 z_6_0 z_6_1 z_6_2 z_6_3 z_6_4 z_6_5 z_7_0 z_7_1 z_7_2 z_7_3 z_7_4 z_7_5 z_8).2.2.2.2.1 j).toInt < 40 := h
theorem in_vz7 (so2 : Nat → Int32) (fi2 : Nat → Int32) (el2 : Nat → Int32) (av2 : Nat → Int32) (ty2 : Int32) (z_1_0 : Int32) (z_1_1 : Nat → Int32) (z_1_2 : Nat → Int32) (z_1_3 : Nat → Int32) (z_1_4 : Nat → Int32) (z_1_5 : Int32) (z_2_0 : Int32) (z_2_1 : Nat → Int32) (z_2_2 : Nat → Int32) (z_2_3 : Nat → Int32) (z_2_4 : Nat → Int32) (z_2_5 : Int32) (z_3_0 : Int32) (z_3_1 : Nat → Int32) (z_3_2 : Nat → Int32) (z_3_3 : Nat → Int32) (z_3_4 : Nat → Int32) (z_3_5 : Int32) (z_4_0 : Int32) (z_4_1 : Nat → Int32) (z_4_2 : Nat → Int32) (z_4_3 : Nat → Int32) (z_4_4 : Nat → Int32) (z_4_5 : Int32) (z_5_0 : Int32) (z_5_1 : Nat → Int32) (z_5_2 : Nat → Int32) (z_5_3 : Nat → Int32) (z_5_4 : Nat → Int32) (z_5_5 : Int32) (z_6_0 : Int32) (z_6_1 : Nat → Int32) (z_6_2 : Nat → Int32) (z_6_3 : Nat → Int32) (z_6_4 : Nat → Int32) (z_6_5 : Int32) (z_7_0 : Int32) (z_7_1 : Nat → Int32) (z_7_2 : Nat → Int32) (z_7_3 : Nat → Int32) (z_7_4 : Nat → Int32) (z_7_5 : Int32) (h : ∀ j, (z_7_4 j).toInt < 40) : ∀ j, ((f_X3_init_z_7 so2 fi2 el2 av2 ty2 z_1_0 z_1_1 z_1_2 z_1_3 z_1_4 z_1_5 z_2_0 z_2_1 z_2_2 z_2_3 z_2_4 z_2_5 z_3_0 z_3_1 z_3_2 z_3_3 z_3_4 z_3_5 z_4_0 z_4_1 z_4_2 z_4_3 z_4_4 z_4_5 z_5_0 z_5_1 z_5_2 z_5_3 z_5_4 z_5_5 z_6_0 z_6_1 z_6_2 z_6_3 z_6_4 z_6_5 z_7_0 z_7_1 z_7_2 z_7_3 z_7_4 z_7_5).2.2.2.2.1 j).toInt < 40 := in_vz8 so2 fi2 el2 av2 ty2 z_1_0 z_1_1 z_1_2 z_1_3 z_1_4 z_1_5 z_2_0 z_2_1 z_2_2 z_2_3 z_2_4 z_2_5 z_3_0 z_3_1 z_3_2 z_3_3 z_3_4 z_3_5 z_4_0 z_4_1 z_4_2 z_4_3 z_4_4 z_4_5 z_5_0 z_5_1 z_5_2 z_5_3 z_5_4 z_5_5 z_6_0 z_6_1 z_6_2 z_6_3 z_6_4 z_6_5 z_7_0 z_7_1 z_7_2 z_7_3 z_7_4 z_7_5 _ h
theorem in_vz6 (so2 : Nat → Int32) (fi2 : Nat → Int32) (el2 : Nat → Int32) (av2 : Nat → Int32) (ty2 : Int32) (z_1_0 : Int32) (z_1_1 : Nat → Int32) (z_1_2 : Nat → Int32) (z_1_3 : Nat → Int32) (z_1_4 : Nat → Int32) (z_1_5 : Int32) (z_2_0 : Int32) (z_2_1 : Nat → Int32) (z_2_2 : Nat → Int32) (z_2_3 : Nat → Int32) (z_2_4 : Nat → Int32) (z_2_5 : Int32) (z_3_0 : Int32) (z_3_1 : Nat → Int32) (z_3_2 : Nat → Int32) (z_3_3 : Nat → Int32) (z_3_4 : Nat → Int32) (z_3_5 : Int32) (z_4_0 : Int32) (z_4_1 : Nat → Int32) (z_4_2 : Nat → Int32) (z_4_3 : Nat → Int32) (z_4_4 : Nat → Int32) (z_4_5 : Int32) (z_5_0 : Int32) (z_5_1 : Nat → Int32) (z_5_2 : Nat → Int32) (z_5_3 : Nat → Int32) (z_5_4 : Nat → Int32) (z_5_5 : Int32) (z_6_0 : Int32) (z_6_1 : Nat → Int32) (z_6_2 : Nat → Int32) (z_6_3 : Nat → Int32) (z_6_4 : Nat → Int32) (z_6_5 : Int32) (h : ∀ j, (z_6_4 j).toInt < 40) : ∀ j, ((f_X3_init_z_6 so2 fi2 el2 av2 ty2 z_1_0 z_1_1 z_1_2 z_1_3 z_1_4 z_1_5 z_2_0 z_2_1 z_2_2 z_2_3 z_2_4 z_2_5 z_3_0 z_3_1 z_3_2 z_3_3 z_3_4 z_3_5 z_4_0 z_4_1 z_4_2 z_4_3 z_4_4 z_4_5 z_5_0 z_5_1 z_5_2 z_5_3 z_5_4 z_5_5 z_6_0 z_6_1 z_6_2 z_6_3 z_6_4 z_6_5).2.2.2.2.1 j).toInt < 40 := in_vz7 so2 fi2 el2 av2 ty2 z_1_0 z_1_1 z_1_2 z_1_3 z_1_4 z_1_5 z_2_0 z_2_1 z_2_2 z_2_3 z_2_4 z_2_5 z_3_0 z_3_1 z_3_2 z_3_3 z_3_4 z_3_5 z_4_0 z_4_1 z_4_2 z_4_3 z_4_4 z_4_5 z_5_0 z_5_1 z_5_2 z_5_3 z_5_4 z_5_5 z_6_0 z_6_1 z_6_2 z_6_3 z_6_4 z_6_5 _ _ _ _ _ _ (in_av h (by decide) (by decide) (by decide))
theorem in_vz5 (so2 : Nat → Int32) (fi2 : Nat → Int32) (el2 : Nat → Int32) (av2 : Nat → Int32) (ty2 : Int32) (z_1_0 : Int32) (z_1_1 : Nat → Int32) (z_1_2 : Nat → Int32) (z_1_3 : Nat → Int32) (z_1_4 : Nat → Int32) (z_1_5 : Int32) (z_2_0 : Int32) (z_2_1 : Nat → Int32) (z_2_2 : Nat → Int32) (z_2_3 : Nat → Int32) (z_2_4 : Nat → Int32) (z_2_5 : Int32) (z_3_0 : Int32) (z_3_1 : Nat → Int32) (z_3_2 : Nat → Int32) (z_3_3 : Nat → Int32) (z_3_4 : Nat → Int32) (z_3_5 : Int32) (z_4_0 : Int32) (z_4_1 : Nat → Int32) (z_4_2 : Nat → Int32) (z_4_3 : Nat → Int32) (z_4_4 : Nat → Int32) (z_4_5 : Int32) (z_5_0 : Int32) (z_5_1 : Nat → Int32) (z_5_2 : Nat → Int32) (z_5_3 : Nat → Int32) (z_5_4 : Nat → Int32) (z_5_5 : Int32) (h : ∀ j, (z_5_4 j).toInt < 40) : ∀ j, ((f_X3_init_z_5 so2 fi2 el2 av2 ty2 z_1_0 z_1_1 z_1_2 z_1_3 z_1_4 z_1_5 z_2_0 z_2_1 z_2_2 z_2_3 z_2_4 z_2_5 z_3_0 z_3_1 z_3_2 z_3_3 z_3_4 z_3_5 z_4_0 z_4_1 z_4_2 z_4_3 z_4_4 z_4_5 z_5_0 z_5_1 z_5_2 z_5_3 z_5_4 z_5_5).2.2.2.2.1 j).toInt < 40 := in_vz6 so2 fi2 el2 av2 ty2 z_1_0 z_1_1 z_1_2 z_1_3 z_1_4 z_1_5 z_2_0 z_2_1 z_2_2 z_2_3 z_2_4 z_2_5 z_3_0 z_3_1 z_3_2 z_3_3 z_3_4 z_3_5 z_4_0 z_4_1 z_4_2 z_4_3 z_4_4 z_4_5 z_5_0 z_5_1 z_5_2 z_5_3 z_5_4 z_5_5 _ _ _ _ _ _ (in_av h (by decide) (by decide) (by decide))
theorem in_vz4 (so2 : Nat → Int32) (fi2 : Nat → Int32) (el2 : Nat → Int32) (av2 : Nat → Int32) (ty2 : Int32) (z_1_0 : Int32) (z_1_1 : Nat → Int32) (z_1_2 : Nat → Int32) (z_1_3 : Nat → Int32) (z_1_4 : Nat → Int32) (z_1_5 : Int32) (z_2_0 : Int32) (z_2_1 : Nat → Int32) (z_2_2 : Nat → Int32) (z_2_3 : Nat → Int32) (z_2_4 : Nat → Int32) (z_2_5 : Int32) (z_3_0 : Int32) (z_3_1 : Nat → Int32) (z_3_2 : Nat → Int32) (z_3_3 : Nat → Int32) (z_3_4 : Nat → Int32) (z_3_5 : Int32) (z_4_0 : Int32) (z_4_1 : Nat → Int32) (z_4_2 : Nat → Int32) (z_4_3 : Nat → Int32) (z_4_4 : Nat → Int32) (z_4_5 : Int32) (h : ∀ j, (z_4_4 j).toInt < 40) : ∀ j, ((f_X3_init_z_4 so2 fi2 el2 av2 ty2 z_1_0 z_1_1 z_1_2 z_1_3 z_1_4 z_1_5 z_2_0 z_2_1 z_2_2 z_2_3 z_2_4 z_2_5 z_3_0 z_3_1 z_3_2 z_3_3 z_3_4 z_3_5 z_4_0 z_4_1 z_4_2 z_4_3 z_4_4 z_4_5).2.2.2.2.1 j).toInt < 40 := in_vz5 so2 fi2 el2 av2 ty2 z_1_0 z_1_1 z_1_2 z_1_3 z_1_4 z_1_5 z_2_0 z_2_1 z_2_2 z_2_3 z_2_4 z_2_5 z_3_0 z_3_1 z_3_2 z_3_3 z_3_4 z_3_5 z_4_0 z_4_1 z_4_2 z_4_3 z_4_4 z_4_5 _ _ _ _ _ _ (in_av h (by decide) (by decide) (by decide))
theorem in_vz3 (so2 : Nat → Int32) (fi2 : Nat → Int32) (el2 : Nat → Int32) (av2 : Nat → Int32) (ty2 : Int32) (z_1_0 : Int32) (z_1_1 : Nat → Int32) (z_1_2 : Nat → Int32) (z_1_3 : Nat → Int32) (z_1_4 : Nat → Int32) (z_1_5 : Int32) (z_2_0 : Int32) (z_2_1 : Nat → Int32) (z_2_2 : Nat → Int32) (z_2_3 : Nat → Int32) (z_2_4 : Nat → Int32) (z_2_5 : Int32) (z_3_0 : Int32) (z_3_1 : Nat → Int32) (z_3_2 : Nat → Int32) (z_3_3 : Nat → Int32) (z_3_4 : Nat → Int32) (z_3_5 : Int32) (h : ∀ j, (z_3_4 j).toInt < 40) : ∀ j, ((f_X3_init_z_3 so2 fi2 el2 av2 ty2 z_1_0 z_1_1 z_1_2 z_1_3 z_1_4 z_1_5 z_2_0 z_2_1 z_2_2 z_2_3 z_2_4 z_2_5 z_3_0 z_3_1 z_3_2 z_3_3 z_3_4 z_3_5).2.2.2.2.1 j).toInt < 40 := in_vz4 so2 fi2 el2 av2 ty2 z_1_0 z_1_1 z_1_2 z_1_3 z_1_4 z_1_5 z_2_0 z_2_1 z_2_2 z_2_3 z_2_4 z_2_5 z_3_0 z_3_1 z_3_2 z_3_3 z_3_4 z_3_5 _ _ _ _ _ _ (in_av h (by decide) (by decide) (by decide))
theorem in_vz2 (so2 : Nat → Int32) (fi2 : Nat → Int32) (el2 : Nat → Int32) (av2 : Nat → Int32) (ty2 : Int32) (z_1_0 : Int32) (z_1_1 : Nat → Int32) (z_1_2 : Nat → Int32) (z_1_3 : Nat → Int32) (z_1_4 : Nat → Int32) (z_1_5 : Int32) (z_2_0 : Int32) (z_2_1 : Nat → Int32) (z_2_2 : Nat → Int32) (z_2_3 : Nat → Int32) (z_2_4 : Nat → Int32) (z_2_5 : Int32) (h : ∀ j, (z_2_4 j).toInt < 40) : ∀ j, ((f_X3_init_z_2 so2 fi2 el2 av2 ty2 z_1_0 z_1_1 z_1_2 z_1_3 z_1_4 z_1_5 z_2_0 z_2_1 z_2_2 z_2_3 z_2_4 z_2_5).2.2.2.2.1 j).toInt < 40 := in_vz3 so2 fi2 el2 av2 ty2 z_1_0 z_1_1 z_1_2 z_1_3 z_1_4 z_1_5 z_2_0 z_2_1 z_2_2 z_2_3 z_2_4 z_2_5 _ _ _ _ _ _ (in_av h (by decide) (by decide) (by decide))
theorem in_vz1 (so2 : Nat → Int32) (fi2 : Nat → Int32) (el2 : Nat → Int32) (av2 : Nat → Int32) (ty2 : Int32) (z_1_0 : Int32) (z_1_1 : Nat → Int32) (z_1_2 : Nat → Int32) (z_1_3 : Nat → Int32) (z_1_4 : Nat → Int32) (z_1_5 : Int32) (h : ∀ j, (z_1_4 j).toInt < 40) : ∀ j, ((f_X3_init_z_1 so2 fi2 el2 av2 ty2 z_1_0 z_1_1 z_1_2 z_1_3 z_1_4 z_1_5).2.2.2.2.1 j).toInt < 40 := in_vz2 so2 fi2 el2 av2 ty2 z_1_0 z_1_1 z_1_2 z_1_3 z_1_4 z_1_5 _ _ _ _ _ _ (in_av h (by decide) (by decide) (by decide))
theorem in_v140 (so2 fi2 el2 av2 : Nat → Int32) (ty2 : Int32) (h : ∀ j, (av2 j).toInt < 40) : ∀ j, ((f_X3_init_140 so2 fi2 el2 av2 ty2).2.2.2.2.1 j).toInt < 40 := in_vz1 so2 fi2 el2 av2 ty2 _ _ _ _ _ _ (in_av h (by decide) (by decide) (by decide))
theorem in_v90 : ∀ k kk a b c d e, (∀ j, (d j).toInt < 40) → ∀ j, ((f_X3_init_90 k kk a b c d e).2.2.2.2.1 j).toInt < 40 := by
  intro k
  induction k with
  | zero => intro kk a b c d e h; exact h
  | succ k ih =>
    intro kk a b c d e h
    rw [f_X3_init_90]
    split
    · exact in_v140 _ _ _ _ _ h
    · split
      · exact ih _ _ _ _ _ _ (in_av h (by decide) (by decide) (by decide))
      · exact ih _ _ _ _ _ _ (in_av h (by decide) (by decide) (by decide))
theorem in_v63 : ∀ k kk a b c d e, (∀ j, (d j).toInt < 40) → ∀ j, ((f_X3_init_63 k kk a b c d e).2.2.2.2.1 j).toInt < 40 := by
  intro k
  induction k with
  | zero => intro kk a b c d e h; exact h
  | succ k ih =>
    intro kk a b c d e h
    rw [f_X3_init_63]
    split
    · unfold f_X3_init_87
      exact in_v90 9 8 a b c d e h
    · exact ih _ _ _ _ _ _ (in_av h (by decide) (by decide) (by decide))
theorem in_V : ∀ j, (f_X3_init.2.2.2.2.1 j).toInt < 40 := in_v63 9 0 (fun _ => 0) (fun _ => 0) (fun _ => 0) (fun _ => 0) 0 (fun _ => by decide)
/-! 'final' is 0 or 1 -/
theorem in_fi {so fi el : Nat → Int32} {ab : Nat → Int64} {sz a b c : Int32} {d : Int64} (h : ∀ j, mb_B (fi j)) (hc : mb_B (vp_nar .boolean c)) : ∀ j, mb_B ((f_X1_setKnown so fi el ab sz a b c d).2.1 j) := by
  intro j
  unfold f_X1_setKnown
  simp only [upd]
  split
  · exact hc
  · exact h j
theorem in_f241 : ∀ k tt a b c d e, (∀ j, mb_B (b j)) → ∀ j, mb_B ((f_X1_init_241 k tt a b c d e).2.1 j) := by
  intro k
  induction k with
  | zero => intro tt a b c d e h; exact h
  | succ k ih =>
    intro tt a b c d e h
    rw [f_X1_init_241]
    split
    · exact h
    · exact ih _ _ _ _ _ _ h
theorem in_f219 (tx : Int64) (a b c : Nat → Int32) (d : Nat → Int64) (e : Int32) (h : ∀ j, mb_B (b j)) : ∀ j, mb_B ((f_X1_init_219 tx a b c d e).2.1 j) := by
  unfold f_X1_init_219 f_X1_init_z_2 f_X1_init_z_3
  exact in_f241 _ _ _ _ _ _ _ (in_fi (in_fi h rfl) rfl)
theorem in_f174 : ∀ k tx tn tt a b c d e, (∀ j, mb_B (b j)) → ∀ j, mb_B ((f_X1_init_174 k tx tn tt a b c d e).2.1 j) := by
  intro k
  induction k with
  | zero => intro tx tn tt a b c d e h; exact h
  | succ k ih =>
    intro tx tn tt a b c d e h
    rw [f_X1_init_174]
    repeat' split
    all_goals first | exact in_f219 _ _ _ _ _ _ h | exact ih _ _ _ _ _ _ _ _ (in_fi h rfl)
theorem in_f69 (a c : Nat → Int32) : ∀ j, mb_B ((f_X1_init_69 a c).2.1 j) := by
  unfold f_X1_init_69 f_X1_init_z_8 f_X1_init_z_9 f_X1_init_z_10 f_X1_init_z_11 f_X1_init_z_12 f_X1_init_z_13 f_X1_init_z_14
  exact in_f174 _ _ _ _ _ _ _ _ _ (in_fi (in_fi (in_fi (in_fi (in_fi (fun _ => rfl) rfl) rfl) rfl) rfl) rfl)
theorem in_f43 : ∀ k tt a c, (∀ j, mb_B ((f_X1_init_43 k tt a c).2.1 j)) := by
  intro k
  induction k with
  | zero => intro tt a c j; exact mb_B0
  | succ k ih =>
    intro tt a c
    rw [f_X1_init_43]
    split
    · exact in_f69 _ _
    · exact ih _ _ _
theorem in_F : ∀ j, mb_B (f_X1_init.2.1 j) := in_f43 9 0 (fun _ => 0) (fun _ => 0)
theorem in_S : (∀ i, i < 40 → ¬ f_X3_init.2.1 i = 3) := by decide +kernel
theorem in_S2 : ∀ i, i < 23 → (f_X3_init.2.1 i = f_X1_init.1 i ∧ f_X3_init.2.2.1 i = f_X1_init.2.1 i) ∧ (f_X1_init.2.2.1 i = -1 ∧ f_X3_init.2.2.2.1 i = -2) ∧ ¬ f_X1_init.1 i = 3 := by decide +kernel
theorem in_S3 : ∀ i, i < 40 → (decide (i < 23) || decide (f_X1_init.1 i = 0)) = true := by decide +kernel
theorem in_n : f_X1_init.2.2.2.2 = 23 ∧ f_X3_init.2.2.2.2.2.2.1 = 23 ∧ f_X3_init.2.2.2.2.2.2.2.2.2 = 0 := by decide +kernel
/-- how far below the top a type stands -/
def in_r (s : Nat) : Nat := if s = 16 then 0 else if s = 18 ∨ s = 19 ∨ s = 20 then 1 else if s = 17 ∨ s = 21 then 2 else 3
theorem in_r3 (s : Nat) : in_r s ≤ 3 := by
  unfold in_r
  by_cases h1 : s = 16
  · rw [if_pos h1]; omega
  · rw [if_neg h1]
    by_cases h2 : s = 18 ∨ s = 19 ∨ s = 20
    · rw [if_pos h2]; omega
    · rw [if_neg h2]
      by_cases h3 : s = 17 ∨ s = 21
      · rw [if_pos h3]; omega
      · rw [if_neg h3]; omega
abbrev in_ab (s : Nat) : Int64 := f_X1_init.2.2.2.1 s
noncomputable abbrev in_vv (j : Nat) : Int32 := f_X3_init.2.2.2.2.1 j
/-- bit t of row s, decided -/
def in_b (s t : Nat) : Bool := !decide (in_ab s &&& f_X1_bit (nI t) = 0)
theorem in_bt {s t : Nat} (ht : t < 64) : Bt (in_ab s) t ↔ in_b s t = true := by
  unfold in_b
  rw [Bool.not_eq_true', decide_eq_false_iff_not, Bt_and0 _ ht]
  exact Classical.not_not.symm
/-- sound: where a bit comes from -/
theorem in_s1 : ∀ s, s < 23 → ∀ t, t < 23 → (decide (s < 8) || (decide (t < 8) || (s == t || (s == 22 || (!in_b s t || (List.range 3).any (fun k => !decide (in_vv (3 * s + k) < 0) && (decide (in_r (in_vv (3 * s + k)).toNatClampNeg < in_r s) && (decide (8 ≤ (in_vv (3 * s + k)).toNatClampNeg) && (decide ((in_vv (3 * s + k)).toNatClampNeg < 22) && in_b (in_vv (3 * s + k)).toNatClampNeg t))))))))) = true := by decide +kernel
/-- complete: no step leads out -/
theorem in_c1 : ∀ s, s < 23 → ∀ t, t < 23 → (decide (s < 8) || (decide (t < 8) || (((s == t || (decide (f_X3_init.2.1 s = 4) || (List.range 3).any (fun k => !decide (in_vv (3 * s + k) < 0) && in_b (in_vv (3 * s + k)).toNatClampNeg t))) → in_b s t)))) = true := by decide +kernel
theorem in_d2 : ∀ s, s < 23 → ∀ t, t < 64 → (!in_b s t || (decide (8 ≤ s) && (decide (8 ≤ t) && decide (t < 23)))) = true := by decide +kernel
theorem in_d6 : ∀ s, s < 23 → ∀ t, t < 16 → (decide (s = 22) || (decide (t < 8) || (!in_b s t || decide (s = t)))) = true := by decide +kernel
theorem in_a1 : ∀ s, s < 23 → ∀ k, k < 3 → (decide (in_vv (3 * s + k) < 0) || (decide ((in_vv (3 * s + k)).toNatClampNeg < 23) && (decide (8 ≤ (in_vv (3 * s + k)).toNatClampNeg) && (!decide (f_X1_init.1 (in_vv (3 * s + k)).toNatClampNeg = 3) && (!decide (f_X1_init.1 (in_vv (3 * s + k)).toNatClampNeg = 4) && decide (in_vv (3 * s + k) = nI (in_vv (3 * s + k)).toNatClampNeg)))))) = true := by decide +kernel
theorem in_rc : ∀ r s t, in_r s ≤ r → 8 ≤ s → s < 23 → 8 ≤ t → t < 23 → in_b s t = true → rc 23 f_X3_init.2.1 f_X3_init.2.2.2.1 in_vv s t := by
  intro r
  induction r with
  | zero =>
    intro s t hr s8 sn t8 tn h P hP
    have q := in_s1 s sn t tn
    simp only [Bool.or_eq_true, decide_eq_true_eq, beq_iff_eq, Bool.not_eq_true', List.any_eq_true, List.mem_range, Bool.and_eq_true, decide_eq_false_iff_not] at q
    rcases q with q | q | q | q | q | ⟨k, k3, q1, q2, q3, q4, q5⟩
    · omega
    · omega
    · exact hP s t s8 sn t8 tn (Or.inl q)
    · refine hP s t s8 sn t8 tn (Or.inr (Or.inl ?_))
      subst q; decide +kernel
    · rw [q] at h; exact absurd h (by decide)
    · omega
  | succ r ih =>
    intro s t hr s8 sn t8 tn h P hP
    have q := in_s1 s sn t tn
    simp only [Bool.or_eq_true, decide_eq_true_eq, beq_iff_eq, Bool.not_eq_true', List.any_eq_true, List.mem_range, Bool.and_eq_true, decide_eq_false_iff_not] at q
    rcases q with q | q | q | q | q | ⟨k, k3, q1, q2, q3, q4, q5⟩
    · omega
    · omega
    · exact hP s t s8 sn t8 tn (Or.inl q)
    · refine hP s t s8 sn t8 tn (Or.inr (Or.inl ?_))
      subst q; decide +kernel
    · rw [q] at h; exact absurd h (by decide)
    · exact hP s t s8 sn t8 tn (Or.inr (Or.inr (Or.inl ⟨k, k3, q1, ih _ t (by omega) q3 (by omega) t8 tn q5 P hP⟩)))
theorem in_rc2 {s t : Nat} (s8 : 8 ≤ s) (sn : s < 23) (t8 : 8 ≤ t) (tn : t < 23) : Bt (in_ab s) t ↔ rc 23 f_X3_init.2.1 f_X3_init.2.2.2.1 in_vv s t := by
  constructor
  · intro h
    exact in_rc 3 s t (in_r3 s) s8 sn t8 tn ((in_bt (by omega)).mp h)
  · intro h
    apply (in_bt (by omega)).mpr
    apply h (fun s t => in_b s t = true)
    intro s t s8 sn t8 tn hh
    have q := in_c1 s sn t tn
    simp only [Bool.or_eq_true, decide_eq_true_eq, beq_iff_eq, Bool.not_eq_true', List.any_eq_true, List.mem_range, Bool.and_eq_true, decide_eq_false_iff_not] at q
    rcases q with q | q | q
    · omega
    · omega
    · apply q
      rcases hh with hh | hh | ⟨k, k3, h1, h2⟩ | ⟨h1, -⟩
      · exact Or.inl hh
      · exact Or.inr (Or.inl hh)
      · exact Or.inr (Or.inr ⟨k, k3, h1, h2⟩)
      · exact absurd h1 (in_S s (by omega))
theorem pe_init : Inv f_X2_init f_X3_init := by
  have n1 : f_X3_init.2.2.2.2.2.2.1 = nI 23 := in_n.2.1
  have U : ∀ i, f_X3_init.2.2.2.2.2.1 i = f_X3_fill 0 f_X3_init.2.1 f_X3_init.2.2.1 f_X3_init.2.2.2.1 f_X3_init.2.2.2.2.1 (fun _ => 0) (nI 23) (fun _ => 0) (fun _ => 0) 0 i := fun i => by
    have := congrFun in_Q i
    rw [n1] at this
    exact this
  have c23 : (nI 23).toNatClampNeg = 23 := rfl
  refine ⟨23, 0, in_n.1, n1, rfl, in_n.2.2, ?_⟩
  refine ⟨?_, ?_, ?_, ?_, ?_, ?_⟩
  · refine ⟨by omega, fun i hi => (in_S2 i hi).1, in_F, fun i hi => ⟨rfl, rfl⟩, fun i h1 h2 => by omega, fun i h1 h2 => ?_⟩
    have := in_S3 i h2
    simp only [Bool.or_eq_true, decide_eq_true_eq] at this
    exact this.resolve_left (by omega)
  · refine ⟨fun i hi h3 => absurd h3 (in_S2 i hi).2.2, fun i hi h3 => (in_S2 i hi).2.1, fun i j hi hj h3 => absurd h3 (in_S2 i hi).2.2⟩
  · intro s k hs hk
    have q := in_a1 s hs k hk
    simp only [Bool.or_eq_true, decide_eq_true_eq, Bool.not_eq_true', Bool.and_eq_true, decide_eq_false_iff_not] at q
    rcases q with q | ⟨q1, q2, q3, q4, q5⟩
    · exact Or.inl q
    · exact Or.inr ⟨_, q1, q2, q3, q4, q5⟩
  · refine ⟨fun s _ _ => rfl, fun s t hs h => ?_, fun s t s8 sn t8 tn => ?_, fun s t s8 sn t8 tn => in_rc2 s8 sn t8 tn, fun s t sn _ h3 => absurd h3 (in_S2 s sn).2.2, fun s t sn h22 t8 t16 h => ?_⟩
    · have q := in_d2 s hs t (Bt_64 h)
      have hb := (in_bt (s := s) (Bt_64 h)).mp h
      rw [hb] at q
      simp only [Bool.or_eq_true, decide_eq_true_eq, Bool.and_eq_true, Bool.not_true] at q
      rcases q with q | q
      · exact absurd q (by decide)
      · exact q
    · show ¬ f_X3_init.2.2.2.2.2.1 (40 * s + t) = 0 ↔ _
      rw [U]
      have hin := fl_in_mk (n := 23) (s := s) (t := t) ⟨s8, sn, t8, tn⟩ (by omega)
      have h := fill_in (th := 0) (so := f_X3_init.2.1) (fi := f_X3_init.2.2.1) (el := f_X3_init.2.2.2.1) (av := f_X3_init.2.2.2.2.1) (un := fun _ => 0) (ty := nI 23) (kp := fun _ => 0) (bt := fun _ => 0) (oc := 0) (i := 40 * s + t) (by rw [c23]; exact hin)
      rw [c23, show (40 * s + t) / 40 = s by omega, show (40 * s + t) % 40 = t by omega] at h
      exact h.trans (in_rc2 s8 sn t8 tn).symm
    · have q := in_d6 s sn t t16
      have hb := (in_bt (s := s) (Bt_64 h)).mp h
      rw [hb] at q
      simp only [Bool.or_eq_true, decide_eq_true_eq, Bool.not_true] at q
      rcases q with q | q | q | q
      · exact absurd q h22
      · omega
      · exact absurd q (by decide)
      · exact q
  · exact ⟨by omega, fun i hi => by omega⟩
  · refine ⟨by decide, by decide, in_V, ?_, fun i hi => ?_⟩
    · intro x hx h3
      obtain ⟨i, hi, rfl⟩ := vp_in_of hx (by decide)
      rw [nI_clamp (by omega)] at h3
      exact absurd h3 (in_S i hi)
    · rw [U, fill_out hi]

/-! pure: the kinds -/
def pu_l (x1 x2 x3 pr u6 u9 d10 d11 : Int32) : Int32 := if x1 = (1 : Int32) then (if x2 = x3 then (1 : Int32)
    else (0 : Int32))
  else if x1 = (2 : Int32) then (f_X3_isWider x2 x3)
  else if x1 = (3 : Int32) then (if (f_X3_isNumber x2) = 0 then (0 : Int32)
    else if (f_X3_isNumber x3) = 0 then (0 : Int32)
    else if x2 = x3 then (0 : Int32)
    else if (f_X3_isWider x2 x3) = 0 then (if x2 = (2 : Int32) then (if x3 = (1 : Int32) then (0 : Int32)
        else (1 : Int32))
      else (1 : Int32))
    else (0 : Int32))
  else if x1 = (4 : Int32) then (if x2 = (2 : Int32) then (if x3 = (1 : Int32) then (1 : Int32)
      else (0 : Int32))
    else (0 : Int32))
  else if x1 = (5 : Int32) then (if pr = 0 then (0 : Int32)
    else if x3 = (x2 + (8 : Int32)) then (1 : Int32)
    else (0 : Int32))
  else if x1 = (6 : Int32) then (if pr = 0 then (0 : Int32)
    else if u6 = 0 then (0 : Int32)
    else (1 : Int32))
  else if x1 = (7 : Int32) then (if (f_X3_isBox x2) = 0 then (0 : Int32)
    else if x3 = (x2 - (8 : Int32)) then (1 : Int32)
    else (0 : Int32))
  else if x1 = (8 : Int32) then (if (f_X3_isBox x2) = 0 then (0 : Int32)
    else if (f_X3_isWider (x2 - (8 : Int32)) x3) = 0 then (0 : Int32)
    else (1 : Int32))
  else if x1 = (9 : Int32) then u9
  else if x1 = (10 : Int32) then d10
  else if x1 = (11 : Int32) then (if (8 : Int32) ≤ x3 then (0 : Int32)
    else if d11 = 0 then (0 : Int32)
    else (1 : Int32))
  else if x3 = (21 : Int32) then (1 : Int32)
  else (0 : Int32)
theorem pu_leads (ro rf re av un : Nat → Int32) (ty : Int32) (kp : Nat → Int32) (bt : Nat → Int64) (rk x1 x2 x3 : Int32) : f_X3_leads ro rf re av un ty kp bt rk x1 x2 x3 = pu_l x1 x2 x3 (if (8 : Int32) ≤ x2 then 0 else 1) (f_X3_isUp ro rf re av un ty kp bt rk (x2 + (8 : Int32)) x3) (f_X3_isUp ro rf re av un ty kp bt rk x2 x3) (f_X3_isDown ro rf re av un ty kp bt rk x2 x3) (f_X3_isDown ro rf re av un ty kp bt rk x2 (x3 + (8 : Int32))) := by
  unfold f_X3_leads
  by_cases h : (8 : Int32) ≤ x2
  · rw [if_pos h, if_pos h]; rfl
  · rw [if_neg h, if_neg h]; rfl
/-- the loop over the kinds -/
theorem pu_kindOf {ro rf re av un : Nat → Int32} {ty : Int32} {kp : Nat → Int32} {bt : Nat → Int64} {rk x1 x2 x3 : Int32} {K : Nat} (hK : K ≤ 11) (hL : ∀ k, 1 ≤ k → k ≤ 11 → (f_X3_leads ro rf re av un ty kp bt rk (nI k) x1 x2 = 0 ↔ ¬ K = k)) (h12 : f_X3_leads ro rf re av un ty kp bt rk 12 x1 x2 = 0 ↔ ¬ x2 = 21) :
    ∀ f k, 1 ≤ k → f + k = 14 → 1 ≤ f → f_X3_kindOf_3 f ro rf re av un ty kp bt rk x1 x2 x3 (nI k) = (if k ≤ K ∧ ¬ f_X3_isAllowed (nI K) x3 x2 = 0 then nI K else if k ≤ 12 ∧ ¬ f_X3_isAllowed 12 x3 x2 = 0 ∧ x2 = 21 then 12 else 0) := by
  intro f
  induction f with
  | zero => intro k h1 h2 h3; omega
  | succ f ih =>
    intro k h1 h2 _
    simp only [f_X3_kindOf_3]
    have e13 : (13 : Int32) ≤ nI k ↔ k = 13 := by
      rw [show (13 : Int32) = nI 13 from rfl, nI_leI (by omega) (by omega)]; omega
    by_cases c : k = 13
    · rw [if_pos (e13.mpr c), if_neg (by omega), if_neg (by omega)]
    · rw [if_neg (fun q => c (e13.mp q)), nI_1, ih (k + 1) (by omega) (by omega) (by omega)]
      by_cases c12 : k = 12
      · subst c12
        rw [show (nI 12 : Int32) = 12 from rfl]
        rw [if_neg (show ¬ (12 + 1 ≤ K ∧ ¬ f_X3_isAllowed (nI K) x3 x2 = 0) by omega), if_neg (show ¬ (12 ≤ K ∧ ¬ f_X3_isAllowed (nI K) x3 x2 = 0) by omega), if_neg (show ¬ (12 + 1 ≤ 12 ∧ ¬ f_X3_isAllowed 12 x3 x2 = 0 ∧ x2 = 21) by omega)]
        by_cases a : f_X3_isAllowed 12 x3 x2 = 0
        · rw [if_pos a, if_neg (fun q => q.2.1 a)]
        · rw [if_neg a]
          by_cases b : x2 = 21
          · rw [if_neg (fun q => h12.mp q b), if_pos ⟨by omega, a, b⟩]
          · rw [if_pos (h12.mpr b), if_neg (fun q => b q.2.2)]
      · have hl := hL k h1 (by omega)
        have e2 : (k + 1 ≤ 12 ∧ ¬ f_X3_isAllowed 12 x3 x2 = 0 ∧ x2 = 21) ↔ (k ≤ 12 ∧ ¬ f_X3_isAllowed 12 x3 x2 = 0 ∧ x2 = 21) := ⟨fun q => ⟨by omega, q.2⟩, fun q => ⟨by omega, q.2⟩⟩
        simp only [e2]
        by_cases cK : K = k
        · subst cK
          rw [if_neg (show ¬ (K + 1 ≤ K ∧ ¬ f_X3_isAllowed (nI K) x3 x2 = 0) by omega)]
          by_cases a : f_X3_isAllowed (nI K) x3 x2 = 0
          · rw [if_pos a, if_neg (show ¬ (K ≤ K ∧ ¬ f_X3_isAllowed (nI K) x3 x2 = 0) from fun q => q.2 a)]
          · rw [if_neg a, if_neg (fun q => hl.mp q rfl), if_pos (show K ≤ K ∧ ¬ f_X3_isAllowed (nI K) x3 x2 = 0 from ⟨Nat.le_refl K, a⟩)]
        · have e3 : (k + 1 ≤ K ∧ ¬ f_X3_isAllowed (nI K) x3 x2 = 0) ↔ (k ≤ K ∧ ¬ f_X3_isAllowed (nI K) x3 x2 = 0) := ⟨fun q => ⟨by omega, q.2⟩, fun q => ⟨by omega, q.2⟩⟩
          simp only [e3]
          rw [if_pos (hl.mpr cK)]
          by_cases a : f_X3_isAllowed (nI k) x3 x2 = 0
          · rw [if_pos a]
          · rw [if_neg a]
/-- the class's answer out of the step's number -/
def pu_h (b : Bool) (x2 x3 : Int32) (z : Int32) : Int32 := if x3 = (4 : Int32) then (if x2 = (21 : Int32) then (if b = true then (if (((st_K x3.toNatClampNeg) >>> (z &&& 31)) &&& (1 : Int32)) = (1 : Int32) then z else (0 : Int32))
        else if (((st_K x3.toNatClampNeg) >>> ((12 : Int32) &&& 31)) &&& (1 : Int32)) = (1 : Int32) then (12 : Int32)
        else (0 : Int32))
    else (0 : Int32))
  else if x3 = (5 : Int32) then (if (f_X2_isNumber x2) = 0 then (0 : Int32)
    else (if (((st_K x3.toNatClampNeg) >>> (z &&& 31)) &&& (1 : Int32)) = (1 : Int32) then z else (0 : Int32)))
  else (if (((st_K x3.toNatClampNeg) >>> (z &&& 31)) &&& (1 : Int32)) = (1 : Int32) then z else (0 : Int32))
theorem pu_allowed (so fi el : Nat → Int32) (ab : Nat → Int64) (sz : Int32) (ot : Nat → Int32) (ob : Nat → Int64) (oc x1 x2 x3 : Int32) : f_X2_allowedKind so fi el ab sz ot ob oc x1 x2 x3 = pu_h (decide (x1 = 21)) x2 x3 (f_X2_stepsBetween so fi el ab sz ot ob oc x1 x2) := by
  unfold f_X2_allowedKind f_X2_allowedKind_z_32 f_X2_allowedKind_z_29 f_X2_allowedKind_z_24 f_X2_allowedKind_z_21 f_X2_allowedKind_z_15 f_X2_allowedKind_z_12 f_X2_allowedKind_z_7 f_X2_allowedKind_z_4 pu_h
  generalize f_X2_stepsBetween so fi el ab sz ot ob oc x1 x2 = z
  by_cases h4 : x3 = 4
  · subst h4
    simp [show ¬ (4 : Int32) = 5 by decide]
  · by_cases h5 : x3 = 5
    · subst h5
      simp [show ¬ (5 : Int32) = 4 by decide]
    · simp [h4, h5]
def pu_hgb (b : Bool) (K j c : Nat) : Bool := (j == 21 && (b != decide (K = 1))) || decide (pu_h b (nI j) (nI c) (nI K) = (if 1 ≤ K ∧ ¬ f_X3_isAllowed (nI K) (nI c) (nI j) = 0 then nI K else if 1 ≤ 12 ∧ ¬ f_X3_isAllowed 12 (nI c) (nI j) = 0 ∧ nI j = 21 then 12 else 0))
theorem pu_hg1 : ∀ K, K < 12 → ∀ j, j < 40 → ∀ c, c < 6 → pu_hgb true K j c = true := by decide +kernel
theorem pu_hg0 : ∀ K, K < 12 → ∀ j, j < 40 → ∀ c, c < 6 → pu_hgb false K j c = true := by decide +kernel
theorem pu_hg {K j c : Nat} (hK : K < 12) (hj : j < 40) (hc : c < 6) (b : Bool) (hb : j = 21 → (b = true ↔ K = 1)) : pu_h b (nI j) (nI c) (nI K) = (if 1 ≤ K ∧ ¬ f_X3_isAllowed (nI K) (nI c) (nI j) = 0 then nI K else if 1 ≤ 12 ∧ ¬ f_X3_isAllowed 12 (nI c) (nI j) = 0 ∧ nI j = 21 then 12 else 0) := by
  have h : pu_hgb b K j c = true := by
    cases b
    · exact pu_hg0 K hK j hj c hc
    · exact pu_hg1 K hK j hj c hc
  unfold pu_hgb at h
  simp only [Bool.or_eq_true, Bool.and_eq_true, beq_iff_eq, decide_eq_true_eq] at h
  rcases h with h | h
  · have := hb h.1
    cases b <;> simp_all
  · exact h
/-- the class's step, out of the answers of the tables -/
def pu_s2 (x1 x2 u6 u9 d10 d11 : Int32) : Int32 := if x1 = x2 then (1 : Int32)
  else if (f_X2_isPrimitive x1) = 0 then (if (f_X2_isPrimitive x2) = 0 then (if u9 = 0 then (if d10 = 0 then (0 : Int32) else (10 : Int32)) else (9 : Int32))
    else (if (f_X2_isBox x1) = 0 then (if d11 = 0 then (0 : Int32)
    else (11 : Int32))
  else if (f_X2_withoutBox x1) = x2 then (7 : Int32)
  else if (f_X2_isWider (f_X2_withoutBox x1) x2) = 0 then (0 : Int32)
  else (8 : Int32)))
  else if (f_X2_isPrimitive x2) = 0 then (if (f_X2_boxed x1) = x2 then (5 : Int32)
  else if u6 = 0 then (0 : Int32)
  else (6 : Int32))
  else (f_X2_stepBetweenPrimitives x1 x2)
theorem pu_steps (so fi el : Nat → Int32) (ab : Nat → Int64) (sz : Int32) (ot : Nat → Int32) (ob : Nat → Int64) (oc x1 x2 : Int32) : f_X2_stepsBetween so fi el ab sz ot ob oc x1 x2 = pu_s2 x1 x2 (f_X1_isUnder so fi el ab sz (f_X2_boxed x1) x2) (f_X1_isUnder so fi el ab sz x1 x2) (f_X1_goesDown so fi el ab sz x1 x2) (f_X1_goesDown so fi el ab sz x1 (f_X2_boxed x2)) := rfl
/-- a pair's number, and what leads there -/
def pu_ok (i j : Nat) (pr u6 u9 d10 d11 : Int32) (z : Int32) : Prop := z.toNatClampNeg ≤ 11 ∧ nI z.toNatClampNeg = z ∧ (z.toNatClampNeg = 1 ↔ i = j) ∧ ∀ k, 1 ≤ k → k ≤ 11 → (pu_l (nI k) (nI i) (nI j) pr u6 u9 d10 d11 = 0 ↔ ¬ z.toNatClampNeg = k)
def pu_okb (i j : Nat) (pr u6 u9 d10 d11 : Int32) (z : Int32) : Bool := decide (z.toNatClampNeg ≤ 11) && (decide (nI z.toNatClampNeg = z) && ((decide (z.toNatClampNeg = 1) == decide (i = j)) && (List.range 12).all (fun k => k == 0 || (decide (pu_l (nI k) (nI i) (nI j) pr u6 u9 d10 d11 = 0) == !decide (z.toNatClampNeg = k)))))
theorem pu_ok_of {i j : Nat} {pr u6 u9 d10 d11 z : Int32} (h : pu_okb i j pr u6 u9 d10 d11 z = true) : pu_ok i j pr u6 u9 d10 d11 z := by
  unfold pu_okb at h
  simp only [Bool.and_eq_true, decide_eq_true_eq, beq_iff_eq, List.all_eq_true, List.mem_range, Bool.or_eq_true] at h
  obtain ⟨h1, h2, h3, h4⟩ := h
  refine ⟨h1, h2, ?_, fun k hk1 hk2 => ?_⟩
  · have := congrArg (· = true) h3
    simpa using this
  · rcases h4 k (by omega) with h | h
    · omega
    · have := congrArg (· = true) h
      simpa using this
theorem pu_k1 : ∀ i, i < 8 → pu_okb i i 1 0 0 0 0 (pu_s2 (nI i) (nI i) 0 0 0 0) = true := by decide +kernel
theorem pu_k1b : ∀ i, i < 40 → (decide (i < 8) || pu_okb i i 0 0 0 0 0 (pu_s2 (nI i) (nI i) 0 0 0 0)) = true := by decide +kernel
theorem pu_k2 : ∀ i, i < 8 → ∀ j, j < 8 → (i == j || pu_okb i j 1 0 0 0 0 (pu_s2 (nI i) (nI j) 0 0 0 0)) = true := by decide +kernel
theorem pu_k3 : ∀ i, i < 8 → ∀ j, j < 40 → (decide (j < 8) || ((j == i + 8 || pu_okb i j 1 1 0 0 0 (pu_s2 (nI i) (nI j) 1 0 0 0)) && pu_okb i j 1 0 0 0 0 (pu_s2 (nI i) (nI j) 0 0 0 0))) = true := by decide +kernel
theorem pu_k4 : ∀ i, i < 40 → ∀ j, j < 8 → (decide (i < 8) || ((decide (i < 16) || pu_okb i j 0 0 0 0 1 (pu_s2 (nI i) (nI j) 0 0 0 1)) && pu_okb i j 0 0 0 0 0 (pu_s2 (nI i) (nI j) 0 0 0 0))) = true := by decide +kernel
theorem pu_k5 : ∀ i, i < 40 → ∀ j, j < 40 → (decide (i < 8) || (decide (j < 8) || (i == j || (pu_okb i j 0 0 1 0 0 (pu_s2 (nI i) (nI j) 0 1 0 0) && (pu_okb i j 0 0 0 1 0 (pu_s2 (nI i) (nI j) 0 0 1 0) && pu_okb i j 0 0 0 0 0 (pu_s2 (nI i) (nI j) 0 0 0 0)))))) = true := by decide +kernel

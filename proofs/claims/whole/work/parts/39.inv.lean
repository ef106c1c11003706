/-! The invariant between the class and the reference -/
/-- bit t of v -/
def Bt (v : Int64) (t : Nat) : Prop := v.toBitVec.getLsbD t = true
/-- the types: the class's tables (so fi el ab), the reference's (so3 fi3 el3 av un), n types -/
def jv_s (n : Nat) (so fi so3 fi3 : Nat → Int32) : Prop :=
  (23 ≤ n ∧ n ≤ 40) ∧ (∀ i, i < n → so3 i = so i ∧ fi3 i = fi i) ∧ (∀ i, mb_B (fi i)) ∧ (∀ i, i < 23 → so i = f_X1_init.1 i ∧ fi i = f_X1_init.2.1 i) ∧
  (∀ i, 23 ≤ i → i < n → so i = 1 ∨ so i = 2 ∨ so i = 3) ∧ (∀ i, n ≤ i → i < 40 → so i = 0)
def jv_e (n : Nat) (so el el3 : Nat → Int32) : Prop :=
  (∀ i, i < n → so i = 3 → el3 i = el i ∧ ∃ e, e < i ∧ e ≠ 22 ∧ el i = nI e) ∧ (∀ i, i < n → ¬ so i = 3 → el i = -1 ∧ el3 i = -2) ∧
  (∀ i j, i < n → j < n → so i = 3 → so j = 3 → el i = el j → i = j)
def jv_a (n : Nat) (so av : Nat → Int32) : Prop :=
  ∀ s k, s < n → k < 3 → av (3 * s + k) < 0 ∨ ∃ a, a < n ∧ 8 ≤ a ∧ ¬ so a = 3 ∧ ¬ so a = 4 ∧ av (3 * s + k) = nI a
def jv_b (n : Nat) (so el : Nat → Int32) (ab : Nat → Int64) (so3 el3 av un : Nat → Int32) : Prop :=
  (∀ s, 8 ≤ s → s < 22 → ab s = f_X1_init.2.2.2.1 s) ∧ (∀ s t, s < n → Bt (ab s) t → 8 ≤ s ∧ 8 ≤ t ∧ t < n) ∧
  (∀ s t, 8 ≤ s → s < n → 8 ≤ t → t < n → (¬ un (40 * s + t) = 0 ↔ Bt (ab s) t)) ∧
  (∀ s t, 8 ≤ s → s < n → 8 ≤ t → t < n → (Bt (ab s) t ↔ rc n so3 el3 av s t)) ∧
  (∀ s t, s < n → t < n → so s = 3 → so t = 3 → Bt (ab s) t → s = t ∨ Bt (ab (el s).toNatClampNeg) (el t).toNatClampNeg) ∧
  (∀ s t, s < n → ¬ s = 22 → 8 ≤ t → t < 16 → Bt (ab s) t → s = t)
def jv_o (n m : Nat) (ot : Nat → Int32) (ob : Nat → Int64) (kp : Nat → Int32) (bt : Nat → Int64) : Prop :=
  m ≤ 60 ∧ ∀ i, i < m → kp i = ot i ∧ bt i = ob i ∧ ∃ a, a < n ∧ 8 ≤ a ∧ ot i = nI a
def jv (n m : Nat) (so fi el : Nat → Int32) (ab : Nat → Int64) (ot : Nat → Int32) (ob : Nat → Int64) (so3 fi3 el3 av un : Nat → Int32) (kp : Nat → Int32) (bt : Nat → Int64) : Prop :=
  jv_s n so fi so3 fi3 ∧ jv_e n so el el3 ∧ jv_a n so av ∧ jv_b n so el ab so3 el3 av un ∧ jv_o n m ot ob kp bt ∧ fl_ok so3 el3 av un (nI n)
def Inv (U2 : mb_T2) (U3 : mb_T3) : Prop :=
  ∃ n m : Nat, U2.2.2.2.2.1 = nI n ∧ U3.2.2.2.2.2.2.1 = nI n ∧ U2.2.2.2.2.2.2.2 = nI m ∧ U3.2.2.2.2.2.2.2.2.2 = nI m ∧
    jv n m U2.1 U2.2.1 U2.2.2.1 U2.2.2.2.1 U2.2.2.2.2.2.1 U2.2.2.2.2.2.2.1 U3.2.1 U3.2.2.1 U3.2.2.2.1 U3.2.2.2.2.1 U3.2.2.2.2.2.1 U3.2.2.2.2.2.2.2.1 U3.2.2.2.2.2.2.2.2.1
/-! what the contracts want of it -/
theorem Inv.gz {U2 : mb_T2} {U3 : mb_T3} (h : Inv U2 U3) : U2.2.2.2.2.1.toInt ≤ 40 := by
  obtain ⟨n, m, h1, -, -, -, h5, -⟩ := h
  have := h5.1
  rw [h1, nI_toInt (by omega)]
  omega
theorem Inv.gl {U2 : mb_T2} {U3 : mb_T3} (h : Inv U2 U3) : 0 ≤ U2.2.2.2.2.1.toInt := by
  obtain ⟨n, m, h1, -, -, -, h5, -⟩ := h
  have := h5.1
  rw [h1, nI_toInt (by omega)]
  omega
theorem Inv.gz3 {U2 : mb_T2} {U3 : mb_T3} (h : Inv U2 U3) : 0 ≤ U3.2.2.2.2.2.2.1.toInt ∧ U3.2.2.2.2.2.2.1.toInt ≤ 40 := by
  obtain ⟨n, m, -, h1, -, -, h5, -⟩ := h
  have := h5.1
  rw [h1, nI_toInt (by omega)]
  omega
theorem Inv.go {U2 : mb_T2} {U3 : mb_T3} (h : Inv U2 U3) : U2.2.2.2.2.2.2.2.toInt ≤ 60 := by
  obtain ⟨n, m, -, -, h1, -, -, -, -, -, h5, -⟩ := h
  have := h5.1
  rw [h1, nI_toInt (by omega)]
  omega
theorem Inv.gol {U2 : mb_T2} {U3 : mb_T3} (h : Inv U2 U3) : 0 ≤ U2.2.2.2.2.2.2.2.toInt := by
  obtain ⟨n, m, -, -, h1, -, -, -, -, -, h5, -⟩ := h
  have := h5.1
  rw [h1, nI_toInt (by omega)]
  omega
theorem Inv.go3 {U2 : mb_T2} {U3 : mb_T3} (h : Inv U2 U3) : 0 ≤ U3.2.2.2.2.2.2.2.2.2.toInt ∧ U3.2.2.2.2.2.2.2.2.2.toInt ≤ 60 := by
  obtain ⟨n, m, -, -, -, h1, -, -, -, -, h5, -⟩ := h
  have := h5.1
  rw [h1, nI_toInt (by omega)]
  omega
theorem Inv.gb {U2 : mb_T2} {U3 : mb_T3} (h : Inv U2 U3) : ∀ k, mb_B (U2.2.1 k) := by
  obtain ⟨n, m, -, -, -, -, h5, -⟩ := h
  exact h5.2.2.1
theorem Inv.gf {U2 : mb_T2} {U3 : mb_T3} (h : Inv U2 U3) : fl_ok U3.2.1 U3.2.2.2.1 U3.2.2.2.2.1 U3.2.2.2.2.2.1 U3.2.2.2.2.2.2.1 := by
  obtain ⟨n, m, -, h1, -, -, -, -, -, -, -, h6⟩ := h
  rw [h1]
  exact h6
theorem Inv.ge3 {U2 : mb_T2} {U3 : mb_T3} (h : Inv U2 U3) : mb_EL U3.2.1 U3.2.2.2.1 := h.gf.2.2.2.1
theorem jv_EL {n : Nat} {so fi so3 fi3 el el3 : Nat → Int32} (hs : jv_s n so fi so3 fi3) (he : jv_e n so el el3) : mb_EL so el := by
  intro x hx h3
  obtain ⟨i, hi, rfl⟩ := vp_in_of hx (by decide)
  rw [nI_clamp (by omega)] at h3 ⊢
  have hin : i < n := by
    apply Classical.byContradiction
    intro q
    have := hs.2.2.2.2.2 i (by omega) hi
    rw [h3] at this
    exact absurd this (by decide)
  obtain ⟨-, e, he1, -, he2⟩ := he.1 i hin h3
  rw [he2, nI_toInt (by omega), nI_toInt (by omega)]
  omega
theorem Inv.ge {U2 : mb_T2} {U3 : mb_T3} (h : Inv U2 U3) : mb_EL U2.1 U2.2.2.1 := by
  obtain ⟨n, m, -, -, -, -, h5, h6, -⟩ := h
  exact jv_EL h5 h6
theorem Inv.gt {U2 : mb_T2} {U3 : mb_T3} (h : Inv U2 U3) : ∀ x : Int32, ¬ x < 0 → ¬ U2.2.2.2.2.2.2.2 ≤ x → vp_in (U2.2.2.2.2.2.1 x.toNatClampNeg) 40 := by
  obtain ⟨n, m, -, -, h1, -, h2, -, -, -, h5, -⟩ := h
  intro x h0 hx
  have hm := h5.1
  have hn := h2.1
  obtain ⟨j, hj, rfl⟩ := nI_of h0
  rw [h1, nI_leI (by omega) hj] at hx
  obtain ⟨-, -, a, ha, -, hb⟩ := h5.2 j (by omega)
  rw [nI_clamp hj, hb, vp_in_iff, nI_toInt (by omega)]
  omega
theorem Inv.gt3 {U2 : mb_T2} {U3 : mb_T3} (h : Inv U2 U3) : ∀ x : Int32, ¬ x < 0 → ¬ U3.2.2.2.2.2.2.2.2.2 ≤ x → vp_in (U3.2.2.2.2.2.2.2.1 x.toNatClampNeg) 40 := by
  obtain ⟨n, m, -, -, -, h1, h2, -, -, -, h5, -⟩ := h
  intro x h0 hx
  have hm := h5.1
  have hn := h2.1
  obtain ⟨j, hj, rfl⟩ := nI_of h0
  rw [h1, nI_leI (by omega) hj] at hx
  obtain ⟨hk, -, a, ha, -, hb⟩ := h5.2 j (by omega)
  rw [nI_clamp hj, hk, hb, vp_in_iff, nI_toInt (by omega)]
  omega

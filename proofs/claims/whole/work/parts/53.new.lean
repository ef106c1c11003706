/-! pure: newClass, newInterface -/
def abN (ab : Nat → Int64) (n : Nat) (A : Int64) : Nat → Int64 := vp_updL (vp_updL ab n (A ||| f_X1_bit (nI n))) 22 ((vp_updL ab n (A ||| f_X1_bit (nI n))) 22 ||| f_X1_bit (nI n))
theorem abN_old (ab : Nat → Int64) {n s : Nat} (A : Int64) (h1 : s ≠ n) (h2 : s ≠ 22) : abN ab n A s = ab s := by
  unfold abN vp_updL
  rw [if_neg h2, if_neg h1]
theorem abN_22 (ab : Nat → Int64) {n : Nat} (A : Int64) (hn : 22 < n) (hn2 : n < 64) (t : Nat) : Bt (abN ab n A 22) t ↔ Bt (ab 22) t ∨ t = n := by
  unfold abN vp_updL
  rw [if_pos rfl, if_neg (by omega), Bt_or, Bt_bit hn2]
theorem abN_n (ab : Nat → Int64) {n : Nat} (A : Int64) (hn : 22 < n) (hn2 : n < 64) (t : Nat) : Bt (abN ab n A n) t ↔ Bt A t ∨ t = n := by
  unfold abN vp_updL
  rw [if_neg (by omega), if_pos rfl, Bt_or, Bt_bit hn2]
theorem pu_add1 (so fi el : Nat → Int32) (ab : Nat → Int64) {n : Nat} (hn : n < 40) (σ x3 : Int32) (A : Int64) : f_X1_add so fi el ab (nI n) σ x3 A = (nI n, upd so n σ, upd fi n (vp_nar .boolean x3), upd el n (-1), abN ab n A, nI (n + 1)) := by
  unfold f_X1_add f_X1_setKnown abN
  rw [nI_clamp (by omega), nI_1, show (22 : Int32).toNatClampNeg = 22 from rfl]
theorem pu_add3 (th : Int32) (ro rf re av un : Nat → Int32) (kp : Nat → Int32) (bt : Nat → Int64) (rk : Int32) {n : Nat} (hn : n < 40) (σ x3 e a b c : Int32) : f_X3_add th ro rf re av un (nI n) kp bt rk σ x3 e a b c = (nI n, upd ro n σ, upd rf n (vp_nar .boolean x3), upd re n e, av3 av n a b c, nI (n + 1)) := by
  unfold f_X3_add av3
  have h0 := ix3n (s := n) (j := 0) hn (by decide)
  have h1 := ix3n (s := n) (j := 1) hn (by decide)
  have h2 := ix3n (s := n) (j := 2) hn (by decide)
  rw [show (nI 0 : Int32) = 0 from rfl, show (3 : Int32) * nI n + 0 = (3 : Int32) * nI n by simp] at h0
  rw [show (nI 1 : Int32) = 1 from rfl] at h1
  rw [show (nI 2 : Int32) = 2 from rfl] at h2
  rw [h0, h1, h2, nI_clamp (by omega), nI_1, nI_pred]
  rfl
theorem mb_Bn {x : Int32} (h : x = 0 ∨ x = 1) : mb_B (vp_nar .boolean x) := by
  rcases h with rfl | rfl <;> rfl
theorem pu_addP {n m : Nat} {so fi el : Nat → Int32} {ab : Nat → Int64} {ot : Nat → Int32} {ob : Nat → Int64} {ro rf re av un : Nat → Int32} {kp : Nat → Int32} {bt : Nat → Int64} (hJ : jv n m so fi el ab ot ob ro rf re av un kp bt) (hn : n < 40) (th rk : Int32) {σ φ p0 p1 p2 : Int32} {A : Int64} (hσ : σ = 1 ∨ σ = 2) (hφ : mb_B φ)
    (hpar : ∀ k, k < 3 → p3 p0 p1 p2 k < 0 ∨ ∃ a, a < n ∧ 16 ≤ a ∧ ¬ so a = 3 ∧ ¬ so a = 4 ∧ p3 p0 p1 p2 k = nI a)
    (hA : ∀ t, Bt A t ↔ ∃ k a, k < 3 ∧ a < n ∧ p3 p0 p1 p2 k = nI a ∧ Bt (ab a) t) :
    jv (n + 1) m (upd so n σ) (upd fi n φ) (upd el n (-1)) (abN ab n A) ot ob (upd ro n σ) (upd rf n φ) (upd re n (-2)) (av3 av n p0 p1 p2) (f_X3_fill th (upd ro n σ) (upd rf n φ) (upd re n (-2)) (av3 av n p0 p1 p2) un (nI (n + 1)) kp bt rk) kp bt := by
  have hn23 := hJ.1.1.1
  have h3 : ¬ σ = 3 := by rcases hσ with h | h <;> rw [h] <;> decide
  refine pu_jv (x := 0) hJ hn th rk (hσ.elim Or.inl (fun h => Or.inr (Or.inl h))) hφ (fun h => absurd h h3) (fun _ => ⟨rfl, rfl⟩) hpar (fun h => absurd h h3) (fun s t h1 h2 => ?_) (abN_22 ab A (by omega) (by omega)) (fun t => ?_) (fun s h1 h2 => abN_old ab A (by omega) (by omega))
  · rw [abN_old ab A (by omega) h2]
    exact ⟨Or.inl, fun h => h.elim id (fun q => absurd q.2.1 h3)⟩
  · rw [abN_n ab A (by omega) (by omega), hA]
    constructor
    · rintro (h | h)
      · exact Or.inr (Or.inl h)
      · exact Or.inl h
    · rintro (h | h | h)
      · exact Or.inr h
      · exact Or.inl h
      · exact absurd h.1 h3
/-- none, or a type that may stand above -/
def pok (n : Nat) (so : Nat → Int32) (q : Int32) : Prop := q = -1 ∨ ∃ a, a < n ∧ 16 ≤ a ∧ ¬ so a = 3 ∧ ¬ so a = 4 ∧ q = nI a
theorem pok_p {n : Nat} {so : Nat → Int32} {q : Int32} (h : pok n so q) : q < 0 ∨ ∃ a, a < n ∧ 16 ≤ a ∧ ¬ so a = 3 ∧ ¬ so a = 4 ∧ q = nI a := by
  rcases h with rfl | h
  · exact Or.inl (by decide)
  · exact Or.inr h
theorem pok3 {n : Nat} {so : Nat → Int32} {p0 p1 p2 : Int32} (h0 : pok n so p0) (h1 : pok n so p1) (h2 : pok n so p2) : ∀ k, k < 3 → p3 p0 p1 p2 k < 0 ∨ ∃ a, a < n ∧ 16 ≤ a ∧ ¬ so a = 3 ∧ ¬ so a = 4 ∧ p3 p0 p1 p2 k = nI a := by
  intro k hk
  rcases (show k = 0 ∨ k = 1 ∨ k = 2 by omega) with rfl | rfl | rfl
  · exact pok_p h0
  · exact pok_p h1
  · exact pok_p h2
theorem pok_b {n : Nat} {so fi el : Nat → Int32} {ab : Nat → Int64} {sz q : Int32} (hn : n ≤ 40) (h : pok n so q) (t : Nat) : Bt (f_X1_aboveOrNothing so fi el ab sz q) t ↔ ∃ a, a < n ∧ q = nI a ∧ Bt (ab a) t := by
  unfold f_X1_aboveOrNothing
  rcases h with rfl | ⟨a, a1, -, -, -, rfl⟩
  · rw [if_pos rfl]
    constructor
    · intro h; exact absurd h (Bt_0 t)
    · rintro ⟨a, a1, a2, -⟩
      have := nI_pos (n := a) (by omega)
      rw [← a2] at this
      exact absurd (by decide) this
  · have : ¬ nI a = -1 := fun e => by
      have := nI_pos (n := a) (by omega)
      rw [e] at this
      exact absurd (by decide) this
    rw [if_neg this, nI_clamp (by omega)]
    constructor
    · intro h; exact ⟨a, a1, rfl, h⟩
    · rintro ⟨b, b1, b2, b3⟩
      rw [nI_eq (by omega) (by omega)] at b2
      subst b2
      exact b3
theorem hA3 {n : Nat} {ab : Nat → Int64} {A A0 A1 A2 : Int64} {p0 p1 p2 : Int32} (h : ∀ t, Bt A t ↔ Bt A0 t ∨ Bt A1 t ∨ Bt A2 t) (h0 : ∀ t, Bt A0 t ↔ ∃ a, a < n ∧ p0 = nI a ∧ Bt (ab a) t) (h1 : ∀ t, Bt A1 t ↔ ∃ a, a < n ∧ p1 = nI a ∧ Bt (ab a) t) (h2 : ∀ t, Bt A2 t ↔ ∃ a, a < n ∧ p2 = nI a ∧ Bt (ab a) t) : ∀ t, Bt A t ↔ ∃ k a, k < 3 ∧ a < n ∧ p3 p0 p1 p2 k = nI a ∧ Bt (ab a) t := by
  intro t
  rw [h, h0, h1, h2]
  constructor
  · rintro (⟨a, q1, q2, q3⟩ | ⟨a, q1, q2, q3⟩ | ⟨a, q1, q2, q3⟩)
    · exact ⟨0, a, by omega, q1, q2, q3⟩
    · exact ⟨1, a, by omega, q1, q2, q3⟩
    · exact ⟨2, a, by omega, q1, q2, q3⟩
  · rintro ⟨k, a, k3, q1, q2, q3⟩
    rcases (show k = 0 ∨ k = 1 ∨ k = 2 by omega) with rfl | rfl | rfl
    · exact Or.inl ⟨a, q1, q2, q3⟩
    · exact Or.inr (Or.inl ⟨a, q1, q2, q3⟩)
    · exact Or.inr (Or.inr ⟨a, q1, q2, q3⟩)
theorem pu_c16 : ∀ i, i < 16 → ¬ (f_X1_init.1 i = 1 ∧ f_X1_init.2.1 i = 0) ∧ ¬ f_X1_init.1 i = 2 := by decide +kernel
theorem pu_16 : f_X1_init.1 16 = 1 ∧ f_X1_init.2.1 16 = 0 := by decide +kernel
/-- a class that may have one below it; an interface -/
theorem pok_c {n : Nat} {so fi ro rf : Nat → Int32} (hs : jv_s n so fi ro rf) {i : Nat} (hi : i < n) (h : so i = 1 ∧ fi i = 0 ∨ so i = 2) : pok n so (nI i) := by
  have hn := hs.1
  refine Or.inr ⟨i, hi, ?_, ?_, ?_, rfl⟩
  · apply Classical.byContradiction
    intro q
    have := pu_c16 i (by omega)
    obtain ⟨e1, e2⟩ := hs.2.2.2.1 i (by omega)
    rw [e1, e2] at h
    exact h.elim this.1 this.2
  · rcases h with h | h
    · rw [h.1]; decide
    · rw [h]; decide
  · rcases h with h | h
    · rw [h.1]; decide
    · rw [h]; decide
/-- a type or none, on both sides -/
theorem pu_ton {n : Nat} (hn : n ≤ 60) (so fi el : Nat → Int32) (ab : Nat → Int64) (ot : Nat → Int32) (ob : Nat → Int64) (oc : Int32) (ro rf re av un kp : Nat → Int32) (bt : Nat → Int64) (rk x : Int32) :
    (f_X2_isTypeOrNone so fi el ab (nI n) ot ob oc x = 0 ∧ ¬ x = -1 ∧ f_X3_isType ro rf re av un (nI n) kp bt rk x = 0) ∨ (f_X2_isTypeOrNone so fi el ab (nI n) ot ob oc x = 1 ∧ (x = -1 ∨ ∃ i, i < n ∧ x = nI i ∧ ¬ nI i = -1 ∧ ¬ nI i < 0 ∧ f_X3_isType ro rf re av un (nI n) kp bt rk (nI i) = 1)) := by
  unfold f_X2_isTypeOrNone
  by_cases h : x = -1
  · rw [if_pos h]; exact Or.inr ⟨rfl, Or.inl h⟩
  · rw [if_neg h]
    rcases pu_has hn so fi el ab ro rf re av un kp bt rk x with ⟨h1, h2⟩ | ⟨i, hi, rfl, h1, h2⟩
    · rw [if_pos h1]; exact Or.inl ⟨rfl, h, h2⟩
    · rw [h1, if_neg pu10]; exact Or.inr ⟨rfl, Or.inr ⟨i, hi, rfl, h, nI_pos (by omega), h2⟩⟩
theorem pu_40 {n : Nat} (hn : n ≤ 40) : (nI n = 40 ∧ ¬ nI n < 40 ∧ n = 40) ∨ (¬ nI n = 40 ∧ nI n < 40 ∧ n < 40) := by
  have e : (40 : Int32) = nI 40 := rfl
  by_cases h : n = 40
  · subst h; exact Or.inl ⟨rfl, by decide, rfl⟩
  · refine Or.inr ⟨?_, ?_, by omega⟩
    · rw [e, nI_eq (by omega) (by omega)]; exact h
    · rw [e, nI_ltI (by omega) (by omega)]; omega
/-- the states after a class more -/
theorem pu_class {n m : Nat} {so fi el : Nat → Int32} {ab : Nat → Int64} {ot : Nat → Int32} {ob : Nat → Int64} {ro rf re av un : Nat → Int32} {kp : Nat → Int32} {bt : Nat → Int64} (hJ : jv n m so fi el ab ot ob ro rf re av un kp bt) (hn : n < 40) (th : Int32) {p q x3 : Int32} (hp : pok n so p) (hp1 : ¬ p = -1) (hq : pok n so q) (hz : x3 = 0 ∨ x3 = 1) {r2 : Int32 × mb_T1} (e2 : r2 = f_X1_addClass so fi el ab (nI n) p q x3) {r3 : Int32 × ((Nat → Int32) × (Nat → Int32) × (Nat → Int32) × (Nat → Int32) × Int32)} (e3 : r3 = f_X3_add 0 ro rf re av un (nI n) kp bt (nI m) 1 x3 (-2) p q (-1)) :
    r2.1 = r3.1 ∧ Inv (r2.2.1, r2.2.2.1, r2.2.2.2.1, r2.2.2.2.2.1, r2.2.2.2.2.2, ot, ob, nI m) (th, r3.2.1, r3.2.2.1, r3.2.2.2.1, r3.2.2.2.2.1, f_X3_fill 0 r3.2.1 r3.2.2.1 r3.2.2.2.1 r3.2.2.2.2.1 un r3.2.2.2.2.2 kp bt (nI m), r3.2.2.2.2.2, kp, bt, nI m) := by
  unfold f_X1_addClass at e2
  rw [pu_add1 so fi el ab hn] at e2
  rw [pu_add3 0 ro rf re av un kp bt (nI m) hn] at e3
  subst e2 e3
  refine ⟨rfl, n + 1, m, rfl, rfl, rfl, rfl, ?_⟩
  refine pu_addP hJ hn 0 (nI m) (σ := 1) (φ := vp_nar .boolean x3) (p0 := p) (p1 := q) (p2 := -1) (A := ab p.toNatClampNeg ||| f_X1_aboveOrNothing so fi el ab (nI n) q) (Or.inl rfl) (mb_Bn hz) (pok3 hp hq (Or.inl rfl)) (hA3 (A0 := f_X1_aboveOrNothing so fi el ab (nI n) p) (A1 := f_X1_aboveOrNothing so fi el ab (nI n) q) (A2 := f_X1_aboveOrNothing so fi el ab (nI n) (-1)) (fun t => ?_) (pok_b (by omega) hp) (pok_b (by omega) hq) (pok_b (by omega) (Or.inl rfl)))
  rw [Bt_or]
  unfold f_X1_aboveOrNothing
  rw [if_neg hp1, if_pos (rfl : (-1 : Int32) = -1)]
  constructor
  · rintro (h | h)
    · exact Or.inl h
    · exact Or.inr (Or.inl h)
  · rintro (h | h | h)
    · exact Or.inl h
    · exact Or.inr h
    · exact absurd h (Bt_0 t)
theorem pu_iface {n m : Nat} {so fi el : Nat → Int32} {ab : Nat → Int64} {ot : Nat → Int32} {ob : Nat → Int64} {ro rf re av un : Nat → Int32} {kp : Nat → Int32} {bt : Nat → Int64} (hJ : jv n m so fi el ab ot ob ro rf re av un kp bt) (hn : n < 40) (th : Int32) {p q : Int32} (hp : pok n so p) (hq : pok n so q) {r2 : Int32 × mb_T1} (e2 : r2 = f_X1_addInterface so fi el ab (nI n) p q) {r3 : Int32 × ((Nat → Int32) × (Nat → Int32) × (Nat → Int32) × (Nat → Int32) × Int32)} (e3 : r3 = f_X3_add 0 ro rf re av un (nI n) kp bt (nI m) 2 0 (-2) 16 p q) :
    r2.1 = r3.1 ∧ Inv (r2.2.1, r2.2.2.1, r2.2.2.2.1, r2.2.2.2.2.1, r2.2.2.2.2.2, ot, ob, nI m) (th, r3.2.1, r3.2.2.1, r3.2.2.2.1, r3.2.2.2.2.1, f_X3_fill 0 r3.2.1 r3.2.2.1 r3.2.2.2.1 r3.2.2.2.2.1 un r3.2.2.2.2.2 kp bt (nI m), r3.2.2.2.2.2, kp, bt, nI m) := by
  unfold f_X1_addInterface f_X1_addInterface_z_1 at e2
  rw [pu_add1 so fi el ab hn] at e2
  rw [pu_add3 0 ro rf re av un kp bt (nI m) hn] at e3
  subst e2 e3
  have hs := hJ.1
  have hn23 := hs.1
  have h16 : pok n so 16 := by
    refine pok_c hs (i := 16) (by omega) (Or.inl ?_)
    rw [(hs.2.2.2.1 16 (by omega)).1, (hs.2.2.2.1 16 (by omega)).2]
    exact pu_16
  refine ⟨rfl, n + 1, m, rfl, rfl, rfl, rfl, ?_⟩
  refine pu_addP hJ hn 0 (nI m) (σ := 2) (φ := vp_nar .boolean 0) (p0 := 16) (p1 := p) (p2 := q) (A := (ab (16 : Int32).toNatClampNeg ||| f_X1_aboveOrNothing so fi el ab (nI n) p) ||| f_X1_aboveOrNothing so fi el ab (nI n) q) (Or.inr rfl) (mb_Bn (Or.inl rfl)) (pok3 h16 hp hq) (hA3 (A0 := f_X1_aboveOrNothing so fi el ab (nI n) 16) (A1 := f_X1_aboveOrNothing so fi el ab (nI n) p) (A2 := f_X1_aboveOrNothing so fi el ab (nI n) q) (fun t => ?_) (pok_b (by omega) h16) (pok_b (by omega) hp) (pok_b (by omega) hq))
  rw [Bt_or, Bt_or, or_assoc]
  unfold f_X1_aboveOrNothing
  rw [if_neg (show ¬ (16 : Int32) = -1 by decide)]

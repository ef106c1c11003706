/-! pure: the state with a type more -/
theorem fill_in {th : Int32} {so fi el av un : Nat → Int32} {ty : Int32} {kp : Nat → Int32} {bt : Nat → Int64} {oc : Int32} {i : Nat} (h : fl_in ty.toNatClampNeg i) : ¬ f_X3_fill th so fi el av un ty kp bt oc i = 0 ↔ rc ty.toNatClampNeg so el av (i / 40) (i % 40) := by
  unfold f_X3_fill
  cases h1 : Classical.propDecidable (fl_in ty.toNatClampNeg i) with
  | isFalse q => exact absurd h q
  | isTrue q =>
    cases h2 : Classical.propDecidable (rc ty.toNatClampNeg so el av (i / 40) (i % 40)) with
    | isFalse r => simp [r]
    | isTrue r => simp [r]
theorem fill_out {th : Int32} {so fi el av un : Nat → Int32} {ty : Int32} {kp : Nat → Int32} {bt : Nat → Int64} {oc : Int32} {i : Nat} (h : ¬ fl_in ty.toNatClampNeg i) : f_X3_fill th so fi el av un ty kp bt oc i = un i := by
  unfold f_X3_fill
  cases h1 : Classical.propDecidable (fl_in ty.toNatClampNeg i) with
  | isFalse q => rfl
  | isTrue q => exact absurd q h
def av3 (av : Nat → Int32) (n : Nat) (p0 p1 p2 : Int32) : Nat → Int32 := upd (upd (upd av (3 * n) p0) (3 * n + 1) p1) (3 * n + 2) p2
theorem av3_old (av : Nat → Int32) (p0 p1 p2 : Int32) {n s k : Nat} (hs : s < n) (hk : k < 3) : av3 av n p0 p1 p2 (3 * s + k) = av (3 * s + k) := by
  unfold av3
  rw [upd_ne _ _ (by omega), upd_ne _ _ (by omega), upd_ne _ _ (by omega)]
def p3 (p0 p1 p2 : Int32) (k : Nat) : Int32 := if k = 0 then p0 else if k = 1 then p1 else p2
theorem av3_new (av : Nat → Int32) (n : Nat) (p0 p1 p2 : Int32) {k : Nat} (hk : k < 3) : av3 av n p0 p1 p2 (3 * n + k) = p3 p0 p1 p2 k := by
  unfold av3 p3
  rcases (show k = 0 ∨ k = 1 ∨ k = 2 by omega) with rfl | rfl | rfl
  · rw [upd_ne _ _ (by omega), upd_ne _ _ (by omega)]; simp [upd]
  · rw [upd_ne _ _ (by omega)]; simp [upd]
  · simp [upd]
theorem av3_40 {av : Nat → Int32} {n : Nat} {p0 p1 p2 : Int32} (h : ∀ j, (av j).toInt < 40) (h0 : p0.toInt < 40) (h1 : p1.toInt < 40) (h2 : p2.toInt < 40) : ∀ j, (av3 av n p0 p1 p2 j).toInt < 40 := by
  intro j
  unfold av3
  simp only [upd]
  repeat' split
  all_goals first | assumption | exact h j
theorem par40 {n : Nat} {so : Nat → Int32} {p : Int32} (hn : n ≤ 40) (h : p < 0 ∨ ∃ a, a < n ∧ 16 ≤ a ∧ ¬ so a = 3 ∧ ¬ so a = 4 ∧ p = nI a) : p.toInt < 40 := by
  rcases h with h | ⟨a, a1, -, -, -, rfl⟩
  · rw [Int32.lt_iff_toInt_lt] at h
    have : (0 : Int32).toInt = 0 := rfl
    omega
  · rw [nI_toInt (by omega)]; omega
set_option maxHeartbeats 4000000 in
theorem pu_jv {n m : Nat} {so fi el : Nat → Int32} {ab : Nat → Int64} {ot : Nat → Int32} {ob : Nat → Int64} {ro rf re av un : Nat → Int32} {kp : Nat → Int32} {bt : Nat → Int64} (hJ : jv n m so fi el ab ot ob ro rf re av un kp bt) (hn : n < 40)
    {σ ε ρ φ : Int32} {x : Nat} {p0 p1 p2 : Int32} {ab' : Nat → Int64} (th rk : Int32) (hσ : σ = 1 ∨ σ = 2 ∨ σ = 3) (hφ : mb_B φ)
    (hx : σ = 3 → x < n ∧ x ≠ 22 ∧ ε = nI x ∧ ρ = nI x ∧ ∀ i, i < n → so i = 3 → ¬ el i = nI x) (hx3 : ¬ σ = 3 → ε = -1 ∧ ρ = -2)
    (hpar : ∀ k, k < 3 → p3 p0 p1 p2 k < 0 ∨ ∃ a, a < n ∧ 16 ≤ a ∧ ¬ so a = 3 ∧ ¬ so a = 4 ∧ p3 p0 p1 p2 k = nI a)
    (hp3 : σ = 3 → ∀ k a t, k < 3 → a < n → p3 p0 p1 p2 k = nI a → Bt (ab a) t → t < 23)
    (G1 : ∀ s t, s < n → s ≠ 22 → (Bt (ab' s) t ↔ Bt (ab s) t ∨ (t = n ∧ σ = 3 ∧ so s = 3 ∧ Bt (ab (el s).toNatClampNeg) x)))
    (G2 : ∀ t, Bt (ab' 22) t ↔ Bt (ab 22) t ∨ t = n)
    (G3 : ∀ t, Bt (ab' n) t ↔ t = n ∨ (∃ k a, k < 3 ∧ a < n ∧ p3 p0 p1 p2 k = nI a ∧ Bt (ab a) t) ∨ (σ = 3 ∧ t < n ∧ so t = 3 ∧ Bt (ab x) (el t).toNatClampNeg))
    (GC : ∀ s, 8 ≤ s → s < 22 → ab' s = ab s) :
    jv (n + 1) m (upd so n σ) (upd fi n φ) (upd el n ε) ab' ot ob (upd ro n σ) (upd rf n φ) (upd re n ρ) (av3 av n p0 p1 p2) (f_X3_fill th (upd ro n σ) (upd rf n φ) (upd re n ρ) (av3 av n p0 p1 p2) un (nI (n + 1)) kp bt rk) kp bt := by
  obtain ⟨hs, he, ha, hb, ho, hf⟩ := hJ
  have hn23 := hs.1.1
  have cN : (nI (n + 1)).toNatClampNeg = n + 1 := nI_clamp (by omega)
  have U : ∀ (f : Nat → Int32) (v : Int32) (i : Nat), i ≠ n → upd f n v i = f i := fun f v i hi => upd_ne f v hi
  have A : ∀ (f : Nat → Int32) (v : Int32), upd f n v n = v := fun f v => upd_at (α := Nat) f n v
  have hσ4 : ¬ σ = 4 := by rcases hσ with h | h | h <;> rw [h] <;> decide
  refine ⟨?_, ?_, ?_, ?_, ?_, ?_⟩
  · obtain ⟨s1, s2, s3, s4, s5, s6⟩ := hs
    refine ⟨⟨by omega, by omega⟩, fun i hi => ?_, fun i => ?_, fun i hi => ?_, fun i h1 h2 => ?_, fun i h1 h2 => ?_⟩
    · by_cases c : i = n
      · subst c; rw [A, A, A, A]; exact ⟨rfl, rfl⟩
      · rw [U _ _ _ c, U _ _ _ c, U _ _ _ c, U _ _ _ c]; exact s2 i (by omega)
    · by_cases c : i = n
      · subst c; rw [A]; exact hφ
      · rw [U _ _ _ c]; exact s3 i
    · rw [U _ _ _ (by omega), U _ _ _ (by omega)]; exact s4 i hi
    · by_cases c : i = n
      · subst c; rw [A]; exact hσ
      · rw [U _ _ _ c]; exact s5 i h1 (by omega)
    · rw [U _ _ _ (by omega)]; exact s6 i (by omega) h2
  · refine ⟨fun i hi h3 => ?_, fun i hi h3 => ?_, fun i j hi hj h3 h4 hel => ?_⟩
    · by_cases c : i = n
      · subst c
        rw [A] at h3
        obtain ⟨x1, x2, x3, x4, -⟩ := hx h3
        rw [A, A]
        exact ⟨x4.trans x3.symm, x, x1, x2, x3⟩
      · rw [U _ _ _ c] at h3
        rw [U _ _ _ c, U _ _ _ c]
        exact he.1 i (by omega) h3
    · by_cases c : i = n
      · subst c
        rw [A] at h3
        rw [A, A]
        exact hx3 h3
      · rw [U _ _ _ c] at h3
        rw [U _ _ _ c, U _ _ _ c]
        exact he.2.1 i (by omega) h3
    · by_cases c : i = n
      · by_cases d : j = n
        · omega
        · subst c
          rw [A] at h3 hel
          rw [U _ _ _ d] at h4 hel
          obtain ⟨x1, x2, x3, x4, x5⟩ := hx h3
          exact absurd (hel.symm.trans x3) (x5 j (by omega) h4)
      · by_cases d : j = n
        · subst d
          rw [A] at h4 hel
          rw [U _ _ _ c] at h3 hel
          obtain ⟨x1, x2, x3, x4, x5⟩ := hx h4
          exact absurd (hel.trans x3) (x5 i (by omega) h3)
        · rw [U _ _ _ c] at h3 hel
          rw [U _ _ _ d] at h4 hel
          exact he.2.2 i j (by omega) (by omega) h3 h4 hel
  · intro s k hs' hk
    by_cases c : s = n
    · subst c
      rw [av3_new av s p0 p1 p2 hk]
      rcases hpar k hk with h | ⟨a, a1, a2, a3, a4, a5⟩
      · exact Or.inl h
      · exact Or.inr ⟨a, by omega, by omega, by rw [U _ _ _ (by omega)]; exact a3, by rw [U _ _ _ (by omega)]; exact a4, a5⟩
    · rw [av3_old av p0 p1 p2 (by omega) hk]
      rcases ha s k (by omega) hk with h | ⟨a, a1, a2, a3, a4, a5⟩
      · exact Or.inl h
      · exact Or.inr ⟨a, by omega, by omega, by rw [U _ _ _ (by omega)]; exact a3, by rw [U _ _ _ (by omega)]; exact a4, a5⟩
  · refine pu_grow hs he ha hb hn hσ4 hx (fun s k h1 h2 => av3_old av p0 p1 p2 h1 h2) (fun k h => av3_new av n p0 p1 p2 h) hpar hp3 G1 G2 G3 GC ?_
    intro s t s8 sn t8 tn
    have hin := fl_in_mk (n := n + 1) (s := s) (t := t) ⟨s8, sn, t8, tn⟩ (by omega)
    have h := fill_in (th := th) (so := upd ro n σ) (fi := upd rf n φ) (el := upd re n ρ) (av := av3 av n p0 p1 p2) (un := un) (ty := nI (n + 1)) (kp := kp) (bt := bt) (oc := rk) (i := 40 * s + t) (by rw [cN]; exact hin)
    rw [cN, show (40 * s + t) / 40 = s by omega, show (40 * s + t) % 40 = t by omega] at h
    exact h
  · refine ⟨ho.1, fun i hi => ?_⟩
    obtain ⟨o1, o2, a, o3, o4, o5⟩ := ho.2 i hi
    exact ⟨o1, o2, a, by omega, o4, o5⟩
  · obtain ⟨f1, f2, f3, f4, f5⟩ := hf
    refine ⟨by rw [nI_toInt (by omega)]; omega, by rw [nI_toInt (by omega)]; omega, av3_40 f3 (par40 (by omega) (hpar 0 (by omega))) (par40 (by omega) (hpar 1 (by omega))) (par40 (by omega) (hpar 2 (by omega))), ?_, ?_⟩
    · intro y hy h3
      obtain ⟨i, hi, rfl⟩ := vp_in_of hy (by decide)
      rw [nI_clamp (by omega)] at h3 ⊢
      by_cases c : i = n
      · subst c
        rw [A] at h3 ⊢
        obtain ⟨x1, x2, x3, x4, -⟩ := hx h3
        rw [x4, nI_toInt (by omega), nI_toInt (by omega)]
        omega
      · rw [U _ _ _ c] at h3 ⊢
        have := f4 (nI i) hy (by rw [nI_clamp (by omega)]; exact h3)
        rw [nI_clamp (by omega)] at this
        exact this
    · intro i hi
      rw [fill_out hi]
      apply f5
      rw [nI_clamp (by omega)]
      rw [cN] at hi
      intro q
      apply hi
      unfold fl_in at q ⊢
      omega

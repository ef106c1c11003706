/-! pure: a type more -/
theorem upd_at {α : Type} (f : Nat → Int32) (n : Nat) (v : Int32) : upd f n v n = v := by simp [upd]
theorem upd_ne (f : Nat → Int32) {n i : Nat} (v : Int32) (h : i ≠ n) : upd f n v i = f i := by simp [upd, h]
theorem rc_mono {n : Nat} {so el av so' el' av' : Nat → Int32} (h1 : ∀ i, i < n → so' i = so i ∧ el' i = el i) (h2 : ∀ s k, s < n → k < 3 → av' (3 * s + k) = av (3 * s + k)) {s t : Nat} (h : rc n so el av s t) : rc (n + 1) so' el' av' s t := by
  intro P hP
  apply h P
  intro s t s8 sn t8 tn hh
  apply hP s t s8 (by omega) t8 (by omega)
  rw [(h1 s sn).1, (h1 t tn).1, (h1 s sn).2, (h1 t tn).2]
  rcases hh with hh | hh | ⟨k, hk, k1, k2⟩ | hh
  · exact Or.inl hh
  · exact Or.inr (Or.inl hh)
  · exact Or.inr (Or.inr (Or.inl ⟨k, hk, by rw [h2 s k sn hk]; exact k1, by rw [h2 s k sn hk]; exact k2⟩))
  · exact Or.inr (Or.inr (Or.inr hh))
set_option maxHeartbeats 4000000 in
theorem pu_grow {n : Nat} {so fi el : Nat → Int32} {ab : Nat → Int64} {ro rf re av un : Nat → Int32} (hs : jv_s n so fi ro rf) (he : jv_e n so el re) (ha : jv_a n so av) (hb : jv_b n so el ab ro re av un) (hn : n < 40)
    {σ ε ρ : Int32} {x : Nat} {par : Nat → Int32} {av' un' : Nat → Int32} {ab' : Nat → Int64} (hσ4 : ¬ σ = 4)
    (hx : σ = 3 → x < n ∧ x ≠ 22 ∧ ε = nI x ∧ ρ = nI x ∧ ∀ i, i < n → so i = 3 → ¬ el i = nI x)
    (hav : ∀ s k, s < n → k < 3 → av' (3 * s + k) = av (3 * s + k)) (havn : ∀ k, k < 3 → av' (3 * n + k) = par k)
    (hpar : ∀ k, k < 3 → par k < 0 ∨ ∃ a, a < n ∧ 16 ≤ a ∧ ¬ so a = 3 ∧ ¬ so a = 4 ∧ par k = nI a)
    (hp3 : σ = 3 → ∀ k a t, k < 3 → a < n → par k = nI a → Bt (ab a) t → t < 23)
    (G1 : ∀ s t, s < n → s ≠ 22 → (Bt (ab' s) t ↔ Bt (ab s) t ∨ (t = n ∧ σ = 3 ∧ so s = 3 ∧ Bt (ab (el s).toNatClampNeg) x)))
    (G2 : ∀ t, Bt (ab' 22) t ↔ Bt (ab 22) t ∨ t = n)
    (G3 : ∀ t, Bt (ab' n) t ↔ t = n ∨ (∃ k a, k < 3 ∧ a < n ∧ par k = nI a ∧ Bt (ab a) t) ∨ (σ = 3 ∧ t < n ∧ so t = 3 ∧ Bt (ab x) (el t).toNatClampNeg))
    (GC : ∀ s, 8 ≤ s → s < 22 → ab' s = ab s)
    (hun : ∀ s t, 8 ≤ s → s < n + 1 → 8 ≤ t → t < n + 1 → (¬ un' (40 * s + t) = 0 ↔ rc (n + 1) (upd ro n σ) (upd re n ρ) av' s t)) :
    jv_b (n + 1) (upd so n σ) (upd el n ε) ab' (upd ro n σ) (upd re n ρ) av' un' := by
  have hn23 := hs.1.1
  obtain ⟨b1, b2, b3, b4, b5, b6⟩ := id hb
  have U : ∀ (f : Nat → Int32) (v : Int32) (i : Nat), i < n → upd f n v i = f i := fun f v i hi => upd_ne f v (by omega)
  have hro : ∀ i, i < n → ro i = so i := fun i hi => (hs.2.1 i hi).1
  have hre : ∀ i, i < n → so i = 3 → re i = el i := fun i hi h => (he.1 i hi h).1
  -- an array's element: a Nat
  have hel : ∀ i, i < n → so i = 3 → ∃ e, e < i ∧ e ≠ 22 ∧ el i = nI e ∧ (el i).toNatClampNeg = e := fun i hi h => by
    obtain ⟨e, e1, e2, e3, -⟩ := pu_el he hi h
    exact ⟨e, e1, e2, e3, by rw [e3, nI_clamp (by omega)]⟩
  have s22 : ¬ so 22 = 3 := fun h => by have := pu_so3 hs h; omega
  -- old bits stay
  have K : ∀ s t, s < n → Bt (ab s) t → Bt (ab' s) t := fun s t hs' h => by
    by_cases c : s = 22
    · subst c; exact (G2 t).mpr (Or.inl h)
    · exact (G1 s t hs' c).mpr (Or.inl h)
  -- bits below n are old
  have K' : ∀ s t, s < n → s ≠ 22 → t < n → Bt (ab' s) t → Bt (ab s) t := fun s t h1 h2 h3 h => by
    rcases (G1 s t h1 h2).mp h with h | ⟨h, -⟩
    · exact h
    · omega
  have par_n : ∀ k a, k < 3 → a < n → par k = nI a → ∃ a, a < n ∧ 16 ≤ a ∧ ¬ so a = 3 ∧ ¬ so a = 4 ∧ par k = nI a := fun k a hk han e => by
    rcases hpar k hk with h | h
    · rw [e] at h; exact absurd h (nI_pos (by omega))
    · exact h
  have par_eq : ∀ k a, k < 3 → a < n → par k = nI a → 16 ≤ a ∧ ¬ so a = 3 ∧ ¬ so a = 4 := fun k a hk han e => by
    obtain ⟨a', h1, h2, h3, h4, h5⟩ := par_n k a hk han e
    have : a = a' := by
      have := e.symm.trans h5
      rwa [nI_eq (by omega) (by omega)] at this
    subst this
    exact ⟨h2, h3, h4⟩
  -- (2)
  have c2 : ∀ s t, s < n + 1 → Bt (ab' s) t → 8 ≤ s ∧ 8 ≤ t ∧ t < n + 1 := by
    intro s t h1 h
    by_cases c : s = n
    · subst c
      rcases (G3 t).mp h with h | ⟨k, a, hk, han, -, h⟩ | ⟨-, h2, h3, -⟩
      · omega
      · have := b2 a t han h; omega
      · have := pu_so3 hs h3; omega
    · by_cases c' : s = 22
      · subst c'
        rcases (G2 t).mp h with h | h
        · have := b2 22 t (by omega) h; omega
        · omega
      · rcases (G1 s t (by omega) c').mp h with h | ⟨h1, -, h2, -⟩
        · have := b2 s t (by omega) h; omega
        · have := pu_so3 hs h2; omega
  have mono : ∀ s t, 8 ≤ s → s < n → 8 ≤ t → t < n → Bt (ab s) t → rc (n + 1) (upd ro n σ) (upd re n ρ) av' s t := fun s t h1 h2 h3 h4 h => rc_mono (fun i hi => ⟨U ro σ i hi, U re ρ i hi⟩) hav ((b4 s t h1 h2 h3 h4).mp h)
  -- an array step
  have arr : ∀ (s t e f : Nat), 8 ≤ s → s < n + 1 → 8 ≤ t → t < n + 1 → upd ro n σ s = 3 → upd ro n σ t = 3 → upd re n ρ s = nI e → upd re n ρ t = nI f → 8 ≤ e → e < n → 8 ≤ f → f < n → Bt (ab e) f → rc (n + 1) (upd ro n σ) (upd re n ρ) av' s t := by
    intro s t e f h1 h2 h3 h4 h5 h6 h7 h8 e8 en f8 fn h P hP
    have hm := mono e f e8 en f8 fn h P hP
    refine hP s t h1 h2 h3 h4 (Or.inr (Or.inr (Or.inr ⟨h5, h6, Or.inr ⟨?_, ?_, ?_⟩⟩)))
    · rw [h7, show (7 : Int32) = nI 7 from rfl, nI_ltI (by omega) (by omega)]; omega
    · rw [h8, show (7 : Int32) = nI 7 from rfl, nI_ltI (by omega) (by omega)]; omega
    · rw [h7, h8, nI_clamp (by omega), nI_clamp (by omega)]; exact hm
  -- (4)
  have c4 : ∀ s t, 8 ≤ s → s < n + 1 → 8 ≤ t → t < n + 1 → (Bt (ab' s) t ↔ rc (n + 1) (upd ro n σ) (upd re n ρ) av' s t) := by
    intro s t s8 sn t8 tn
    constructor
    · intro h
      by_cases c : s = n
      · subst c
        rcases (G3 t).mp h with h | ⟨k, a, hk, han, e, h⟩ | ⟨h1, h2, h3, h⟩
        · subst h
          exact fun P hP => hP t t t8 tn t8 tn (Or.inl rfl)
        · have ha2 := b2 a t han h
          have hm := mono a t ha2.1 han ha2.2.1 ha2.2.2 h
          intro P hP
          refine hP s t s8 sn t8 tn (Or.inr (Or.inr (Or.inl ⟨k, hk, ?_, ?_⟩)))
          · rw [havn k hk, e]; exact nI_pos (by omega)
          · rw [havn k hk, e, nI_clamp (by omega)]; exact hm P hP
        · obtain ⟨x1, x2, x3, x4, x5⟩ := hx h1
          obtain ⟨f, f1, f2, f3, f4⟩ := hel t h2 h3
          rw [f4] at h
          have hxf := b2 x f x1 h
          exact arr s t x f s8 sn t8 tn (by rw [upd_at (α := Nat)]; exact h1) (by rw [U ro σ t h2, hro t h2]; exact h3) (by rw [upd_at (α := Nat)]; exact x4) (by rw [U re ρ t h2, hre t h2 h3]; exact f3) hxf.1 x1 hxf.2.1 hxf.2.2 h
      · by_cases c' : s = 22
        · subst c'
          refine fun P hP => hP 22 t s8 sn t8 tn (Or.inr (Or.inl ?_))
          rw [U ro σ 22 (by omega), hro 22 (by omega)]
          exact (pu_so4 hs (by omega)).mpr rfl
        · rcases (G1 s t (by omega) c').mp h with h | ⟨h1, h2, h3, h⟩
          · have := b2 s t (by omega) h
            exact mono s t s8 (by omega) t8 this.2.2 h
          · obtain ⟨x1, x2, x3, x4, x5⟩ := hx h2
            obtain ⟨e, e1, e2, e3, e4⟩ := hel s (by omega) h3
            rw [e4] at h
            have hex := b2 e x (by omega) h
            subst h1
            exact arr s t e x s8 sn t8 tn (by rw [U ro σ s (by omega), hro s (by omega)]; exact h3) (by rw [upd_at (α := Nat)]; exact h2) (by rw [U re ρ s (by omega), hre s (by omega) h3]; exact e3) (by rw [upd_at (α := Nat)]; exact x4) hex.1 (by omega) hex.2.1 hex.2.2 h
    · intro h
      apply h (fun s t => Bt (ab' s) t)
      intro s t s8 sn t8 tn hh
      rcases hh with hh | hh | ⟨k, hk, k1, k2⟩ | ⟨h3, h4, hh⟩
      · subst hh
        by_cases c : s = n
        · exact c ▸ (G3 n).mpr (Or.inl rfl)
        · exact K s s (by omega) (pu_refl hb s8 (by omega))
      · have h22 : s = 22 := by
          by_cases c : s = n
          · subst c; rw [upd_at (α := Nat)] at hh; exact absurd hh hσ4
          · rw [U ro σ s (by omega), hro s (by omega)] at hh
            exact (pu_so4 hs (by omega)).mp hh
        subst h22
        by_cases c : t = n
        · exact (G2 t).mpr (Or.inr c)
        · exact (G2 t).mpr (Or.inl (pu_null hs hb t8 (by omega)))
      · by_cases c : s = n
        · subst c
          rw [havn k hk] at k1 k2
          rcases hpar k hk with h | ⟨a, a1, a2, a3, a4, a5⟩
          · exact absurd h k1
          · rw [a5, nI_clamp (by omega)] at k2
            have a22 : a ≠ 22 := fun q => a4 (by rw [q]; exact (pu_so4 hs (by omega)).mpr rfl)
            rcases (G1 a t a1 a22).mp k2 with h | ⟨-, -, h, -⟩
            · exact (G3 t).mpr (Or.inr (Or.inl ⟨k, a, hk, a1, a5, h⟩))
            · exact absurd h a3
        · rw [hav s k (by omega) hk] at k1 k2
          rcases ha s k (by omega) hk with h | ⟨a, a1, a2, a3, a4, a5⟩
          · exact absurd h k1
          · rw [a5, nI_clamp (by omega)] at k2
            have a22 : a ≠ 22 := fun q => a4 (by rw [q]; exact (pu_so4 hs (by omega)).mpr rfl)
            rcases (G1 a t a1 a22).mp k2 with h | ⟨-, -, h, -⟩
            · have ht := b2 a t a1 h
              apply K s t (by omega)
              refine (b4 s t s8 (by omega) t8 ht.2.2).mpr fun P hP => hP s t s8 (by omega) t8 ht.2.2 (Or.inr (Or.inr (Or.inl ⟨k, hk, k1, ?_⟩)))
              rw [a5, nI_clamp (by omega)]
              exact (b4 a t a2 a1 t8 ht.2.2).mp h P hP
            · exact absurd h a3
      · by_cases cs : s = n
        · subst cs
          rw [upd_at (α := Nat)] at h3
          obtain ⟨x1, x2, x3, x4, x5⟩ := hx h3
          by_cases ct : t = s
          · subst ct; exact (G3 t).mpr (Or.inl rfl)
          · have tn' : t < s := by omega
            rw [U ro σ t tn', hro t tn'] at h4
            obtain ⟨f, f1, f2, f3, f4⟩ := hel t tn' h4
            rw [upd_at (α := Nat), U re ρ t tn', hre t tn' h4, x4, f3] at hh
            rcases hh with hh | ⟨g1, g2, hh⟩
            · exact absurd (f3.trans hh.symm) (x5 t tn' h4)
            · rw [nI_clamp (by omega), nI_clamp (by omega)] at hh
              refine (G3 t).mpr (Or.inr (Or.inr ⟨h3, tn', h4, ?_⟩))
              rw [f4]
              exact K' x f x1 x2 (by omega) hh
        · have sn' : s < n := by omega
          rw [U ro σ s sn', hro s sn'] at h3
          obtain ⟨e, e1, e2, e3, e4⟩ := hel s sn' h3
          have s22' : s ≠ 22 := fun q => s22 (q ▸ h3)
          by_cases ct : t = n
          · subst ct
            rw [upd_at (α := Nat)] at h4
            obtain ⟨x1, x2, x3, x4, x5⟩ := hx h4
            rw [upd_at (α := Nat), U re ρ s sn', hre s sn' h3, x4, e3] at hh
            rcases hh with hh | ⟨g1, g2, hh⟩
            · exact absurd (e3.trans hh) (x5 s sn' h3)
            · rw [nI_clamp (by omega), nI_clamp (by omega)] at hh
              refine (G1 s t sn' s22').mpr (Or.inr ⟨rfl, h4, h3, ?_⟩)
              rw [e4]
              exact K' e x (by omega) e2 x1 hh
          · have tn' : t < n := by omega
            rw [U ro σ t tn', hro t tn'] at h4
            obtain ⟨f, f1, f2, f3, f4⟩ := hel t tn' h4
            rw [U re ρ s sn', U re ρ t tn'] at hh
            apply K s t sn'
            refine (b4 s t s8 sn' t8 tn').mpr fun P hP => hP s t s8 sn' t8 tn' (Or.inr (Or.inr (Or.inr ⟨by rw [hro s sn']; exact h3, by rw [hro t tn']; exact h4, ?_⟩)))
            rcases hh with hh | ⟨g1, g2, hh⟩
            · exact Or.inl hh
            · refine Or.inr ⟨g1, g2, ?_⟩
              rw [hre s sn' h3, hre t tn' h4, e4, f4] at hh ⊢
              have hold := K' e f (by omega) e2 (by omega) hh
              have hef := b2 e f (by omega) hold
              exact (b4 e f hef.1 (by omega) hef.2.1 hef.2.2).mp hold P hP
  refine ⟨fun s h1 h2 => (GC s h1 h2).trans (b1 s h1 h2), c2, fun s t h1 h2 h3 h4 => (hun s t h1 h2 h3 h4).trans (c4 s t h1 h2 h3 h4).symm, c4, ?_, ?_⟩
  · intro s t sn tn h3 h4 h
    by_cases cs : s = n
    · subst cs
      rw [upd_at (α := Nat)] at h3
      obtain ⟨x1, x2, x3, x4, x5⟩ := hx h3
      rcases (G3 t).mp h with h | ⟨k, a, hk, han, e, h⟩ | ⟨-, h2, h5, h⟩
      · exact Or.inl h.symm
      · have h23 := hp3 h3 k a t hk han e h
        rw [U so σ t (by omega)] at h4
        have := pu_so3 hs h4
        omega
      · right
        obtain ⟨f, f1, f2, f3, f4⟩ := hel t h2 h5
        rw [upd_at (α := Nat), U el ε t h2, x3, nI_clamp (by omega)]
        exact K x _ x1 h
    · have sn' : s < n := by omega
      rw [U so σ s sn'] at h3
      obtain ⟨e, e1, e2, e3, e4⟩ := hel s sn' h3
      have s22' : s ≠ 22 := fun q => s22 (q ▸ h3)
      rcases (G1 s t sn' s22').mp h with h | ⟨h1, h2, -, h⟩
      · have tn' := (b2 s t sn' h).2.2
        rw [U so σ t tn'] at h4
        obtain ⟨f, f1, f2, f3, f4⟩ := hel t tn' h4
        rw [U el ε s sn', U el ε t tn']
        rcases b5 s t sn' tn' h3 h4 h with h | h
        · exact Or.inl h
        · right
          rw [e4] at h ⊢
          exact K e _ (by omega) h
      · right
        subst h1
        obtain ⟨x1, x2, x3, x4, x5⟩ := hx h2
        rw [upd_at (α := Nat), U el ε s sn', x3, nI_clamp (show x < 2 ^ 31 by omega)]
        rw [e4] at h ⊢
        exact K e x (by omega) h
  · intro s t sn c22 t8 t16 h
    by_cases cs : s = n
    · subst cs
      rcases (G3 t).mp h with h | ⟨k, a, hk, han, e, h⟩ | ⟨-, -, h5, -⟩
      · exact h.symm
      · obtain ⟨q1, q2, q3⟩ := par_eq k a hk han e
        have a22 : a ≠ 22 := fun q => q3 (by rw [q]; exact (pu_so4 hs (by omega)).mpr rfl)
        have := b6 a t han a22 t8 t16 h
        omega
      · have := pu_so3 hs h5; omega
    · rcases (G1 s t (by omega) c22).mp h with h | ⟨h1, -⟩
      · exact b6 s t (by omega) c22 t8 t16 h
      · omega

/-! fill, over Nat -/
theorem ix40 {a : Int32} (h0 : ¬ a < 0) (h1 : a.toInt < 40) {t : Nat} (ht : t < 40) : (((40 : Int32) * a) + nI t).toNatClampNeg = 40 * a.toNatClampNeg + t := by
  obtain ⟨i, hi, rfl⟩ := nI_of h0
  rw [nI_toInt hi] at h1
  have e : (40 : Int32) = nI 40 := rfl
  rw [e, pk_mul, nI_add, nI_clamp (by omega), nI_clamp hi]
theorem ix40v {a b : Int32} (ha : vp_in a 40) (hb : vp_in b 40) : (((40 : Int32) * a) + b).toNatClampNeg = 40 * a.toNatClampNeg + b.toNatClampNeg := by
  obtain ⟨i, hi, rfl⟩ := vp_in_of ha (by decide)
  obtain ⟨j, hj, rfl⟩ := vp_in_of hb (by decide)
  have e : (40 : Int32) = nI 40 := rfl
  rw [e, pk_mul, nI_add, nI_clamp (by omega), nI_clamp (by omega), nI_clamp (by omega)]
theorem ix3n {s j : Nat} (hs : s < 40) (hj : j < 3) : (((3 : Int32) * nI s) + nI j).toNatClampNeg = 3 * s + j := by
  have e : (3 : Int32) = nI 3 := rfl
  rw [e, pk_mul, nI_add, nI_clamp (by omega)]
/-- what comes asks -/
def cm (so el av un : Nat → Int32) (s t : Nat) : Prop :=
  (∃ k : Nat, k < 3 ∧ ¬ av (3 * s + k) < 0 ∧ ¬ un (40 * (av (3 * s + k)).toNatClampNeg + t) = 0) ∨
  (so s = 3 ∧ so t = 3 ∧ (el s = el t ∨ ((7 : Int32) < el s ∧ (7 : Int32) < el t ∧ ¬ un (40 * (el s).toNatClampNeg + (el t).toNatClampNeg) = 0)))
section CM
variable {so fi el av un : Nat → Int32} {ty : Int32} {kp : Nat → Int32} {bt : Nat → Int64} {oc : Int32} {s t : Nat}
theorem comes_step (hs : s < 40) (ht : t < 40) (ga : ∀ j, (av j).toInt < 40) (k j : Nat) (hj : j < 3) : f_X3_comes_2 (k + 1) so fi el av un ty kp bt oc (nI s) (nI t) (nI j) =
    if av (3 * s + j) < 0 ∨ un (40 * (av (3 * s + j)).toNatClampNeg + t) = 0 then f_X3_comes_2 k so fi el av un ty kp bt oc (nI s) (nI t) (nI (j + 1)) else 1 := by
  have e3 : (3 : Int32) = nI 3 := rfl
  have h3 : ¬ (3 : Int32) ≤ nI j := by rw [e3]; exact nI_ge hj (by decide)
  rw [f_X3_comes_2, if_neg h3, ix3n hs hj]
  have e1 : nI j + (1 : Int32) = nI (j + 1) := nI_1 j
  by_cases h : av (3 * s + j) < 0
  · rw [if_pos h, if_pos (Or.inl h), e1]
  · rw [if_neg h, ix40 h (ga _) ht]
    by_cases h2 : un (40 * (av (3 * s + j)).toNatClampNeg + t) = 0
    · rw [if_pos h2, if_pos (Or.inr h2), e1]
    · rw [if_neg h2, if_neg (fun q => q.elim h h2)]
theorem comes_end (hs : s < 40) (ht : t < 40) (ge : mb_EL so el) (k : Nat) : ¬ f_X3_comes_2 (k + 1) so fi el av un ty kp bt oc (nI s) (nI t) (nI 3) = 0 ↔ (so s = 3 ∧ so t = 3 ∧ (el s = el t ∨ ((7 : Int32) < el s ∧ (7 : Int32) < el t ∧ ¬ un (40 * (el s).toNatClampNeg + (el t).toNatClampNeg) = 0))) := by
  have e3 : (3 : Int32) ≤ nI 3 := Int32.le_refl _
  rw [f_X3_comes_2, if_pos e3, nI_clamp (by omega), nI_clamp (by omega)]
  have nl : ∀ x : Int32, ¬ x ≤ 7 ↔ (7 : Int32) < x := fun x => by rw [Int32.le_iff_toInt_le, Int32.lt_iff_toInt_lt]; omega
  have rf : ∀ x : Int32, f_X3_isReference so fi el av un ty kp bt oc x = 0 ↔ ¬ (7 : Int32) < x := fun x => by
    unfold f_X3_isReference
    by_cases h : x ≤ 7
    · rw [if_pos h]
      exact ⟨fun _ q => (nl x).mpr q h, fun _ => rfl⟩
    · rw [if_neg h]
      exact ⟨fun q => absurd q (by decide), fun q => absurd ((nl x).mp h) q⟩
  by_cases h1 : so s = 3
  · rw [if_pos h1]
    by_cases h2 : so t = 3
    · rw [if_pos h2]
      by_cases h4 : el s = el t
      · rw [if_pos h4]
        exact ⟨fun _ => ⟨h1, h2, Or.inl h4⟩, fun _ => by decide⟩
      · rw [if_neg h4]
        have vs : vp_in (el s) 40 := by
          have := ge.vp (x := nI s) (vp_in_nI hs (by decide)) (by rw [nI_clamp (by omega)]; exact h1)
          rw [nI_clamp (by omega)] at this
          exact this
        have vt : vp_in (el t) 40 := by
          have := ge.vp (x := nI t) (vp_in_nI ht (by decide)) (by rw [nI_clamp (by omega)]; exact h2)
          rw [nI_clamp (by omega)] at this
          exact this
        by_cases h5 : (7 : Int32) < el s
        · rw [if_neg (fun q => (rf _).mp q h5)]
          by_cases h6 : (7 : Int32) < el t
          · rw [if_neg (fun q => (rf _).mp q h6), ix40v vs vt]
            by_cases h7 : un (40 * (el s).toNatClampNeg + (el t).toNatClampNeg) = 0
            · rw [if_pos h7]
              exact ⟨fun q => absurd rfl q, fun q => absurd h7 (by rcases q.2.2 with z | z; exact absurd z h4; exact z.2.2)⟩
            · rw [if_neg h7]
              exact ⟨fun _ => ⟨h1, h2, Or.inr ⟨h5, h6, h7⟩⟩, fun _ => by decide⟩
          · rw [if_pos ((rf _).mpr h6)]
            exact ⟨fun q => absurd rfl q, fun q => absurd (q.2.2.resolve_left h4).2.1 h6⟩
        · rw [if_pos ((rf _).mpr h5)]
          exact ⟨fun q => absurd rfl q, fun q => absurd (q.2.2.resolve_left h4).1 h5⟩
    · rw [if_neg h2]
      exact ⟨fun q => absurd rfl q, fun q => absurd q.2.1 h2⟩
  · rw [if_neg h1]
    exact ⟨fun q => absurd rfl q, fun q => absurd q.1 h1⟩
theorem cm_iff (hs : s < 40) (ht : t < 40) (ga : ∀ j, (av j).toInt < 40) (ge : mb_EL so el) : ¬ f_X3_comes so fi el av un ty kp bt oc (nI s) (nI t) = 0 ↔ cm so el av un s t := by
  have e0 : (0 : Int32) = nI 0 := rfl
  unfold f_X3_comes
  rw [e0, comes_step hs ht ga 3 0 (by decide), comes_step hs ht ga 2 1 (by decide), comes_step hs ht ga 1 2 (by decide)]
  have key : ∀ j, j < 3 → ∀ (X : Int32) (Y : Prop), (¬ X = 0 ↔ Y) → (¬ (if av (3 * s + j) < 0 ∨ un (40 * (av (3 * s + j)).toNatClampNeg + t) = 0 then X else 1) = 0 ↔ ((¬ av (3 * s + j) < 0 ∧ ¬ un (40 * (av (3 * s + j)).toNatClampNeg + t) = 0) ∨ Y)) := by
    intro j _ X Y h
    by_cases c : av (3 * s + j) < 0 ∨ un (40 * (av (3 * s + j)).toNatClampNeg + t) = 0
    · rw [if_pos c, h]
      exact ⟨Or.inr, fun q => q.elim (fun z => absurd c (fun w => w.elim z.1 z.2)) id⟩
    · rw [if_neg c]
      exact ⟨fun _ => Or.inl ⟨fun z => c (Or.inl z), fun z => c (Or.inr z)⟩, fun _ => by decide⟩
  have k1 := key 0 (by decide) _ _ (key 1 (by decide) _ _ (key 2 (by decide) _ _ (comes_end (fi := fi) (ty := ty) (kp := kp) (bt := bt) (oc := oc) (av := av) (un := un) hs ht ge 0)))
  refine k1.trans ?_
  unfold cm
  constructor
  · rintro (h | h | h | h)
    · exact Or.inl ⟨0, by decide, h⟩
    · exact Or.inl ⟨1, by decide, h⟩
    · exact Or.inl ⟨2, by decide, h⟩
    · exact Or.inr h
  · rintro (⟨k, hk, h⟩ | h)
    · rcases (show k = 0 ∨ k = 1 ∨ k = 2 by omega) with rfl | rfl | rfl
      · exact Or.inl h
      · exact Or.inr (Or.inl h)
      · exact Or.inr (Or.inr (Or.inl h))
    · exact Or.inr (Or.inr (Or.inr h))
end CM
/-- how many of the first n places hold 0 -/
def mz (f : Nat → Int32) : Nat → Nat
  | 0 => 0
  | n + 1 => mz f n + (if f n = 0 then 1 else 0)
theorem mz_le (f : Nat → Int32) (n : Nat) : mz f n ≤ n := by
  induction n with
  | zero => exact Nat.le_refl _
  | succ n ih =>
    unfold mz
    split <;> omega
theorem mz_out {f : Nat → Int32} {i : Nat} {v : Int32} : ∀ {n : Nat}, n ≤ i → mz (upd f i v) n = mz f n := by
  intro n
  induction n with
  | zero => intro _; rfl
  | succ n ih =>
    intro h
    unfold mz
    rw [ih (by omega), pk_un (by omega)]
theorem mz_set {f : Nat → Int32} {i : Nat} {v : Int32} (h0 : f i = 0) (hv : ¬ v = 0) : ∀ {n : Nat}, i < n → mz (upd f i v) n + 1 = mz f n := by
  intro n
  induction n with
  | zero => intro h; omega
  | succ n ih =>
    intro h
    unfold mz
    by_cases e : i = n
    · subst e
      rw [mz_out (Nat.le_refl _), pk_us, if_neg hv, if_pos h0]
    · rw [pk_un (fun q => e q.symm)]
      have := ih (by omega)
      omega
theorem fl_in_mk {n s t : Nat} (h : 8 ≤ s ∧ s < n ∧ 8 ≤ t ∧ t < n) (ht : t < 40) : fl_in n (40 * s + t) := by
  unfold fl_in
  have e1 : (40 * s + t) / 40 = s := by omega
  have e2 : (40 * s + t) % 40 = t := by omega
  rw [e1, e2]
  exact h
/-- the relation so far says nothing that the rules don't -/
def fsound (n : Nat) (so el av un : Nat → Int32) : Prop := ∀ P : Nat → Nat → Prop, rc_ok n so el av P → ∀ i, fl_in n i → ¬ un i = 0 → P (i / 40) (i % 40)
/-- what holds while fill runs: outside nothing has changed, inside 0 or 1, sound, and the start's ones stand -/
def fb (n : Nat) (so el av un0 un : Nat → Int32) : Prop :=
  (∀ i, ¬ fl_in n i → un i = un0 i) ∧ (∀ i, fl_in n i → un i = 0 ∨ un i = 1) ∧ fsound n so el av un ∧ ∀ i, fl_in n i → (i / 40 = i % 40 ∨ so (i / 40) = 4) → un i = 1
theorem fb_set {n : Nat} {so el av un0 un : Nat → Int32} (hn : n ≤ 40) (ge : mb_EL so el) (h0 : ∀ i, ¬ fl_in n i → un0 i = 0) (h : fb n so el av un0 un) {s t : Nat} (hi : 8 ≤ s ∧ s < n ∧ 8 ≤ t ∧ t < n) (hc : cm so el av un s t) : fb n so el av un0 (upd un (40 * s + t) 1) := by
  obtain ⟨a, b, c, d⟩ := h
  have hin := fl_in_mk hi (by omega)
  refine ⟨fun i q => ?_, fun i q => ?_, fun P hP i q hne => ?_, fun i q z => ?_⟩
  · rw [pk_un (fun e => q (by rw [e]; exact hin))]
    exact a i q
  · by_cases e : i = 40 * s + t
    · rw [e, pk_us]; exact Or.inr rfl
    · rw [pk_un e]; exact b i q
  · by_cases e : i = 40 * s + t
    · have e1 : i / 40 = s := by omega
      have e2 : i % 40 = t := by omega
      rw [e1, e2]
      have zero : ∀ j, ¬ un j = 0 → fl_in n j := fun j hj => Classical.byContradiction (fun q => hj (by rw [a j q]; exact h0 j q))
      refine hP s t hi.1 hi.2.1 hi.2.2.1 hi.2.2.2 ?_
      rcases hc with ⟨k, hk, h1, h2⟩ | ⟨h1, h2, h3⟩
      · have := c P hP _ (zero _ h2) h2
        have e3 : (40 * (av (3 * s + k)).toNatClampNeg + t) / 40 = (av (3 * s + k)).toNatClampNeg := by omega
        have e4 : (40 * (av (3 * s + k)).toNatClampNeg + t) % 40 = t := by omega
        rw [e3, e4] at this
        exact Or.inr (Or.inr (Or.inl ⟨k, hk, h1, this⟩))
      · refine Or.inr (Or.inr (Or.inr ⟨h1, h2, ?_⟩))
        rcases h3 with h3 | ⟨h4, h5, h6⟩
        · exact Or.inl h3
        · refine Or.inr ⟨h4, h5, ?_⟩
          have hz := zero _ h6
          have := c P hP _ hz h6
          have hlt : (el t).toNatClampNeg < 40 := by
            have v := ge.vp (x := nI t) (vp_in_nI (by omega) (by decide)) (by rw [nI_clamp (by omega)]; exact h2)
            rw [nI_clamp (by omega)] at v
            exact Nat.not_le.mp fun q => v (Or.inr q)
          have e3 : (40 * (el s).toNatClampNeg + (el t).toNatClampNeg) / 40 = (el s).toNatClampNeg := by omega
          have e4 : (40 * (el s).toNatClampNeg + (el t).toNatClampNeg) % 40 = (el t).toNatClampNeg := by omega
          rw [e3, e4] at this
          exact this
    · rw [pk_un e] at hne
      exact c P hP i q hne
  · by_cases e : i = 40 * s + t
    · rw [e, pk_us]
    · rw [pk_un e]; exact d i q z

theorem fill_end {n : Nat} {so el av un un2 : Nat → Int32} {th : Int32} {fi : Nat → Int32} {ty : Int32} {kp : Nat → Int32} {bt : Nat → Int64} {oc : Int32} (hn : ty.toNatClampNeg = n) (hn4 : n ≤ 40) (h : fb n so el av un un2) (hc : ∀ s t : Nat, 8 ≤ s ∧ s < n ∧ 8 ≤ t ∧ t < n → ¬ un2 (40 * s + t) = 0 ∨ ¬ cm so el av un2 s t) : un2 = f_X3_fill th so fi el av un ty kp bt oc := by
  obtain ⟨a, b, c, d⟩ := h
  subst hn
  have hok : rc_ok ty.toNatClampNeg so el av (fun s t => ¬ un2 (40 * s + t) = 0) := by
    intro s t h1 h2 h3 h4 hr
    have hi : 8 ≤ s ∧ s < ty.toNatClampNeg ∧ 8 ≤ t ∧ t < ty.toNatClampNeg := ⟨h1, h2, h3, h4⟩
    have hin := fl_in_mk hi (by omega)
    have e1 : (40 * s + t) / 40 = s := by omega
    have e2 : (40 * s + t) % 40 = t := by omega
    have one : (s = t ∨ so s = 4) → ¬ un2 (40 * s + t) = 0 := fun q => by
      rw [d _ hin (by rw [e1, e2]; exact q)]
      decide
    rcases hr with q | q | q | q
    · exact one (Or.inl q)
    · exact one (Or.inr q)
    · exact (hc s t hi).elim id (fun z => absurd (Or.inl q) z)
    · exact (hc s t hi).elim id (fun z => absurd (Or.inr q) z)
  funext i
  unfold f_X3_fill
  cases Classical.propDecidable (fl_in ty.toNatClampNeg i) with
  | isFalse h => exact a i h
  | isTrue h =>
    cases Classical.propDecidable (rc ty.toNatClampNeg so el av (i / 40) (i % 40)) with
    | isFalse g =>
      exact (b i h).elim id (fun z => absurd (fun P hP => c P hP i h (by rw [z]; decide)) g)
    | isTrue g =>
      have := g _ hok
      have e : 40 * (i / 40) + i % 40 = i := Nat.div_add_mod i 40
      simp only [e] at this
      exact (b i h).resolve_left this
/-! the loops of fill -/
def f_one (mo : Int32) : Nat := if mo = 0 then 0 else 1
def f67 (n : Nat) (so el av un0 : Nat → Int32) (k : Nat) (mo : Int32) (un2 : Nat → Int32) : Prop :=
  fb n so el av un0 un2 ∧ mz un2 1600 + f_one mo < k ∧ (mo = 0 → ∀ s t : Nat, 8 ≤ s ∧ s < n ∧ 8 ≤ t ∧ t < n → ¬ un2 (40 * s + t) = 0 ∨ ¬ cm so el av un2 s t)
def f87 (n : Nat) (so el av un0 : Nat → Int32) (K k2 k3 : Nat) (mo ss tt : Int32) (un2 : Nat → Int32) : Prop :=
  fb n so el av un0 un2 ∧ mz un2 1600 + f_one mo < K ∧ (8 ≤ ss.toInt ∧ ss.toInt < n ∧ 40 < ss.toInt + k2) ∧ (8 ≤ tt.toInt ∧ tt.toInt ≤ n ∧ 40 < tt.toInt + k3) ∧
  (mo = 0 → ∀ s t : Nat, 8 ≤ s ∧ s < n ∧ 8 ≤ t ∧ t < n → ((s : Int) < ss.toInt ∨ ((s : Int) = ss.toInt ∧ (t : Int) < tt.toInt)) → ¬ un2 (40 * s + t) = 0 ∨ ¬ cm so el av un2 s t)
def f76 (n : Nat) (so el av un0 : Nat → Int32) (K k2 : Nat) (mo ss : Int32) (un2 : Nat → Int32) : Prop :=
  fb n so el av un0 un2 ∧ mz un2 1600 + f_one mo < K ∧ (8 ≤ ss.toInt ∧ (ss.toInt ≤ n ∨ ss.toInt = 8) ∧ 40 < ss.toInt + k2) ∧
  (mo = 0 → ∀ s t : Nat, 8 ≤ s ∧ s < n ∧ 8 ≤ t ∧ t < n → (s : Int) < ss.toInt → ¬ un2 (40 * s + t) = 0 ∨ ¬ cm so el av un2 s t)
section FL
variable {n : Nat} {so el av un0 un2 : Nat → Int32} {ty : Int32} {K k k2 k3 : Nat} {mo ss tt : Int32}
theorem f_tyI (gz : 0 ≤ ty.toInt) : (ty.toNatClampNeg : Int) = ty.toInt := by
  show (ty.toInt.toNat : Int) = _
  omega
theorem f67_76 (h : f67 n so el av un0 (k + 1) mo un2) (h0 : ¬ mo = 0) : f76 n so el av un0 k 33 0 8 un2 := by
  obtain ⟨a, b, -⟩ := h
  have e8 : (8 : Int32).toInt = 8 := rfl
  refine ⟨a, ?_, ⟨by rw [e8]; omega, Or.inr e8, by rw [e8]; omega⟩, fun _ s t hi hlt => ?_⟩
  · unfold f_one at b ⊢
    rw [if_neg h0] at b
    rw [if_pos rfl]
    omega
  · rw [e8] at hlt
    omega
theorem f76_67 (h : f76 n so el av un0 k k2 mo ss un2) (hn : ty.toInt = n) (hx : ty ≤ ss) : f67 n so el av un0 k mo un2 := by
  obtain ⟨a, b, c, d⟩ := h
  rw [Int32.le_iff_toInt_le] at hx
  exact ⟨a, b, fun q s t hi => d q s t hi (by omega)⟩
theorem f76_87 (h : f76 n so el av un0 K (k2 + 1) mo ss un2) (hn : ty.toInt = n) (hn2 : n ≤ 40) (hx : ¬ ty ≤ ss) : f87 n so el av un0 K (k2 + 1) 33 mo ss 8 un2 := by
  obtain ⟨a, b, c, d⟩ := h
  have e8 : (8 : Int32).toInt = 8 := rfl
  rw [Int32.le_iff_toInt_le] at hx
  refine ⟨a, b, ⟨c.1, by omega, c.2.2⟩, ⟨by rw [e8]; omega, by rw [e8]; omega, by rw [e8]; omega⟩, fun q s t hi hlt => d q s t hi ?_⟩
  rw [e8] at hlt
  omega
theorem f87_76 (h : f87 n so el av un0 K (k2 + 1) k3 mo ss tt un2) (hn : ty.toInt = n) (hn2 : n ≤ 40) (hx : ty ≤ tt) : f76 n so el av un0 K k2 mo (ss + 1) un2 := by
  obtain ⟨a, b, c, d, e⟩ := h
  rw [Int32.le_iff_toInt_le] at hx
  have ei : (ss + 1).toInt = ss.toInt + 1 := mb_inc (by omega) (by omega)
  refine ⟨a, b, ⟨by rw [ei]; omega, Or.inl (by rw [ei]; omega), by rw [ei]; omega⟩, fun q s t hi hlt => e q s t hi ?_⟩
  rw [ei] at hlt
  omega
theorem f87_in (h : f87 n so el av un0 K k2 k3 mo ss tt un2) (hn : ty.toInt = n) (hn2 : n ≤ 40) (hx : ¬ ty ≤ tt) : ∃ s t : Nat, ss = nI s ∧ tt = nI t ∧ 8 ≤ s ∧ s < n ∧ 8 ≤ t ∧ t < n := by
  obtain ⟨-, -, c, d, -⟩ := h
  rw [Int32.le_iff_toInt_le] at hx
  obtain ⟨s, hs, rfl⟩ := nI_of (x := ss) (by rw [Int32.lt_iff_toInt_lt, mb_i0]; omega)
  obtain ⟨t, ht, rfl⟩ := nI_of (x := tt) (by rw [Int32.lt_iff_toInt_lt, mb_i0]; omega)
  rw [nI_toInt hs] at c
  rw [nI_toInt ht] at d hx
  exact ⟨s, t, rfl, rfl, by omega⟩
theorem f87_v (h : f87 n so el av un0 K k2 k3 mo ss tt un2) (hn : ty.toInt = n) (hn2 : n ≤ 40) (hx : ¬ ty ≤ tt) : vp_in ss 40 ∧ vp_in tt 40 := by
  obtain ⟨s, t, rfl, rfl, h1⟩ := f87_in h hn hn2 hx
  exact ⟨vp_in_nI (by omega) (by decide), vp_in_nI (by omega) (by decide)⟩
theorem f87_keep (h : f87 n so el av un0 K k2 (k3 + 1) mo ss tt un2) (hn : ty.toInt = n) (hn2 : n ≤ 40) (hx : ¬ ty ≤ tt) (hk : ∀ s t : Nat, ss = nI s → tt = nI t → 8 ≤ s ∧ s < n ∧ 8 ≤ t ∧ t < n → ¬ un2 (40 * s + t) = 0 ∨ ¬ cm so el av un2 s t) : f87 n so el av un0 K k2 k3 mo ss (tt + 1) un2 := by
  obtain ⟨s0, t0, es, et, h1⟩ := f87_in h hn hn2 hx
  obtain ⟨a, b, c, d, e⟩ := h
  rw [Int32.le_iff_toInt_le] at hx
  have ei : (tt + 1).toInt = tt.toInt + 1 := mb_inc (by omega) (by omega)
  refine ⟨a, b, c, ⟨by rw [ei]; omega, by rw [ei]; omega, by rw [ei]; omega⟩, fun q s t hi hlt => ?_⟩
  rw [ei] at hlt
  by_cases hs : (s : Int) = ss.toInt ∧ (t : Int) = tt.toInt
  · refine hk s t ?_ ?_ hi
    · exact Int32.toInt_inj.mp (by rw [nI_toInt (by omega)]; exact hs.1.symm)
    · exact Int32.toInt_inj.mp (by rw [nI_toInt (by omega)]; exact hs.2.symm)
  · exact e q s t hi (by omega)
theorem f87_s1 (h : f87 n so el av un0 K k2 (k3 + 1) mo ss tt un2) (hn : ty.toInt = n) (hn2 : n ≤ 40) (hx : ¬ ty ≤ tt) (hc : ¬ un2 (((40 : Int32) * ss) + tt).toNatClampNeg = 0) : f87 n so el av un0 K k2 k3 mo ss (tt + 1) un2 := by
  refine f87_keep h hn hn2 hx (fun s t es et hi => Or.inl ?_)
  rw [es, et, ix40v (vp_in_nI (by omega) (by decide)) (vp_in_nI (by omega) (by decide)), nI_clamp (by omega), nI_clamp (by omega)] at hc
  exact hc
theorem f87_s2 {fi kp : Nat → Int32} {bt : Nat → Int64} {oc : Int32} (ga : ∀ j, (av j).toInt < 40) (ge : mb_EL so el) (h : f87 n so el av un0 K k2 (k3 + 1) mo ss tt un2) (hn : ty.toInt = n) (hn2 : n ≤ 40) (hx : ¬ ty ≤ tt) (hc : f_X3_comes so fi el av un2 ty kp bt oc ss tt = 0) : f87 n so el av un0 K k2 k3 mo ss (tt + 1) un2 := by
  refine f87_keep h hn hn2 hx (fun s t es et hi => Or.inr (fun q => ?_))
  rw [es, et] at hc
  exact (cm_iff (by omega) (by omega) ga ge).mpr q hc
theorem f87_set {fi kp : Nat → Int32} {bt : Nat → Int64} {oc : Int32} (ga : ∀ j, (av j).toInt < 40) (ge : mb_EL so el) (g0 : ∀ i, ¬ fl_in n i → un0 i = 0) (h : f87 n so el av un0 K k2 (k3 + 1) mo ss tt un2) (hn : ty.toInt = n) (hn2 : n ≤ 40) (hx : ¬ ty ≤ tt) (h0 : un2 (((40 : Int32) * ss) + tt).toNatClampNeg = 0) (hc : ¬ f_X3_comes so fi el av un2 ty kp bt oc ss tt = 0) :
    f87 n so el av un0 K k2 k3 1 ss (tt + 1) (upd un2 (((40 : Int32) * ss) + tt).toNatClampNeg (vp_nar .boolean (1 : Int32))) := by
  obtain ⟨s, t, es, et, h1⟩ := f87_in h hn hn2 hx
  have e1 : vp_nar .boolean (1 : Int32) = 1 := rfl
  have ix : (((40 : Int32) * ss) + tt).toNatClampNeg = 40 * s + t := by
    rw [es, et, ix40v (vp_in_nI (by omega) (by decide)) (vp_in_nI (by omega) (by decide)), nI_clamp (by omega), nI_clamp (by omega)]
  have hcm : cm so el av un2 s t := by
    rw [es, et] at hc
    exact (cm_iff (by omega) (by omega) ga ge).mp hc
  obtain ⟨a, b, c, d, e⟩ := h
  rw [Int32.le_iff_toInt_le] at hx
  have ei : (tt + 1).toInt = tt.toInt + 1 := mb_inc (by omega) (by omega)
  rw [ix] at h0
  rw [ix, e1]
  refine ⟨fb_set hn2 ge g0 a h1 hcm, ?_, c, ⟨by rw [ei]; omega, by rw [ei]; omega, by rw [ei]; omega⟩, fun q => absurd q (by decide)⟩
  have := mz_set h0 (v := 1) (by decide) (n := 1600) (by omega)
  have e2 : f_one 1 = 1 := rfl
  rw [e2]
  omega
/-! the two loops that begin it -/
def fini (so : Nat → Int32) (i : Nat) : Int32 := if i / 40 = i % 40 ∨ so (i / 40) = 4 then 1 else 0
def g14 (n : Nat) (so un0 : Nat → Int32) (k2 k3 : Nat) (ss tt : Int32) (un2 : Nat → Int32) : Prop :=
  (8 ≤ ss.toInt ∧ ss.toInt < n ∧ 40 < ss.toInt + k2) ∧ (8 ≤ tt.toInt ∧ tt.toInt ≤ n ∧ 40 < tt.toInt + k3) ∧ (∀ i, ¬ fl_in n i → un2 i = un0 i) ∧
  ∀ i : Nat, fl_in n i → (((i / 40 : Nat) : Int) < ss.toInt ∨ (((i / 40 : Nat) : Int) = ss.toInt ∧ ((i % 40 : Nat) : Int) < tt.toInt)) → un2 i = fini so i
def g3 (n : Nat) (so un0 : Nat → Int32) (k2 : Nat) (ss : Int32) (un2 : Nat → Int32) : Prop :=
  (8 ≤ ss.toInt ∧ (ss.toInt ≤ n ∨ ss.toInt = 8) ∧ 40 < ss.toInt + k2) ∧ (∀ i, ¬ fl_in n i → un2 i = un0 i) ∧ ∀ i : Nat, fl_in n i → ((i / 40 : Nat) : Int) < ss.toInt → un2 i = fini so i
theorem g3_0 : g3 n so un0 33 8 un0 := by
  have e8 : (8 : Int32).toInt = 8 := rfl
  refine ⟨⟨by rw [e8]; omega, Or.inr e8, by rw [e8]; omega⟩, fun _ _ => rfl, fun i hi hlt => ?_⟩
  rw [e8] at hlt
  unfold fl_in at hi
  omega
theorem g3_14 (h : g3 n so un0 (k2 + 1) ss un2) (hn : ty.toInt = n) (hn2 : n ≤ 40) (hx : ¬ ty ≤ ss) : g14 n so un0 (k2 + 1) 33 ss 8 un2 := by
  obtain ⟨a, b, c⟩ := h
  have e8 : (8 : Int32).toInt = 8 := rfl
  rw [Int32.le_iff_toInt_le] at hx
  refine ⟨⟨a.1, by omega, a.2.2⟩, ⟨by rw [e8]; omega, by rw [e8]; omega, by rw [e8]; omega⟩, b, fun i hi hlt => c i hi ?_⟩
  rw [e8] at hlt
  unfold fl_in at hi
  omega
theorem g14_3 (h : g14 n so un0 (k2 + 1) k3 ss tt un2) (hn : ty.toInt = n) (hn2 : n ≤ 40) (hx : ty ≤ tt) : g3 n so un0 k2 (ss + 1) un2 := by
  obtain ⟨a, b, c, d⟩ := h
  rw [Int32.le_iff_toInt_le] at hx
  have ei : (ss + 1).toInt = ss.toInt + 1 := mb_inc (by omega) (by omega)
  refine ⟨⟨by rw [ei]; omega, Or.inl (by rw [ei]; omega), by rw [ei]; omega⟩, c, fun i hi hlt => d i hi ?_⟩
  rw [ei] at hlt
  unfold fl_in at hi
  omega
theorem g14_v (h : g14 n so un0 k2 k3 ss tt un2) (hn : ty.toInt = n) (hn2 : n ≤ 40) (hx : ¬ ty ≤ tt) : vp_in ss 40 ∧ vp_in tt 40 := by
  obtain ⟨a, b, -⟩ := h
  rw [Int32.le_iff_toInt_le] at hx
  exact ⟨vp_in_iff.mpr (by omega), vp_in_iff.mpr (by omega)⟩
theorem g14_set {v : Int32} (h : g14 n so un0 k2 (k3 + 1) ss tt un2) (hn : ty.toInt = n) (hn2 : n ≤ 40) (hx : ¬ ty ≤ tt) (hv : (ss = tt ∨ so ss.toNatClampNeg = 4) ∧ v = 1 ∨ ¬ (ss = tt ∨ so ss.toNatClampNeg = 4) ∧ v = 0) : g14 n so un0 k2 k3 ss (tt + 1) (upd un2 (((40 : Int32) * ss) + tt).toNatClampNeg (vp_nar .boolean v)) := by
  have hvv := g14_v h hn hn2 hx
  obtain ⟨a, b, c, d⟩ := h
  rw [Int32.le_iff_toInt_le] at hx
  obtain ⟨s, hs, rfl⟩ := vp_in_of hvv.1 (by decide)
  obtain ⟨t, ht, rfl⟩ := vp_in_of hvv.2 (by decide)
  rw [nI_toInt (by omega)] at a b hx
  have e1 : vp_nar .boolean v = v := by rcases hv with ⟨-, q⟩ | ⟨-, q⟩ <;> (rw [q]; rfl)
  have ix : (((40 : Int32) * nI s) + nI t).toNatClampNeg = 40 * s + t := by
    rw [ix40v hvv.1 hvv.2, nI_clamp (by omega), nI_clamp (by omega)]
  have ei : (nI t + 1).toInt = (t : Int) + 1 := by rw [mb_inc (by rw [nI_toInt (by omega)]; omega) (by rw [nI_toInt (by omega)]; omega), nI_toInt (by omega)]
  rw [ix, e1]
  have hin : fl_in n (40 * s + t) := fl_in_mk (by omega) (by omega)
  refine ⟨by rw [nI_toInt (by omega)]; exact a, by rw [ei]; omega, fun i q => ?_, fun i hi hlt => ?_⟩
  · rw [pk_un (fun z => q (by rw [z]; exact hin))]
    exact c i q
  · by_cases z : i = 40 * s + t
    · rw [z, pk_us]
      have e3 : (40 * s + t) / 40 = s := by omega
      have e4 : (40 * s + t) % 40 = t := by omega
      unfold fini
      rw [e3, e4]
      have heq : (nI s = nI t ∨ so (nI s).toNatClampNeg = 4) ↔ (s = t ∨ so s = 4) := by
        rw [nI_eq (by omega) (by omega), nI_clamp (by omega)]
      rcases hv with ⟨q, w⟩ | ⟨q, w⟩
      · rw [if_pos (heq.mp q), w]
      · rw [if_neg (fun y => q (heq.mpr y)), w]
    · rw [pk_un z]
      refine d i hi ?_
      rw [nI_toInt (by omega)] at hlt ⊢
      rw [ei] at hlt
      unfold fl_in at hi
      rw [nI_toInt (by omega)]
      omega
theorem g3_67 (h : g3 n so un0 k2 ss un2) (hn : ty.toInt = n) (hn2 : n ≤ 40) (hx : ty ≤ ss) : f67 n so el av un0 1700 1 un2 := by
  obtain ⟨a, b, c⟩ := h
  rw [Int32.le_iff_toInt_le] at hx
  have row : ∀ i, fl_in n i → un2 i = fini so i := fun i hi => c i hi (by unfold fl_in at hi; omega)
  refine ⟨⟨b, fun i hi => ?_, fun P hP i hi hne => ?_, fun i hi q => ?_⟩, ?_, fun q => absurd q (by decide)⟩
  · rw [row i hi]
    unfold fini
    split
    · exact Or.inr rfl
    · exact Or.inl rfl
  · rw [row i hi] at hne
    unfold fini at hne
    split at hne
    · rename_i q
      have g := hi
      unfold fl_in at g
      exact hP _ _ g.1 g.2.1 g.2.2.1 g.2.2.2 (q.elim Or.inl (fun z => Or.inr (Or.inl z)))
    · exact absurd rfl hne
  · rw [row i hi]
    unfold fini
    rw [if_pos q]
  · have := mz_le un2 1600
    have e2 : f_one 1 = 1 := rfl
    omega
end FL

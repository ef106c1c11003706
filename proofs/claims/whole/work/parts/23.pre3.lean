theorem mb_inr {v lo hi : Int32} (h : ¬ f_X3_in v lo hi = 0) : ¬ v < lo ∧ ¬ hi < v := by
  unfold f_X3_in at h
  split at h
  · exact absurd rfl h
  · split at h
    · exact absurd rfl h
    · rename_i h1 h2
      exact ⟨h1, h2⟩
theorem mb_dec {x : Int32} (h0 : -1000 ≤ x.toInt) (h1 : x.toInt ≤ 100000) : (x - 1).toInt = x.toInt - 1 := by
  rw [Int32.toInt_sub]
  have e : (1 : Int32).toInt = 1 := rfl
  rw [e]
  exact Int.bmod_eq_of_le (by omega) (by omega)
theorem mb_isr {so fi el av un : Nat → Int32} {ty : Int32} {kp : Nat → Int32} {bt : Nat → Int64} {oc x : Int32} (gl : -1000 ≤ ty.toInt) (gz : ty.toInt ≤ 40) (h : ¬ f_X3_isType so fi el av un ty kp bt oc x = 0) : 0 ≤ x.toInt ∧ x.toInt < ty.toInt := by
  unfold f_X3_isType at h
  obtain ⟨h1, h2⟩ := mb_inr h
  rw [Int32.lt_iff_toInt_lt, mb_i0] at h1
  rw [Int32.lt_iff_toInt_lt, mb_dec gl (by omega)] at h2
  omega
theorem mb_ist {so fi el av un : Nat → Int32} {ty : Int32} {kp : Nat → Int32} {bt : Nat → Int64} {oc x : Int32} (gz : 0 ≤ ty.toInt ∧ ty.toInt ≤ 40) (h : ¬ f_X3_isType so fi el av un ty kp bt oc x = 0) : vp_in x 40 := by
  have h := mb_isr (by omega) gz.2 h
  rw [vp_in_iff]
  omega
theorem mb_iso1 {so fi el av un : Nat → Int32} {ty : Int32} {kp : Nat → Int32} {bt : Nat → Int64} {oc x : Int32} (go : 0 ≤ oc.toInt ∧ oc.toInt ≤ 60) (h : ¬ f_X3_isObject so fi el av un ty kp bt oc x = 0) : ¬ x < 0 ∧ ¬ oc ≤ x := by
  unfold f_X3_isObject at h
  obtain ⟨h1, h2⟩ := mb_inr h
  refine ⟨h1, ?_⟩
  rw [Int32.lt_iff_toInt_lt, mb_dec (by omega) (by omega)] at h2
  rw [Int32.le_iff_toInt_le]
  omega
theorem mb_iso {so fi el av un : Nat → Int32} {ty : Int32} {kp : Nat → Int32} {bt : Nat → Int64} {oc x : Int32} (go : 0 ≤ oc.toInt ∧ oc.toInt ≤ 60) (h : ¬ f_X3_isObject so fi el av un ty kp bt oc x = 0) : vp_in x 60 := by
  obtain ⟨h1, h2⟩ := mb_iso1 go h
  rw [Int32.lt_iff_toInt_lt, mb_i0] at h1
  rw [Int32.le_iff_toInt_le] at h2
  rw [vp_in_iff]
  omega
theorem mb_kown {so fi el av un : Nat → Int32} {ty : Int32} {kp : Nat → Int32} {bt : Nat → Int64} {oc x : Int32} (go : 0 ≤ oc.toInt ∧ oc.toInt ≤ 60) (gt : ∀ x : Int32, ¬ x < 0 → ¬ oc ≤ x → vp_in (kp x.toNatClampNeg) 40) (h : ¬ f_X3_isObject so fi el av un ty kp bt oc x = 0) : vp_in (kp x.toNatClampNeg) 40 := gt x (mb_iso1 go h).1 (mb_iso1 go h).2
theorem mb_tyfull {ty : Int32} (gz : 0 ≤ ty.toInt ∧ ty.toInt ≤ 40) (h : ¬ ty = (40 : Int32)) : vp_in ty 40 := by
  have e : (40 : Int32).toInt = 40 := rfl
  have hne : ty.toInt ≠ 40 := fun q => h (Int32.toInt_inj.mp (by rw [q, e]))
  rw [vp_in_iff]
  omega
theorem mb_ocfull {oc : Int32} (go : 0 ≤ oc.toInt ∧ oc.toInt ≤ 60) (h : ¬ oc = (60 : Int32)) : vp_in oc 60 := by
  have e : (60 : Int32).toInt = 60 := rfl
  have hne : oc.toInt ≠ 60 := fun q => h (Int32.toInt_inj.mp (by rw [q, e]))
  rw [vp_in_iff]
  omega
theorem mb_exf {x : Int32} {P : Prop} (h : x = (-1 : Int32)) (h0 : ¬ x < 0) : P := by
  subst h
  exact absurd (by decide) h0
theorem mb_t40 {x : Int32} (h : vp_in x 40) : x.toInt < 40 := (vp_in_iff.mp h).2
theorem mb_or40 {x : Int32} (h : x = -1 ∨ vp_in x 40) (h0 : ¬ x < 0) : vp_in x 40 := by
  rcases h with h | h
  · exact mb_exf h h0
  · exact h
theorem mb_or40t {x : Int32} (h : x = -1 ∨ vp_in x 40) : x.toInt < 40 := by
  rcases h with h | h
  · subst h; decide
  · exact mb_t40 h
theorem mb_m1 {x : Int32} (h : x = (-1 : Int32)) : x.toInt < 40 := by subst h; decide
theorem mb_ctr8 {tt ty : Int32} {k : Nat} (hc : 8 ≤ tt.toInt ∧ tt.toInt ≤ 40 ∧ 40 < tt.toInt + k) (gz : 0 ≤ ty.toInt ∧ ty.toInt ≤ 40) (h : ¬ ty ≤ tt) : vp_in tt 40 := by
  rw [vp_in_iff]
  rw [Int32.le_iff_toInt_le] at h
  omega
theorem mb_ctr8_step {tt ty : Int32} {k : Nat} (hc : 8 ≤ tt.toInt ∧ tt.toInt ≤ 40 ∧ 40 < tt.toInt + (k + 1 : Nat)) (gz : 0 ≤ ty.toInt ∧ ty.toInt ≤ 40) (h : ¬ ty ≤ tt) : 8 ≤ (tt + 1).toInt ∧ (tt + 1).toInt ≤ 40 ∧ 40 < (tt + 1).toInt + k := by
  rw [Int32.le_iff_toInt_le] at h
  rw [mb_inc (by omega) (by omega)]
  omega
theorem mb_ctr9 {tt ty : Int32} {k : Nat} (hc : 0 ≤ tt.toInt ∧ tt.toInt ≤ 40 ∧ 40 < tt.toInt + k) (gz : 0 ≤ ty.toInt ∧ ty.toInt ≤ 40) (h : ¬ ty ≤ tt) : vp_in tt 40 := by
  rw [vp_in_iff]
  rw [Int32.le_iff_toInt_le] at h
  omega
theorem mb_ctr9_step {tt ty : Int32} {k : Nat} (hc : 0 ≤ tt.toInt ∧ tt.toInt ≤ 40 ∧ 40 < tt.toInt + (k + 1 : Nat)) (gz : 0 ≤ ty.toInt ∧ ty.toInt ≤ 40) (h : ¬ ty ≤ tt) : 0 ≤ (tt + 1).toInt ∧ (tt + 1).toInt ≤ 40 ∧ 40 < (tt + 1).toInt + k := by
  rw [Int32.le_iff_toInt_le] at h
  rw [mb_inc (by omega) (by omega)]
  omega
theorem fl_add {th : Int32} {so fi el av un : Nat → Int32} {ty : Int32} {kp : Nat → Int32} {bt : Nat → Int64} {oc : Int32} {s f e a b c : Int32} (gf : fl_ok so el av un ty) (g : vp_in ty 40) (hs : ¬ s = 3 ∨ (0 ≤ e.toInt ∧ e.toInt < ty.toInt)) (ha : a.toInt < 40) (hb : b.toInt < 40) (hc : c.toInt < 40) :
    fl_ok (f_X3_add th so fi el av un ty kp bt oc s f e a b c).2.1 (f_X3_add th so fi el av un ty kp bt oc s f e a b c).2.2.2.1 (f_X3_add th so fi el av un ty kp bt oc s f e a b c).2.2.2.2.1 un (f_X3_add th so fi el av un ty kp bt oc s f e a b c).2.2.2.2.2 := by
  obtain ⟨h1, h2, h3, h4, h5⟩ := gf
  obtain ⟨n, hn, rfl⟩ := vp_in_of g (by decide)
  have e3 : (3 : Int32) = nI 3 := rfl
  have e1 : (1 : Int32) = nI 1 := rfl
  have e2 : (2 : Int32) = nI 2 := rfl
  show fl_ok (upd so (nI n).toNatClampNeg s) (upd el (nI n).toNatClampNeg e) (upd (upd (upd av ((3 : Int32) * nI n).toNatClampNeg a) (((3 : Int32) * nI n) + (1 : Int32)).toNatClampNeg b) (((3 : Int32) * nI n) + (2 : Int32)).toNatClampNeg c) un (nI n + (1 : Int32))
  rw [nI_clamp (by omega), e1, nI_add]
  refine ⟨by rw [nI_toInt (by omega)]; omega, by rw [nI_toInt (by omega)]; omega, fun j => ?_, fun x hx h => ?_, fun i hi => h5 i (fun q => hi ?_)⟩
  · unfold upd
    split
    · exact hc
    · split
      · exact hb
      · split
        · exact ha
        · exact h3 j
  · obtain ⟨i, hi, rfl⟩ := vp_in_of hx (by decide)
    rw [nI_clamp (by omega)] at h ⊢
    by_cases hin : i = n
    · subst hin
      rw [pk_us] at h ⊢
      rcases hs with q | q
      · exact absurd h q
      · rw [nI_toInt (by omega)] at q ⊢
        exact q
    · rw [pk_un hin] at h ⊢
      have := h4 (nI i) hx (by rw [nI_clamp (by omega)]; exact h)
      rw [nI_clamp (by omega)] at this
      exact this
  · rw [nI_clamp (by omega)] at q ⊢
    unfold fl_in at q ⊢
    omega
theorem fl_addz {th : Int32} {so fi el av un : Nat → Int32} {ty : Int32} {kp : Nat → Int32} {bt : Nat → Int64} {oc : Int32} {s f e a b c : Int32} {r ty2 : Int32} {so2 fi2 el2 av2 : Nat → Int32} (hz : (r, so2, fi2, el2, av2, ty2) = f_X3_add th so fi el av un ty kp bt oc s f e a b c) (gf : fl_ok so el av un ty) (g : vp_in ty 40) (hs : ¬ s = 3 ∨ (0 ≤ e.toInt ∧ e.toInt < ty.toInt)) (ha : a.toInt < 40) (hb : b.toInt < 40) (hc : c.toInt < 40) : fl_ok so2 el2 av2 un ty2 := by
  have h := fl_add (th := th) (fi := fi) (kp := kp) (bt := bt) (oc := oc) (f := f) gf g hs ha hb hc
  rw [← hz] at h
  exact h

/-! What the reference's fill leaves: the least relation that its rules close -/
/-- a relation that the rules close, over the types 8 .. n - 1 -/
def rc_ok (n : Nat) (so el av : Nat → Int32) (P : Nat → Nat → Prop) : Prop :=
  ∀ s t : Nat, 8 ≤ s → s < n → 8 ≤ t → t < n →
    (s = t ∨ so s = 4 ∨ (∃ k : Nat, k < 3 ∧ ¬ av (3 * s + k) < 0 ∧ P (av (3 * s + k)).toNatClampNeg t) ∨
      (so s = 3 ∧ so t = 3 ∧ (el s = el t ∨ ((7 : Int32) < el s ∧ (7 : Int32) < el t ∧ P (el s).toNatClampNeg (el t).toNatClampNeg)))) → P s t
def rc (n : Nat) (so el av : Nat → Int32) (s t : Nat) : Prop := ∀ P : Nat → Nat → Prop, rc_ok n so el av P → P s t
def fl_in (n i : Nat) : Prop := 8 ≤ i / 40 ∧ i / 40 < n ∧ 8 ≤ i % 40 ∧ i % 40 < n
noncomputable def f_X3_fill (th : Int32) (so fi el av un : Nat → Int32) (ty : Int32) (kp : Nat → Int32) (bt : Nat → Int64) (oc : Int32) : Nat → Int32 :=
  fun i => (Classical.propDecidable (fl_in ty.toNatClampNeg i)).casesOn (fun _ => un i) (fun _ => (Classical.propDecidable (rc ty.toNatClampNeg so el av (i / 40) (i % 40))).casesOn (fun _ => 0) (fun _ => 1))
/-- what fill wants of the state -/
def fl_ok (so el av un : Nat → Int32) (ty : Int32) : Prop :=
  ty.toInt ≤ 40 ∧ 0 ≤ ty.toInt ∧ (∀ j, (av j).toInt < 40) ∧ mb_EL so el ∧ ∀ i, ¬ fl_in ty.toNatClampNeg i → un i = 0

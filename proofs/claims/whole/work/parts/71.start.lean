/-! the start: what the Statement gives -/
theorem ls_mem {big : List Cond} (ws : List Cond) (ps : List Nat) (hp : ws = ps.filterMap (fun i => big[i]?)) : ∀ w ∈ ws, w ∈ big := by
  intro w hw
  rw [hp] at hw
  obtain ⟨i, -, hi⟩ := List.mem_filterMap.mp hw
  first | exact List.mem_of_getElem? hi | exact List.getElem?_mem hi
def ls_ws : List Cond := [.laysStatic "ConversionTables" "ALLOWED_KINDS" "[I", .laysStatic "ConversionTables" "LEAST_BITS" "[J", .laysStatic "ConversionTables" "GREATEST_BITS" "[J", .laysStatic "ConversionTables$Format" "OF_FLOAT" "LConversionTables$Format;", .laysStatic "ConversionTables$Format" "OF_DOUBLE" "LConversionTables$Format;", .initialized "ConversionTables", .initialized "ConversionTables$Format", .laysStatic Bundle.tN "UNASSIGNED_STACK" Bundle.steD, .laysStatic Bundle.tN "SUPPRESSED_SENTINEL" Bundle.listD, .initialized Bundle.tN, .instantiable RJx3273f 6, .instantiable RJx5d777 8, .instantiable RX0 8, .instantiable RX1 5, .instantiable RX2 4, .instantiable RX3 10, .arrayClass .int, .arrayClass .boolean, .arrayClass .long]
theorem ls_in : ∀ w ∈ ls_ws, w ∈ lw_tbl := ls_mem _ [266, 278, 280, 308, 310, 40, 45, 481, 483, 48, 533, 456, 318, 62, 54, 548, 90, 91, 92] (by decide +kernel)
theorem ls_bad : ∀ w ∈ xt_bad, w = Cond.castable Bundle.rN Bundle.tN ∨ w ∈ lw_tbl := by decide +kernel
def ls_w2 : List Cond := [.superclass Bundle.nN Bundle.rN, .superclass Bundle.tN "java/lang/Object", .lays Bundle.nN Bundle.tN "cause" "Ljava/lang/Throwable;"]
theorem ls_in2 : ∀ w ∈ ls_w2, w ∈ lw_tbl := ls_mem _ [531, 476, 465] (by decide +kernel)
theorem ls_sub (vm : Vm) : ∀ (f : Nat) (s t : ClassId), vm.isSubclassAux f s t = true → vm.isSubclassAux (f + 1) s t = true := by
  intro f
  induction f with
  | zero => intro s t h; simp [Vm.isSubclassAux] at h
  | succ f ih =>
    intro s t h
    rw [Vm.isSubclassAux] at h ⊢
    simp only [Bool.or_eq_true] at h ⊢
    rcases h with h | h
    · exact Or.inl h
    · right
      cases hk : vm.classes[s]? with
      | none => simp [hk] at h
      | some k =>
        cases hp : k.super with
        | none => simp [hk, hp] at h
        | some p =>
          simp only [hk, hp] at h ⊢
          exact ih p t h
/-- RuntimeException is a Throwable: out of what is said of NullPointerException -/
theorem ls_rt {args : Array Value} {s : State} (h : ∀ w ∈ ls_w2, w.before args s = true) : (Cond.castable Bundle.rN Bundle.tN).before args s = true := by
  obtain ⟨c, k, c', k', i, f, hc, hk, hff, hst, hfin, hasg, -⟩ := Cond.lays_spec (h (.lays Bundle.nN Bundle.tN "cause" "Ljava/lang/Throwable;") (by decide +kernel))
  have hT : s.vm.findClass Bundle.tN = some c' := Cond.lays_declared (h (.lays Bundle.nN Bundle.tN "cause" "Ljava/lang/Throwable;") (by decide +kernel)) hff
  obtain ⟨p, kN, kR, hR, hkN, hkR, hsup, hordN, hordR, hniN⟩ := Cond.superclass_spec hc (h (.superclass Bundle.nN Bundle.rN) (by decide +kernel))
  obtain ⟨pO, kT, kO, hO, hkT, -, -, hordT, -, hniT⟩ := Cond.superclass_spec hT (h (.superclass Bundle.tN "java/lang/Object") (by decide +kernel))
  have hsub : s.vm.isSubclass c c' = true := isSubclass_of_assignable hkN hkT hordN hordT hniT hasg
  have hne : ¬ c = c' := by
    intro e
    subst e
    obtain ⟨k1, a1, a2⟩ := Vm.findClass_spec hc
    obtain ⟨k2, b1, b2⟩ := Vm.findClass_spec hT
    cases Option.some.inj (a1.symm.trans b1)
    rw [a2] at b2
    exact absurd b2 (by decide)
  have hsub2 : s.vm.isSubclass p c' = true := by
    unfold Vm.isSubclass at hsub ⊢
    rw [Vm.isSubclassAux] at hsub
    simp only [Bool.or_eq_true, beq_iff_eq, hne, false_or, hkN, hsup] at hsub
    exact ls_sub s.vm _ p c' hsub
  have hasg2 : s.vm.assignable p c' = true := by
    unfold Vm.assignable
    rw [Vm.assignableAux]
    simp only [hkR, hkT, hordR, hordT, hniT, hsub2]
    simp
  show (Cond.castable Bundle.rN Bundle.tN).holds args s none s [] = true
  simp only [Cond.holds, Cond.value, hR, hT, hasg2]
  rfl
theorem ls_u0 : ∀ w ∈ u_ws RX0 TX0 0, w ∈ lw_tbl := by decide +kernel
theorem ls_K {b : Nat} {s : State} (hts : ∀ w ∈ lw_tbl, w.before #[Value.ref b] s = true) : ∃ (dC : Nat → ClassId) (dI : Nat → Nat → Nat) (cyI cyZ cyJ : ClassId), va_K (dC, dI) vwCl (mb_tys cyI cyZ cyJ) s := by
  have hwd : ∀ w ∈ ls_ws, w.before #[Value.ref b] s = true := fun w h => hts w (ls_in w h)
  obtain ⟨c0, i0, k0⟩ := u_known (C := RJx3273f) (T := TJx3273f) (N := 6) (n := 6) hts (fun w h => (gk_J3 w h).1) (hwd (.instantiable RJx3273f 6) (by decide +kernel))
  obtain ⟨c1, i1, k1⟩ := u_known (C := RJx5d777) (T := TJx5d777) (N := 8) (n := 8) hts (fun w h => (gk_J5 w h).1) (hwd (.instantiable RJx5d777 8) (by decide +kernel))
  obtain ⟨c2, i2, k2⟩ := u_known (C := RX0) (T := TX0) (N := 0) (n := 8) hts ls_u0 (hwd (.instantiable RX0 8) (by decide +kernel))
  obtain ⟨c3, i3, k3⟩ := u_known (C := RX1) (T := TX1) (N := 5) (n := 5) hts (fun w h => (gk_X10 w h).1) (hwd (.instantiable RX1 5) (by decide +kernel))
  obtain ⟨c4, i4, k4⟩ := u_known (C := RX2) (T := TX2) (N := 4) (n := 4) hts (fun w h => (gk_X20 w h).1) (hwd (.instantiable RX2 4) (by decide +kernel))
  obtain ⟨c5, i5, k5⟩ := u_known (C := RX3) (T := TX3) (N := 10) (n := 10) hts (fun w h => (gk_X30 w h).1) (hwd (.instantiable RX3 10) (by decide +kernel))
  obtain ⟨cyI, kI, pI, hI1, hI2, hI3⟩ := Cond.arrayClass_spec (hwd (.arrayClass .int) (by decide +kernel))
  obtain ⟨cyZ, kZ, pZ, hZ1, hZ2, hZ3⟩ := Cond.arrayClass_spec (hwd (.arrayClass .boolean) (by decide +kernel))
  obtain ⟨cyJ, kJ, pJ, hJ1, hJ2, hJ3⟩ := Cond.arrayClass_spec (hwd (.arrayClass .long) (by decide +kernel))
  refine ⟨fun k => if k = 0 then c0 else if k = 1 then c1 else if k = 2 then c2 else if k = 3 then c3 else if k = 4 then c4 else c5, fun k => if k = 0 then i0 else if k = 1 then i1 else if k = 2 then i2 else if k = 3 then i3 else if k = 4 then i4 else i5, cyI, cyZ, cyJ, ?_, ?_⟩
  · intro k q hq
    match k, hq with
    | 0, hq => cases hq; exact k0
    | 1, hq => cases hq; exact k1
    | 2, hq => cases hq; exact k2
    | 3, hq => cases hq; exact k3
    | 4, hq => cases hq; exact k4
    | 5, hq => cases hq; exact k5
    | k + 6, hq => simp [vwCl] at hq
  · intro k q hq
    match k, hq with
    | 0, hq => cases hq; exact ⟨fun n z => ⟨fun k h => (by cases h), kI, hI2, pI, hI3⟩, hI1⟩
    | 1, hq => cases hq; exact ⟨fun n z => ⟨fun k h => (by cases h), kZ, hZ2, pZ, hZ3⟩, hZ1⟩
    | 2, hq => cases hq; exact ⟨fun n z => ⟨fun k h => (by cases h), kJ, hJ2, pJ, hJ3⟩, hJ1⟩
    | k + 3, hq => simp [mb_tys] at hq
set_option maxHeartbeats 4000000 in
set_option maxRecDepth 100000 in
theorem ls_G {b : Nat} {s : State} (hts : ∀ w ∈ lw_tbl, w.before #[Value.ref b] s = true) (hgv : (Jvm.Cond.and given_1 narrow_1).before #[Value.ref b] s = true) : ∃ (tK tL tG : Nat) (ad : Nat → Nat), mb_G tK tL tG ad (lw_A s) s s.heap := by
  have hwd : ∀ w ∈ ls_ws, w.before #[Value.ref b] s = true := fun w h => hts w (ls_in w h)
  have hn := flat_of_before _ hgv
  have hA : ∀ a : Nat, a < s.heap.size → ¬ lw_A s a := fun a h => Nat.not_le.mpr h
  obtain ⟨tA, htA, hTA⟩ := va_Tof (tm := .static "ConversionTables" "ALLOWED_KINDS" "[I") (ty := .int) (N := 6) (f := fun j => .int (st_K j)) (A := lw_A s) (by decide) (hn (.arrayOf (.static "ConversionTables" "ALLOWED_KINDS" "[I") .int) (by decide +kernel)) (va_eqt (hn (.eq (.length (.static "ConversionTables" "ALLOWED_KINDS" "[I")) (.int 6)) (by decide +kernel))) (fun j hj => by
    match j, hj with
    | 0, _ => exact va_eqt (hn (.eq (.elem (.static "ConversionTables" "ALLOWED_KINDS" "[I") (.int 0)) (.int (518))) (by decide +kernel))
    | 1, _ => exact va_eqt (hn (.eq (.elem (.static "ConversionTables" "ALLOWED_KINDS" "[I") (.int 1)) (.int (998))) (by decide +kernel))
    | 2, _ => exact va_eqt (hn (.eq (.elem (.static "ConversionTables" "ALLOWED_KINDS" "[I") (.int 2)) (.int (998))) (by decide +kernel))
    | 3, _ => exact va_eqt (hn (.eq (.elem (.static "ConversionTables" "ALLOWED_KINDS" "[I") (.int 3)) (.int (4094))) (by decide +kernel))
    | 4, _ => exact va_eqt (hn (.eq (.elem (.static "ConversionTables" "ALLOWED_KINDS" "[I") (.int 4)) (.int (4098))) (by decide +kernel))
    | 5, _ => exact va_eqt (hn (.eq (.elem (.static "ConversionTables" "ALLOWED_KINDS" "[I") (.int 5)) (.int (390))) (by decide +kernel))
    | j + 6, hj => exact absurd hj (by omega)) hA
  obtain ⟨tL, htL, hTL⟩ := va_Tof (tm := .static "ConversionTables" "LEAST_BITS" "[J") (ty := .long) (N := 8) (f := fun j => .long (st_L j)) (A := lw_A s) (by decide) (hn (.arrayOf (.static "ConversionTables" "LEAST_BITS" "[J") .long) (by decide +kernel)) (va_eqt (hn (.eq (.length (.static "ConversionTables" "LEAST_BITS" "[J")) (.int 8)) (by decide +kernel))) (fun j hj => by
    match j, hj with
    | 0, _ => exact va_eqtl (hn (.eq (.elem (.static "ConversionTables" "LEAST_BITS" "[J") (.int 0)) (.long (0))) (by decide +kernel))
    | 1, _ => exact va_eqtl (hn (.eq (.elem (.static "ConversionTables" "LEAST_BITS" "[J") (.int 1)) (.long (0))) (by decide +kernel))
    | 2, _ => exact va_eqtl (hn (.eq (.elem (.static "ConversionTables" "LEAST_BITS" "[J") (.int 2)) (.long (-128))) (by decide +kernel))
    | 3, _ => exact va_eqtl (hn (.eq (.elem (.static "ConversionTables" "LEAST_BITS" "[J") (.int 3)) (.long (-32768))) (by decide +kernel))
    | 4, _ => exact va_eqtl (hn (.eq (.elem (.static "ConversionTables" "LEAST_BITS" "[J") (.int 4)) (.long (-2147483648))) (by decide +kernel))
    | 5, _ => exact va_eqtl (hn (.eq (.elem (.static "ConversionTables" "LEAST_BITS" "[J") (.int 5)) (.long (-9223372036854775808))) (by decide +kernel))
    | 6, _ => exact va_eqtl (hn (.eq (.elem (.static "ConversionTables" "LEAST_BITS" "[J") (.int 6)) (.long (-2147483648))) (by decide +kernel))
    | 7, _ => exact va_eqtl (hn (.eq (.elem (.static "ConversionTables" "LEAST_BITS" "[J") (.int 7)) (.long (-9223372036854775808))) (by decide +kernel))
    | j + 8, hj => exact absurd hj (by omega)) hA
  obtain ⟨tG, htG, hTG⟩ := va_Tof (tm := .static "ConversionTables" "GREATEST_BITS" "[J") (ty := .long) (N := 8) (f := fun j => .long (st_G j)) (A := lw_A s) (by decide) (hn (.arrayOf (.static "ConversionTables" "GREATEST_BITS" "[J") .long) (by decide +kernel)) (va_eqt (hn (.eq (.length (.static "ConversionTables" "GREATEST_BITS" "[J")) (.int 8)) (by decide +kernel))) (fun j hj => by
    match j, hj with
    | 0, _ => exact va_eqtl (hn (.eq (.elem (.static "ConversionTables" "GREATEST_BITS" "[J") (.int 0)) (.long (1))) (by decide +kernel))
    | 1, _ => exact va_eqtl (hn (.eq (.elem (.static "ConversionTables" "GREATEST_BITS" "[J") (.int 1)) (.long (65535))) (by decide +kernel))
    | 2, _ => exact va_eqtl (hn (.eq (.elem (.static "ConversionTables" "GREATEST_BITS" "[J") (.int 2)) (.long (127))) (by decide +kernel))
    | 3, _ => exact va_eqtl (hn (.eq (.elem (.static "ConversionTables" "GREATEST_BITS" "[J") (.int 3)) (.long (32767))) (by decide +kernel))
    | 4, _ => exact va_eqtl (hn (.eq (.elem (.static "ConversionTables" "GREATEST_BITS" "[J") (.int 4)) (.long (2147483647))) (by decide +kernel))
    | 5, _ => exact va_eqtl (hn (.eq (.elem (.static "ConversionTables" "GREATEST_BITS" "[J") (.int 5)) (.long (9223372036854775807))) (by decide +kernel))
    | 6, _ => exact va_eqtl (hn (.eq (.elem (.static "ConversionTables" "GREATEST_BITS" "[J") (.int 6)) (.long (2147483647))) (by decide +kernel))
    | 7, _ => exact va_eqtl (hn (.eq (.elem (.static "ConversionTables" "GREATEST_BITS" "[J") (.int 7)) (.long (9223372036854775807))) (by decide +kernel))
    | j + 8, hj => exact absurd hj (by omega)) hA
  obtain ⟨ad, hE, hev⟩ := va_Enof2 (args := #[Value.ref b]) (s := s) (E := "ConversionTables$Format") (d := "LConversionTables$Format;") (nm := ["OF_FLOAT", "OF_DOUBLE"]) (F := fq_all) (A := lw_A s) (fun i hi => by
    match i, hi with
    | 0, _ => exact hwd (.laysStatic "ConversionTables$Format" "OF_FLOAT" "LConversionTables$Format;") (by decide +kernel)
    | 1, _ => exact hwd (.laysStatic "ConversionTables$Format" "OF_DOUBLE" "LConversionTables$Format;") (by decide +kernel)
    | i + 2, hi => exact absurd hi (by simp)) (hwd (.initialized "ConversionTables$Format") (by decide +kernel)) (fun i hi => by
    match i, hi with
    | 0, _ => exact hn (.exactly (.static "ConversionTables$Format" "OF_FLOAT" "LConversionTables$Format;") "ConversionTables$Format") (by decide +kernel)
    | 1, _ => exact hn (.exactly (.static "ConversionTables$Format" "OF_DOUBLE" "LConversionTables$Format;") "ConversionTables$Format") (by decide +kernel)
    | i + 2, hi => exact absurd hi (by simp)) (fun q hq i hi => by
    simp only [List.mem_cons, List.not_mem_nil, or_false] at hq
    rcases hq with rfl | rfl
    · exact ( by
      match i, hi with
      | 0, _ => exact hn (.eq (.field (.static "ConversionTables$Format" "OF_FLOAT" "LConversionTables$Format;") "ConversionTables$Format" "precision" "I") (.int (24))) (by decide +kernel)
      | 1, _ => exact hn (.eq (.field (.static "ConversionTables$Format" "OF_DOUBLE" "LConversionTables$Format;") "ConversionTables$Format" "precision" "I") (.int (53))) (by decide +kernel)
      | i + 2, hi => exact absurd hi (by simp))
    · exact ( by
      match i, hi with
      | 0, _ => exact hn (.eq (.field (.static "ConversionTables$Format" "OF_FLOAT" "LConversionTables$Format;") "ConversionTables$Format" "lowestExponent" "I") (.int (-149))) (by decide +kernel)
      | 1, _ => exact hn (.eq (.field (.static "ConversionTables$Format" "OF_DOUBLE" "LConversionTables$Format;") "ConversionTables$Format" "lowestExponent" "I") (.int (-1074))) (by decide +kernel)
      | i + 2, hi => exact absurd hi (by simp))) (fun i j hi hj hij => by
    match i, j, hi, hj, hij with
    | 0, 0, _, _, h => exact absurd rfl h
    | 1, 1, _, _, h => exact absurd rfl h
    | 0, 1, _, _, _ => exact Or.inl (hn (.not (.eq (.static "ConversionTables$Format" "OF_FLOAT" "LConversionTables$Format;") (.static "ConversionTables$Format" "OF_DOUBLE" "LConversionTables$Format;"))) (by decide +kernel))
    | 1, 0, _, _, _ => exact Or.inr (hn (.not (.eq (.static "ConversionTables$Format" "OF_FLOAT" "LConversionTables$Format;") (.static "ConversionTables$Format" "OF_DOUBLE" "LConversionTables$Format;"))) (by decide +kernel))
    | 0, j + 2, _, hj, _ => exact absurd hj (by simp)
    | 1, j + 2, _, hj, _ => exact absurd hj (by simp)
    | i + 2, _, hi, _, _ => exact absurd hi (by simp)) hA
  have h_infinity : va_Ef 2 "ConversionTables$Format" "infinity" "J" (fun i => .long (fm_inf i)) ad (lw_A s) s s.heap := va_Efof (args := #[Value.ref b]) (E := "ConversionTables$Format") (d0 := "LConversionTables$Format;") (nm := ["OF_FLOAT", "OF_DOUBLE"]) (tm := fun i => .long (fm_inf i)) (fun i hi => hev i hi) (fun i hi => by
    match i, hi with
    | 0, _ => exact hn (.eq (.field (.static "ConversionTables$Format" "OF_FLOAT" "LConversionTables$Format;") "ConversionTables$Format" "infinity" "J") (.long (2139095040))) (by decide +kernel)
    | 1, _ => exact hn (.eq (.field (.static "ConversionTables$Format" "OF_DOUBLE" "LConversionTables$Format;") "ConversionTables$Format" "infinity" "J") (.long (9218868437227405312))) (by decide +kernel)
    | i + 2, hi => exact absurd hi (by simp)) (fun i hi => rfl) hA
  have h_nan : va_Ef 2 "ConversionTables$Format" "nan" "J" (fun i => .long (fm_nan i)) ad (lw_A s) s s.heap := va_Efof (args := #[Value.ref b]) (E := "ConversionTables$Format") (d0 := "LConversionTables$Format;") (nm := ["OF_FLOAT", "OF_DOUBLE"]) (tm := fun i => .long (fm_nan i)) (fun i hi => hev i hi) (fun i hi => by
    match i, hi with
    | 0, _ => exact hn (.eq (.field (.static "ConversionTables$Format" "OF_FLOAT" "LConversionTables$Format;") "ConversionTables$Format" "nan" "J") (.long (2143289344))) (by decide +kernel)
    | 1, _ => exact hn (.eq (.field (.static "ConversionTables$Format" "OF_DOUBLE" "LConversionTables$Format;") "ConversionTables$Format" "nan" "J") (.long (9221120237041090560))) (by decide +kernel)
    | i + 2, hi => exact absurd hi (by simp)) (fun i hi => rfl) hA
  have h_sign : va_Ef 2 "ConversionTables$Format" "sign" "J" (fun i => .long (fm_sign i)) ad (lw_A s) s s.heap := va_Efof (args := #[Value.ref b]) (E := "ConversionTables$Format") (d0 := "LConversionTables$Format;") (nm := ["OF_FLOAT", "OF_DOUBLE"]) (tm := fun i => .long (fm_sign i)) (fun i hi => hev i hi) (fun i hi => by
    match i, hi with
    | 0, _ => exact hn (.eq (.field (.static "ConversionTables$Format" "OF_FLOAT" "LConversionTables$Format;") "ConversionTables$Format" "sign" "J") (.long (-2147483648))) (by decide +kernel)
    | 1, _ => exact hn (.eq (.field (.static "ConversionTables$Format" "OF_DOUBLE" "LConversionTables$Format;") "ConversionTables$Format" "sign" "J") (.long (-9223372036854775808))) (by decide +kernel)
    | i + 2, hi => exact absurd hi (by simp)) (fun i hi => rfl) hA
  have hini := hwd (.initialized "ConversionTables") (by decide +kernel)
  exact ⟨tA, tL, tG, ad, va_Zof (hwd (.laysStatic "ConversionTables" "ALLOWED_KINDS" "[I") (by decide +kernel)) hini htA hA, hTA, va_Zof (hwd (.laysStatic "ConversionTables" "LEAST_BITS" "[J") (by decide +kernel)) hini htL hA, hTL, va_Zof (hwd (.laysStatic "ConversionTables" "GREATEST_BITS" "[J") (by decide +kernel)) hini htG hA, hTG, hE, h_infinity, h_nan, h_sign⟩
theorem ls_TH {b : Nat} {s : State} (hts : ∀ w ∈ lw_tbl, w.before #[Value.ref b] s = true) (hgv : (Jvm.Cond.and given_1 narrow_1).before #[Value.ref b] s = true) : mb_TH (lw_A s) s s.heap ∧ va_Nc RJx5d777 RJx3273f s := by
  have hwd : ∀ w ∈ ls_ws, w.before #[Value.ref b] s = true := fun w h => hts w (ls_in w h)
  have hn := flat_of_before _ hgv
  have hA : ∀ a : Nat, a < s.heap.size → ¬ lw_A s a := fun a h => Nat.not_le.mpr h
  refine ⟨⟨vx_Zqof (hwd (.laysStatic Bundle.tN "UNASSIGNED_STACK" Bundle.steD) (by decide +kernel)) (hwd (.initialized Bundle.tN) (by decide +kernel)) (hn (.isRef (.static Bundle.tN "UNASSIGNED_STACK" Bundle.steD)) (by decide +kernel)) hA, vx_Zqof (hwd (.laysStatic Bundle.tN "SUPPRESSED_SENTINEL" Bundle.listD) (by decide +kernel)) (hwd (.initialized Bundle.tN) (by decide +kernel)) (hn (.isRef (.static Bundle.tN "SUPPRESSED_SENTINEL" Bundle.listD)) (by decide +kernel)) hA, ?_⟩, va_Nc.of (hn (.not (.castable RJx5d777 RJx3273f)) (by decide +kernel))⟩
  intro w hw
  have hf := List.all_eq_true.mp xt_face w hw
  simp only [Bool.and_eq_true] at hf
  exact (Cond.onTables_vm (A := #[]) (A' := #[Value.ref b]) (U := s) (U' := s) s.vm w hf.1).trans (by
    rcases ls_bad w hw with q | q
    · rw [q]; exact ls_rt (fun w h => hts w (ls_in2 w h))
    · exact hts w q)

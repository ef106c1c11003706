theorem mb_t3a {x : Int32} (g : vp_in x 40) : vp_in ((3 : Int32) * x) 120 := by
  obtain ⟨i, hi, rfl⟩ := vp_in_of g (by decide)
  have e : (3 : Int32) = nI 3 := rfl
  rw [e, pk_mul]
  exact vp_in_nI (by omega) (by decide)
theorem mb_t3b {x : Int32} (g : vp_in x 40) : vp_in (((3 : Int32) * x) + (1 : Int32)) 120 := by
  obtain ⟨i, hi, rfl⟩ := vp_in_of g (by decide)
  have e : (3 : Int32) = nI 3 := rfl
  have e1 : (1 : Int32) = nI 1 := rfl
  rw [e, e1, pk_mul, nI_add]
  exact vp_in_nI (by omega) (by decide)
theorem mb_t3c {x : Int32} (g : vp_in x 40) : vp_in (((3 : Int32) * x) + (2 : Int32)) 120 := by
  obtain ⟨i, hi, rfl⟩ := vp_in_of g (by decide)
  have e : (3 : Int32) = nI 3 := rfl
  have e1 : (2 : Int32) = nI 2 := rfl
  rw [e, e1, pk_mul, nI_add]
  exact vp_in_nI (by omega) (by decide)
def f_X3_add (th : Int32) (so : Nat → Int32) (fi : Nat → Int32) (el : Nat → Int32) (av : Nat → Int32) (un : Nat → Int32) (ty : Int32) (kp : Nat → Int32) (bt : Nat → Int64) (oc : Int32) (x1 : Int32) (x2 : Int32) (x3 : Int32) (x4 : Int32) (x5 : Int32) (x6 : Int32) : Int32 × ((Nat → Int32) × (Nat → Int32) × (Nat → Int32) × (Nat → Int32) × (Int32)) := (((ty + (1 : Int32)) - (1 : Int32)), (upd so ty.toNatClampNeg x1), (upd fi ty.toNatClampNeg (vp_nar .boolean x2)), (upd el ty.toNatClampNeg x3), (upd (upd (upd av ((3 : Int32) * ty).toNatClampNeg x4) (((3 : Int32) * ty) + (1 : Int32)).toNatClampNeg x5) (((3 : Int32) * ty) + (2 : Int32)).toNatClampNeg x6), (ty + (1 : Int32)))
set_option maxHeartbeats 4000000 in
set_option maxRecDepth 100000 in
theorem c_X3_add (l : Launch) (dC : Nat → ClassId) (dI : Nat → Nat → Nat) (cyI cyZ cyJ : ClassId) (h3 e0 e1 e2 e3 e4 e5 e6 : Nat) (th : Int32) (so : Nat → Int32) (fi : Nat → Int32) (el : Nat → Int32) (av : Nat → Int32) (un : Nat → Int32) (ty : Int32) (kp : Nat → Int32) (bt : Nat → Int64) (oc : Int32) (hs : Nat) (x1 : Int32) (x2 : Int32) (x3 : Int32) (x4 : Int32) (x5 : Int32) (x6 : Int32) (g1 : vp_in ty 40) : Met l yX3_add wsX3_add ({ frames := 0, cells := 0, slots := 0, locals := 0 }) (va_Pc [.ref h3, .int x1, .int x2, .int x3, .int x4, .int x5, .int x6] (mb_M (dC, dI) (mb_tys cyI cyZ cyJ) hs [(h3, .inr (5, [.int th, .int ty, .ref e0, .ref e1, .ref e2, .ref e3, .ref e4, .int oc, .ref e5, .ref e6])), (e0, .inl (cyI, 40, .inl so)), (e1, .inl (cyZ, 40, .inl fi)), (e2, .inl (cyI, 40, .inl el)), (e3, .inl (cyI, 120, .inl av)), (e4, .inl (cyZ, 1600, .inl un)), (e5, .inl (cyI, 60, .inl kp)), (e6, .inl (cyJ, 60, .inr (.inl bt)))])) (va_Qi (S := ((Nat → Int32) × (Nat → Int32) × (Nat → Int32) × (Nat → Int32) × (Int32))) (fun r u => (r, u) = f_X3_add th so fi el av un ty kp bt oc x1 x2 x3 x4 x5 x6) (fun u t => mb_at dC dI cyI cyZ cyJ (va_A [(h3, .inr (5, [.int th, .int ty, .ref e0, .ref e1, .ref e2, .ref e3, .ref e4, .int oc, .ref e5, .ref e6])), (e0, .inl (cyI, 40, .inl so)), (e1, .inl (cyZ, 40, .inl fi)), (e2, .inl (cyI, 40, .inl el)), (e3, .inl (cyI, 120, .inl av)), (e4, .inl (cyZ, 1600, .inl un)), (e5, .inl (cyI, 60, .inl kp)), (e6, .inl (cyJ, 60, .inr (.inl bt)))] hs) [(h3, .inr (5, [.int th, .int u.2.2.2.2, .ref e0, .ref e1, .ref e2, .ref e3, .ref e4, .int oc, .ref e5, .ref e6])), (e0, .inl (cyI, 40, .inl u.1)), (e1, .inl (cyZ, 40, .inl u.2.1)), (e2, .inl (cyI, 40, .inl u.2.2.1)), (e3, .inl (cyI, 120, .inl u.2.2.2.1)), (e4, .inl (cyZ, 1600, .inl un)), (e5, .inl (cyI, 60, .inl kp)), (e6, .inl (cyJ, 60, .inr (.inl bt)))] t) (va_A [(h3, .inr (5, [.int th, .int ty, .ref e0, .ref e1, .ref e2, .ref e3, .ref e4, .int oc, .ref e5, .ref e6])), (e0, .inl (cyI, 40, .inl so)), (e1, .inl (cyZ, 40, .inl fi)), (e2, .inl (cyI, 40, .inl el)), (e3, .inl (cyI, 120, .inl av)), (e4, .inl (cyZ, 1600, .inl un)), (e5, .inl (cyI, 60, .inl kp)), (e6, .inl (cyJ, 60, .inr (.inl bt)))] hs)) 0 0 (va_A [(h3, .inr (5, [.int th, .int ty, .ref e0, .ref e1, .ref e2, .ref e3, .ref e4, .int oc, .ref e5, .ref e6])), (e0, .inl (cyI, 40, .inl so)), (e1, .inl (cyZ, 40, .inl fi)), (e2, .inl (cyI, 40, .inl el)), (e3, .inl (cyI, 120, .inl av)), (e4, .inl (cyZ, 1600, .inl un)), (e5, .inl (cyI, 60, .inl kp)), (e6, .inl (cyJ, 60, .inr (.inl bt)))] hs) := by
  refine Met.ofW (cc := cX3_add) (maxL := 7) (ret := (some .int)) (by decide) rfl ?_
  intro p e s m args below meth c s₁ B hml hv
  obtain ⟨rfl, hsz, hP, hK, hD0⟩ := hv
  have hx := B.exec
  have hb := B.bytes
  have hr := B.returns
  have hts := atoms_spec (ws := wsX3_add) B.pre
  have hown : s.vm.findClass RX3 = some m.cls := findClass_of_methodNamed B.named
  have hlocks := B.notSynchronized
  subst hsz
  have hD := hD0.self (sz := s.heap.size)
  generalize hAe : va_A [(h3, .inr (5, [.int th, .int ty, .ref e0, .ref e1, .ref e2, .ref e3, .ref e4, .int oc, .ref e5, .ref e6])), (e0, .inl (cyI, 40, .inl so)), (e1, .inl (cyZ, 40, .inl fi)), (e2, .inl (cyI, 40, .inl el)), (e3, .inl (cyI, 120, .inl av)), (e4, .inl (cyZ, 1600, .inl un)), (e5, .inl (cyI, 60, .inl kp)), (e6, .inl (cyJ, 60, .inr (.inl bt)))] s.heap.size = A at hD ⊢
  have hA : ∀ q : Nat, s.heap.size ≤ q → A q := fun q h => by rw [← hAe]; exact Or.inr h
  have hS : va_S A s.heap s.heap [] := va_S.rf
  have hP : va_P (dC, dI) vwCl [(h3, .inr (5, [.int th, .int ty, .ref e0, .ref e1, .ref e2, .ref e3, .ref e4, .int oc, .ref e5, .ref e6])), (e0, .inl (cyI, 40, .inl so)), (e1, .inl (cyZ, 40, .inl fi)), (e2, .inl (cyI, 40, .inl el)), (e3, .inl (cyI, 120, .inl av)), (e4, .inl (cyZ, 1600, .inl un)), (e5, .inl (cyI, 60, .inl kp)), (e6, .inl (cyJ, 60, .inr (.inl bt)))] s.heap := hP
  have hP0 : va_P (dC, dI) vwCl [] s.heap := fun k q h => by simp at h
  have hin_X3 : ∀ w ∈ wsX30, w ∈ wsX3_add := by decide +kernel
  have hf_7 := hts (.fieldLink RX3 7 "ConversionTablesModel" "sort" "[I") (by decide +kernel)
  have hf_44 := hts (.fieldLink RX3 44 "ConversionTablesModel" "types" "I") (by decide +kernel)
  have hf_13 := hts (.fieldLink RX3 13 "ConversionTablesModel" "isFinal" "[Z") (by decide +kernel)
  have hf_17 := hts (.fieldLink RX3 17 "ConversionTablesModel" "elements" "[I") (by decide +kernel)
  have hf_20 := hts (.fieldLink RX3 20 "ConversionTablesModel" "above" "[I") (by decide +kernel)
  have hl := lv_entry ([.ref h3, .int x1, .int x2, .int x3, .int x4, .int x5, .int x6]) (n := 7) (Nat.le_of_ble_eq_true rfl)
  rw [lg_entry_eq]
  generalize (lg_sl ([.ref h3, .int x1, .int x2, .int x3, .int x4, .int x5, .int x6]) ++ List.replicate (7 - (lg_sl ([.ref h3, .int x1, .int x2, .int x3, .int x4, .int x5, .int x6])).length) Slot.unset).toArray = ls at hl ⊢
  have hl : lv_has ls 7 [(0, .ref h3), (1, .int x1), (2, .int x2), (3, .int x3), (4, .int x4), (5, .int x5), (6, .int x6)] := hl
  refine lv_aload_n hx hb dX3_add_0 rfl (lv_at hl 0 rfl) ?_
  refine va_get (D := (dC, dI)) (ci := 5) (v := .ref e0) (C := RX3) (T := TX3) (N := 10) hx hb hts hin_X3 hown hK hP 0 rfl rfl 2 (by decide) hf_7 (fun _ h9 => h9) rfl dX3_add_1 ?_
  refine lv_aload_n hx hb dX3_add_4 rfl (lv_at hl 0 rfl) ?_
  refine va_get (D := (dC, dI)) (ci := 5) (v := .int ty) (C := RX3) (T := TX3) (N := 10) hx hb hts hin_X3 hown hK hP 0 rfl rfl 1 (by decide) hf_44 (fun _ h9 => h9) rfl dX3_add_5 ?_
  refine lv_iload_n hx hb dX3_add_8 rfl (lv_at hl 1 rfl) ?_
  refine va_iast hx hb hK hP hD hS 1 0 rfl rfl g1 dX3_add_9 (fun H locs hP hD hS => ?_)
  have hP : va_P (dC, dI) vwCl [(h3, .inr (5, [.int th, .int ty, .ref e0, .ref e1, .ref e2, .ref e3, .ref e4, .int oc, .ref e5, .ref e6])), (e0, .inl (cyI, 40, .inl (upd so ty.toNatClampNeg x1))), (e1, .inl (cyZ, 40, .inl fi)), (e2, .inl (cyI, 40, .inl el)), (e3, .inl (cyI, 120, .inl av)), (e4, .inl (cyZ, 1600, .inl un)), (e5, .inl (cyI, 60, .inl kp)), (e6, .inl (cyJ, 60, .inr (.inl bt)))] H := hP
  have hD : va_D A [(h3, .inr (5, [.int th, .int ty, .ref e0, .ref e1, .ref e2, .ref e3, .ref e4, .int oc, .ref e5, .ref e6])), (e0, .inl (cyI, 40, .inl (upd so ty.toNatClampNeg x1))), (e1, .inl (cyZ, 40, .inl fi)), (e2, .inl (cyI, 40, .inl el)), (e3, .inl (cyI, 120, .inl av)), (e4, .inl (cyZ, 1600, .inl un)), (e5, .inl (cyI, 60, .inl kp)), (e6, .inl (cyJ, 60, .inr (.inl bt)))] := hD
  refine lv_aload_n hx hb dX3_add_10 rfl (lv_at hl 0 rfl) ?_
  refine va_get (D := (dC, dI)) (ci := 5) (v := .ref e1) (C := RX3) (T := TX3) (N := 10) hx hb hts hin_X3 hown hK hP 0 rfl rfl 3 (by decide) hf_13 (fun _ h9 => h9) rfl dX3_add_11 ?_
  refine lv_aload_n hx hb dX3_add_14 rfl (lv_at hl 0 rfl) ?_
  refine va_get (D := (dC, dI)) (ci := 5) (v := .int ty) (C := RX3) (T := TX3) (N := 10) hx hb hts hin_X3 hown hK hP 0 rfl rfl 1 (by decide) hf_44 (fun _ h9 => h9) rfl dX3_add_15 ?_
  refine lv_iload_n hx hb dX3_add_18 rfl (lv_at hl 2 rfl) ?_
  refine va_zast hx hb hK hP hD hS 2 1 rfl rfl g1 dX3_add_19 (fun H locs hP hD hS => ?_)
  have hP : va_P (dC, dI) vwCl [(h3, .inr (5, [.int th, .int ty, .ref e0, .ref e1, .ref e2, .ref e3, .ref e4, .int oc, .ref e5, .ref e6])), (e0, .inl (cyI, 40, .inl (upd so ty.toNatClampNeg x1))), (e1, .inl (cyZ, 40, .inl (upd fi ty.toNatClampNeg (vp_nar .boolean x2)))), (e2, .inl (cyI, 40, .inl el)), (e3, .inl (cyI, 120, .inl av)), (e4, .inl (cyZ, 1600, .inl un)), (e5, .inl (cyI, 60, .inl kp)), (e6, .inl (cyJ, 60, .inr (.inl bt)))] H := hP
  have hD : va_D A [(h3, .inr (5, [.int th, .int ty, .ref e0, .ref e1, .ref e2, .ref e3, .ref e4, .int oc, .ref e5, .ref e6])), (e0, .inl (cyI, 40, .inl (upd so ty.toNatClampNeg x1))), (e1, .inl (cyZ, 40, .inl (upd fi ty.toNatClampNeg (vp_nar .boolean x2)))), (e2, .inl (cyI, 40, .inl el)), (e3, .inl (cyI, 120, .inl av)), (e4, .inl (cyZ, 1600, .inl un)), (e5, .inl (cyI, 60, .inl kp)), (e6, .inl (cyJ, 60, .inr (.inl bt)))] := hD
  refine lv_aload_n hx hb dX3_add_20 rfl (lv_at hl 0 rfl) ?_
  refine va_get (D := (dC, dI)) (ci := 5) (v := .ref e2) (C := RX3) (T := TX3) (N := 10) hx hb hts hin_X3 hown hK hP 0 rfl rfl 4 (by decide) hf_17 (fun _ h9 => h9) rfl dX3_add_21 ?_
  refine lv_aload_n hx hb dX3_add_24 rfl (lv_at hl 0 rfl) ?_
  refine va_get (D := (dC, dI)) (ci := 5) (v := .int ty) (C := RX3) (T := TX3) (N := 10) hx hb hts hin_X3 hown hK hP 0 rfl rfl 1 (by decide) hf_44 (fun _ h9 => h9) rfl dX3_add_25 ?_
  refine lv_iload_n hx hb dX3_add_28 rfl (lv_at hl 3 rfl) ?_
  refine va_iast hx hb hK hP hD hS 3 0 rfl rfl g1 dX3_add_29 (fun H locs hP hD hS => ?_)
  have hP : va_P (dC, dI) vwCl [(h3, .inr (5, [.int th, .int ty, .ref e0, .ref e1, .ref e2, .ref e3, .ref e4, .int oc, .ref e5, .ref e6])), (e0, .inl (cyI, 40, .inl (upd so ty.toNatClampNeg x1))), (e1, .inl (cyZ, 40, .inl (upd fi ty.toNatClampNeg (vp_nar .boolean x2)))), (e2, .inl (cyI, 40, .inl (upd el ty.toNatClampNeg x3))), (e3, .inl (cyI, 120, .inl av)), (e4, .inl (cyZ, 1600, .inl un)), (e5, .inl (cyI, 60, .inl kp)), (e6, .inl (cyJ, 60, .inr (.inl bt)))] H := hP
  have hD : va_D A [(h3, .inr (5, [.int th, .int ty, .ref e0, .ref e1, .ref e2, .ref e3, .ref e4, .int oc, .ref e5, .ref e6])), (e0, .inl (cyI, 40, .inl (upd so ty.toNatClampNeg x1))), (e1, .inl (cyZ, 40, .inl (upd fi ty.toNatClampNeg (vp_nar .boolean x2)))), (e2, .inl (cyI, 40, .inl (upd el ty.toNatClampNeg x3))), (e3, .inl (cyI, 120, .inl av)), (e4, .inl (cyZ, 1600, .inl un)), (e5, .inl (cyI, 60, .inl kp)), (e6, .inl (cyJ, 60, .inr (.inl bt)))] := hD
  refine lv_aload_n hx hb dX3_add_30 rfl (lv_at hl 0 rfl) ?_
  refine va_get (D := (dC, dI)) (ci := 5) (v := .ref e3) (C := RX3) (T := TX3) (N := 10) hx hb hts hin_X3 hown hK hP 0 rfl rfl 5 (by decide) hf_20 (fun _ h9 => h9) rfl dX3_add_31 ?_
  refine lv_iconst (v := (3 : Int32)) hx hb dX3_add_34 (by decide) ?_
  refine lv_aload_n hx hb dX3_add_35 rfl (lv_at hl 0 rfl) ?_
  refine va_get (D := (dC, dI)) (ci := 5) (v := .int ty) (C := RX3) (T := TX3) (N := 10) hx hb hts hin_X3 hown hK hP 0 rfl rfl 1 (by decide) hf_44 (fun _ h9 => h9) rfl dX3_add_36 ?_
  refine lv_imul hx hb dX3_add_39 ?_
  refine lv_iload hx hb dX3_add_40 (lv_at hl 4 rfl) ?_
  refine va_iast hx hb hK hP hD hS 4 0 rfl rfl (mb_t3a g1) dX3_add_42 (fun H locs hP hD hS => ?_)
  have hP : va_P (dC, dI) vwCl [(h3, .inr (5, [.int th, .int ty, .ref e0, .ref e1, .ref e2, .ref e3, .ref e4, .int oc, .ref e5, .ref e6])), (e0, .inl (cyI, 40, .inl (upd so ty.toNatClampNeg x1))), (e1, .inl (cyZ, 40, .inl (upd fi ty.toNatClampNeg (vp_nar .boolean x2)))), (e2, .inl (cyI, 40, .inl (upd el ty.toNatClampNeg x3))), (e3, .inl (cyI, 120, .inl (upd av ((3 : Int32) * ty).toNatClampNeg x4))), (e4, .inl (cyZ, 1600, .inl un)), (e5, .inl (cyI, 60, .inl kp)), (e6, .inl (cyJ, 60, .inr (.inl bt)))] H := hP
  have hD : va_D A [(h3, .inr (5, [.int th, .int ty, .ref e0, .ref e1, .ref e2, .ref e3, .ref e4, .int oc, .ref e5, .ref e6])), (e0, .inl (cyI, 40, .inl (upd so ty.toNatClampNeg x1))), (e1, .inl (cyZ, 40, .inl (upd fi ty.toNatClampNeg (vp_nar .boolean x2)))), (e2, .inl (cyI, 40, .inl (upd el ty.toNatClampNeg x3))), (e3, .inl (cyI, 120, .inl (upd av ((3 : Int32) * ty).toNatClampNeg x4))), (e4, .inl (cyZ, 1600, .inl un)), (e5, .inl (cyI, 60, .inl kp)), (e6, .inl (cyJ, 60, .inr (.inl bt)))] := hD
  refine lv_aload_n hx hb dX3_add_43 rfl (lv_at hl 0 rfl) ?_
  refine va_get (D := (dC, dI)) (ci := 5) (v := .ref e3) (C := RX3) (T := TX3) (N := 10) hx hb hts hin_X3 hown hK hP 0 rfl rfl 5 (by decide) hf_20 (fun _ h9 => h9) rfl dX3_add_44 ?_
  refine lv_iconst (v := (3 : Int32)) hx hb dX3_add_47 (by decide) ?_
  refine lv_aload_n hx hb dX3_add_48 rfl (lv_at hl 0 rfl) ?_
  refine va_get (D := (dC, dI)) (ci := 5) (v := .int ty) (C := RX3) (T := TX3) (N := 10) hx hb hts hin_X3 hown hK hP 0 rfl rfl 1 (by decide) hf_44 (fun _ h9 => h9) rfl dX3_add_49 ?_
  refine lv_imul hx hb dX3_add_52 ?_
  refine lv_iconst (v := (1 : Int32)) hx hb dX3_add_53 (by decide) ?_
  refine lv_iadd hx hb dX3_add_54 ?_
  refine lv_iload hx hb dX3_add_55 (lv_at hl 5 rfl) ?_
  refine va_iast hx hb hK hP hD hS 4 0 rfl rfl (mb_t3b g1) dX3_add_57 (fun H locs hP hD hS => ?_)
  have hP : va_P (dC, dI) vwCl [(h3, .inr (5, [.int th, .int ty, .ref e0, .ref e1, .ref e2, .ref e3, .ref e4, .int oc, .ref e5, .ref e6])), (e0, .inl (cyI, 40, .inl (upd so ty.toNatClampNeg x1))), (e1, .inl (cyZ, 40, .inl (upd fi ty.toNatClampNeg (vp_nar .boolean x2)))), (e2, .inl (cyI, 40, .inl (upd el ty.toNatClampNeg x3))), (e3, .inl (cyI, 120, .inl (upd (upd av ((3 : Int32) * ty).toNatClampNeg x4) (((3 : Int32) * ty) + (1 : Int32)).toNatClampNeg x5))), (e4, .inl (cyZ, 1600, .inl un)), (e5, .inl (cyI, 60, .inl kp)), (e6, .inl (cyJ, 60, .inr (.inl bt)))] H := hP
  have hD : va_D A [(h3, .inr (5, [.int th, .int ty, .ref e0, .ref e1, .ref e2, .ref e3, .ref e4, .int oc, .ref e5, .ref e6])), (e0, .inl (cyI, 40, .inl (upd so ty.toNatClampNeg x1))), (e1, .inl (cyZ, 40, .inl (upd fi ty.toNatClampNeg (vp_nar .boolean x2)))), (e2, .inl (cyI, 40, .inl (upd el ty.toNatClampNeg x3))), (e3, .inl (cyI, 120, .inl (upd (upd av ((3 : Int32) * ty).toNatClampNeg x4) (((3 : Int32) * ty) + (1 : Int32)).toNatClampNeg x5))), (e4, .inl (cyZ, 1600, .inl un)), (e5, .inl (cyI, 60, .inl kp)), (e6, .inl (cyJ, 60, .inr (.inl bt)))] := hD
  refine lv_aload_n hx hb dX3_add_58 rfl (lv_at hl 0 rfl) ?_
  refine va_get (D := (dC, dI)) (ci := 5) (v := .ref e3) (C := RX3) (T := TX3) (N := 10) hx hb hts hin_X3 hown hK hP 0 rfl rfl 5 (by decide) hf_20 (fun _ h9 => h9) rfl dX3_add_59 ?_
  refine lv_iconst (v := (3 : Int32)) hx hb dX3_add_62 (by decide) ?_
  refine lv_aload_n hx hb dX3_add_63 rfl (lv_at hl 0 rfl) ?_
  refine va_get (D := (dC, dI)) (ci := 5) (v := .int ty) (C := RX3) (T := TX3) (N := 10) hx hb hts hin_X3 hown hK hP 0 rfl rfl 1 (by decide) hf_44 (fun _ h9 => h9) rfl dX3_add_64 ?_
  refine lv_imul hx hb dX3_add_67 ?_
  refine lv_iconst (v := (2 : Int32)) hx hb dX3_add_68 (by decide) ?_
  refine lv_iadd hx hb dX3_add_69 ?_
  refine lv_iload hx hb dX3_add_70 (lv_at hl 6 rfl) ?_
  refine va_iast hx hb hK hP hD hS 4 0 rfl rfl (mb_t3c g1) dX3_add_72 (fun H locs hP hD hS => ?_)
  have hP : va_P (dC, dI) vwCl [(h3, .inr (5, [.int th, .int ty, .ref e0, .ref e1, .ref e2, .ref e3, .ref e4, .int oc, .ref e5, .ref e6])), (e0, .inl (cyI, 40, .inl (upd so ty.toNatClampNeg x1))), (e1, .inl (cyZ, 40, .inl (upd fi ty.toNatClampNeg (vp_nar .boolean x2)))), (e2, .inl (cyI, 40, .inl (upd el ty.toNatClampNeg x3))), (e3, .inl (cyI, 120, .inl (upd (upd (upd av ((3 : Int32) * ty).toNatClampNeg x4) (((3 : Int32) * ty) + (1 : Int32)).toNatClampNeg x5) (((3 : Int32) * ty) + (2 : Int32)).toNatClampNeg x6))), (e4, .inl (cyZ, 1600, .inl un)), (e5, .inl (cyI, 60, .inl kp)), (e6, .inl (cyJ, 60, .inr (.inl bt)))] H := hP
  have hD : va_D A [(h3, .inr (5, [.int th, .int ty, .ref e0, .ref e1, .ref e2, .ref e3, .ref e4, .int oc, .ref e5, .ref e6])), (e0, .inl (cyI, 40, .inl (upd so ty.toNatClampNeg x1))), (e1, .inl (cyZ, 40, .inl (upd fi ty.toNatClampNeg (vp_nar .boolean x2)))), (e2, .inl (cyI, 40, .inl (upd el ty.toNatClampNeg x3))), (e3, .inl (cyI, 120, .inl (upd (upd (upd av ((3 : Int32) * ty).toNatClampNeg x4) (((3 : Int32) * ty) + (1 : Int32)).toNatClampNeg x5) (((3 : Int32) * ty) + (2 : Int32)).toNatClampNeg x6))), (e4, .inl (cyZ, 1600, .inl un)), (e5, .inl (cyI, 60, .inl kp)), (e6, .inl (cyJ, 60, .inr (.inl bt)))] := hD
  refine lv_aload_n hx hb dX3_add_73 rfl (lv_at hl 0 rfl) ?_
  refine lv_dup hx hb dX3_add_74 rfl ?_
  refine va_get (D := (dC, dI)) (ci := 5) (v := .int ty) (C := RX3) (T := TX3) (N := 10) hx hb hts hin_X3 hown hK hP 0 rfl rfl 1 (by decide) hf_44 (fun _ h9 => h9) rfl dX3_add_75 ?_
  refine lv_iconst (v := (1 : Int32)) hx hb dX3_add_78 (by decide) ?_
  refine lv_iadd hx hb dX3_add_79 ?_
  refine va_put (D := (dC, dI)) (ci := 5) (v := .int (ty + (1 : Int32))) (ty := .int) (C := RX3) (T := TX3) (N := 10) hx hb hts hin_X3 tyX3 tyX3_ok nmX3 hown hK hP hD hS 0 rfl rfl 1 (by decide) hf_44 (fun _ h9 => h9) rfl (by decide +kernel) rfl rfl (Nat.le_of_ble_eq_true rfl) dX3_add_80 (fun H locs hP hD hS => ?_)
  have hP : va_P (dC, dI) vwCl [(h3, .inr (5, [.int th, .int (ty + (1 : Int32)), .ref e0, .ref e1, .ref e2, .ref e3, .ref e4, .int oc, .ref e5, .ref e6])), (e0, .inl (cyI, 40, .inl (upd so ty.toNatClampNeg x1))), (e1, .inl (cyZ, 40, .inl (upd fi ty.toNatClampNeg (vp_nar .boolean x2)))), (e2, .inl (cyI, 40, .inl (upd el ty.toNatClampNeg x3))), (e3, .inl (cyI, 120, .inl (upd (upd (upd av ((3 : Int32) * ty).toNatClampNeg x4) (((3 : Int32) * ty) + (1 : Int32)).toNatClampNeg x5) (((3 : Int32) * ty) + (2 : Int32)).toNatClampNeg x6))), (e4, .inl (cyZ, 1600, .inl un)), (e5, .inl (cyI, 60, .inl kp)), (e6, .inl (cyJ, 60, .inr (.inl bt)))] H := hP
  have hD : va_D A [(h3, .inr (5, [.int th, .int (ty + (1 : Int32)), .ref e0, .ref e1, .ref e2, .ref e3, .ref e4, .int oc, .ref e5, .ref e6])), (e0, .inl (cyI, 40, .inl (upd so ty.toNatClampNeg x1))), (e1, .inl (cyZ, 40, .inl (upd fi ty.toNatClampNeg (vp_nar .boolean x2)))), (e2, .inl (cyI, 40, .inl (upd el ty.toNatClampNeg x3))), (e3, .inl (cyI, 120, .inl (upd (upd (upd av ((3 : Int32) * ty).toNatClampNeg x4) (((3 : Int32) * ty) + (1 : Int32)).toNatClampNeg x5) (((3 : Int32) * ty) + (2 : Int32)).toNatClampNeg x6))), (e4, .inl (cyZ, 1600, .inl un)), (e5, .inl (cyI, 60, .inl kp)), (e6, .inl (cyJ, 60, .inr (.inl bt)))] := hD
  refine lv_aload_n hx hb dX3_add_83 rfl (lv_at hl 0 rfl) ?_
  refine va_get (D := (dC, dI)) (ci := 5) (v := .int (ty + (1 : Int32))) (C := RX3) (T := TX3) (N := 10) hx hb hts hin_X3 hown hK hP 0 rfl rfl 1 (by decide) hf_44 (fun _ h9 => h9) rfl dX3_add_84 ?_
  refine lv_iconst (v := (1 : Int32)) hx hb dX3_add_87 (by decide) ?_
  refine lv_isub hx hb dX3_add_88 ?_
  exact W.iret (v := ((ty + (1 : Int32)) - (1 : Int32))) hx hb hr (fun t ht hW => ⟨⟨((ty + (1 : Int32)) - (1 : Int32)), ((upd so ty.toNatClampNeg x1), (upd fi ty.toNatClampNeg (vp_nar .boolean x2)), (upd el ty.toNatClampNeg x3), (upd (upd (upd av ((3 : Int32) * ty).toNatClampNeg x4) (((3 : Int32) * ty) + (1 : Int32)).toNatClampNeg x5) (((3 : Int32) * ty) + (2 : Int32)).toNatClampNeg x6), (ty + (1 : Int32))), rfl, Eq.symm (rfl), by rw [ht]; exact hP, va_K.moved hW.alike hK, hD⟩, hS.F ht⟩) hS.2.2 dX3_add_89
def f_X3_keep (th : Int32) (so : Nat → Int32) (fi : Nat → Int32) (el : Nat → Int32) (av : Nat → Int32) (un : Nat → Int32) (ty : Int32) (kp : Nat → Int32) (bt : Nat → Int64) (oc : Int32) (x1 : Int32) (x2 : Int64) : Int32 × ((Nat → Int32) × (Nat → Int64) × (Int32)) := (((oc + (1 : Int32)) - (1 : Int32)), (upd kp oc.toNatClampNeg x1), (vp_updL bt oc.toNatClampNeg x2), (oc + (1 : Int32)))
set_option maxHeartbeats 4000000 in
set_option maxRecDepth 100000 in
theorem c_X3_keep (l : Launch) (dC : Nat → ClassId) (dI : Nat → Nat → Nat) (cyI cyZ cyJ : ClassId) (h3 e0 e1 e2 e3 e4 e5 e6 : Nat) (th : Int32) (so : Nat → Int32) (fi : Nat → Int32) (el : Nat → Int32) (av : Nat → Int32) (un : Nat → Int32) (ty : Int32) (kp : Nat → Int32) (bt : Nat → Int64) (oc : Int32) (hs : Nat) (x1 : Int32) (x2 : Int64) (g1 : vp_in oc 60) : Met l yX3_keep wsX3_keep ({ frames := 0, cells := 0, slots := 0, locals := 0 }) (va_Pc [.ref h3, .int x1, .long x2] (mb_M (dC, dI) (mb_tys cyI cyZ cyJ) hs [(h3, .inr (5, [.int th, .int ty, .ref e0, .ref e1, .ref e2, .ref e3, .ref e4, .int oc, .ref e5, .ref e6])), (e0, .inl (cyI, 40, .inl so)), (e1, .inl (cyZ, 40, .inl fi)), (e2, .inl (cyI, 40, .inl el)), (e3, .inl (cyI, 120, .inl av)), (e4, .inl (cyZ, 1600, .inl un)), (e5, .inl (cyI, 60, .inl kp)), (e6, .inl (cyJ, 60, .inr (.inl bt)))])) (va_Qi (S := ((Nat → Int32) × (Nat → Int64) × (Int32))) (fun r u => (r, u) = f_X3_keep th so fi el av un ty kp bt oc x1 x2) (fun u t => mb_at dC dI cyI cyZ cyJ (va_A [(h3, .inr (5, [.int th, .int ty, .ref e0, .ref e1, .ref e2, .ref e3, .ref e4, .int oc, .ref e5, .ref e6])), (e0, .inl (cyI, 40, .inl so)), (e1, .inl (cyZ, 40, .inl fi)), (e2, .inl (cyI, 40, .inl el)), (e3, .inl (cyI, 120, .inl av)), (e4, .inl (cyZ, 1600, .inl un)), (e5, .inl (cyI, 60, .inl kp)), (e6, .inl (cyJ, 60, .inr (.inl bt)))] hs) [(h3, .inr (5, [.int th, .int ty, .ref e0, .ref e1, .ref e2, .ref e3, .ref e4, .int u.2.2, .ref e5, .ref e6])), (e0, .inl (cyI, 40, .inl so)), (e1, .inl (cyZ, 40, .inl fi)), (e2, .inl (cyI, 40, .inl el)), (e3, .inl (cyI, 120, .inl av)), (e4, .inl (cyZ, 1600, .inl un)), (e5, .inl (cyI, 60, .inl u.1)), (e6, .inl (cyJ, 60, .inr (.inl u.2.1)))] t) (va_A [(h3, .inr (5, [.int th, .int ty, .ref e0, .ref e1, .ref e2, .ref e3, .ref e4, .int oc, .ref e5, .ref e6])), (e0, .inl (cyI, 40, .inl so)), (e1, .inl (cyZ, 40, .inl fi)), (e2, .inl (cyI, 40, .inl el)), (e3, .inl (cyI, 120, .inl av)), (e4, .inl (cyZ, 1600, .inl un)), (e5, .inl (cyI, 60, .inl kp)), (e6, .inl (cyJ, 60, .inr (.inl bt)))] hs)) 0 0 (va_A [(h3, .inr (5, [.int th, .int ty, .ref e0, .ref e1, .ref e2, .ref e3, .ref e4, .int oc, .ref e5, .ref e6])), (e0, .inl (cyI, 40, .inl so)), (e1, .inl (cyZ, 40, .inl fi)), (e2, .inl (cyI, 40, .inl el)), (e3, .inl (cyI, 120, .inl av)), (e4, .inl (cyZ, 1600, .inl un)), (e5, .inl (cyI, 60, .inl kp)), (e6, .inl (cyJ, 60, .inr (.inl bt)))] hs) := by
  refine Met.ofW (cc := cX3_keep) (maxL := 4) (ret := (some .int)) (by decide) rfl ?_
  intro p e s m args below meth c s₁ B hml hv
  obtain ⟨rfl, hsz, hP, hK, hD0⟩ := hv
  have hx := B.exec
  have hb := B.bytes
  have hr := B.returns
  have hts := atoms_spec (ws := wsX3_keep) B.pre
  have hown : s.vm.findClass RX3 = some m.cls := findClass_of_methodNamed B.named
  have hlocks := B.notSynchronized
  subst hsz
  have hD := hD0.self (sz := s.heap.size)
  generalize hAe : va_A [(h3, .inr (5, [.int th, .int ty, .ref e0, .ref e1, .ref e2, .ref e3, .ref e4, .int oc, .ref e5, .ref e6])), (e0, .inl (cyI, 40, .inl so)), (e1, .inl (cyZ, 40, .inl fi)), (e2, .inl (cyI, 40, .inl el)), (e3, .inl (cyI, 120, .inl av)), (e4, .inl (cyZ, 1600, .inl un)), (e5, .inl (cyI, 60, .inl kp)), (e6, .inl (cyJ, 60, .inr (.inl bt)))] s.heap.size = A at hD ⊢
  have hA : ∀ q : Nat, s.heap.size ≤ q → A q := fun q h => by rw [← hAe]; exact Or.inr h
  have hS : va_S A s.heap s.heap [] := va_S.rf
  have hP : va_P (dC, dI) vwCl [(h3, .inr (5, [.int th, .int ty, .ref e0, .ref e1, .ref e2, .ref e3, .ref e4, .int oc, .ref e5, .ref e6])), (e0, .inl (cyI, 40, .inl so)), (e1, .inl (cyZ, 40, .inl fi)), (e2, .inl (cyI, 40, .inl el)), (e3, .inl (cyI, 120, .inl av)), (e4, .inl (cyZ, 1600, .inl un)), (e5, .inl (cyI, 60, .inl kp)), (e6, .inl (cyJ, 60, .inr (.inl bt)))] s.heap := hP
  have hP0 : va_P (dC, dI) vwCl [] s.heap := fun k q h => by simp at h
  have hin_X3 : ∀ w ∈ wsX30, w ∈ wsX3_keep := by decide +kernel
  have hf_26 := hts (.fieldLink RX3 26 "ConversionTablesModel" "kept" "[I") (by decide +kernel)
  have hf_168 := hts (.fieldLink RX3 168 "ConversionTablesModel" "objects" "I") (by decide +kernel)
  have hf_29 := hts (.fieldLink RX3 29 "ConversionTablesModel" "bits" "[J") (by decide +kernel)
  have hl := lv_entry ([.ref h3, .int x1, .long x2]) (n := 4) (Nat.le_of_ble_eq_true rfl)
  rw [lg_entry_eq]
  generalize (lg_sl ([.ref h3, .int x1, .long x2]) ++ List.replicate (4 - (lg_sl ([.ref h3, .int x1, .long x2])).length) Slot.unset).toArray = ls at hl ⊢
  have hl : lv_has ls 4 [(0, .ref h3), (1, .int x1), (2, .long x2)] := hl
  refine lv_aload_n hx hb dX3_keep_0 rfl (lv_at hl 0 rfl) ?_
  refine va_get (D := (dC, dI)) (ci := 5) (v := .ref e5) (C := RX3) (T := TX3) (N := 10) hx hb hts hin_X3 hown hK hP 0 rfl rfl 8 (by decide) hf_26 (fun _ h9 => h9) rfl dX3_keep_1 ?_
  refine lv_aload_n hx hb dX3_keep_4 rfl (lv_at hl 0 rfl) ?_
  refine va_get (D := (dC, dI)) (ci := 5) (v := .int oc) (C := RX3) (T := TX3) (N := 10) hx hb hts hin_X3 hown hK hP 0 rfl rfl 7 (by decide) hf_168 (fun _ h9 => h9) rfl dX3_keep_5 ?_
  refine lv_iload_n hx hb dX3_keep_8 rfl (lv_at hl 1 rfl) ?_
  refine va_iast hx hb hK hP hD hS 6 0 rfl rfl g1 dX3_keep_9 (fun H locs hP hD hS => ?_)
  have hP : va_P (dC, dI) vwCl [(h3, .inr (5, [.int th, .int ty, .ref e0, .ref e1, .ref e2, .ref e3, .ref e4, .int oc, .ref e5, .ref e6])), (e0, .inl (cyI, 40, .inl so)), (e1, .inl (cyZ, 40, .inl fi)), (e2, .inl (cyI, 40, .inl el)), (e3, .inl (cyI, 120, .inl av)), (e4, .inl (cyZ, 1600, .inl un)), (e5, .inl (cyI, 60, .inl (upd kp oc.toNatClampNeg x1))), (e6, .inl (cyJ, 60, .inr (.inl bt)))] H := hP
  have hD : va_D A [(h3, .inr (5, [.int th, .int ty, .ref e0, .ref e1, .ref e2, .ref e3, .ref e4, .int oc, .ref e5, .ref e6])), (e0, .inl (cyI, 40, .inl so)), (e1, .inl (cyZ, 40, .inl fi)), (e2, .inl (cyI, 40, .inl el)), (e3, .inl (cyI, 120, .inl av)), (e4, .inl (cyZ, 1600, .inl un)), (e5, .inl (cyI, 60, .inl (upd kp oc.toNatClampNeg x1))), (e6, .inl (cyJ, 60, .inr (.inl bt)))] := hD
  refine lv_aload_n hx hb dX3_keep_10 rfl (lv_at hl 0 rfl) ?_
  refine va_get (D := (dC, dI)) (ci := 5) (v := .ref e6) (C := RX3) (T := TX3) (N := 10) hx hb hts hin_X3 hown hK hP 0 rfl rfl 9 (by decide) hf_29 (fun _ h9 => h9) rfl dX3_keep_11 ?_
  refine lv_aload_n hx hb dX3_keep_14 rfl (lv_at hl 0 rfl) ?_
  refine va_get (D := (dC, dI)) (ci := 5) (v := .int oc) (C := RX3) (T := TX3) (N := 10) hx hb hts hin_X3 hown hK hP 0 rfl rfl 7 (by decide) hf_168 (fun _ h9 => h9) rfl dX3_keep_15 ?_
  refine lv_lload_n hx hb dX3_keep_18 rfl (lv_at hl 2 rfl) ?_
  refine va_last hx hb hK hP hD hS 7 2 rfl rfl g1 dX3_keep_19 (fun H locs hP hD hS => ?_)
  have hP : va_P (dC, dI) vwCl [(h3, .inr (5, [.int th, .int ty, .ref e0, .ref e1, .ref e2, .ref e3, .ref e4, .int oc, .ref e5, .ref e6])), (e0, .inl (cyI, 40, .inl so)), (e1, .inl (cyZ, 40, .inl fi)), (e2, .inl (cyI, 40, .inl el)), (e3, .inl (cyI, 120, .inl av)), (e4, .inl (cyZ, 1600, .inl un)), (e5, .inl (cyI, 60, .inl (upd kp oc.toNatClampNeg x1))), (e6, .inl (cyJ, 60, .inr (.inl (vp_updL bt oc.toNatClampNeg x2))))] H := hP
  have hD : va_D A [(h3, .inr (5, [.int th, .int ty, .ref e0, .ref e1, .ref e2, .ref e3, .ref e4, .int oc, .ref e5, .ref e6])), (e0, .inl (cyI, 40, .inl so)), (e1, .inl (cyZ, 40, .inl fi)), (e2, .inl (cyI, 40, .inl el)), (e3, .inl (cyI, 120, .inl av)), (e4, .inl (cyZ, 1600, .inl un)), (e5, .inl (cyI, 60, .inl (upd kp oc.toNatClampNeg x1))), (e6, .inl (cyJ, 60, .inr (.inl (vp_updL bt oc.toNatClampNeg x2))))] := hD
  refine lv_aload_n hx hb dX3_keep_20 rfl (lv_at hl 0 rfl) ?_
  refine lv_dup hx hb dX3_keep_21 rfl ?_
  refine va_get (D := (dC, dI)) (ci := 5) (v := .int oc) (C := RX3) (T := TX3) (N := 10) hx hb hts hin_X3 hown hK hP 0 rfl rfl 7 (by decide) hf_168 (fun _ h9 => h9) rfl dX3_keep_22 ?_
  refine lv_iconst (v := (1 : Int32)) hx hb dX3_keep_25 (by decide) ?_
  refine lv_iadd hx hb dX3_keep_26 ?_
  refine va_put (D := (dC, dI)) (ci := 5) (v := .int (oc + (1 : Int32))) (ty := .int) (C := RX3) (T := TX3) (N := 10) hx hb hts hin_X3 tyX3 tyX3_ok nmX3 hown hK hP hD hS 0 rfl rfl 7 (by decide) hf_168 (fun _ h9 => h9) rfl (by decide +kernel) rfl rfl (Nat.le_of_ble_eq_true rfl) dX3_keep_27 (fun H locs hP hD hS => ?_)
  have hP : va_P (dC, dI) vwCl [(h3, .inr (5, [.int th, .int ty, .ref e0, .ref e1, .ref e2, .ref e3, .ref e4, .int (oc + (1 : Int32)), .ref e5, .ref e6])), (e0, .inl (cyI, 40, .inl so)), (e1, .inl (cyZ, 40, .inl fi)), (e2, .inl (cyI, 40, .inl el)), (e3, .inl (cyI, 120, .inl av)), (e4, .inl (cyZ, 1600, .inl un)), (e5, .inl (cyI, 60, .inl (upd kp oc.toNatClampNeg x1))), (e6, .inl (cyJ, 60, .inr (.inl (vp_updL bt oc.toNatClampNeg x2))))] H := hP
  have hD : va_D A [(h3, .inr (5, [.int th, .int ty, .ref e0, .ref e1, .ref e2, .ref e3, .ref e4, .int (oc + (1 : Int32)), .ref e5, .ref e6])), (e0, .inl (cyI, 40, .inl so)), (e1, .inl (cyZ, 40, .inl fi)), (e2, .inl (cyI, 40, .inl el)), (e3, .inl (cyI, 120, .inl av)), (e4, .inl (cyZ, 1600, .inl un)), (e5, .inl (cyI, 60, .inl (upd kp oc.toNatClampNeg x1))), (e6, .inl (cyJ, 60, .inr (.inl (vp_updL bt oc.toNatClampNeg x2))))] := hD
  refine lv_aload_n hx hb dX3_keep_30 rfl (lv_at hl 0 rfl) ?_
  refine va_get (D := (dC, dI)) (ci := 5) (v := .int (oc + (1 : Int32))) (C := RX3) (T := TX3) (N := 10) hx hb hts hin_X3 hown hK hP 0 rfl rfl 7 (by decide) hf_168 (fun _ h9 => h9) rfl dX3_keep_31 ?_
  refine lv_iconst (v := (1 : Int32)) hx hb dX3_keep_34 (by decide) ?_
  refine lv_isub hx hb dX3_keep_35 ?_
  exact W.iret (v := ((oc + (1 : Int32)) - (1 : Int32))) hx hb hr (fun t ht hW => ⟨⟨((oc + (1 : Int32)) - (1 : Int32)), ((upd kp oc.toNatClampNeg x1), (vp_updL bt oc.toNatClampNeg x2), (oc + (1 : Int32))), rfl, Eq.symm (rfl), by rw [ht]; exact hP, va_K.moved hW.alike hK, hD⟩, hS.F ht⟩) hS.2.2 dX3_keep_36

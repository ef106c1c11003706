def f_X2_kind (so : Nat → Int32) (fi : Nat → Int32) (el : Nat → Int32) (ab : Nat → Int64) (sz : Int32) (ot : Nat → Int32) (ob : Nat → Int64) (oc : Int32) (x1 : Int32) (x2 : Int32) (x3 : Int32) : Int32 := if (f_X1_has so fi el ab sz x1) = 0 then (-1 : Int32)
  else if (f_X1_has so fi el ab sz x2) = 0 then (-1 : Int32)
  else if (f_X2_isContext x3) = 0 then (-1 : Int32)
  else (f_X2_allowedKind so fi el ab sz ot ob oc x1 x2 x3)
set_option maxHeartbeats 4000000 in
set_option maxRecDepth 100000 in
theorem c_X2_kind (l : Launch) (dC : Nat → ClassId) (dI : Nat → Nat → Nat) (cyI cyZ cyJ : ClassId) (tK tL tG : Nat) (ad : Nat → Nat) (h2 h1 a0 a1 a2 a3 b0 b1 : Nat) (so : Nat → Int32) (fi : Nat → Int32) (el : Nat → Int32) (ab : Nat → Int64) (sz : Int32) (ot : Nat → Int32) (ob : Nat → Int64) (oc : Int32) (x1 : Int32) (x2 : Int32) (x3 : Int32) (gz : sz.toInt ≤ 40) (ge : mb_EL so el) : Met l yX2_kind wsX2_kind ({ frames := 6, cells := 0, slots := 0, locals := 137 }) (va_Pc [.ref h2, .int x1, .int x2, .int x3] (mb_RG tK tL tG ad (dC, dI) (mb_tys cyI cyZ cyJ) [(h2, .inr (4, [.ref h1, .ref b0, .ref b1, .int oc])), (h1, .inr (3, [.ref a0, .ref a1, .ref a2, .ref a3, .int sz])), (a0, .inl (cyI, 40, .inl so)), (a1, .inl (cyZ, 40, .inl fi)), (a2, .inl (cyI, 40, .inl el)), (a3, .inl (cyJ, 40, .inr (.inl ab))), (b0, .inl (cyI, 60, .inl ot)), (b1, .inl (cyJ, 60, .inr (.inl ob)))])) (vp_Si (fun r => r = f_X2_kind so fi el ab sz ot ob oc x1 x2 x3)) 0 0 (fun _ => False) := by
  refine Met.ofW (cc := cX2_kind) (maxL := 4) (ret := (some .int)) (by decide) rfl ?_
  intro p e s m args below meth c s₁ B hml hv
  obtain ⟨rfl, hG, hP, hK⟩ := hv
  have hx := B.exec
  have hb := B.bytes
  have hr := B.returns
  have hts := atoms_spec (ws := wsX2_kind) B.pre
  have hown : s.vm.findClass RX2 = some m.cls := findClass_of_methodNamed B.named
  have hlocks := B.notSynchronized
  have hP : va_P (dC, dI) vwCl [(h2, .inr (4, [.ref h1, .ref b0, .ref b1, .int oc])), (h1, .inr (3, [.ref a0, .ref a1, .ref a2, .ref a3, .int sz])), (a0, .inl (cyI, 40, .inl so)), (a1, .inl (cyZ, 40, .inl fi)), (a2, .inl (cyI, 40, .inl el)), (a3, .inl (cyJ, 40, .inr (.inl ab))), (b0, .inl (cyI, 60, .inl ot)), (b1, .inl (cyJ, 60, .inr (.inl ob)))] s.heap := hP
  have hP0 : va_P (dC, dI) vwCl [] s.heap := fun k q h => by simp at h
  have hin_X2 : ∀ w ∈ wsX20, w ∈ wsX2_kind := by decide +kernel
  have hf_12 := hts (.fieldLink RX2 12 "ConversionTables" "types" "LConversionTables$TypeTable;") (by decide +kernel)
  have hl := lv_entry ([.ref h2, .int x1, .int x2, .int x3]) (n := 4) (Nat.le_of_ble_eq_true rfl)
  rw [lg_entry_eq]
  generalize (lg_sl ([.ref h2, .int x1, .int x2, .int x3]) ++ List.replicate (4 - (lg_sl ([.ref h2, .int x1, .int x2, .int x3])).length) Slot.unset).toArray = ls at hl ⊢
  have hl : lv_has ls 4 [(0, .ref h2), (1, .int x1), (2, .int x2), (3, .int x3)] := hl
  refine lv_aload_n hx hb dX2_kind_0 rfl (lv_at hl 0 rfl) ?_
  refine va_get (D := (dC, dI)) (ci := 4) (v := .ref h1) (C := RX2) (T := TX2) (N := 4) hx hb hts hin_X2 hown hK hP 0 rfl rfl 0 (by decide) hf_12 (fun _ h9 => h9) rfl dX2_kind_1 ?_
  refine lv_iload_n hx hb dX2_kind_4 rfl (lv_at hl 1 rfl) ?_
  refine mb_callSi (W.runV (As := [.int x1]) (rest := []) ⟨hx, hb, hml, hown, hts⟩ (c_X1_has l dC dI cyI cyZ cyJ h1 a0 a1 a2 a3 so fi el ab sz x1) (cwV 1 hts gX2_kind_X1_has rfl rfl rfl (by decide +kernel) ⟨Nat.le_of_ble_eq_true rfl, Nat.le_of_ble_eq_true rfl⟩) (mb_preV hK (hP.sub [1, 2, 3, 4, 5] rfl) (ci := 3) (q0 := 0) rfl rfl) rfl rfl hl.1 rfl (lv_room (Nat.le_of_ble_eq_true rfl)) dX2_kind_5 ⟨Nat.zero_le _, Nat.zero_le _⟩) ?_
  refine lv_if_eq (tgt := 29) hx hb dX2_kind_8 (by decide) (fun c_1 => ?_) (fun c_1 => ?_)
  · refine lv_iconst (v := (-1 : Int32)) hx hb dX2_kind_29 (by decide) ?_
    exact W.iret (v := (-1 : Int32)) hx hb hr (fun t ht hW => ⟨(-1 : Int32), rfl, Eq.symm ((if_pos c_1).trans (rfl)), ht⟩) (fun q h => by cases h) dX2_kind_30
  · refine lv_aload_n hx hb dX2_kind_11 rfl (lv_at hl 0 rfl) ?_
    refine va_get (D := (dC, dI)) (ci := 4) (v := .ref h1) (C := RX2) (T := TX2) (N := 4) hx hb hts hin_X2 hown hK hP 0 rfl rfl 0 (by decide) hf_12 (fun _ h9 => h9) rfl dX2_kind_12 ?_
    refine lv_iload_n hx hb dX2_kind_15 rfl (lv_at hl 2 rfl) ?_
    refine mb_callSi (W.runV (As := [.int x2]) (rest := []) ⟨hx, hb, hml, hown, hts⟩ (c_X1_has l dC dI cyI cyZ cyJ h1 a0 a1 a2 a3 so fi el ab sz x2) (cwV 1 hts gX2_kind_X1_has rfl rfl rfl (by decide +kernel) ⟨Nat.le_of_ble_eq_true rfl, Nat.le_of_ble_eq_true rfl⟩) (mb_preV hK (hP.sub [1, 2, 3, 4, 5] rfl) (ci := 3) (q0 := 0) rfl rfl) rfl rfl hl.1 rfl (lv_room (Nat.le_of_ble_eq_true rfl)) dX2_kind_16 ⟨Nat.zero_le _, Nat.zero_le _⟩) ?_
    refine lv_if_eq (tgt := 29) hx hb dX2_kind_19 (by decide) (fun c_2 => ?_) (fun c_2 => ?_)
    · refine lv_iconst (v := (-1 : Int32)) hx hb dX2_kind_29 (by decide) ?_
      exact W.iret (v := (-1 : Int32)) hx hb hr (fun t ht hW => ⟨(-1 : Int32), rfl, Eq.symm ((if_neg c_1).trans ((if_pos c_2).trans (rfl))), ht⟩) (fun q h => by cases h) dX2_kind_30
    · refine lv_iload_n hx hb dX2_kind_22 rfl (lv_at hl 3 rfl) ?_
      refine mb_callSi (W.runS (As := [.int x3]) (rest := []) ⟨hx, hb, hml, hown, hts⟩ (c_X2_isContext l x3) (va_cwS 1 hts gX2_kind_X2_isContext rfl rfl rfl (by decide +kernel) ⟨Nat.le_of_ble_eq_true rfl, Nat.le_of_ble_eq_true rfl⟩) mb_preT rfl rfl hl.1 rfl (lv_room (Nat.le_of_ble_eq_true rfl)) dX2_kind_23 ⟨Nat.zero_le _, Nat.zero_le _⟩) ?_
      refine lv_if_ne (tgt := 31) hx hb dX2_kind_26 (by decide) (fun c_3 => ?_) (fun c_3 => ?_)
      · refine lv_aload_n hx hb dX2_kind_31 rfl (lv_at hl 0 rfl) ?_
        refine lv_iload_n hx hb dX2_kind_32 rfl (lv_at hl 1 rfl) ?_
        refine lv_iload_n hx hb dX2_kind_33 rfl (lv_at hl 2 rfl) ?_
        refine lv_iload_n hx hb dX2_kind_34 rfl (lv_at hl 3 rfl) ?_
        refine mb_callSi (W.runV (As := [.int x1, .int x2, .int x3]) (rest := []) ⟨hx, hb, hml, hown, hts⟩ (c_X2_allowedKind l dC dI cyI cyZ cyJ tK tL tG ad h2 h1 a0 a1 a2 a3 b0 b1 so fi el ab sz ot ob oc x1 x2 x3 (mb_has gz c_1) (mb_has gz c_2) (mb_ctx c_3) ge) (cwV 3 hts gX2_kind_X2_allowedKind rfl rfl rfl (by decide +kernel) ⟨Nat.le_of_ble_eq_true rfl, Nat.le_of_ble_eq_true rfl⟩) (mb_preGV hG hK hP (ci := 4) (q0 := 0) rfl rfl) rfl rfl hl.1 rfl (lv_room (Nat.le_of_ble_eq_true rfl)) dX2_kind_35 ⟨Nat.zero_le _, Nat.zero_le _⟩) ?_
        exact W.iret (v := (f_X2_allowedKind so fi el ab sz ot ob oc x1 x2 x3)) hx hb hr (fun t ht hW => ⟨(f_X2_allowedKind so fi el ab sz ot ob oc x1 x2 x3), rfl, Eq.symm ((if_neg c_1).trans ((if_neg c_2).trans ((if_neg c_3).trans (rfl)))), ht⟩) (fun q h => by cases h) dX2_kind_38
      · refine lv_iconst (v := (-1 : Int32)) hx hb dX2_kind_29 (by decide) ?_
        exact W.iret (v := (-1 : Int32)) hx hb hr (fun t ht hW => ⟨(-1 : Int32), rfl, Eq.symm ((if_neg c_1).trans ((if_neg c_2).trans ((if_pos c_3).trans (rfl)))), ht⟩) (fun q h => by cases h) dX2_kind_30
def f_X2_given (so : Nat → Int32) (fi : Nat → Int32) (el : Nat → Int32) (ab : Nat → Int64) (sz : Int32) (ot : Nat → Int32) (ob : Nat → Int64) (oc : Int32) (x1 : Int64) (x2 : Int32) (x3 : Int32) : Int32 := if (f_X1_has so fi el ab sz x2) = 0 then (-1 : Int32)
  else if (f_X1_has so fi el ab sz x3) = 0 then (-1 : Int32)
  else if (f_X2_isWhole x2) = 0 then (-2 : Int32)
  else if (f_X2_areBitsOf x1 x2) = 0 then (-2 : Int32)
  else if (f_X2_allowedKind so fi el ab sz ot ob oc x2 x3 (2 : Int32)) = 0 then (if (f_X2_constantFits x1 x2 x3) = 0 then (if (0 : Int32) = 0 then (0 : Int32)
      else (1 : Int32))
    else if (1 : Int32) = 0 then (0 : Int32)
    else (1 : Int32))
  else if (1 : Int32) = 0 then (0 : Int32)
  else (1 : Int32)
set_option maxHeartbeats 4000000 in
set_option maxRecDepth 100000 in
theorem c_X2_given (l : Launch) (dC : Nat → ClassId) (dI : Nat → Nat → Nat) (cyI cyZ cyJ : ClassId) (tK tL tG : Nat) (ad : Nat → Nat) (h2 h1 a0 a1 a2 a3 b0 b1 : Nat) (so : Nat → Int32) (fi : Nat → Int32) (el : Nat → Int32) (ab : Nat → Int64) (sz : Int32) (ot : Nat → Int32) (ob : Nat → Int64) (oc : Int32) (x1 : Int64) (x2 : Int32) (x3 : Int32) (gz : sz.toInt ≤ 40) (ge : mb_EL so el) : Met l yX2_given wsX2_given ({ frames := 6, cells := 0, slots := 0, locals := 137 }) (va_Pc [.ref h2, .long x1, .int x2, .int x3] (mb_RG tK tL tG ad (dC, dI) (mb_tys cyI cyZ cyJ) [(h2, .inr (4, [.ref h1, .ref b0, .ref b1, .int oc])), (h1, .inr (3, [.ref a0, .ref a1, .ref a2, .ref a3, .int sz])), (a0, .inl (cyI, 40, .inl so)), (a1, .inl (cyZ, 40, .inl fi)), (a2, .inl (cyI, 40, .inl el)), (a3, .inl (cyJ, 40, .inr (.inl ab))), (b0, .inl (cyI, 60, .inl ot)), (b1, .inl (cyJ, 60, .inr (.inl ob)))])) (vp_Si (fun r => r = f_X2_given so fi el ab sz ot ob oc x1 x2 x3)) 0 0 (fun _ => False) := by
  refine Met.ofW (cc := cX2_given) (maxL := 6) (ret := (some .int)) (by decide) rfl ?_
  intro p e s m args below meth c s₁ B hml hv
  obtain ⟨rfl, hG, hP, hK⟩ := hv
  have hx := B.exec
  have hb := B.bytes
  have hr := B.returns
  have hts := atoms_spec (ws := wsX2_given) B.pre
  have hown : s.vm.findClass RX2 = some m.cls := findClass_of_methodNamed B.named
  have hlocks := B.notSynchronized
  have hP : va_P (dC, dI) vwCl [(h2, .inr (4, [.ref h1, .ref b0, .ref b1, .int oc])), (h1, .inr (3, [.ref a0, .ref a1, .ref a2, .ref a3, .int sz])), (a0, .inl (cyI, 40, .inl so)), (a1, .inl (cyZ, 40, .inl fi)), (a2, .inl (cyI, 40, .inl el)), (a3, .inl (cyJ, 40, .inr (.inl ab))), (b0, .inl (cyI, 60, .inl ot)), (b1, .inl (cyJ, 60, .inr (.inl ob)))] s.heap := hP
  have hP0 : va_P (dC, dI) vwCl [] s.heap := fun k q h => by simp at h
  have hin_X2 : ∀ w ∈ wsX20, w ∈ wsX2_given := by decide +kernel
  have hf_12 := hts (.fieldLink RX2 12 "ConversionTables" "types" "LConversionTables$TypeTable;") (by decide +kernel)
  have hl := lv_entry ([.ref h2, .long x1, .int x2, .int x3]) (n := 6) (Nat.le_of_ble_eq_true rfl)
  rw [lg_entry_eq]
  generalize (lg_sl ([.ref h2, .long x1, .int x2, .int x3]) ++ List.replicate (6 - (lg_sl ([.ref h2, .long x1, .int x2, .int x3])).length) Slot.unset).toArray = ls at hl ⊢
  have hl : lv_has ls 6 [(0, .ref h2), (1, .long x1), (3, .int x2), (4, .int x3)] := hl
  refine lv_aload_n hx hb dX2_given_0 rfl (lv_at hl 0 rfl) ?_
  refine va_get (D := (dC, dI)) (ci := 4) (v := .ref h1) (C := RX2) (T := TX2) (N := 4) hx hb hts hin_X2 hown hK hP 0 rfl rfl 0 (by decide) hf_12 (fun _ h9 => h9) rfl dX2_given_1 ?_
  refine lv_iload_n hx hb dX2_given_4 rfl (lv_at hl 2 rfl) ?_
  refine mb_callSi (W.runV (As := [.int x2]) (rest := []) ⟨hx, hb, hml, hown, hts⟩ (c_X1_has l dC dI cyI cyZ cyJ h1 a0 a1 a2 a3 so fi el ab sz x2) (cwV 1 hts gX2_given_X1_has rfl rfl rfl (by decide +kernel) ⟨Nat.le_of_ble_eq_true rfl, Nat.le_of_ble_eq_true rfl⟩) (mb_preV hK (hP.sub [1, 2, 3, 4, 5] rfl) (ci := 3) (q0 := 0) rfl rfl) rfl rfl hl.1 rfl (lv_room (Nat.le_of_ble_eq_true rfl)) dX2_given_5 ⟨Nat.zero_le _, Nat.zero_le _⟩) ?_
  refine lv_if_eq (tgt := 23) hx hb dX2_given_8 (by decide) (fun c_1 => ?_) (fun c_1 => ?_)
  · refine lv_iconst (v := (-1 : Int32)) hx hb dX2_given_23 (by decide) ?_
    exact W.iret (v := (-1 : Int32)) hx hb hr (fun t ht hW => ⟨(-1 : Int32), rfl, Eq.symm ((if_pos c_1).trans (rfl)), ht⟩) (fun q h => by cases h) dX2_given_24
  · refine lv_aload_n hx hb dX2_given_11 rfl (lv_at hl 0 rfl) ?_
    refine va_get (D := (dC, dI)) (ci := 4) (v := .ref h1) (C := RX2) (T := TX2) (N := 4) hx hb hts hin_X2 hown hK hP 0 rfl rfl 0 (by decide) hf_12 (fun _ h9 => h9) rfl dX2_given_12 ?_
    refine lv_iload hx hb dX2_given_15 (lv_at hl 3 rfl) ?_
    refine mb_callSi (W.runV (As := [.int x3]) (rest := []) ⟨hx, hb, hml, hown, hts⟩ (c_X1_has l dC dI cyI cyZ cyJ h1 a0 a1 a2 a3 so fi el ab sz x3) (cwV 1 hts gX2_given_X1_has rfl rfl rfl (by decide +kernel) ⟨Nat.le_of_ble_eq_true rfl, Nat.le_of_ble_eq_true rfl⟩) (mb_preV hK (hP.sub [1, 2, 3, 4, 5] rfl) (ci := 3) (q0 := 0) rfl rfl) rfl rfl hl.1 rfl (lv_room (Nat.le_of_ble_eq_true rfl)) dX2_given_17 ⟨Nat.zero_le _, Nat.zero_le _⟩) ?_
    refine lv_if_ne (tgt := 25) hx hb dX2_given_20 (by decide) (fun c_2 => ?_) (fun c_2 => ?_)
    · refine lv_iload_n hx hb dX2_given_25 rfl (lv_at hl 2 rfl) ?_
      refine mb_callSi (W.runS (As := [.int x2]) (rest := []) ⟨hx, hb, hml, hown, hts⟩ (c_X2_isWhole l x2) (va_cwS 1 hts gX2_given_X2_isWhole rfl rfl rfl (by decide +kernel) ⟨Nat.le_of_ble_eq_true rfl, Nat.le_of_ble_eq_true rfl⟩) mb_preT rfl rfl hl.1 rfl (lv_room (Nat.le_of_ble_eq_true rfl)) dX2_given_26 ⟨Nat.zero_le _, Nat.zero_le _⟩) ?_
      refine lv_if_eq (tgt := 40) hx hb dX2_given_29 (by decide) (fun c_3 => ?_) (fun c_3 => ?_)
      · refine lv_bipush (v := (-2 : Int32)) hx hb dX2_given_40 (by decide) ?_
        exact W.iret (v := (-2 : Int32)) hx hb hr (fun t ht hW => ⟨(-2 : Int32), rfl, Eq.symm ((if_neg c_1).trans ((if_neg c_2).trans ((if_pos c_3).trans (rfl)))), ht⟩) (fun q h => by cases h) dX2_given_42
      · refine lv_lload_n hx hb dX2_given_32 rfl (lv_at hl 1 rfl) ?_
        refine lv_iload_n hx hb dX2_given_33 rfl (lv_at hl 2 rfl) ?_
        refine mb_callSi (W.runS (As := [.long x1, .int x2]) (rest := []) ⟨hx, hb, hml, hown, hts⟩ (c_X2_areBitsOf l dC dI cyI cyZ cyJ tK tL tG ad x1 x2 (mb_whole8 c_3)) (va_cwS 2 hts gX2_given_X2_areBitsOf rfl rfl rfl (by decide +kernel) ⟨Nat.le_of_ble_eq_true rfl, Nat.le_of_ble_eq_true rfl⟩) (mb_preGS hG hK hP0) rfl rfl hl.1 rfl (lv_room (Nat.le_of_ble_eq_true rfl)) dX2_given_34 ⟨Nat.zero_le _, Nat.zero_le _⟩) ?_
        refine lv_if_ne (tgt := 43) hx hb dX2_given_37 (by decide) (fun c_4 => ?_) (fun c_4 => ?_)
        · refine lv_aload_n hx hb dX2_given_43 rfl (lv_at hl 0 rfl) ?_
          refine lv_iload_n hx hb dX2_given_44 rfl (lv_at hl 2 rfl) ?_
          refine lv_iload hx hb dX2_given_45 (lv_at hl 3 rfl) ?_
          refine lv_iconst (v := (2 : Int32)) hx hb dX2_given_47 (by decide) ?_
          refine mb_callSi (W.runV (As := [.int x2, .int x3, .int (2 : Int32)]) (rest := []) ⟨hx, hb, hml, hown, hts⟩ (c_X2_allowedKind l dC dI cyI cyZ cyJ tK tL tG ad h2 h1 a0 a1 a2 a3 b0 b1 so fi el ab sz ot ob oc x2 x3 (2 : Int32) (mb_has gz c_1) (mb_has gz c_2) mb_in26 ge) (cwV 3 hts gX2_given_X2_allowedKind rfl rfl rfl (by decide +kernel) ⟨Nat.le_of_ble_eq_true rfl, Nat.le_of_ble_eq_true rfl⟩) (mb_preGV hG hK hP (ci := 4) (q0 := 0) rfl rfl) rfl rfl hl.1 rfl (lv_room (Nat.le_of_ble_eq_true rfl)) dX2_given_48 ⟨Nat.zero_le _, Nat.zero_le _⟩) ?_
          refine lv_if_ne (tgt := 64) hx hb dX2_given_51 (by decide) (fun c_5 => ?_) (fun c_5 => ?_)
          · refine lv_iconst (v := (1 : Int32)) hx hb dX2_given_64 (by decide) ?_
            refine lv_goto (tgt := 69) hx hb dX2_given_65 (by decide) ?_
            refine lv_istore (lv' := [(5, .int (1 : Int32)), (0, .ref h2), (1, .long x1), (3, .int x2), (4, .int x3)]) hx hb dX2_given_69 hl (by decide) rfl (fun ls hl => ?_)
            refine lv_iload hx hb dX2_given_71 (lv_at hl 0 rfl) ?_
            refine lv_if_eq (tgt := 80) hx hb dX2_given_73 (by decide) (fun c_6 => ?_) (fun c_6 => ?_)
            · refine lv_iconst (v := (0 : Int32)) hx hb dX2_given_80 (by decide) ?_
              exact W.iret (v := (0 : Int32)) hx hb hr (fun t ht hW => ⟨(0 : Int32), rfl, Eq.symm ((if_neg c_1).trans ((if_neg c_2).trans ((if_neg c_3).trans ((if_neg c_4).trans ((if_neg c_5).trans ((if_pos c_6).trans (rfl))))))), ht⟩) (fun q h => by cases h) dX2_given_81
            · refine lv_iconst (v := (1 : Int32)) hx hb dX2_given_76 (by decide) ?_
              refine lv_goto (tgt := 81) hx hb dX2_given_77 (by decide) ?_
              exact W.iret (v := (1 : Int32)) hx hb hr (fun t ht hW => ⟨(1 : Int32), rfl, Eq.symm ((if_neg c_1).trans ((if_neg c_2).trans ((if_neg c_3).trans ((if_neg c_4).trans ((if_neg c_5).trans ((if_neg c_6).trans (rfl))))))), ht⟩) (fun q h => by cases h) dX2_given_81
          · refine lv_lload_n hx hb dX2_given_54 rfl (lv_at hl 1 rfl) ?_
            refine lv_iload_n hx hb dX2_given_55 rfl (lv_at hl 2 rfl) ?_
            refine lv_iload hx hb dX2_given_56 (lv_at hl 3 rfl) ?_
            refine mb_callSi (W.runS (As := [.long x1, .int x2, .int x3]) (rest := []) ⟨hx, hb, hml, hown, hts⟩ (c_X2_constantFits l dC dI cyI cyZ cyJ tK tL tG ad x1 x2 x3) (va_cwS 3 hts gX2_given_X2_constantFits rfl rfl rfl (by decide +kernel) ⟨Nat.le_of_ble_eq_true rfl, Nat.le_of_ble_eq_true rfl⟩) (mb_preGS hG hK hP0) rfl rfl hl.1 rfl (lv_room (Nat.le_of_ble_eq_true rfl)) dX2_given_58 ⟨Nat.zero_le _, Nat.zero_le _⟩) ?_
            refine lv_if_eq (tgt := 68) hx hb dX2_given_61 (by decide) (fun c_7 => ?_) (fun c_7 => ?_)
            · refine lv_iconst (v := (0 : Int32)) hx hb dX2_given_68 (by decide) ?_
              refine lv_istore (lv' := [(5, .int (0 : Int32)), (0, .ref h2), (1, .long x1), (3, .int x2), (4, .int x3)]) hx hb dX2_given_69 hl (by decide) rfl (fun ls hl => ?_)
              refine lv_iload hx hb dX2_given_71 (lv_at hl 0 rfl) ?_
              refine lv_if_eq (tgt := 80) hx hb dX2_given_73 (by decide) (fun c_8 => ?_) (fun c_8 => ?_)
              · refine lv_iconst (v := (0 : Int32)) hx hb dX2_given_80 (by decide) ?_
                exact W.iret (v := (0 : Int32)) hx hb hr (fun t ht hW => ⟨(0 : Int32), rfl, Eq.symm ((if_neg c_1).trans ((if_neg c_2).trans ((if_neg c_3).trans ((if_neg c_4).trans ((if_pos c_5).trans ((if_pos c_7).trans ((if_pos c_8).trans (rfl)))))))), ht⟩) (fun q h => by cases h) dX2_given_81
              · refine lv_iconst (v := (1 : Int32)) hx hb dX2_given_76 (by decide) ?_
                refine lv_goto (tgt := 81) hx hb dX2_given_77 (by decide) ?_
                exact W.iret (v := (1 : Int32)) hx hb hr (fun t ht hW => ⟨(1 : Int32), rfl, Eq.symm ((if_neg c_1).trans ((if_neg c_2).trans ((if_neg c_3).trans ((if_neg c_4).trans ((if_pos c_5).trans ((if_pos c_7).trans ((if_neg c_8).trans (rfl)))))))), ht⟩) (fun q h => by cases h) dX2_given_81
            · refine lv_iconst (v := (1 : Int32)) hx hb dX2_given_64 (by decide) ?_
              refine lv_goto (tgt := 69) hx hb dX2_given_65 (by decide) ?_
              refine lv_istore (lv' := [(5, .int (1 : Int32)), (0, .ref h2), (1, .long x1), (3, .int x2), (4, .int x3)]) hx hb dX2_given_69 hl (by decide) rfl (fun ls hl => ?_)
              refine lv_iload hx hb dX2_given_71 (lv_at hl 0 rfl) ?_
              refine lv_if_eq (tgt := 80) hx hb dX2_given_73 (by decide) (fun c_9 => ?_) (fun c_9 => ?_)
              · refine lv_iconst (v := (0 : Int32)) hx hb dX2_given_80 (by decide) ?_
                exact W.iret (v := (0 : Int32)) hx hb hr (fun t ht hW => ⟨(0 : Int32), rfl, Eq.symm ((if_neg c_1).trans ((if_neg c_2).trans ((if_neg c_3).trans ((if_neg c_4).trans ((if_pos c_5).trans ((if_neg c_7).trans ((if_pos c_9).trans (rfl)))))))), ht⟩) (fun q h => by cases h) dX2_given_81
              · refine lv_iconst (v := (1 : Int32)) hx hb dX2_given_76 (by decide) ?_
                refine lv_goto (tgt := 81) hx hb dX2_given_77 (by decide) ?_
                exact W.iret (v := (1 : Int32)) hx hb hr (fun t ht hW => ⟨(1 : Int32), rfl, Eq.symm ((if_neg c_1).trans ((if_neg c_2).trans ((if_neg c_3).trans ((if_neg c_4).trans ((if_pos c_5).trans ((if_neg c_7).trans ((if_neg c_9).trans (rfl)))))))), ht⟩) (fun q h => by cases h) dX2_given_81
        · refine lv_bipush (v := (-2 : Int32)) hx hb dX2_given_40 (by decide) ?_
          exact W.iret (v := (-2 : Int32)) hx hb hr (fun t ht hW => ⟨(-2 : Int32), rfl, Eq.symm ((if_neg c_1).trans ((if_neg c_2).trans ((if_neg c_3).trans ((if_pos c_4).trans (rfl))))), ht⟩) (fun q h => by cases h) dX2_given_42
    · refine lv_iconst (v := (-1 : Int32)) hx hb dX2_given_23 (by decide) ?_
      exact W.iret (v := (-1 : Int32)) hx hb hr (fun t ht hW => ⟨(-1 : Int32), rfl, Eq.symm ((if_neg c_1).trans ((if_pos c_2).trans (rfl))), ht⟩) (fun q h => by cases h) dX2_given_24
def f_X2_promoted (so : Nat → Int32) (fi : Nat → Int32) (el : Nat → Int32) (ab : Nat → Int64) (sz : Int32) (ot : Nat → Int32) (ob : Nat → Int64) (oc : Int32) (x1 : Int32) : Int32 := if (f_X1_has so fi el ab sz x1) = 0 then (-1 : Int32)
  else if (f_X2_isNumber (f_X2_withoutBox x1)) = 0 then (-2 : Int32)
  else (if (f_X2_withoutBox x1) < (4 : Int32) then (4 : Int32) else (f_X2_withoutBox x1))
set_option maxHeartbeats 4000000 in
set_option maxRecDepth 100000 in
theorem c_X2_promoted (l : Launch) (dC : Nat → ClassId) (dI : Nat → Nat → Nat) (cyI cyZ cyJ : ClassId) (tK tL tG : Nat) (ad : Nat → Nat) (h2 h1 a0 a1 a2 a3 b0 b1 : Nat) (so : Nat → Int32) (fi : Nat → Int32) (el : Nat → Int32) (ab : Nat → Int64) (sz : Int32) (ot : Nat → Int32) (ob : Nat → Int64) (oc : Int32) (x1 : Int32) (gz : sz.toInt ≤ 40) : Met l yX2_promoted wsX2_promoted ({ frames := 2, cells := 0, slots := 0, locals := 40 }) (va_Pc [.ref h2, .int x1] (mb_RG tK tL tG ad (dC, dI) (mb_tys cyI cyZ cyJ) [(h2, .inr (4, [.ref h1, .ref b0, .ref b1, .int oc])), (h1, .inr (3, [.ref a0, .ref a1, .ref a2, .ref a3, .int sz])), (a0, .inl (cyI, 40, .inl so)), (a1, .inl (cyZ, 40, .inl fi)), (a2, .inl (cyI, 40, .inl el)), (a3, .inl (cyJ, 40, .inr (.inl ab))), (b0, .inl (cyI, 60, .inl ot)), (b1, .inl (cyJ, 60, .inr (.inl ob)))])) (vp_Si (fun r => r = f_X2_promoted so fi el ab sz ot ob oc x1)) 0 0 (fun _ => False) := by
  refine Met.ofW (cc := cX2_promoted) (maxL := 3) (ret := (some .int)) (by decide) rfl ?_
  intro p e s m args below meth c s₁ B hml hv
  obtain ⟨rfl, hG, hP, hK⟩ := hv
  have hx := B.exec
  have hb := B.bytes
  have hr := B.returns
  have hts := atoms_spec (ws := wsX2_promoted) B.pre
  have hown : s.vm.findClass RX2 = some m.cls := findClass_of_methodNamed B.named
  have hlocks := B.notSynchronized
  have hP : va_P (dC, dI) vwCl [(h2, .inr (4, [.ref h1, .ref b0, .ref b1, .int oc])), (h1, .inr (3, [.ref a0, .ref a1, .ref a2, .ref a3, .int sz])), (a0, .inl (cyI, 40, .inl so)), (a1, .inl (cyZ, 40, .inl fi)), (a2, .inl (cyI, 40, .inl el)), (a3, .inl (cyJ, 40, .inr (.inl ab))), (b0, .inl (cyI, 60, .inl ot)), (b1, .inl (cyJ, 60, .inr (.inl ob)))] s.heap := hP
  have hP0 : va_P (dC, dI) vwCl [] s.heap := fun k q h => by simp at h
  have hin_X2 : ∀ w ∈ wsX20, w ∈ wsX2_promoted := by decide +kernel
  have hf_12 := hts (.fieldLink RX2 12 "ConversionTables" "types" "LConversionTables$TypeTable;") (by decide +kernel)
  have hl := lv_entry ([.ref h2, .int x1]) (n := 3) (Nat.le_of_ble_eq_true rfl)
  rw [lg_entry_eq]
  generalize (lg_sl ([.ref h2, .int x1]) ++ List.replicate (3 - (lg_sl ([.ref h2, .int x1])).length) Slot.unset).toArray = ls at hl ⊢
  have hl : lv_has ls 3 [(0, .ref h2), (1, .int x1)] := hl
  refine lv_aload_n hx hb dX2_promoted_0 rfl (lv_at hl 0 rfl) ?_
  refine va_get (D := (dC, dI)) (ci := 4) (v := .ref h1) (C := RX2) (T := TX2) (N := 4) hx hb hts hin_X2 hown hK hP 0 rfl rfl 0 (by decide) hf_12 (fun _ h9 => h9) rfl dX2_promoted_1 ?_
  refine lv_iload_n hx hb dX2_promoted_4 rfl (lv_at hl 1 rfl) ?_
  refine mb_callSi (W.runV (As := [.int x1]) (rest := []) ⟨hx, hb, hml, hown, hts⟩ (c_X1_has l dC dI cyI cyZ cyJ h1 a0 a1 a2 a3 so fi el ab sz x1) (cwV 1 hts gX2_promoted_X1_has rfl rfl rfl (by decide +kernel) ⟨Nat.le_of_ble_eq_true rfl, Nat.le_of_ble_eq_true rfl⟩) (mb_preV hK (hP.sub [1, 2, 3, 4, 5] rfl) (ci := 3) (q0 := 0) rfl rfl) rfl rfl hl.1 rfl (lv_room (Nat.le_of_ble_eq_true rfl)) dX2_promoted_5 ⟨Nat.zero_le _, Nat.zero_le _⟩) ?_
  refine lv_if_ne (tgt := 13) hx hb dX2_promoted_8 (by decide) (fun c_1 => ?_) (fun c_1 => ?_)
  · refine lv_iload_n hx hb dX2_promoted_13 rfl (lv_at hl 1 rfl) ?_
    refine mb_callSi (W.runS (As := [.int x1]) (rest := []) ⟨hx, hb, hml, hown, hts⟩ (c_X2_withoutBox l x1) (va_cwS 1 hts gX2_promoted_X2_withoutBox rfl rfl rfl (by decide +kernel) ⟨Nat.le_of_ble_eq_true rfl, Nat.le_of_ble_eq_true rfl⟩) mb_preT rfl rfl hl.1 rfl (lv_room (Nat.le_of_ble_eq_true rfl)) dX2_promoted_14 ⟨Nat.zero_le _, Nat.zero_le _⟩) ?_
    refine lv_istore_n (lv' := [(2, .int (f_X2_withoutBox x1)), (0, .ref h2), (1, .int x1)]) hx hb dX2_promoted_17 rfl hl (by decide) rfl (fun ls hl => ?_)
    refine lv_iload_n hx hb dX2_promoted_18 rfl (lv_at hl 0 rfl) ?_
    refine mb_callSi (W.runS (As := [.int (f_X2_withoutBox x1)]) (rest := []) ⟨hx, hb, hml, hown, hts⟩ (c_X2_isNumber l (f_X2_withoutBox x1)) (va_cwS 1 hts gX2_promoted_X2_isNumber rfl rfl rfl (by decide +kernel) ⟨Nat.le_of_ble_eq_true rfl, Nat.le_of_ble_eq_true rfl⟩) mb_preT rfl rfl hl.1 rfl (lv_room (Nat.le_of_ble_eq_true rfl)) dX2_promoted_19 ⟨Nat.zero_le _, Nat.zero_le _⟩) ?_
    refine lv_if_eq (tgt := 33) hx hb dX2_promoted_22 (by decide) (fun c_2 => ?_) (fun c_2 => ?_)
    · refine lv_bipush (v := (-2 : Int32)) hx hb dX2_promoted_33 (by decide) ?_
      exact W.iret (v := (-2 : Int32)) hx hb hr (fun t ht hW => ⟨(-2 : Int32), rfl, Eq.symm ((if_neg c_1).trans ((if_pos c_2).trans (rfl))), ht⟩) (fun q h => by cases h) dX2_promoted_35
    · refine lv_iload_n hx hb dX2_promoted_25 rfl (lv_at hl 0 rfl) ?_
      refine lv_iconst (v := (4 : Int32)) hx hb dX2_promoted_26 (by decide) ?_
      refine va_mmax hx hb (by rw [hml]; exact hl.1.symm) hown (hts (.methodLink RX2 118 Lib.Math.max.name) (by decide +kernel)) (hts (.static Lib.Math.max.name) (by decide +kernel)) (hts (.initialized "java/lang/Math") (by decide +kernel)) (hts (.code Lib.Math.max.name Lib.Math.max.code 2 (some .int)) (by decide +kernel)) (Nat.le_of_ble_eq_true rfl) (Nat.le_of_ble_eq_true rfl) (Nat.le_of_ble_eq_true rfl) (Nat.le_of_ble_eq_true rfl) dX2_promoted_27 ?_
      refine lv_goto (tgt := 35) hx hb dX2_promoted_30 (by decide) ?_
      exact W.iret (v := (if (f_X2_withoutBox x1) < (4 : Int32) then (4 : Int32) else (f_X2_withoutBox x1))) hx hb hr (fun t ht hW => ⟨(if (f_X2_withoutBox x1) < (4 : Int32) then (4 : Int32) else (f_X2_withoutBox x1)), rfl, Eq.symm ((if_neg c_1).trans ((if_neg c_2).trans (rfl))), ht⟩) (fun q h => by cases h) dX2_promoted_35
  · refine lv_iconst (v := (-1 : Int32)) hx hb dX2_promoted_11 (by decide) ?_
    exact W.iret (v := (-1 : Int32)) hx hb hr (fun t ht hW => ⟨(-1 : Int32), rfl, Eq.symm ((if_pos c_1).trans (rfl)), ht⟩) (fun q h => by cases h) dX2_promoted_12
def f_X2_both (so : Nat → Int32) (fi : Nat → Int32) (el : Nat → Int32) (ab : Nat → Int64) (sz : Int32) (ot : Nat → Int32) (ob : Nat → Int64) (oc : Int32) (x1 : Int32) (x2 : Int32) : Int32 := if (f_X1_has so fi el ab sz x1) = 0 then (-1 : Int32)
  else if (f_X1_has so fi el ab sz x2) = 0 then (-1 : Int32)
  else if (f_X2_isNumber (f_X2_withoutBox x1)) = 0 then (-2 : Int32)
  else if (f_X2_isNumber (f_X2_withoutBox x2)) = 0 then (-2 : Int32)
  else (f_X2_promotedOfTwo (f_X2_withoutBox x1) (f_X2_withoutBox x2))
set_option maxHeartbeats 4000000 in
set_option maxRecDepth 100000 in
theorem c_X2_both (l : Launch) (dC : Nat → ClassId) (dI : Nat → Nat → Nat) (cyI cyZ cyJ : ClassId) (tK tL tG : Nat) (ad : Nat → Nat) (h2 h1 a0 a1 a2 a3 b0 b1 : Nat) (so : Nat → Int32) (fi : Nat → Int32) (el : Nat → Int32) (ab : Nat → Int64) (sz : Int32) (ot : Nat → Int32) (ob : Nat → Int64) (oc : Int32) (x1 : Int32) (x2 : Int32) (gz : sz.toInt ≤ 40) : Met l yX2_both wsX2_both ({ frames := 2, cells := 0, slots := 0, locals := 44 }) (va_Pc [.ref h2, .int x1, .int x2] (mb_RG tK tL tG ad (dC, dI) (mb_tys cyI cyZ cyJ) [(h2, .inr (4, [.ref h1, .ref b0, .ref b1, .int oc])), (h1, .inr (3, [.ref a0, .ref a1, .ref a2, .ref a3, .int sz])), (a0, .inl (cyI, 40, .inl so)), (a1, .inl (cyZ, 40, .inl fi)), (a2, .inl (cyI, 40, .inl el)), (a3, .inl (cyJ, 40, .inr (.inl ab))), (b0, .inl (cyI, 60, .inl ot)), (b1, .inl (cyJ, 60, .inr (.inl ob)))])) (vp_Si (fun r => r = f_X2_both so fi el ab sz ot ob oc x1 x2)) 0 0 (fun _ => False) := by
  refine Met.ofW (cc := cX2_both) (maxL := 5) (ret := (some .int)) (by decide) rfl ?_
  intro p e s m args below meth c s₁ B hml hv
  obtain ⟨rfl, hG, hP, hK⟩ := hv
  have hx := B.exec
  have hb := B.bytes
  have hr := B.returns
  have hts := atoms_spec (ws := wsX2_both) B.pre
  have hown : s.vm.findClass RX2 = some m.cls := findClass_of_methodNamed B.named
  have hlocks := B.notSynchronized
  have hP : va_P (dC, dI) vwCl [(h2, .inr (4, [.ref h1, .ref b0, .ref b1, .int oc])), (h1, .inr (3, [.ref a0, .ref a1, .ref a2, .ref a3, .int sz])), (a0, .inl (cyI, 40, .inl so)), (a1, .inl (cyZ, 40, .inl fi)), (a2, .inl (cyI, 40, .inl el)), (a3, .inl (cyJ, 40, .inr (.inl ab))), (b0, .inl (cyI, 60, .inl ot)), (b1, .inl (cyJ, 60, .inr (.inl ob)))] s.heap := hP
  have hP0 : va_P (dC, dI) vwCl [] s.heap := fun k q h => by simp at h
  have hin_X2 : ∀ w ∈ wsX20, w ∈ wsX2_both := by decide +kernel
  have hf_12 := hts (.fieldLink RX2 12 "ConversionTables" "types" "LConversionTables$TypeTable;") (by decide +kernel)
  have hl := lv_entry ([.ref h2, .int x1, .int x2]) (n := 5) (Nat.le_of_ble_eq_true rfl)
  rw [lg_entry_eq]
  generalize (lg_sl ([.ref h2, .int x1, .int x2]) ++ List.replicate (5 - (lg_sl ([.ref h2, .int x1, .int x2])).length) Slot.unset).toArray = ls at hl ⊢
  have hl : lv_has ls 5 [(0, .ref h2), (1, .int x1), (2, .int x2)] := hl
  refine lv_aload_n hx hb dX2_both_0 rfl (lv_at hl 0 rfl) ?_
  refine va_get (D := (dC, dI)) (ci := 4) (v := .ref h1) (C := RX2) (T := TX2) (N := 4) hx hb hts hin_X2 hown hK hP 0 rfl rfl 0 (by decide) hf_12 (fun _ h9 => h9) rfl dX2_both_1 ?_
  refine lv_iload_n hx hb dX2_both_4 rfl (lv_at hl 1 rfl) ?_
  refine mb_callSi (W.runV (As := [.int x1]) (rest := []) ⟨hx, hb, hml, hown, hts⟩ (c_X1_has l dC dI cyI cyZ cyJ h1 a0 a1 a2 a3 so fi el ab sz x1) (cwV 1 hts gX2_both_X1_has rfl rfl rfl (by decide +kernel) ⟨Nat.le_of_ble_eq_true rfl, Nat.le_of_ble_eq_true rfl⟩) (mb_preV hK (hP.sub [1, 2, 3, 4, 5] rfl) (ci := 3) (q0 := 0) rfl rfl) rfl rfl hl.1 rfl (lv_room (Nat.le_of_ble_eq_true rfl)) dX2_both_5 ⟨Nat.zero_le _, Nat.zero_le _⟩) ?_
  refine lv_if_eq (tgt := 22) hx hb dX2_both_8 (by decide) (fun c_1 => ?_) (fun c_1 => ?_)
  · refine lv_iconst (v := (-1 : Int32)) hx hb dX2_both_22 (by decide) ?_
    exact W.iret (v := (-1 : Int32)) hx hb hr (fun t ht hW => ⟨(-1 : Int32), rfl, Eq.symm ((if_pos c_1).trans (rfl)), ht⟩) (fun q h => by cases h) dX2_both_23
  · refine lv_aload_n hx hb dX2_both_11 rfl (lv_at hl 0 rfl) ?_
    refine va_get (D := (dC, dI)) (ci := 4) (v := .ref h1) (C := RX2) (T := TX2) (N := 4) hx hb hts hin_X2 hown hK hP 0 rfl rfl 0 (by decide) hf_12 (fun _ h9 => h9) rfl dX2_both_12 ?_
    refine lv_iload_n hx hb dX2_both_15 rfl (lv_at hl 2 rfl) ?_
    refine mb_callSi (W.runV (As := [.int x2]) (rest := []) ⟨hx, hb, hml, hown, hts⟩ (c_X1_has l dC dI cyI cyZ cyJ h1 a0 a1 a2 a3 so fi el ab sz x2) (cwV 1 hts gX2_both_X1_has rfl rfl rfl (by decide +kernel) ⟨Nat.le_of_ble_eq_true rfl, Nat.le_of_ble_eq_true rfl⟩) (mb_preV hK (hP.sub [1, 2, 3, 4, 5] rfl) (ci := 3) (q0 := 0) rfl rfl) rfl rfl hl.1 rfl (lv_room (Nat.le_of_ble_eq_true rfl)) dX2_both_16 ⟨Nat.zero_le _, Nat.zero_le _⟩) ?_
    refine lv_if_ne (tgt := 24) hx hb dX2_both_19 (by decide) (fun c_2 => ?_) (fun c_2 => ?_)
    · refine lv_iload_n hx hb dX2_both_24 rfl (lv_at hl 1 rfl) ?_
      refine mb_callSi (W.runS (As := [.int x1]) (rest := []) ⟨hx, hb, hml, hown, hts⟩ (c_X2_withoutBox l x1) (va_cwS 1 hts gX2_both_X2_withoutBox rfl rfl rfl (by decide +kernel) ⟨Nat.le_of_ble_eq_true rfl, Nat.le_of_ble_eq_true rfl⟩) mb_preT rfl rfl hl.1 rfl (lv_room (Nat.le_of_ble_eq_true rfl)) dX2_both_25 ⟨Nat.zero_le _, Nat.zero_le _⟩) ?_
      refine lv_istore_n (lv' := [(3, .int (f_X2_withoutBox x1)), (0, .ref h2), (1, .int x1), (2, .int x2)]) hx hb dX2_both_28 rfl hl (by decide) rfl (fun ls hl => ?_)
      refine lv_iload_n hx hb dX2_both_29 rfl (lv_at hl 3 rfl) ?_
      refine mb_callSi (W.runS (As := [.int x2]) (rest := []) ⟨hx, hb, hml, hown, hts⟩ (c_X2_withoutBox l x2) (va_cwS 1 hts gX2_both_X2_withoutBox rfl rfl rfl (by decide +kernel) ⟨Nat.le_of_ble_eq_true rfl, Nat.le_of_ble_eq_true rfl⟩) mb_preT rfl rfl hl.1 rfl (lv_room (Nat.le_of_ble_eq_true rfl)) dX2_both_30 ⟨Nat.zero_le _, Nat.zero_le _⟩) ?_
      refine lv_istore (lv' := [(4, .int (f_X2_withoutBox x2)), (3, .int (f_X2_withoutBox x1)), (0, .ref h2), (1, .int x1), (2, .int x2)]) hx hb dX2_both_33 hl (by decide) rfl (fun ls hl => ?_)
      refine lv_iload_n hx hb dX2_both_35 rfl (lv_at hl 1 rfl) ?_
      refine mb_callSi (W.runS (As := [.int (f_X2_withoutBox x1)]) (rest := []) ⟨hx, hb, hml, hown, hts⟩ (c_X2_isNumber l (f_X2_withoutBox x1)) (va_cwS 1 hts gX2_both_X2_isNumber rfl rfl rfl (by decide +kernel) ⟨Nat.le_of_ble_eq_true rfl, Nat.le_of_ble_eq_true rfl⟩) mb_preT rfl rfl hl.1 rfl (lv_room (Nat.le_of_ble_eq_true rfl)) dX2_both_36 ⟨Nat.zero_le _, Nat.zero_le _⟩) ?_
      refine lv_if_eq (tgt := 59) hx hb dX2_both_39 (by decide) (fun c_3 => ?_) (fun c_3 => ?_)
      · refine lv_bipush (v := (-2 : Int32)) hx hb dX2_both_59 (by decide) ?_
        exact W.iret (v := (-2 : Int32)) hx hb hr (fun t ht hW => ⟨(-2 : Int32), rfl, Eq.symm ((if_neg c_1).trans ((if_neg c_2).trans ((if_pos c_3).trans (rfl)))), ht⟩) (fun q h => by cases h) dX2_both_61
      · refine lv_iload hx hb dX2_both_42 (lv_at hl 0 rfl) ?_
        refine mb_callSi (W.runS (As := [.int (f_X2_withoutBox x2)]) (rest := []) ⟨hx, hb, hml, hown, hts⟩ (c_X2_isNumber l (f_X2_withoutBox x2)) (va_cwS 1 hts gX2_both_X2_isNumber rfl rfl rfl (by decide +kernel) ⟨Nat.le_of_ble_eq_true rfl, Nat.le_of_ble_eq_true rfl⟩) mb_preT rfl rfl hl.1 rfl (lv_room (Nat.le_of_ble_eq_true rfl)) dX2_both_44 ⟨Nat.zero_le _, Nat.zero_le _⟩) ?_
        refine lv_if_eq (tgt := 59) hx hb dX2_both_47 (by decide) (fun c_4 => ?_) (fun c_4 => ?_)
        · refine lv_bipush (v := (-2 : Int32)) hx hb dX2_both_59 (by decide) ?_
          exact W.iret (v := (-2 : Int32)) hx hb hr (fun t ht hW => ⟨(-2 : Int32), rfl, Eq.symm ((if_neg c_1).trans ((if_neg c_2).trans ((if_neg c_3).trans ((if_pos c_4).trans (rfl))))), ht⟩) (fun q h => by cases h) dX2_both_61
        · refine lv_iload_n hx hb dX2_both_50 rfl (lv_at hl 1 rfl) ?_
          refine lv_iload hx hb dX2_both_51 (lv_at hl 0 rfl) ?_
          refine mb_callSi (W.runS (As := [.int (f_X2_withoutBox x1), .int (f_X2_withoutBox x2)]) (rest := []) ⟨hx, hb, hml, hown, hts⟩ (c_X2_promotedOfTwo l (f_X2_withoutBox x1) (f_X2_withoutBox x2)) (va_cwS 2 hts gX2_both_X2_promotedOfTwo rfl rfl rfl (by decide +kernel) ⟨Nat.le_of_ble_eq_true rfl, Nat.le_of_ble_eq_true rfl⟩) mb_preT rfl rfl hl.1 rfl (lv_room (Nat.le_of_ble_eq_true rfl)) dX2_both_53 ⟨Nat.zero_le _, Nat.zero_le _⟩) ?_
          refine lv_goto (tgt := 61) hx hb dX2_both_56 (by decide) ?_
          exact W.iret (v := (f_X2_promotedOfTwo (f_X2_withoutBox x1) (f_X2_withoutBox x2))) hx hb hr (fun t ht hW => ⟨(f_X2_promotedOfTwo (f_X2_withoutBox x1) (f_X2_withoutBox x2)), rfl, Eq.symm ((if_neg c_1).trans ((if_neg c_2).trans ((if_neg c_3).trans ((if_neg c_4).trans (rfl))))), ht⟩) (fun q h => by cases h) dX2_both_61
    · refine lv_iconst (v := (-1 : Int32)) hx hb dX2_both_22 (by decide) ?_
      exact W.iret (v := (-1 : Int32)) hx hb hr (fun t ht hW => ⟨(-1 : Int32), rfl, Eq.symm ((if_neg c_1).trans ((if_pos c_2).trans (rfl))), ht⟩) (fun q h => by cases h) dX2_both_23
def f_X2_conditionalOfReferences (so : Nat → Int32) (fi : Nat → Int32) (el : Nat → Int32) (ab : Nat → Int64) (sz : Int32) (ot : Nat → Int32) (ob : Nat → Int64) (oc : Int32) (x1 : Int32) (x2 : Int32) : Int32 := if (f_X1_isUnder so fi el ab sz x1 x2) = 0 then (if (f_X1_isUnder so fi el ab sz x2 x1) = 0 then (16 : Int32)
    else x1)
  else x2
set_option maxHeartbeats 4000000 in
set_option maxRecDepth 100000 in
theorem c_X2_conditionalOfReferences (l : Launch) (dC : Nat → ClassId) (dI : Nat → Nat → Nat) (cyI cyZ cyJ : ClassId) (tK tL tG : Nat) (ad : Nat → Nat) (h2 h1 a0 a1 a2 a3 b0 b1 : Nat) (so : Nat → Int32) (fi : Nat → Int32) (el : Nat → Int32) (ab : Nat → Int64) (sz : Int32) (ot : Nat → Int32) (ob : Nat → Int64) (oc : Int32) (x1 : Int32) (x2 : Int32) (g1 : vp_in x1 40) (g2 : vp_in x2 40) : Met l yX2_conditionalOfReferences wsX2_conditionalOfReferences ({ frames := 2, cells := 0, slots := 0, locals := 42 }) (va_Pc [.ref h2, .int x1, .int x2] (mb_RG tK tL tG ad (dC, dI) (mb_tys cyI cyZ cyJ) [(h2, .inr (4, [.ref h1, .ref b0, .ref b1, .int oc])), (h1, .inr (3, [.ref a0, .ref a1, .ref a2, .ref a3, .int sz])), (a0, .inl (cyI, 40, .inl so)), (a1, .inl (cyZ, 40, .inl fi)), (a2, .inl (cyI, 40, .inl el)), (a3, .inl (cyJ, 40, .inr (.inl ab))), (b0, .inl (cyI, 60, .inl ot)), (b1, .inl (cyJ, 60, .inr (.inl ob)))])) (vp_Si (fun r => r = f_X2_conditionalOfReferences so fi el ab sz ot ob oc x1 x2)) 0 0 (fun _ => False) := by
  refine Met.ofW (cc := cX2_conditionalOfReferences) (maxL := 3) (ret := (some .int)) (by decide) rfl ?_
  intro p e s m args below meth c s₁ B hml hv
  obtain ⟨rfl, hG, hP, hK⟩ := hv
  have hx := B.exec
  have hb := B.bytes
  have hr := B.returns
  have hts := atoms_spec (ws := wsX2_conditionalOfReferences) B.pre
  have hown : s.vm.findClass RX2 = some m.cls := findClass_of_methodNamed B.named
  have hlocks := B.notSynchronized
  have hP : va_P (dC, dI) vwCl [(h2, .inr (4, [.ref h1, .ref b0, .ref b1, .int oc])), (h1, .inr (3, [.ref a0, .ref a1, .ref a2, .ref a3, .int sz])), (a0, .inl (cyI, 40, .inl so)), (a1, .inl (cyZ, 40, .inl fi)), (a2, .inl (cyI, 40, .inl el)), (a3, .inl (cyJ, 40, .inr (.inl ab))), (b0, .inl (cyI, 60, .inl ot)), (b1, .inl (cyJ, 60, .inr (.inl ob)))] s.heap := hP
  have hP0 : va_P (dC, dI) vwCl [] s.heap := fun k q h => by simp at h
  have hin_X2 : ∀ w ∈ wsX20, w ∈ wsX2_conditionalOfReferences := by decide +kernel
  have hf_12 := hts (.fieldLink RX2 12 "ConversionTables" "types" "LConversionTables$TypeTable;") (by decide +kernel)
  have hl := lv_entry ([.ref h2, .int x1, .int x2]) (n := 3) (Nat.le_of_ble_eq_true rfl)
  rw [lg_entry_eq]
  generalize (lg_sl ([.ref h2, .int x1, .int x2]) ++ List.replicate (3 - (lg_sl ([.ref h2, .int x1, .int x2])).length) Slot.unset).toArray = ls at hl ⊢
  have hl : lv_has ls 3 [(0, .ref h2), (1, .int x1), (2, .int x2)] := hl
  refine lv_aload_n hx hb dX2_conditionalOfReferences_0 rfl (lv_at hl 0 rfl) ?_
  refine va_get (D := (dC, dI)) (ci := 4) (v := .ref h1) (C := RX2) (T := TX2) (N := 4) hx hb hts hin_X2 hown hK hP 0 rfl rfl 0 (by decide) hf_12 (fun _ h9 => h9) rfl dX2_conditionalOfReferences_1 ?_
  refine lv_iload_n hx hb dX2_conditionalOfReferences_4 rfl (lv_at hl 1 rfl) ?_
  refine lv_iload_n hx hb dX2_conditionalOfReferences_5 rfl (lv_at hl 2 rfl) ?_
  refine mb_callSi (W.runV (As := [.int x1, .int x2]) (rest := []) ⟨hx, hb, hml, hown, hts⟩ (c_X1_isUnder l dC dI cyI cyZ cyJ h1 a0 a1 a2 a3 so fi el ab sz x1 x2 g1) (cwV 2 hts gX2_conditionalOfReferences_X1_isUnder rfl rfl rfl (by decide +kernel) ⟨Nat.le_of_ble_eq_true rfl, Nat.le_of_ble_eq_true rfl⟩) (mb_preV hK (hP.sub [1, 2, 3, 4, 5] rfl) (ci := 3) (q0 := 0) rfl rfl) rfl rfl hl.1 rfl (lv_room (Nat.le_of_ble_eq_true rfl)) dX2_conditionalOfReferences_6 ⟨Nat.zero_le _, Nat.zero_le _⟩) ?_
  refine lv_if_eq (tgt := 14) hx hb dX2_conditionalOfReferences_9 (by decide) (fun c_1 => ?_) (fun c_1 => ?_)
  · refine lv_aload_n hx hb dX2_conditionalOfReferences_14 rfl (lv_at hl 0 rfl) ?_
    refine va_get (D := (dC, dI)) (ci := 4) (v := .ref h1) (C := RX2) (T := TX2) (N := 4) hx hb hts hin_X2 hown hK hP 0 rfl rfl 0 (by decide) hf_12 (fun _ h9 => h9) rfl dX2_conditionalOfReferences_15 ?_
    refine lv_iload_n hx hb dX2_conditionalOfReferences_18 rfl (lv_at hl 2 rfl) ?_
    refine lv_iload_n hx hb dX2_conditionalOfReferences_19 rfl (lv_at hl 1 rfl) ?_
    refine mb_callSi (W.runV (As := [.int x2, .int x1]) (rest := []) ⟨hx, hb, hml, hown, hts⟩ (c_X1_isUnder l dC dI cyI cyZ cyJ h1 a0 a1 a2 a3 so fi el ab sz x2 x1 g2) (cwV 2 hts gX2_conditionalOfReferences_X1_isUnder rfl rfl rfl (by decide +kernel) ⟨Nat.le_of_ble_eq_true rfl, Nat.le_of_ble_eq_true rfl⟩) (mb_preV hK (hP.sub [1, 2, 3, 4, 5] rfl) (ci := 3) (q0 := 0) rfl rfl) rfl rfl hl.1 rfl (lv_room (Nat.le_of_ble_eq_true rfl)) dX2_conditionalOfReferences_20 ⟨Nat.zero_le _, Nat.zero_le _⟩) ?_
    refine lv_if_eq (tgt := 30) hx hb dX2_conditionalOfReferences_23 (by decide) (fun c_2 => ?_) (fun c_2 => ?_)
    · refine lv_bipush (v := (16 : Int32)) hx hb dX2_conditionalOfReferences_30 (by decide) ?_
      exact W.iret (v := (16 : Int32)) hx hb hr (fun t ht hW => ⟨(16 : Int32), rfl, Eq.symm ((if_pos c_1).trans ((if_pos c_2).trans (rfl))), ht⟩) (fun q h => by cases h) dX2_conditionalOfReferences_32
    · refine lv_iload_n hx hb dX2_conditionalOfReferences_26 rfl (lv_at hl 1 rfl) ?_
      refine lv_goto (tgt := 32) hx hb dX2_conditionalOfReferences_27 (by decide) ?_
      exact W.iret (v := x1) hx hb hr (fun t ht hW => ⟨x1, rfl, Eq.symm ((if_pos c_1).trans ((if_neg c_2).trans (rfl))), ht⟩) (fun q h => by cases h) dX2_conditionalOfReferences_32
  · refine lv_iload_n hx hb dX2_conditionalOfReferences_12 rfl (lv_at hl 2 rfl) ?_
    exact W.iret (v := x2) hx hb hr (fun t ht hW => ⟨x2, rfl, Eq.symm ((if_neg c_1).trans (rfl)), ht⟩) (fun q h => by cases h) dX2_conditionalOfReferences_13
def f_X2_conditional (so : Nat → Int32) (fi : Nat → Int32) (el : Nat → Int32) (ab : Nat → Int64) (sz : Int32) (ot : Nat → Int32) (ob : Nat → Int64) (oc : Int32) (x1 : Int32) (x2 : Int32) : Int32 := if (f_X1_has so fi el ab sz x1) = 0 then (-1 : Int32)
  else if (f_X1_has so fi el ab sz x2) = 0 then (-1 : Int32)
  else if x1 = x2 then x1
  else if (f_X2_withoutBox x1) = (f_X2_withoutBox x2) then (f_X2_withoutBox x1)
  else if (f_X2_isNumber (f_X2_withoutBox x1)) = 0 then (f_X2_conditionalOfReferences so fi el ab sz ot ob oc (f_X2_boxed x1) (f_X2_boxed x2))
  else if (f_X2_isNumber (f_X2_withoutBox x2)) = 0 then (f_X2_conditionalOfReferences so fi el ab sz ot ob oc (f_X2_boxed x1) (f_X2_boxed x2))
  else if (f_X2_isByteAndShort (f_X2_withoutBox x1) (f_X2_withoutBox x2)) = 0 then (f_X2_promotedOfTwo (f_X2_withoutBox x1) (f_X2_withoutBox x2))
  else (3 : Int32)
set_option maxHeartbeats 4000000 in
set_option maxRecDepth 100000 in
theorem c_X2_conditional (l : Launch) (dC : Nat → ClassId) (dI : Nat → Nat → Nat) (cyI cyZ cyJ : ClassId) (tK tL tG : Nat) (ad : Nat → Nat) (h2 h1 a0 a1 a2 a3 b0 b1 : Nat) (so : Nat → Int32) (fi : Nat → Int32) (el : Nat → Int32) (ab : Nat → Int64) (sz : Int32) (ot : Nat → Int32) (ob : Nat → Int64) (oc : Int32) (x1 : Int32) (x2 : Int32) (gz : sz.toInt ≤ 40) : Met l yX2_conditional wsX2_conditional ({ frames := 3, cells := 0, slots := 0, locals := 64 }) (va_Pc [.ref h2, .int x1, .int x2] (mb_RG tK tL tG ad (dC, dI) (mb_tys cyI cyZ cyJ) [(h2, .inr (4, [.ref h1, .ref b0, .ref b1, .int oc])), (h1, .inr (3, [.ref a0, .ref a1, .ref a2, .ref a3, .int sz])), (a0, .inl (cyI, 40, .inl so)), (a1, .inl (cyZ, 40, .inl fi)), (a2, .inl (cyI, 40, .inl el)), (a3, .inl (cyJ, 40, .inr (.inl ab))), (b0, .inl (cyI, 60, .inl ot)), (b1, .inl (cyJ, 60, .inr (.inl ob)))])) (vp_Si (fun r => r = f_X2_conditional so fi el ab sz ot ob oc x1 x2)) 0 0 (fun _ => False) := by
  refine Met.ofW (cc := cX2_conditional) (maxL := 5) (ret := (some .int)) (by decide) rfl ?_
  intro p e s m args below meth c s₁ B hml hv
  obtain ⟨rfl, hG, hP, hK⟩ := hv
  have hx := B.exec
  have hb := B.bytes
  have hr := B.returns
  have hts := atoms_spec (ws := wsX2_conditional) B.pre
  have hown : s.vm.findClass RX2 = some m.cls := findClass_of_methodNamed B.named
  have hlocks := B.notSynchronized
  have hP : va_P (dC, dI) vwCl [(h2, .inr (4, [.ref h1, .ref b0, .ref b1, .int oc])), (h1, .inr (3, [.ref a0, .ref a1, .ref a2, .ref a3, .int sz])), (a0, .inl (cyI, 40, .inl so)), (a1, .inl (cyZ, 40, .inl fi)), (a2, .inl (cyI, 40, .inl el)), (a3, .inl (cyJ, 40, .inr (.inl ab))), (b0, .inl (cyI, 60, .inl ot)), (b1, .inl (cyJ, 60, .inr (.inl ob)))] s.heap := hP
  have hP0 : va_P (dC, dI) vwCl [] s.heap := fun k q h => by simp at h
  have hin_X2 : ∀ w ∈ wsX20, w ∈ wsX2_conditional := by decide +kernel
  have hf_12 := hts (.fieldLink RX2 12 "ConversionTables" "types" "LConversionTables$TypeTable;") (by decide +kernel)
  have hl := lv_entry ([.ref h2, .int x1, .int x2]) (n := 5) (Nat.le_of_ble_eq_true rfl)
  rw [lg_entry_eq]
  generalize (lg_sl ([.ref h2, .int x1, .int x2]) ++ List.replicate (5 - (lg_sl ([.ref h2, .int x1, .int x2])).length) Slot.unset).toArray = ls at hl ⊢
  have hl : lv_has ls 5 [(0, .ref h2), (1, .int x1), (2, .int x2)] := hl
  refine lv_aload_n hx hb dX2_conditional_0 rfl (lv_at hl 0 rfl) ?_
  refine va_get (D := (dC, dI)) (ci := 4) (v := .ref h1) (C := RX2) (T := TX2) (N := 4) hx hb hts hin_X2 hown hK hP 0 rfl rfl 0 (by decide) hf_12 (fun _ h9 => h9) rfl dX2_conditional_1 ?_
  refine lv_iload_n hx hb dX2_conditional_4 rfl (lv_at hl 1 rfl) ?_
  refine mb_callSi (W.runV (As := [.int x1]) (rest := []) ⟨hx, hb, hml, hown, hts⟩ (c_X1_has l dC dI cyI cyZ cyJ h1 a0 a1 a2 a3 so fi el ab sz x1) (cwV 1 hts gX2_conditional_X1_has rfl rfl rfl (by decide +kernel) ⟨Nat.le_of_ble_eq_true rfl, Nat.le_of_ble_eq_true rfl⟩) (mb_preV hK (hP.sub [1, 2, 3, 4, 5] rfl) (ci := 3) (q0 := 0) rfl rfl) rfl rfl hl.1 rfl (lv_room (Nat.le_of_ble_eq_true rfl)) dX2_conditional_5 ⟨Nat.zero_le _, Nat.zero_le _⟩) ?_
  refine lv_if_eq (tgt := 22) hx hb dX2_conditional_8 (by decide) (fun c_1 => ?_) (fun c_1 => ?_)
  · refine lv_iconst (v := (-1 : Int32)) hx hb dX2_conditional_22 (by decide) ?_
    exact W.iret (v := (-1 : Int32)) hx hb hr (fun t ht hW => ⟨(-1 : Int32), rfl, Eq.symm ((if_pos c_1).trans (rfl)), ht⟩) (fun q h => by cases h) dX2_conditional_23
  · refine lv_aload_n hx hb dX2_conditional_11 rfl (lv_at hl 0 rfl) ?_
    refine va_get (D := (dC, dI)) (ci := 4) (v := .ref h1) (C := RX2) (T := TX2) (N := 4) hx hb hts hin_X2 hown hK hP 0 rfl rfl 0 (by decide) hf_12 (fun _ h9 => h9) rfl dX2_conditional_12 ?_
    refine lv_iload_n hx hb dX2_conditional_15 rfl (lv_at hl 2 rfl) ?_
    refine mb_callSi (W.runV (As := [.int x2]) (rest := []) ⟨hx, hb, hml, hown, hts⟩ (c_X1_has l dC dI cyI cyZ cyJ h1 a0 a1 a2 a3 so fi el ab sz x2) (cwV 1 hts gX2_conditional_X1_has rfl rfl rfl (by decide +kernel) ⟨Nat.le_of_ble_eq_true rfl, Nat.le_of_ble_eq_true rfl⟩) (mb_preV hK (hP.sub [1, 2, 3, 4, 5] rfl) (ci := 3) (q0 := 0) rfl rfl) rfl rfl hl.1 rfl (lv_room (Nat.le_of_ble_eq_true rfl)) dX2_conditional_16 ⟨Nat.zero_le _, Nat.zero_le _⟩) ?_
    refine lv_if_ne (tgt := 24) hx hb dX2_conditional_19 (by decide) (fun c_2 => ?_) (fun c_2 => ?_)
    · refine lv_iload_n hx hb dX2_conditional_24 rfl (lv_at hl 1 rfl) ?_
      refine lv_iload_n hx hb dX2_conditional_25 rfl (lv_at hl 2 rfl) ?_
      refine lv_icmp_ne (tgt := 31) hx hb dX2_conditional_26 (by decide) (fun c_3 => ?_) (fun c_3 => ?_)
      · refine lv_iload_n hx hb dX2_conditional_31 rfl (lv_at hl 1 rfl) ?_
        refine mb_callSi (W.runS (As := [.int x1]) (rest := []) ⟨hx, hb, hml, hown, hts⟩ (c_X2_withoutBox l x1) (va_cwS 1 hts gX2_conditional_X2_withoutBox rfl rfl rfl (by decide +kernel) ⟨Nat.le_of_ble_eq_true rfl, Nat.le_of_ble_eq_true rfl⟩) mb_preT rfl rfl hl.1 rfl (lv_room (Nat.le_of_ble_eq_true rfl)) dX2_conditional_32 ⟨Nat.zero_le _, Nat.zero_le _⟩) ?_
        refine lv_istore_n (lv' := [(3, .int (f_X2_withoutBox x1)), (0, .ref h2), (1, .int x1), (2, .int x2)]) hx hb dX2_conditional_35 rfl hl (by decide) rfl (fun ls hl => ?_)
        refine lv_iload_n hx hb dX2_conditional_36 rfl (lv_at hl 3 rfl) ?_
        refine mb_callSi (W.runS (As := [.int x2]) (rest := []) ⟨hx, hb, hml, hown, hts⟩ (c_X2_withoutBox l x2) (va_cwS 1 hts gX2_conditional_X2_withoutBox rfl rfl rfl (by decide +kernel) ⟨Nat.le_of_ble_eq_true rfl, Nat.le_of_ble_eq_true rfl⟩) mb_preT rfl rfl hl.1 rfl (lv_room (Nat.le_of_ble_eq_true rfl)) dX2_conditional_37 ⟨Nat.zero_le _, Nat.zero_le _⟩) ?_
        refine lv_istore (lv' := [(4, .int (f_X2_withoutBox x2)), (3, .int (f_X2_withoutBox x1)), (0, .ref h2), (1, .int x1), (2, .int x2)]) hx hb dX2_conditional_40 hl (by decide) rfl (fun ls hl => ?_)
        refine lv_iload_n hx hb dX2_conditional_42 rfl (lv_at hl 1 rfl) ?_
        refine lv_iload hx hb dX2_conditional_43 (lv_at hl 0 rfl) ?_
        refine lv_icmp_ne (tgt := 50) hx hb dX2_conditional_45 (by decide) (fun c_4 => ?_) (fun c_4 => ?_)
        · refine lv_iload_n hx hb dX2_conditional_50 rfl (lv_at hl 1 rfl) ?_
          refine mb_callSi (W.runS (As := [.int (f_X2_withoutBox x1)]) (rest := []) ⟨hx, hb, hml, hown, hts⟩ (c_X2_isNumber l (f_X2_withoutBox x1)) (va_cwS 1 hts gX2_conditional_X2_isNumber rfl rfl rfl (by decide +kernel) ⟨Nat.le_of_ble_eq_true rfl, Nat.le_of_ble_eq_true rfl⟩) mb_preT rfl rfl hl.1 rfl (lv_room (Nat.le_of_ble_eq_true rfl)) dX2_conditional_51 ⟨Nat.zero_le _, Nat.zero_le _⟩) ?_
          refine lv_if_eq (tgt := 85) hx hb dX2_conditional_54 (by decide) (fun c_5 => ?_) (fun c_5 => ?_)
          · refine lv_aload_n hx hb dX2_conditional_85 rfl (lv_at hl 2 rfl) ?_
            refine lv_iload_n hx hb dX2_conditional_86 rfl (lv_at hl 3 rfl) ?_
            refine mb_callSi (W.runS (As := [.int x1]) (rest := [.ref h2]) ⟨hx, hb, hml, hown, hts⟩ (c_X2_boxed l x1) (va_cwS 1 hts gX2_conditional_X2_boxed rfl rfl rfl (by decide +kernel) ⟨Nat.le_of_ble_eq_true rfl, Nat.le_of_ble_eq_true rfl⟩) mb_preT rfl rfl hl.1 rfl (lv_room (Nat.le_of_ble_eq_true rfl)) dX2_conditional_87 ⟨Nat.zero_le _, Nat.zero_le _⟩) ?_
            refine lv_iload_n hx hb dX2_conditional_90 rfl (lv_at hl 4 rfl) ?_
            refine mb_callSi (W.runS (As := [.int x2]) (rest := [.int (f_X2_boxed x1), .ref h2]) ⟨hx, hb, hml, hown, hts⟩ (c_X2_boxed l x2) (va_cwS 1 hts gX2_conditional_X2_boxed rfl rfl rfl (by decide +kernel) ⟨Nat.le_of_ble_eq_true rfl, Nat.le_of_ble_eq_true rfl⟩) mb_preT rfl rfl hl.1 rfl (lv_room (Nat.le_of_ble_eq_true rfl)) dX2_conditional_91 ⟨Nat.zero_le _, Nat.zero_le _⟩) ?_
            refine mb_callSi (W.runV (As := [.int (f_X2_boxed x1), .int (f_X2_boxed x2)]) (rest := []) ⟨hx, hb, hml, hown, hts⟩ (c_X2_conditionalOfReferences l dC dI cyI cyZ cyJ tK tL tG ad h2 h1 a0 a1 a2 a3 b0 b1 so fi el ab sz ot ob oc (f_X2_boxed x1) (f_X2_boxed x2) (mb_boxed_in (mb_has gz c_1)) (mb_boxed_in (mb_has gz c_2))) (cwV 2 hts gX2_conditional_X2_conditionalOfReferences rfl rfl rfl (by decide +kernel) ⟨Nat.le_of_ble_eq_true rfl, Nat.le_of_ble_eq_true rfl⟩) (mb_preGV hG hK hP (ci := 4) (q0 := 0) rfl rfl) rfl rfl hl.1 rfl (lv_room (Nat.le_of_ble_eq_true rfl)) dX2_conditional_94 ⟨Nat.zero_le _, Nat.zero_le _⟩) ?_
            exact W.iret (v := (f_X2_conditionalOfReferences so fi el ab sz ot ob oc (f_X2_boxed x1) (f_X2_boxed x2))) hx hb hr (fun t ht hW => ⟨(f_X2_conditionalOfReferences so fi el ab sz ot ob oc (f_X2_boxed x1) (f_X2_boxed x2)), rfl, Eq.symm ((if_neg c_1).trans ((if_neg c_2).trans ((if_neg c_3).trans ((if_neg c_4).trans ((if_pos c_5).trans (rfl)))))), ht⟩) (fun q h => by cases h) dX2_conditional_97
          · refine lv_iload hx hb dX2_conditional_57 (lv_at hl 0 rfl) ?_
            refine mb_callSi (W.runS (As := [.int (f_X2_withoutBox x2)]) (rest := []) ⟨hx, hb, hml, hown, hts⟩ (c_X2_isNumber l (f_X2_withoutBox x2)) (va_cwS 1 hts gX2_conditional_X2_isNumber rfl rfl rfl (by decide +kernel) ⟨Nat.le_of_ble_eq_true rfl, Nat.le_of_ble_eq_true rfl⟩) mb_preT rfl rfl hl.1 rfl (lv_room (Nat.le_of_ble_eq_true rfl)) dX2_conditional_59 ⟨Nat.zero_le _, Nat.zero_le _⟩) ?_
            refine lv_if_eq (tgt := 85) hx hb dX2_conditional_62 (by decide) (fun c_6 => ?_) (fun c_6 => ?_)
            · refine lv_aload_n hx hb dX2_conditional_85 rfl (lv_at hl 2 rfl) ?_
              refine lv_iload_n hx hb dX2_conditional_86 rfl (lv_at hl 3 rfl) ?_
              refine mb_callSi (W.runS (As := [.int x1]) (rest := [.ref h2]) ⟨hx, hb, hml, hown, hts⟩ (c_X2_boxed l x1) (va_cwS 1 hts gX2_conditional_X2_boxed rfl rfl rfl (by decide +kernel) ⟨Nat.le_of_ble_eq_true rfl, Nat.le_of_ble_eq_true rfl⟩) mb_preT rfl rfl hl.1 rfl (lv_room (Nat.le_of_ble_eq_true rfl)) dX2_conditional_87 ⟨Nat.zero_le _, Nat.zero_le _⟩) ?_
              refine lv_iload_n hx hb dX2_conditional_90 rfl (lv_at hl 4 rfl) ?_
              refine mb_callSi (W.runS (As := [.int x2]) (rest := [.int (f_X2_boxed x1), .ref h2]) ⟨hx, hb, hml, hown, hts⟩ (c_X2_boxed l x2) (va_cwS 1 hts gX2_conditional_X2_boxed rfl rfl rfl (by decide +kernel) ⟨Nat.le_of_ble_eq_true rfl, Nat.le_of_ble_eq_true rfl⟩) mb_preT rfl rfl hl.1 rfl (lv_room (Nat.le_of_ble_eq_true rfl)) dX2_conditional_91 ⟨Nat.zero_le _, Nat.zero_le _⟩) ?_
              refine mb_callSi (W.runV (As := [.int (f_X2_boxed x1), .int (f_X2_boxed x2)]) (rest := []) ⟨hx, hb, hml, hown, hts⟩ (c_X2_conditionalOfReferences l dC dI cyI cyZ cyJ tK tL tG ad h2 h1 a0 a1 a2 a3 b0 b1 so fi el ab sz ot ob oc (f_X2_boxed x1) (f_X2_boxed x2) (mb_boxed_in (mb_has gz c_1)) (mb_boxed_in (mb_has gz c_2))) (cwV 2 hts gX2_conditional_X2_conditionalOfReferences rfl rfl rfl (by decide +kernel) ⟨Nat.le_of_ble_eq_true rfl, Nat.le_of_ble_eq_true rfl⟩) (mb_preGV hG hK hP (ci := 4) (q0 := 0) rfl rfl) rfl rfl hl.1 rfl (lv_room (Nat.le_of_ble_eq_true rfl)) dX2_conditional_94 ⟨Nat.zero_le _, Nat.zero_le _⟩) ?_
              exact W.iret (v := (f_X2_conditionalOfReferences so fi el ab sz ot ob oc (f_X2_boxed x1) (f_X2_boxed x2))) hx hb hr (fun t ht hW => ⟨(f_X2_conditionalOfReferences so fi el ab sz ot ob oc (f_X2_boxed x1) (f_X2_boxed x2)), rfl, Eq.symm ((if_neg c_1).trans ((if_neg c_2).trans ((if_neg c_3).trans ((if_neg c_4).trans ((if_neg c_5).trans ((if_pos c_6).trans (rfl))))))), ht⟩) (fun q h => by cases h) dX2_conditional_97
            · refine lv_iload_n hx hb dX2_conditional_65 rfl (lv_at hl 1 rfl) ?_
              refine lv_iload hx hb dX2_conditional_66 (lv_at hl 0 rfl) ?_
              refine mb_callSi (W.runS (As := [.int (f_X2_withoutBox x1), .int (f_X2_withoutBox x2)]) (rest := []) ⟨hx, hb, hml, hown, hts⟩ (c_X2_isByteAndShort l (f_X2_withoutBox x1) (f_X2_withoutBox x2)) (va_cwS 2 hts gX2_conditional_X2_isByteAndShort rfl rfl rfl (by decide +kernel) ⟨Nat.le_of_ble_eq_true rfl, Nat.le_of_ble_eq_true rfl⟩) mb_preT rfl rfl hl.1 rfl (lv_room (Nat.le_of_ble_eq_true rfl)) dX2_conditional_68 ⟨Nat.zero_le _, Nat.zero_le _⟩) ?_
              refine lv_if_eq (tgt := 78) hx hb dX2_conditional_71 (by decide) (fun c_7 => ?_) (fun c_7 => ?_)
              · refine lv_iload_n hx hb dX2_conditional_78 rfl (lv_at hl 1 rfl) ?_
                refine lv_iload hx hb dX2_conditional_79 (lv_at hl 0 rfl) ?_
                refine mb_callSi (W.runS (As := [.int (f_X2_withoutBox x1), .int (f_X2_withoutBox x2)]) (rest := []) ⟨hx, hb, hml, hown, hts⟩ (c_X2_promotedOfTwo l (f_X2_withoutBox x1) (f_X2_withoutBox x2)) (va_cwS 2 hts gX2_conditional_X2_promotedOfTwo rfl rfl rfl (by decide +kernel) ⟨Nat.le_of_ble_eq_true rfl, Nat.le_of_ble_eq_true rfl⟩) mb_preT rfl rfl hl.1 rfl (lv_room (Nat.le_of_ble_eq_true rfl)) dX2_conditional_81 ⟨Nat.zero_le _, Nat.zero_le _⟩) ?_
                exact W.iret (v := (f_X2_promotedOfTwo (f_X2_withoutBox x1) (f_X2_withoutBox x2))) hx hb hr (fun t ht hW => ⟨(f_X2_promotedOfTwo (f_X2_withoutBox x1) (f_X2_withoutBox x2)), rfl, Eq.symm ((if_neg c_1).trans ((if_neg c_2).trans ((if_neg c_3).trans ((if_neg c_4).trans ((if_neg c_5).trans ((if_neg c_6).trans ((if_pos c_7).trans (rfl)))))))), ht⟩) (fun q h => by cases h) dX2_conditional_84
              · refine lv_iconst (v := (3 : Int32)) hx hb dX2_conditional_74 (by decide) ?_
                refine lv_goto (tgt := 84) hx hb dX2_conditional_75 (by decide) ?_
                exact W.iret (v := (3 : Int32)) hx hb hr (fun t ht hW => ⟨(3 : Int32), rfl, Eq.symm ((if_neg c_1).trans ((if_neg c_2).trans ((if_neg c_3).trans ((if_neg c_4).trans ((if_neg c_5).trans ((if_neg c_6).trans ((if_neg c_7).trans (rfl)))))))), ht⟩) (fun q h => by cases h) dX2_conditional_84
        · refine lv_iload_n hx hb dX2_conditional_48 rfl (lv_at hl 1 rfl) ?_
          exact W.iret (v := (f_X2_withoutBox x1)) hx hb hr (fun t ht hW => ⟨(f_X2_withoutBox x1), rfl, Eq.symm ((if_neg c_1).trans ((if_neg c_2).trans ((if_neg c_3).trans ((if_pos c_4).trans (rfl))))), ht⟩) (fun q h => by cases h) dX2_conditional_49
      · refine lv_iload_n hx hb dX2_conditional_29 rfl (lv_at hl 1 rfl) ?_
        exact W.iret (v := x1) hx hb hr (fun t ht hW => ⟨x1, rfl, Eq.symm ((if_neg c_1).trans ((if_neg c_2).trans ((if_pos c_3).trans (rfl)))), ht⟩) (fun q h => by cases h) dX2_conditional_30
    · refine lv_iconst (v := (-1 : Int32)) hx hb dX2_conditional_22 (by decide) ?_
      exact W.iret (v := (-1 : Int32)) hx hb hr (fun t ht hW => ⟨(-1 : Int32), rfl, Eq.symm ((if_neg c_1).trans ((if_pos c_2).trans (rfl))), ht⟩) (fun q h => by cases h) dX2_conditional_23
def f_X2_typeOf (so : Nat → Int32) (fi : Nat → Int32) (el : Nat → Int32) (ab : Nat → Int64) (sz : Int32) (ot : Nat → Int32) (ob : Nat → Int64) (oc : Int32) (x1 : Int32) : Int32 := if (f_X2_isObject so fi el ab sz ot ob oc x1) = 0 then (-1 : Int32)
  else (ot x1.toNatClampNeg)
set_option maxHeartbeats 4000000 in
set_option maxRecDepth 100000 in
theorem c_X2_typeOf (l : Launch) (dC : Nat → ClassId) (dI : Nat → Nat → Nat) (cyI cyZ cyJ : ClassId) (tK tL tG : Nat) (ad : Nat → Nat) (h2 h1 a0 a1 a2 a3 b0 b1 : Nat) (so : Nat → Int32) (fi : Nat → Int32) (el : Nat → Int32) (ab : Nat → Int64) (sz : Int32) (ot : Nat → Int32) (ob : Nat → Int64) (oc : Int32) (x1 : Int32) (go : oc.toInt ≤ 60) : Met l yX2_typeOf wsX2_typeOf ({ frames := 1, cells := 0, slots := 0, locals := 21 }) (va_Pc [.ref h2, .int x1] (mb_RG tK tL tG ad (dC, dI) (mb_tys cyI cyZ cyJ) [(h2, .inr (4, [.ref h1, .ref b0, .ref b1, .int oc])), (h1, .inr (3, [.ref a0, .ref a1, .ref a2, .ref a3, .int sz])), (a0, .inl (cyI, 40, .inl so)), (a1, .inl (cyZ, 40, .inl fi)), (a2, .inl (cyI, 40, .inl el)), (a3, .inl (cyJ, 40, .inr (.inl ab))), (b0, .inl (cyI, 60, .inl ot)), (b1, .inl (cyJ, 60, .inr (.inl ob)))])) (vp_Si (fun r => r = f_X2_typeOf so fi el ab sz ot ob oc x1)) 0 0 (fun _ => False) := by
  refine Met.ofW (cc := cX2_typeOf) (maxL := 2) (ret := (some .int)) (by decide) rfl ?_
  intro p e s m args below meth c s₁ B hml hv
  obtain ⟨rfl, hG, hP, hK⟩ := hv
  have hx := B.exec
  have hb := B.bytes
  have hr := B.returns
  have hts := atoms_spec (ws := wsX2_typeOf) B.pre
  have hown : s.vm.findClass RX2 = some m.cls := findClass_of_methodNamed B.named
  have hlocks := B.notSynchronized
  have hP : va_P (dC, dI) vwCl [(h2, .inr (4, [.ref h1, .ref b0, .ref b1, .int oc])), (h1, .inr (3, [.ref a0, .ref a1, .ref a2, .ref a3, .int sz])), (a0, .inl (cyI, 40, .inl so)), (a1, .inl (cyZ, 40, .inl fi)), (a2, .inl (cyI, 40, .inl el)), (a3, .inl (cyJ, 40, .inr (.inl ab))), (b0, .inl (cyI, 60, .inl ot)), (b1, .inl (cyJ, 60, .inr (.inl ob)))] s.heap := hP
  have hP0 : va_P (dC, dI) vwCl [] s.heap := fun k q h => by simp at h
  have hin_X2 : ∀ w ∈ wsX20, w ∈ wsX2_typeOf := by decide +kernel
  have hf_16 := hts (.fieldLink RX2 16 "ConversionTables" "objectTypes" "[I") (by decide +kernel)
  have hl := lv_entry ([.ref h2, .int x1]) (n := 2) (Nat.le_of_ble_eq_true rfl)
  rw [lg_entry_eq]
  generalize (lg_sl ([.ref h2, .int x1]) ++ List.replicate (2 - (lg_sl ([.ref h2, .int x1])).length) Slot.unset).toArray = ls at hl ⊢
  have hl : lv_has ls 2 [(0, .ref h2), (1, .int x1)] := hl
  refine lv_aload_n hx hb dX2_typeOf_0 rfl (lv_at hl 0 rfl) ?_
  refine lv_iload_n hx hb dX2_typeOf_1 rfl (lv_at hl 1 rfl) ?_
  refine mb_callSi (W.runV (As := [.int x1]) (rest := []) ⟨hx, hb, hml, hown, hts⟩ (c_X2_isObject l dC dI cyI cyZ cyJ tK tL tG ad h2 h1 a0 a1 a2 a3 b0 b1 so fi el ab sz ot ob oc x1) (cwV 1 hts gX2_typeOf_X2_isObject rfl rfl rfl (by decide +kernel) ⟨Nat.le_of_ble_eq_true rfl, Nat.le_of_ble_eq_true rfl⟩) (mb_preGV hG hK hP (ci := 4) (q0 := 0) rfl rfl) rfl rfl hl.1 rfl (lv_room (Nat.le_of_ble_eq_true rfl)) dX2_typeOf_2 ⟨Nat.zero_le _, Nat.zero_le _⟩) ?_
  refine lv_if_eq (tgt := 17) hx hb dX2_typeOf_5 (by decide) (fun c_1 => ?_) (fun c_1 => ?_)
  · refine lv_iconst (v := (-1 : Int32)) hx hb dX2_typeOf_17 (by decide) ?_
    exact W.iret (v := (-1 : Int32)) hx hb hr (fun t ht hW => ⟨(-1 : Int32), rfl, Eq.symm ((if_pos c_1).trans (rfl)), ht⟩) (fun q h => by cases h) dX2_typeOf_18
  · refine lv_aload_n hx hb dX2_typeOf_8 rfl (lv_at hl 0 rfl) ?_
    refine va_get (D := (dC, dI)) (ci := 4) (v := .ref b0) (C := RX2) (T := TX2) (N := 4) hx hb hts hin_X2 hown hK hP 0 rfl rfl 1 (by decide) hf_16 (fun _ h9 => h9) rfl dX2_typeOf_9 ?_
    refine lv_iload_n hx hb dX2_typeOf_12 rfl (lv_at hl 1 rfl) ?_
    refine va_iald hx hb hK hP 6 0 rfl rfl (mb_obj go c_1) dX2_typeOf_13 ?_
    refine lv_goto (tgt := 18) hx hb dX2_typeOf_14 (by decide) ?_
    exact W.iret (v := (ot x1.toNatClampNeg)) hx hb hr (fun t ht hW => ⟨(ot x1.toNatClampNeg), rfl, Eq.symm ((if_neg c_1).trans (rfl)), ht⟩) (fun q h => by cases h) dX2_typeOf_18
def f_X2_cast (so : Nat → Int32) (fi : Nat → Int32) (el : Nat → Int32) (ab : Nat → Int64) (sz : Int32) (ot : Nat → Int32) (ob : Nat → Int64) (oc : Int32) (x1 : Int32) (x2 : Int32) (x3 : Int32) : Int32 := if (f_X2_isObject so fi el ab sz ot ob oc x1) = 0 then (-1 : Int32)
  else if (f_X1_has so fi el ab sz x2) = 0 then (-1 : Int32)
  else if (f_X1_has so fi el ab sz x3) = 0 then (-1 : Int32)
  else if (f_X2_isPrimitive x2) = 0 then (if (f_X1_isUnder so fi el ab sz (ot x1.toNatClampNeg) x2) = 0 then (-2 : Int32)
    else if (f_X2_allowedKind so fi el ab sz ot ob oc x2 x3 (3 : Int32)) = 0 then (-2 : Int32)
    else if (ot x1.toNatClampNeg) = (22 : Int32) then (if (f_X2_isPrimitive x3) = 0 then (1 : Int32)
      else (2 : Int32))
    else if (f_X2_allowedKind so fi el ab sz ot ob oc x2 x3 (3 : Int32)) = (8 : Int32) then (if (1 : Int32) = 0 then (0 : Int32)
      else (1 : Int32))
    else if (f_X1_isUnder so fi el ab sz (ot x1.toNatClampNeg) (f_X2_boxed x3)) = 0 then (if (0 : Int32) = 0 then (0 : Int32)
      else (1 : Int32))
    else if (1 : Int32) = 0 then (0 : Int32)
    else (1 : Int32))
  else (-2 : Int32)
set_option maxHeartbeats 4000000 in
set_option maxRecDepth 100000 in
theorem c_X2_cast (l : Launch) (dC : Nat → ClassId) (dI : Nat → Nat → Nat) (cyI cyZ cyJ : ClassId) (tK tL tG : Nat) (ad : Nat → Nat) (h2 h1 a0 a1 a2 a3 b0 b1 : Nat) (so : Nat → Int32) (fi : Nat → Int32) (el : Nat → Int32) (ab : Nat → Int64) (sz : Int32) (ot : Nat → Int32) (ob : Nat → Int64) (oc : Int32) (x1 : Int32) (x2 : Int32) (x3 : Int32) (gz : sz.toInt ≤ 40) (go : oc.toInt ≤ 60) (gt : ∀ x : Int32, ¬ x < 0 → ¬ oc ≤ x → vp_in (ot x.toNatClampNeg) 40) (ge : mb_EL so el) : Met l yX2_cast wsX2_cast ({ frames := 6, cells := 0, slots := 0, locals := 137 }) (va_Pc [.ref h2, .int x1, .int x2, .int x3] (mb_RG tK tL tG ad (dC, dI) (mb_tys cyI cyZ cyJ) [(h2, .inr (4, [.ref h1, .ref b0, .ref b1, .int oc])), (h1, .inr (3, [.ref a0, .ref a1, .ref a2, .ref a3, .int sz])), (a0, .inl (cyI, 40, .inl so)), (a1, .inl (cyZ, 40, .inl fi)), (a2, .inl (cyI, 40, .inl el)), (a3, .inl (cyJ, 40, .inr (.inl ab))), (b0, .inl (cyI, 60, .inl ot)), (b1, .inl (cyJ, 60, .inr (.inl ob)))])) (vp_Si (fun r => r = f_X2_cast so fi el ab sz ot ob oc x1 x2 x3)) 0 0 (fun _ => False) := by
  refine Met.ofW (cc := cX2_cast) (maxL := 7) (ret := (some .int)) (by decide) rfl ?_
  intro p e s m args below meth c s₁ B hml hv
  obtain ⟨rfl, hG, hP, hK⟩ := hv
  have hx := B.exec
  have hb := B.bytes
  have hr := B.returns
  have hts := atoms_spec (ws := wsX2_cast) B.pre
  have hown : s.vm.findClass RX2 = some m.cls := findClass_of_methodNamed B.named
  have hlocks := B.notSynchronized
  have hP : va_P (dC, dI) vwCl [(h2, .inr (4, [.ref h1, .ref b0, .ref b1, .int oc])), (h1, .inr (3, [.ref a0, .ref a1, .ref a2, .ref a3, .int sz])), (a0, .inl (cyI, 40, .inl so)), (a1, .inl (cyZ, 40, .inl fi)), (a2, .inl (cyI, 40, .inl el)), (a3, .inl (cyJ, 40, .inr (.inl ab))), (b0, .inl (cyI, 60, .inl ot)), (b1, .inl (cyJ, 60, .inr (.inl ob)))] s.heap := hP
  have hP0 : va_P (dC, dI) vwCl [] s.heap := fun k q h => by simp at h
  have hin_X2 : ∀ w ∈ wsX20, w ∈ wsX2_cast := by decide +kernel
  have hf_12 := hts (.fieldLink RX2 12 "ConversionTables" "types" "LConversionTables$TypeTable;") (by decide +kernel)
  have hf_16 := hts (.fieldLink RX2 16 "ConversionTables" "objectTypes" "[I") (by decide +kernel)
  have hl := lv_entry ([.ref h2, .int x1, .int x2, .int x3]) (n := 7) (Nat.le_of_ble_eq_true rfl)
  rw [lg_entry_eq]
  generalize (lg_sl ([.ref h2, .int x1, .int x2, .int x3]) ++ List.replicate (7 - (lg_sl ([.ref h2, .int x1, .int x2, .int x3])).length) Slot.unset).toArray = ls at hl ⊢
  have hl : lv_has ls 7 [(0, .ref h2), (1, .int x1), (2, .int x2), (3, .int x3)] := hl
  refine lv_aload_n hx hb dX2_cast_0 rfl (lv_at hl 0 rfl) ?_
  refine lv_iload_n hx hb dX2_cast_1 rfl (lv_at hl 1 rfl) ?_
  refine mb_callSi (W.runV (As := [.int x1]) (rest := []) ⟨hx, hb, hml, hown, hts⟩ (c_X2_isObject l dC dI cyI cyZ cyJ tK tL tG ad h2 h1 a0 a1 a2 a3 b0 b1 so fi el ab sz ot ob oc x1) (cwV 1 hts gX2_cast_X2_isObject rfl rfl rfl (by decide +kernel) ⟨Nat.le_of_ble_eq_true rfl, Nat.le_of_ble_eq_true rfl⟩) (mb_preGV hG hK hP (ci := 4) (q0 := 0) rfl rfl) rfl rfl hl.1 rfl (lv_room (Nat.le_of_ble_eq_true rfl)) dX2_cast_2 ⟨Nat.zero_le _, Nat.zero_le _⟩) ?_
  refine lv_if_eq (tgt := 30) hx hb dX2_cast_5 (by decide) (fun c_1 => ?_) (fun c_1 => ?_)
  · refine lv_iconst (v := (-1 : Int32)) hx hb dX2_cast_30 (by decide) ?_
    exact W.iret (v := (-1 : Int32)) hx hb hr (fun t ht hW => ⟨(-1 : Int32), rfl, Eq.symm ((if_pos c_1).trans (rfl)), ht⟩) (fun q h => by cases h) dX2_cast_31
  · refine lv_aload_n hx hb dX2_cast_8 rfl (lv_at hl 0 rfl) ?_
    refine va_get (D := (dC, dI)) (ci := 4) (v := .ref h1) (C := RX2) (T := TX2) (N := 4) hx hb hts hin_X2 hown hK hP 0 rfl rfl 0 (by decide) hf_12 (fun _ h9 => h9) rfl dX2_cast_9 ?_
    refine lv_iload_n hx hb dX2_cast_12 rfl (lv_at hl 2 rfl) ?_
    refine mb_callSi (W.runV (As := [.int x2]) (rest := []) ⟨hx, hb, hml, hown, hts⟩ (c_X1_has l dC dI cyI cyZ cyJ h1 a0 a1 a2 a3 so fi el ab sz x2) (cwV 1 hts gX2_cast_X1_has rfl rfl rfl (by decide +kernel) ⟨Nat.le_of_ble_eq_true rfl, Nat.le_of_ble_eq_true rfl⟩) (mb_preV hK (hP.sub [1, 2, 3, 4, 5] rfl) (ci := 3) (q0 := 0) rfl rfl) rfl rfl hl.1 rfl (lv_room (Nat.le_of_ble_eq_true rfl)) dX2_cast_13 ⟨Nat.zero_le _, Nat.zero_le _⟩) ?_
    refine lv_if_eq (tgt := 30) hx hb dX2_cast_16 (by decide) (fun c_2 => ?_) (fun c_2 => ?_)
    · refine lv_iconst (v := (-1 : Int32)) hx hb dX2_cast_30 (by decide) ?_
      exact W.iret (v := (-1 : Int32)) hx hb hr (fun t ht hW => ⟨(-1 : Int32), rfl, Eq.symm ((if_neg c_1).trans ((if_pos c_2).trans (rfl))), ht⟩) (fun q h => by cases h) dX2_cast_31
    · refine lv_aload_n hx hb dX2_cast_19 rfl (lv_at hl 0 rfl) ?_
      refine va_get (D := (dC, dI)) (ci := 4) (v := .ref h1) (C := RX2) (T := TX2) (N := 4) hx hb hts hin_X2 hown hK hP 0 rfl rfl 0 (by decide) hf_12 (fun _ h9 => h9) rfl dX2_cast_20 ?_
      refine lv_iload_n hx hb dX2_cast_23 rfl (lv_at hl 3 rfl) ?_
      refine mb_callSi (W.runV (As := [.int x3]) (rest := []) ⟨hx, hb, hml, hown, hts⟩ (c_X1_has l dC dI cyI cyZ cyJ h1 a0 a1 a2 a3 so fi el ab sz x3) (cwV 1 hts gX2_cast_X1_has rfl rfl rfl (by decide +kernel) ⟨Nat.le_of_ble_eq_true rfl, Nat.le_of_ble_eq_true rfl⟩) (mb_preV hK (hP.sub [1, 2, 3, 4, 5] rfl) (ci := 3) (q0 := 0) rfl rfl) rfl rfl hl.1 rfl (lv_room (Nat.le_of_ble_eq_true rfl)) dX2_cast_24 ⟨Nat.zero_le _, Nat.zero_le _⟩) ?_
      refine lv_if_ne (tgt := 32) hx hb dX2_cast_27 (by decide) (fun c_3 => ?_) (fun c_3 => ?_)
      · refine lv_aload_n hx hb dX2_cast_32 rfl (lv_at hl 0 rfl) ?_
        refine va_get (D := (dC, dI)) (ci := 4) (v := .ref b0) (C := RX2) (T := TX2) (N := 4) hx hb hts hin_X2 hown hK hP 0 rfl rfl 1 (by decide) hf_16 (fun _ h9 => h9) rfl dX2_cast_33 ?_
        refine lv_iload_n hx hb dX2_cast_36 rfl (lv_at hl 1 rfl) ?_
        refine va_iald hx hb hK hP 6 0 rfl rfl (mb_obj go c_1) dX2_cast_37 ?_
        refine lv_istore (lv' := [(4, .int (ot x1.toNatClampNeg)), (0, .ref h2), (1, .int x1), (2, .int x2), (3, .int x3)]) hx hb dX2_cast_38 hl (by decide) rfl (fun ls hl => ?_)
        refine lv_iload_n hx hb dX2_cast_40 rfl (lv_at hl 3 rfl) ?_
        refine mb_callSi (W.runS (As := [.int x2]) (rest := []) ⟨hx, hb, hml, hown, hts⟩ (c_X2_isPrimitive l x2) (va_cwS 1 hts gX2_cast_X2_isPrimitive rfl rfl rfl (by decide +kernel) ⟨Nat.le_of_ble_eq_true rfl, Nat.le_of_ble_eq_true rfl⟩) mb_preT rfl rfl hl.1 rfl (lv_room (Nat.le_of_ble_eq_true rfl)) dX2_cast_41 ⟨Nat.zero_le _, Nat.zero_le _⟩) ?_
        refine lv_if_ne (tgt := 60) hx hb dX2_cast_44 (by decide) (fun c_4 => ?_) (fun c_4 => ?_)
        · refine lv_bipush (v := (-2 : Int32)) hx hb dX2_cast_60 (by decide) ?_
          exact W.iret (v := (-2 : Int32)) hx hb hr (fun t ht hW => ⟨(-2 : Int32), rfl, Eq.symm ((if_neg c_1).trans ((if_neg c_2).trans ((if_neg c_3).trans ((if_neg c_4).trans (rfl))))), ht⟩) (fun q h => by cases h) dX2_cast_62
        · refine lv_aload_n hx hb dX2_cast_47 rfl (lv_at hl 1 rfl) ?_
          refine va_get (D := (dC, dI)) (ci := 4) (v := .ref h1) (C := RX2) (T := TX2) (N := 4) hx hb hts hin_X2 hown hK hP 0 rfl rfl 0 (by decide) hf_12 (fun _ h9 => h9) rfl dX2_cast_48 ?_
          refine lv_iload hx hb dX2_cast_51 (lv_at hl 0 rfl) ?_
          refine lv_iload_n hx hb dX2_cast_53 rfl (lv_at hl 3 rfl) ?_
          refine mb_callSi (W.runV (As := [.int (ot x1.toNatClampNeg), .int x2]) (rest := []) ⟨hx, hb, hml, hown, hts⟩ (c_X1_isUnder l dC dI cyI cyZ cyJ h1 a0 a1 a2 a3 so fi el ab sz (ot x1.toNatClampNeg) x2 (mb_own gt c_1)) (cwV 2 hts gX2_cast_X1_isUnder rfl rfl rfl (by decide +kernel) ⟨Nat.le_of_ble_eq_true rfl, Nat.le_of_ble_eq_true rfl⟩) (mb_preV hK (hP.sub [1, 2, 3, 4, 5] rfl) (ci := 3) (q0 := 0) rfl rfl) rfl rfl hl.1 rfl (lv_room (Nat.le_of_ble_eq_true rfl)) dX2_cast_54 ⟨Nat.zero_le _, Nat.zero_le _⟩) ?_
          refine lv_if_ne (tgt := 63) hx hb dX2_cast_57 (by decide) (fun c_5 => ?_) (fun c_5 => ?_)
          · refine lv_aload_n hx hb dX2_cast_63 rfl (lv_at hl 1 rfl) ?_
            refine lv_iload_n hx hb dX2_cast_64 rfl (lv_at hl 3 rfl) ?_
            refine lv_iload_n hx hb dX2_cast_65 rfl (lv_at hl 4 rfl) ?_
            refine lv_iconst (v := (3 : Int32)) hx hb dX2_cast_66 (by decide) ?_
            refine mb_callSi (W.runV (As := [.int x2, .int x3, .int (3 : Int32)]) (rest := []) ⟨hx, hb, hml, hown, hts⟩ (c_X2_allowedKind l dC dI cyI cyZ cyJ tK tL tG ad h2 h1 a0 a1 a2 a3 b0 b1 so fi el ab sz ot ob oc x2 x3 (3 : Int32) (mb_has gz c_2) (mb_has gz c_3) mb_in36 ge) (cwV 3 hts gX2_cast_X2_allowedKind rfl rfl rfl (by decide +kernel) ⟨Nat.le_of_ble_eq_true rfl, Nat.le_of_ble_eq_true rfl⟩) (mb_preGV hG hK hP (ci := 4) (q0 := 0) rfl rfl) rfl rfl hl.1 rfl (lv_room (Nat.le_of_ble_eq_true rfl)) dX2_cast_67 ⟨Nat.zero_le _, Nat.zero_le _⟩) ?_
            refine lv_istore (lv' := [(5, .int (f_X2_allowedKind so fi el ab sz ot ob oc x2 x3 (3 : Int32))), (4, .int (ot x1.toNatClampNeg)), (0, .ref h2), (1, .int x1), (2, .int x2), (3, .int x3)]) hx hb dX2_cast_70 hl (by decide) rfl (fun ls hl => ?_)
            refine lv_iload hx hb dX2_cast_72 (lv_at hl 0 rfl) ?_
            refine lv_if_ne (tgt := 80) hx hb dX2_cast_74 (by decide) (fun c_6 => ?_) (fun c_6 => ?_)
            · refine lv_iload hx hb dX2_cast_80 (lv_at hl 1 rfl) ?_
              refine lv_bipush (v := (22 : Int32)) hx hb dX2_cast_82 (by decide) ?_
              refine lv_icmp_ne (tgt := 100) hx hb dX2_cast_84 (by decide) (fun c_7 => ?_) (fun c_7 => ?_)
              · refine lv_iload hx hb dX2_cast_100 (lv_at hl 0 rfl) ?_
                refine lv_bipush (v := (8 : Int32)) hx hb dX2_cast_102 (by decide) ?_
                refine lv_icmp_eq (tgt := 123) hx hb dX2_cast_104 (by decide) (fun c_8 => ?_) (fun c_8 => ?_)
                · refine lv_iconst (v := (1 : Int32)) hx hb dX2_cast_123 (by decide) ?_
                  refine lv_goto (tgt := 128) hx hb dX2_cast_124 (by decide) ?_
                  refine lv_istore (lv' := [(6, .int (1 : Int32)), (5, .int (f_X2_allowedKind so fi el ab sz ot ob oc x2 x3 (3 : Int32))), (4, .int (ot x1.toNatClampNeg)), (0, .ref h2), (1, .int x1), (2, .int x2), (3, .int x3)]) hx hb dX2_cast_128 hl (by decide) rfl (fun ls hl => ?_)
                  refine lv_iload hx hb dX2_cast_130 (lv_at hl 0 rfl) ?_
                  refine lv_if_eq (tgt := 139) hx hb dX2_cast_132 (by decide) (fun c_9 => ?_) (fun c_9 => ?_)
                  · refine lv_iconst (v := (0 : Int32)) hx hb dX2_cast_139 (by decide) ?_
                    exact W.iret (v := (0 : Int32)) hx hb hr (fun t ht hW => ⟨(0 : Int32), rfl, Eq.symm ((if_neg c_1).trans ((if_neg c_2).trans ((if_neg c_3).trans ((if_pos c_4).trans ((if_neg c_5).trans ((if_neg c_6).trans ((if_neg c_7).trans ((if_pos c_8).trans ((if_pos c_9).trans (rfl)))))))))), ht⟩) (fun q h => by cases h) dX2_cast_140
                  · refine lv_iconst (v := (1 : Int32)) hx hb dX2_cast_135 (by decide) ?_
                    refine lv_goto (tgt := 140) hx hb dX2_cast_136 (by decide) ?_
                    exact W.iret (v := (1 : Int32)) hx hb hr (fun t ht hW => ⟨(1 : Int32), rfl, Eq.symm ((if_neg c_1).trans ((if_neg c_2).trans ((if_neg c_3).trans ((if_pos c_4).trans ((if_neg c_5).trans ((if_neg c_6).trans ((if_neg c_7).trans ((if_pos c_8).trans ((if_neg c_9).trans (rfl)))))))))), ht⟩) (fun q h => by cases h) dX2_cast_140
                · refine lv_aload_n hx hb dX2_cast_107 rfl (lv_at hl 2 rfl) ?_
                  refine va_get (D := (dC, dI)) (ci := 4) (v := .ref h1) (C := RX2) (T := TX2) (N := 4) hx hb hts hin_X2 hown hK hP 0 rfl rfl 0 (by decide) hf_12 (fun _ h9 => h9) rfl dX2_cast_108 ?_
                  refine lv_iload hx hb dX2_cast_111 (lv_at hl 1 rfl) ?_
                  refine lv_iload_n hx hb dX2_cast_113 rfl (lv_at hl 5 rfl) ?_
                  refine mb_callSi (W.runS (As := [.int x3]) (rest := [.int (ot x1.toNatClampNeg), .ref h1]) ⟨hx, hb, hml, hown, hts⟩ (c_X2_boxed l x3) (va_cwS 1 hts gX2_cast_X2_boxed rfl rfl rfl (by decide +kernel) ⟨Nat.le_of_ble_eq_true rfl, Nat.le_of_ble_eq_true rfl⟩) mb_preT rfl rfl hl.1 rfl (lv_room (Nat.le_of_ble_eq_true rfl)) dX2_cast_114 ⟨Nat.zero_le _, Nat.zero_le _⟩) ?_
                  refine mb_callSi (W.runV (As := [.int (ot x1.toNatClampNeg), .int (f_X2_boxed x3)]) (rest := []) ⟨hx, hb, hml, hown, hts⟩ (c_X1_isUnder l dC dI cyI cyZ cyJ h1 a0 a1 a2 a3 so fi el ab sz (ot x1.toNatClampNeg) (f_X2_boxed x3) (mb_own gt c_1)) (cwV 2 hts gX2_cast_X1_isUnder rfl rfl rfl (by decide +kernel) ⟨Nat.le_of_ble_eq_true rfl, Nat.le_of_ble_eq_true rfl⟩) (mb_preV hK (hP.sub [1, 2, 3, 4, 5] rfl) (ci := 3) (q0 := 0) rfl rfl) rfl rfl hl.1 rfl (lv_room (Nat.le_of_ble_eq_true rfl)) dX2_cast_117 ⟨Nat.zero_le _, Nat.zero_le _⟩) ?_
                  refine lv_if_eq (tgt := 127) hx hb dX2_cast_120 (by decide) (fun c_10 => ?_) (fun c_10 => ?_)
                  · refine lv_iconst (v := (0 : Int32)) hx hb dX2_cast_127 (by decide) ?_
                    refine lv_istore (lv' := [(6, .int (0 : Int32)), (5, .int (f_X2_allowedKind so fi el ab sz ot ob oc x2 x3 (3 : Int32))), (4, .int (ot x1.toNatClampNeg)), (0, .ref h2), (1, .int x1), (2, .int x2), (3, .int x3)]) hx hb dX2_cast_128 hl (by decide) rfl (fun ls hl => ?_)
                    refine lv_iload hx hb dX2_cast_130 (lv_at hl 0 rfl) ?_
                    refine lv_if_eq (tgt := 139) hx hb dX2_cast_132 (by decide) (fun c_11 => ?_) (fun c_11 => ?_)
                    · refine lv_iconst (v := (0 : Int32)) hx hb dX2_cast_139 (by decide) ?_
                      exact W.iret (v := (0 : Int32)) hx hb hr (fun t ht hW => ⟨(0 : Int32), rfl, Eq.symm ((if_neg c_1).trans ((if_neg c_2).trans ((if_neg c_3).trans ((if_pos c_4).trans ((if_neg c_5).trans ((if_neg c_6).trans ((if_neg c_7).trans ((if_neg c_8).trans ((if_pos c_10).trans ((if_pos c_11).trans (rfl))))))))))), ht⟩) (fun q h => by cases h) dX2_cast_140
                    · refine lv_iconst (v := (1 : Int32)) hx hb dX2_cast_135 (by decide) ?_
                      refine lv_goto (tgt := 140) hx hb dX2_cast_136 (by decide) ?_
                      exact W.iret (v := (1 : Int32)) hx hb hr (fun t ht hW => ⟨(1 : Int32), rfl, Eq.symm ((if_neg c_1).trans ((if_neg c_2).trans ((if_neg c_3).trans ((if_pos c_4).trans ((if_neg c_5).trans ((if_neg c_6).trans ((if_neg c_7).trans ((if_neg c_8).trans ((if_pos c_10).trans ((if_neg c_11).trans (rfl))))))))))), ht⟩) (fun q h => by cases h) dX2_cast_140
                  · refine lv_iconst (v := (1 : Int32)) hx hb dX2_cast_123 (by decide) ?_
                    refine lv_goto (tgt := 128) hx hb dX2_cast_124 (by decide) ?_
                    refine lv_istore (lv' := [(6, .int (1 : Int32)), (5, .int (f_X2_allowedKind so fi el ab sz ot ob oc x2 x3 (3 : Int32))), (4, .int (ot x1.toNatClampNeg)), (0, .ref h2), (1, .int x1), (2, .int x2), (3, .int x3)]) hx hb dX2_cast_128 hl (by decide) rfl (fun ls hl => ?_)
                    refine lv_iload hx hb dX2_cast_130 (lv_at hl 0 rfl) ?_
                    refine lv_if_eq (tgt := 139) hx hb dX2_cast_132 (by decide) (fun c_12 => ?_) (fun c_12 => ?_)
                    · refine lv_iconst (v := (0 : Int32)) hx hb dX2_cast_139 (by decide) ?_
                      exact W.iret (v := (0 : Int32)) hx hb hr (fun t ht hW => ⟨(0 : Int32), rfl, Eq.symm ((if_neg c_1).trans ((if_neg c_2).trans ((if_neg c_3).trans ((if_pos c_4).trans ((if_neg c_5).trans ((if_neg c_6).trans ((if_neg c_7).trans ((if_neg c_8).trans ((if_neg c_10).trans ((if_pos c_12).trans (rfl))))))))))), ht⟩) (fun q h => by cases h) dX2_cast_140
                    · refine lv_iconst (v := (1 : Int32)) hx hb dX2_cast_135 (by decide) ?_
                      refine lv_goto (tgt := 140) hx hb dX2_cast_136 (by decide) ?_
                      exact W.iret (v := (1 : Int32)) hx hb hr (fun t ht hW => ⟨(1 : Int32), rfl, Eq.symm ((if_neg c_1).trans ((if_neg c_2).trans ((if_neg c_3).trans ((if_pos c_4).trans ((if_neg c_5).trans ((if_neg c_6).trans ((if_neg c_7).trans ((if_neg c_8).trans ((if_neg c_10).trans ((if_neg c_12).trans (rfl))))))))))), ht⟩) (fun q h => by cases h) dX2_cast_140
              · refine lv_iload_n hx hb dX2_cast_87 rfl (lv_at hl 5 rfl) ?_
                refine mb_callSi (W.runS (As := [.int x3]) (rest := []) ⟨hx, hb, hml, hown, hts⟩ (c_X2_isPrimitive l x3) (va_cwS 1 hts gX2_cast_X2_isPrimitive rfl rfl rfl (by decide +kernel) ⟨Nat.le_of_ble_eq_true rfl, Nat.le_of_ble_eq_true rfl⟩) mb_preT rfl rfl hl.1 rfl (lv_room (Nat.le_of_ble_eq_true rfl)) dX2_cast_88 ⟨Nat.zero_le _, Nat.zero_le _⟩) ?_
                refine lv_if_eq (tgt := 98) hx hb dX2_cast_91 (by decide) (fun c_13 => ?_) (fun c_13 => ?_)
                · refine lv_iconst (v := (1 : Int32)) hx hb dX2_cast_98 (by decide) ?_
                  exact W.iret (v := (1 : Int32)) hx hb hr (fun t ht hW => ⟨(1 : Int32), rfl, Eq.symm ((if_neg c_1).trans ((if_neg c_2).trans ((if_neg c_3).trans ((if_pos c_4).trans ((if_neg c_5).trans ((if_neg c_6).trans ((if_pos c_7).trans ((if_pos c_13).trans (rfl))))))))), ht⟩) (fun q h => by cases h) dX2_cast_99
                · refine lv_iconst (v := (2 : Int32)) hx hb dX2_cast_94 (by decide) ?_
                  refine lv_goto (tgt := 99) hx hb dX2_cast_95 (by decide) ?_
                  exact W.iret (v := (2 : Int32)) hx hb hr (fun t ht hW => ⟨(2 : Int32), rfl, Eq.symm ((if_neg c_1).trans ((if_neg c_2).trans ((if_neg c_3).trans ((if_pos c_4).trans ((if_neg c_5).trans ((if_neg c_6).trans ((if_pos c_7).trans ((if_neg c_13).trans (rfl))))))))), ht⟩) (fun q h => by cases h) dX2_cast_99
            · refine lv_bipush (v := (-2 : Int32)) hx hb dX2_cast_77 (by decide) ?_
              exact W.iret (v := (-2 : Int32)) hx hb hr (fun t ht hW => ⟨(-2 : Int32), rfl, Eq.symm ((if_neg c_1).trans ((if_neg c_2).trans ((if_neg c_3).trans ((if_pos c_4).trans ((if_neg c_5).trans ((if_pos c_6).trans (rfl))))))), ht⟩) (fun q h => by cases h) dX2_cast_79
          · refine lv_bipush (v := (-2 : Int32)) hx hb dX2_cast_60 (by decide) ?_
            exact W.iret (v := (-2 : Int32)) hx hb hr (fun t ht hW => ⟨(-2 : Int32), rfl, Eq.symm ((if_neg c_1).trans ((if_neg c_2).trans ((if_neg c_3).trans ((if_pos c_4).trans ((if_pos c_5).trans (rfl)))))), ht⟩) (fun q h => by cases h) dX2_cast_62
      · refine lv_iconst (v := (-1 : Int32)) hx hb dX2_cast_30 (by decide) ?_
        exact W.iret (v := (-1 : Int32)) hx hb hr (fun t ht hW => ⟨(-1 : Int32), rfl, Eq.symm ((if_neg c_1).trans ((if_neg c_2).trans ((if_pos c_3).trans (rfl)))), ht⟩) (fun q h => by cases h) dX2_cast_31
def f_X2_count (so : Nat → Int32) (fi : Nat → Int32) (el : Nat → Int32) (ab : Nat → Int64) (sz : Int32) (ot : Nat → Int32) (ob : Nat → Int64) (oc : Int32) (x1 : Int32) : Int32 := if x1 = (0 : Int32) then (f_X1_size so fi el ab sz)
  else if x1 = (1 : Int32) then oc
  else (-1 : Int32)
set_option maxHeartbeats 4000000 in
set_option maxRecDepth 100000 in
theorem c_X2_count (l : Launch) (dC : Nat → ClassId) (dI : Nat → Nat → Nat) (cyI cyZ cyJ : ClassId) (tK tL tG : Nat) (ad : Nat → Nat) (h2 h1 a0 a1 a2 a3 b0 b1 : Nat) (so : Nat → Int32) (fi : Nat → Int32) (el : Nat → Int32) (ab : Nat → Int64) (sz : Int32) (ot : Nat → Int32) (ob : Nat → Int64) (oc : Int32) (x1 : Int32) : Met l yX2_count wsX2_count ({ frames := 1, cells := 0, slots := 0, locals := 20 }) (va_Pc [.ref h2, .int x1] (mb_RG tK tL tG ad (dC, dI) (mb_tys cyI cyZ cyJ) [(h2, .inr (4, [.ref h1, .ref b0, .ref b1, .int oc])), (h1, .inr (3, [.ref a0, .ref a1, .ref a2, .ref a3, .int sz])), (a0, .inl (cyI, 40, .inl so)), (a1, .inl (cyZ, 40, .inl fi)), (a2, .inl (cyI, 40, .inl el)), (a3, .inl (cyJ, 40, .inr (.inl ab))), (b0, .inl (cyI, 60, .inl ot)), (b1, .inl (cyJ, 60, .inr (.inl ob)))])) (vp_Si (fun r => r = f_X2_count so fi el ab sz ot ob oc x1)) 0 0 (fun _ => False) := by
  refine Met.ofW (cc := cX2_count) (maxL := 2) (ret := (some .int)) (by decide) rfl ?_
  intro p e s m args below meth c s₁ B hml hv
  obtain ⟨rfl, hG, hP, hK⟩ := hv
  have hx := B.exec
  have hb := B.bytes
  have hr := B.returns
  have hts := atoms_spec (ws := wsX2_count) B.pre
  have hown : s.vm.findClass RX2 = some m.cls := findClass_of_methodNamed B.named
  have hlocks := B.notSynchronized
  have hP : va_P (dC, dI) vwCl [(h2, .inr (4, [.ref h1, .ref b0, .ref b1, .int oc])), (h1, .inr (3, [.ref a0, .ref a1, .ref a2, .ref a3, .int sz])), (a0, .inl (cyI, 40, .inl so)), (a1, .inl (cyZ, 40, .inl fi)), (a2, .inl (cyI, 40, .inl el)), (a3, .inl (cyJ, 40, .inr (.inl ab))), (b0, .inl (cyI, 60, .inl ot)), (b1, .inl (cyJ, 60, .inr (.inl ob)))] s.heap := hP
  have hP0 : va_P (dC, dI) vwCl [] s.heap := fun k q h => by simp at h
  have hin_X2 : ∀ w ∈ wsX20, w ∈ wsX2_count := by decide +kernel
  have hf_12 := hts (.fieldLink RX2 12 "ConversionTables" "types" "LConversionTables$TypeTable;") (by decide +kernel)
  have hf_24 := hts (.fieldLink RX2 24 "ConversionTables" "objectCount" "I") (by decide +kernel)
  have hl := lv_entry ([.ref h2, .int x1]) (n := 2) (Nat.le_of_ble_eq_true rfl)
  rw [lg_entry_eq]
  generalize (lg_sl ([.ref h2, .int x1]) ++ List.replicate (2 - (lg_sl ([.ref h2, .int x1])).length) Slot.unset).toArray = ls at hl ⊢
  have hl : lv_has ls 2 [(0, .ref h2), (1, .int x1)] := hl
  refine lv_iload_n hx hb dX2_count_0 rfl (lv_at hl 1 rfl) ?_
  by_cases c_1 : x1 = (0 : Int32)
  · refine lv_lookup (tgt := 28) hx hb dX2_count_1 (by decide) (off := 27) (by rw [c_1]; decide) (by decide) ?_
    refine lv_aload_n hx hb dX2_count_28 rfl (lv_at hl 0 rfl) ?_
    refine va_get (D := (dC, dI)) (ci := 4) (v := .ref h1) (C := RX2) (T := TX2) (N := 4) hx hb hts hin_X2 hown hK hP 0 rfl rfl 0 (by decide) hf_12 (fun _ h9 => h9) rfl dX2_count_29 ?_
    refine mb_callSi (W.runV (As := []) (rest := []) ⟨hx, hb, hml, hown, hts⟩ (c_X1_size l dC dI cyI cyZ cyJ h1 a0 a1 a2 a3 so fi el ab sz) (cwV 0 hts gX2_count_X1_size rfl rfl rfl (by decide +kernel) ⟨Nat.le_of_ble_eq_true rfl, Nat.le_of_ble_eq_true rfl⟩) (mb_preV hK (hP.sub [1, 2, 3, 4, 5] rfl) (ci := 3) (q0 := 0) rfl rfl) rfl rfl hl.1 rfl (lv_room (Nat.le_of_ble_eq_true rfl)) dX2_count_32 ⟨Nat.zero_le _, Nat.zero_le _⟩) ?_
    exact W.iret (v := (f_X1_size so fi el ab sz)) hx hb hr (fun t ht hW => ⟨(f_X1_size so fi el ab sz), rfl, Eq.symm ((if_pos c_1).trans (rfl)), ht⟩) (fun q h => by cases h) dX2_count_35
  · by_cases c_2 : x1 = (1 : Int32)
    · refine lv_lookup (tgt := 36) hx hb dX2_count_1 (by decide) (off := 35) (by rw [c_2]; decide) (by decide) ?_
      refine lv_aload_n hx hb dX2_count_36 rfl (lv_at hl 0 rfl) ?_
      refine va_get (D := (dC, dI)) (ci := 4) (v := .int oc) (C := RX2) (T := TX2) (N := 4) hx hb hts hin_X2 hown hK hP 0 rfl rfl 3 (by decide) hf_24 (fun _ h9 => h9) rfl dX2_count_37 ?_
      exact W.iret (v := oc) hx hb hr (fun t ht hW => ⟨oc, rfl, Eq.symm ((if_neg c_1).trans ((if_pos c_2).trans (rfl))), ht⟩) (fun q h => by cases h) dX2_count_40
    · refine lv_lookup (tgt := 41) (off := 40) hx hb dX2_count_1 (by decide) ((lv_osw c_1 (by decide)).trans ( (lv_osw c_2 (by decide)).trans (rfl))) (by decide) ?_
      refine lv_iconst (v := (-1 : Int32)) hx hb dX2_count_41 (by decide) ?_
      exact W.iret (v := (-1 : Int32)) hx hb hr (fun t ht hW => ⟨(-1 : Int32), rfl, Eq.symm ((if_neg c_1).trans ((if_neg c_2).trans (rfl))), ht⟩) (fun q h => by cases h) dX2_count_42
def f_X2_turned (so : Nat → Int32) (fi : Nat → Int32) (el : Nat → Int32) (ab : Nat → Int64) (sz : Int32) (ot : Nat → Int32) (ob : Nat → Int64) (oc : Int32) (x1 : Int32) (x2 : Int64) (x3 : Int32) : Int64 := if (f_X2_isNumber x1) = 0 then (-1 : Int64)
  else if (f_X2_isNumber x3) = 0 then (-1 : Int64)
  else if (f_X2_areBitsOf x2 x1) = 0 then (-2 : Int64)
  else if (f_X2_isWhole x3) = 0 then (f_X2_turnedToFloating x1 x2 x3)
  else (f_X2_turnedToWhole x1 x2 x3)
set_option maxHeartbeats 4000000 in
set_option maxRecDepth 100000 in
theorem c_X2_turned (l : Launch) (dC : Nat → ClassId) (dI : Nat → Nat → Nat) (cyI cyZ cyJ : ClassId) (tK tL tG : Nat) (ad : Nat → Nat) (h2 h1 a0 a1 a2 a3 b0 b1 : Nat) (so : Nat → Int32) (fi : Nat → Int32) (el : Nat → Int32) (ab : Nat → Int64) (sz : Int32) (ot : Nat → Int32) (ob : Nat → Int64) (oc : Int32) (x1 : Int32) (x2 : Int64) (x3 : Int32) : Met l yX2_turned wsX2_turned ({ frames := 6, cells := 0, slots := 0, locals := 141 }) (va_Pc [.ref h2, .int x1, .long x2, .int x3] (mb_RG tK tL tG ad (dC, dI) (mb_tys cyI cyZ cyJ) [(h2, .inr (4, [.ref h1, .ref b0, .ref b1, .int oc])), (h1, .inr (3, [.ref a0, .ref a1, .ref a2, .ref a3, .int sz])), (a0, .inl (cyI, 40, .inl so)), (a1, .inl (cyZ, 40, .inl fi)), (a2, .inl (cyI, 40, .inl el)), (a3, .inl (cyJ, 40, .inr (.inl ab))), (b0, .inl (cyI, 60, .inl ot)), (b1, .inl (cyJ, 60, .inr (.inl ob)))])) (vp_Sl (fun r => r = f_X2_turned so fi el ab sz ot ob oc x1 x2 x3)) 0 0 (fun _ => False) := by
  refine Met.ofW (cc := cX2_turned) (maxL := 5) (ret := (some .long)) (by decide) rfl ?_
  intro p e s m args below meth c s₁ B hml hv
  obtain ⟨rfl, hG, hP, hK⟩ := hv
  have hx := B.exec
  have hb := B.bytes
  have hr := B.returns
  have hts := atoms_spec (ws := wsX2_turned) B.pre
  have hown : s.vm.findClass RX2 = some m.cls := findClass_of_methodNamed B.named
  have hlocks := B.notSynchronized
  have hP : va_P (dC, dI) vwCl [(h2, .inr (4, [.ref h1, .ref b0, .ref b1, .int oc])), (h1, .inr (3, [.ref a0, .ref a1, .ref a2, .ref a3, .int sz])), (a0, .inl (cyI, 40, .inl so)), (a1, .inl (cyZ, 40, .inl fi)), (a2, .inl (cyI, 40, .inl el)), (a3, .inl (cyJ, 40, .inr (.inl ab))), (b0, .inl (cyI, 60, .inl ot)), (b1, .inl (cyJ, 60, .inr (.inl ob)))] s.heap := hP
  have hP0 : va_P (dC, dI) vwCl [] s.heap := fun k q h => by simp at h
  have hl := lv_entry ([.ref h2, .int x1, .long x2, .int x3]) (n := 5) (Nat.le_of_ble_eq_true rfl)
  rw [lg_entry_eq]
  generalize (lg_sl ([.ref h2, .int x1, .long x2, .int x3]) ++ List.replicate (5 - (lg_sl ([.ref h2, .int x1, .long x2, .int x3])).length) Slot.unset).toArray = ls at hl ⊢
  have hl : lv_has ls 5 [(0, .ref h2), (1, .int x1), (2, .long x2), (4, .int x3)] := hl
  refine lv_iload_n hx hb dX2_turned_0 rfl (lv_at hl 1 rfl) ?_
  refine mb_callSi (W.runS (As := [.int x1]) (rest := []) ⟨hx, hb, hml, hown, hts⟩ (c_X2_isNumber l x1) (va_cwS 1 hts gX2_turned_X2_isNumber rfl rfl rfl (by decide +kernel) ⟨Nat.le_of_ble_eq_true rfl, Nat.le_of_ble_eq_true rfl⟩) mb_preT rfl rfl hl.1 rfl (lv_room (Nat.le_of_ble_eq_true rfl)) dX2_turned_1 ⟨Nat.zero_le _, Nat.zero_le _⟩) ?_
  refine lv_if_eq (tgt := 15) hx hb dX2_turned_4 (by decide) (fun c_1 => ?_) (fun c_1 => ?_)
  · refine lv_ldc2 (v := (-1 : Int64)) hx hb hown (hts (.constantLong RX2 104 (-1)) (by decide +kernel)) dX2_turned_15 ?_
    exact W.lret (v := (-1 : Int64)) hx hb hr (fun t ht hW => ⟨(-1 : Int64), rfl, Eq.symm ((if_pos c_1).trans (rfl)), ht⟩) (fun q h => by cases h) dX2_turned_18
  · refine lv_iload hx hb dX2_turned_7 (lv_at hl 3 rfl) ?_
    refine mb_callSi (W.runS (As := [.int x3]) (rest := []) ⟨hx, hb, hml, hown, hts⟩ (c_X2_isNumber l x3) (va_cwS 1 hts gX2_turned_X2_isNumber rfl rfl rfl (by decide +kernel) ⟨Nat.le_of_ble_eq_true rfl, Nat.le_of_ble_eq_true rfl⟩) mb_preT rfl rfl hl.1 rfl (lv_room (Nat.le_of_ble_eq_true rfl)) dX2_turned_9 ⟨Nat.zero_le _, Nat.zero_le _⟩) ?_
    refine lv_if_ne (tgt := 19) hx hb dX2_turned_12 (by decide) (fun c_2 => ?_) (fun c_2 => ?_)
    · refine lv_lload_n hx hb dX2_turned_19 rfl (lv_at hl 2 rfl) ?_
      refine lv_iload_n hx hb dX2_turned_20 rfl (lv_at hl 1 rfl) ?_
      refine mb_callSi (W.runS (As := [.long x2, .int x1]) (rest := []) ⟨hx, hb, hml, hown, hts⟩ (c_X2_areBitsOf l dC dI cyI cyZ cyJ tK tL tG ad x2 x1 (mb_num8 c_1)) (va_cwS 2 hts gX2_turned_X2_areBitsOf rfl rfl rfl (by decide +kernel) ⟨Nat.le_of_ble_eq_true rfl, Nat.le_of_ble_eq_true rfl⟩) (mb_preGS hG hK hP0) rfl rfl hl.1 rfl (lv_room (Nat.le_of_ble_eq_true rfl)) dX2_turned_21 ⟨Nat.zero_le _, Nat.zero_le _⟩) ?_
      refine lv_if_ne (tgt := 31) hx hb dX2_turned_24 (by decide) (fun c_3 => ?_) (fun c_3 => ?_)
      · refine lv_iload hx hb dX2_turned_31 (lv_at hl 3 rfl) ?_
        refine mb_callSi (W.runS (As := [.int x3]) (rest := []) ⟨hx, hb, hml, hown, hts⟩ (c_X2_isWhole l x3) (va_cwS 1 hts gX2_turned_X2_isWhole rfl rfl rfl (by decide +kernel) ⟨Nat.le_of_ble_eq_true rfl, Nat.le_of_ble_eq_true rfl⟩) mb_preT rfl rfl hl.1 rfl (lv_room (Nat.le_of_ble_eq_true rfl)) dX2_turned_33 ⟨Nat.zero_le _, Nat.zero_le _⟩) ?_
        refine lv_if_eq (tgt := 49) hx hb dX2_turned_36 (by decide) (fun c_4 => ?_) (fun c_4 => ?_)
        · refine lv_iload_n hx hb dX2_turned_49 rfl (lv_at hl 1 rfl) ?_
          refine lv_lload_n hx hb dX2_turned_50 rfl (lv_at hl 2 rfl) ?_
          refine lv_iload hx hb dX2_turned_51 (lv_at hl 3 rfl) ?_
          refine mb_callSl (W.runS (As := [.int x1, .long x2, .int x3]) (rest := []) ⟨hx, hb, hml, hown, hts⟩ (c_X2_turnedToFloating l dC dI cyI cyZ cyJ tK tL tG ad x1 x2 x3) (va_cwS 3 hts gX2_turned_X2_turnedToFloating rfl rfl rfl (by decide +kernel) ⟨Nat.le_of_ble_eq_true rfl, Nat.le_of_ble_eq_true rfl⟩) (mb_preGS hG hK hP0) rfl rfl hl.1 rfl (lv_room (Nat.le_of_ble_eq_true rfl)) dX2_turned_53 ⟨Nat.zero_le _, Nat.zero_le _⟩) ?_
          exact W.lret (v := (f_X2_turnedToFloating x1 x2 x3)) hx hb hr (fun t ht hW => ⟨(f_X2_turnedToFloating x1 x2 x3), rfl, Eq.symm ((if_neg c_1).trans ((if_neg c_2).trans ((if_neg c_3).trans ((if_pos c_4).trans (rfl))))), ht⟩) (fun q h => by cases h) dX2_turned_56
        · refine lv_iload_n hx hb dX2_turned_39 rfl (lv_at hl 1 rfl) ?_
          refine lv_lload_n hx hb dX2_turned_40 rfl (lv_at hl 2 rfl) ?_
          refine lv_iload hx hb dX2_turned_41 (lv_at hl 3 rfl) ?_
          refine mb_callSl (W.runS (As := [.int x1, .long x2, .int x3]) (rest := []) ⟨hx, hb, hml, hown, hts⟩ (c_X2_turnedToWhole l dC dI cyI cyZ cyJ tK tL tG ad x1 x2 x3) (va_cwS 3 hts gX2_turned_X2_turnedToWhole rfl rfl rfl (by decide +kernel) ⟨Nat.le_of_ble_eq_true rfl, Nat.le_of_ble_eq_true rfl⟩) (mb_preGS hG hK hP0) rfl rfl hl.1 rfl (lv_room (Nat.le_of_ble_eq_true rfl)) dX2_turned_43 ⟨Nat.zero_le _, Nat.zero_le _⟩) ?_
          refine lv_goto (tgt := 56) hx hb dX2_turned_46 (by decide) ?_
          exact W.lret (v := (f_X2_turnedToWhole x1 x2 x3)) hx hb hr (fun t ht hW => ⟨(f_X2_turnedToWhole x1 x2 x3), rfl, Eq.symm ((if_neg c_1).trans ((if_neg c_2).trans ((if_neg c_3).trans ((if_neg c_4).trans (rfl))))), ht⟩) (fun q h => by cases h) dX2_turned_56
      · refine lv_ldc2 (v := (-2 : Int64)) hx hb hown (hts (.constantLong RX2 106 (-2)) (by decide +kernel)) dX2_turned_27 ?_
        exact W.lret (v := (-2 : Int64)) hx hb hr (fun t ht hW => ⟨(-2 : Int64), rfl, Eq.symm ((if_neg c_1).trans ((if_neg c_2).trans ((if_pos c_3).trans (rfl)))), ht⟩) (fun q h => by cases h) dX2_turned_30
    · refine lv_ldc2 (v := (-1 : Int64)) hx hb hown (hts (.constantLong RX2 104 (-1)) (by decide +kernel)) dX2_turned_15 ?_
      exact W.lret (v := (-1 : Int64)) hx hb hr (fun t ht hW => ⟨(-1 : Int64), rfl, Eq.symm ((if_neg c_1).trans ((if_pos c_2).trans (rfl))), ht⟩) (fun q h => by cases h) dX2_turned_18

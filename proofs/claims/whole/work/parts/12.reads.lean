def f_X2_type (so : Nat → Int32) (fi : Nat → Int32) (el : Nat → Int32) (ab : Nat → Int64) (sz : Int32) (ot : Nat → Int32) (ob : Nat → Int64) (oc : Int32) (x1 : Int32) (x2 : Int32) : Int32 := if (f_X1_has so fi el ab sz x1) = 0 then (-1 : Int32)
  else if x2 = (0 : Int32) then (f_X1_sortOf so fi el ab sz x1)
  else if x2 = (1 : Int32) then (if (f_X1_isFinal so fi el ab sz x1) = 0 then (0 : Int32)
    else (1 : Int32))
  else if x2 = (2 : Int32) then (if (f_X1_sortOf so fi el ab sz x1) = (3 : Int32) then (f_X1_elementOf so fi el ab sz x1)
    else (-2 : Int32))
  else if x2 = (3 : Int32) then (f_X1_countAbove so fi el ab sz x1)
  else (-2 : Int32)
set_option maxHeartbeats 4000000 in
set_option maxRecDepth 100000 in
theorem c_X2_type (l : Launch) (dC : Nat → ClassId) (dI : Nat → Nat → Nat) (cyI cyZ cyJ : ClassId) (tK tL tG : Nat) (ad : Nat → Nat) (h2 h1 a0 a1 a2 a3 b0 b1 : Nat) (so : Nat → Int32) (fi : Nat → Int32) (el : Nat → Int32) (ab : Nat → Int64) (sz : Int32) (ot : Nat → Int32) (ob : Nat → Int64) (oc : Int32) (x1 : Int32) (x2 : Int32) (gz : sz.toInt ≤ 40) (gb : ∀ k, mb_B (fi k)) : Met l yX2_type wsX2_type ({ frames := 2, cells := 0, slots := 0, locals := 42 }) (va_Pc [.ref h2, .int x1, .int x2] (mb_RG tK tL tG ad (dC, dI) (mb_tys cyI cyZ cyJ) [(h2, .inr (4, [.ref h1, .ref b0, .ref b1, .int oc])), (h1, .inr (3, [.ref a0, .ref a1, .ref a2, .ref a3, .int sz])), (a0, .inl (cyI, 40, .inl so)), (a1, .inl (cyZ, 40, .inl fi)), (a2, .inl (cyI, 40, .inl el)), (a3, .inl (cyJ, 40, .inr (.inl ab))), (b0, .inl (cyI, 60, .inl ot)), (b1, .inl (cyJ, 60, .inr (.inl ob)))])) (vp_Si (fun r => r = f_X2_type so fi el ab sz ot ob oc x1 x2)) 0 0 (fun _ => False) := by
  refine Met.ofW (cc := cX2_type) (maxL := 3) (ret := (some .int)) (by decide) rfl ?_
  intro p e s m args below meth c s₁ B hml hv
  obtain ⟨rfl, hG, hP, hK⟩ := hv
  have hx := B.exec
  have hb := B.bytes
  have hr := B.returns
  have hts := atoms_spec (ws := wsX2_type) B.pre
  have hown : s.vm.findClass RX2 = some m.cls := findClass_of_methodNamed B.named
  have hlocks := B.notSynchronized
  have hP : va_P (dC, dI) vwCl [(h2, .inr (4, [.ref h1, .ref b0, .ref b1, .int oc])), (h1, .inr (3, [.ref a0, .ref a1, .ref a2, .ref a3, .int sz])), (a0, .inl (cyI, 40, .inl so)), (a1, .inl (cyZ, 40, .inl fi)), (a2, .inl (cyI, 40, .inl el)), (a3, .inl (cyJ, 40, .inr (.inl ab))), (b0, .inl (cyI, 60, .inl ot)), (b1, .inl (cyJ, 60, .inr (.inl ob)))] s.heap := hP
  have hP0 : va_P (dC, dI) vwCl [] s.heap := fun k q h => by simp at h
  have hin_X2 : ∀ w ∈ wsX20, w ∈ wsX2_type := by decide +kernel
  have hf_12 := hts (.fieldLink RX2 12 "ConversionTables" "types" "LConversionTables$TypeTable;") (by decide +kernel)
  have hl := lv_entry ([.ref h2, .int x1, .int x2]) (n := 3) (Nat.le_of_ble_eq_true rfl)
  rw [lg_entry_eq]
  generalize (lg_sl ([.ref h2, .int x1, .int x2]) ++ List.replicate (3 - (lg_sl ([.ref h2, .int x1, .int x2])).length) Slot.unset).toArray = ls at hl ⊢
  have hl : lv_has ls 3 [(0, .ref h2), (1, .int x1), (2, .int x2)] := hl
  refine lv_aload_n hx hb dX2_type_0 rfl (lv_at hl 0 rfl) ?_
  refine va_get (D := (dC, dI)) (ci := 4) (v := .ref h1) (C := RX2) (T := TX2) (N := 4) hx hb hts hin_X2 hown hK hP 0 rfl rfl 0 (by decide) hf_12 (fun _ h9 => h9) rfl dX2_type_1 ?_
  refine lv_iload_n hx hb dX2_type_4 rfl (lv_at hl 1 rfl) ?_
  refine mb_callSi (W.runV (As := [.int x1]) (rest := []) ⟨hx, hb, hml, hown, hts⟩ (c_X1_has l dC dI cyI cyZ cyJ h1 a0 a1 a2 a3 so fi el ab sz x1) (cwV 1 hts gX2_type_X1_has rfl rfl rfl (by decide +kernel) ⟨Nat.le_of_ble_eq_true rfl, Nat.le_of_ble_eq_true rfl⟩) (mb_preV hK (hP.sub [1, 2, 3, 4, 5] rfl) (ci := 3) (q0 := 0) rfl rfl) rfl rfl hl.1 rfl (lv_room (Nat.le_of_ble_eq_true rfl)) dX2_type_5 ⟨Nat.zero_le _, Nat.zero_le _⟩) ?_
  refine lv_if_ne (tgt := 13) hx hb dX2_type_8 (by decide) (fun c_1 => ?_) (fun c_1 => ?_)
  · refine lv_iload_n hx hb dX2_type_13 rfl (lv_at hl 2 rfl) ?_
    by_cases c_2 : x2 = (0 : Int32)
    · refine lv_tableIn (tgt := 44) hx hb dX2_type_14 (by rw [c_2]; decide) (by rw [c_2]; decide) (off := 30) (by rw [c_2]; decide) (by decide) ?_
      refine lv_aload_n hx hb dX2_type_44 rfl (lv_at hl 0 rfl) ?_
      refine va_get (D := (dC, dI)) (ci := 4) (v := .ref h1) (C := RX2) (T := TX2) (N := 4) hx hb hts hin_X2 hown hK hP 0 rfl rfl 0 (by decide) hf_12 (fun _ h9 => h9) rfl dX2_type_45 ?_
      refine lv_iload_n hx hb dX2_type_48 rfl (lv_at hl 1 rfl) ?_
      refine mb_callSi (W.runV (As := [.int x1]) (rest := []) ⟨hx, hb, hml, hown, hts⟩ (c_X1_sortOf l dC dI cyI cyZ cyJ h1 a0 a1 a2 a3 so fi el ab sz x1 (mb_has gz c_1)) (cwV 1 hts gX2_type_X1_sortOf rfl rfl rfl (by decide +kernel) ⟨Nat.le_of_ble_eq_true rfl, Nat.le_of_ble_eq_true rfl⟩) (mb_preV hK (hP.sub [1, 2, 3, 4, 5] rfl) (ci := 3) (q0 := 0) rfl rfl) rfl rfl hl.1 rfl (lv_room (Nat.le_of_ble_eq_true rfl)) dX2_type_49 ⟨Nat.zero_le _, Nat.zero_le _⟩) ?_
      exact W.iret (v := (f_X1_sortOf so fi el ab sz x1)) hx hb hr (fun t ht hW => ⟨(f_X1_sortOf so fi el ab sz x1), rfl, Eq.symm ((if_neg c_1).trans ((if_pos c_2).trans (rfl))), ht⟩) (fun q h => by cases h) dX2_type_52
    · by_cases c_3 : x2 = (1 : Int32)
      · refine lv_tableIn (tgt := 53) hx hb dX2_type_14 (by rw [c_3]; decide) (by rw [c_3]; decide) (off := 39) (by rw [c_3]; decide) (by decide) ?_
        refine lv_aload_n hx hb dX2_type_53 rfl (lv_at hl 0 rfl) ?_
        refine va_get (D := (dC, dI)) (ci := 4) (v := .ref h1) (C := RX2) (T := TX2) (N := 4) hx hb hts hin_X2 hown hK hP 0 rfl rfl 0 (by decide) hf_12 (fun _ h9 => h9) rfl dX2_type_54 ?_
        refine lv_iload_n hx hb dX2_type_57 rfl (lv_at hl 1 rfl) ?_
        refine mb_callSi (W.runV (As := [.int x1]) (rest := []) ⟨hx, hb, hml, hown, hts⟩ (c_X1_isFinal l dC dI cyI cyZ cyJ h1 a0 a1 a2 a3 so fi el ab sz x1 (mb_has gz c_1) gb) (cwV 1 hts gX2_type_X1_isFinal rfl rfl rfl (by decide +kernel) ⟨Nat.le_of_ble_eq_true rfl, Nat.le_of_ble_eq_true rfl⟩) (mb_preV hK (hP.sub [1, 2, 3, 4, 5] rfl) (ci := 3) (q0 := 0) rfl rfl) rfl rfl hl.1 rfl (lv_room (Nat.le_of_ble_eq_true rfl)) dX2_type_58 ⟨Nat.zero_le _, Nat.zero_le _⟩) ?_
        refine lv_if_eq (tgt := 68) hx hb dX2_type_61 (by decide) (fun c_4 => ?_) (fun c_4 => ?_)
        · refine lv_iconst (v := (0 : Int32)) hx hb dX2_type_68 (by decide) ?_
          exact W.iret (v := (0 : Int32)) hx hb hr (fun t ht hW => ⟨(0 : Int32), rfl, Eq.symm ((if_neg c_1).trans ((if_neg c_2).trans ((if_pos c_3).trans ((if_pos c_4).trans (rfl))))), ht⟩) (fun q h => by cases h) dX2_type_69
        · refine lv_iconst (v := (1 : Int32)) hx hb dX2_type_64 (by decide) ?_
          refine lv_goto (tgt := 69) hx hb dX2_type_65 (by decide) ?_
          exact W.iret (v := (1 : Int32)) hx hb hr (fun t ht hW => ⟨(1 : Int32), rfl, Eq.symm ((if_neg c_1).trans ((if_neg c_2).trans ((if_pos c_3).trans ((if_neg c_4).trans (rfl))))), ht⟩) (fun q h => by cases h) dX2_type_69
      · by_cases c_5 : x2 = (2 : Int32)
        · refine lv_tableIn (tgt := 70) hx hb dX2_type_14 (by rw [c_5]; decide) (by rw [c_5]; decide) (off := 56) (by rw [c_5]; decide) (by decide) ?_
          refine lv_aload_n hx hb dX2_type_70 rfl (lv_at hl 0 rfl) ?_
          refine va_get (D := (dC, dI)) (ci := 4) (v := .ref h1) (C := RX2) (T := TX2) (N := 4) hx hb hts hin_X2 hown hK hP 0 rfl rfl 0 (by decide) hf_12 (fun _ h9 => h9) rfl dX2_type_71 ?_
          refine lv_iload_n hx hb dX2_type_74 rfl (lv_at hl 1 rfl) ?_
          refine mb_callSi (W.runV (As := [.int x1]) (rest := []) ⟨hx, hb, hml, hown, hts⟩ (c_X1_sortOf l dC dI cyI cyZ cyJ h1 a0 a1 a2 a3 so fi el ab sz x1 (mb_has gz c_1)) (cwV 1 hts gX2_type_X1_sortOf rfl rfl rfl (by decide +kernel) ⟨Nat.le_of_ble_eq_true rfl, Nat.le_of_ble_eq_true rfl⟩) (mb_preV hK (hP.sub [1, 2, 3, 4, 5] rfl) (ci := 3) (q0 := 0) rfl rfl) rfl rfl hl.1 rfl (lv_room (Nat.le_of_ble_eq_true rfl)) dX2_type_75 ⟨Nat.zero_le _, Nat.zero_le _⟩) ?_
          refine lv_iconst (v := (3 : Int32)) hx hb dX2_type_78 (by decide) ?_
          refine lv_icmp_ne (tgt := 93) hx hb dX2_type_79 (by decide) (fun c_6 => ?_) (fun c_6 => ?_)
          · refine lv_bipush (v := (-2 : Int32)) hx hb dX2_type_93 (by decide) ?_
            exact W.iret (v := (-2 : Int32)) hx hb hr (fun t ht hW => ⟨(-2 : Int32), rfl, Eq.symm ((if_neg c_1).trans ((if_neg c_2).trans ((if_neg c_3).trans ((if_pos c_5).trans ((if_neg c_6).trans (rfl)))))), ht⟩) (fun q h => by cases h) dX2_type_95
          · refine lv_aload_n hx hb dX2_type_82 rfl (lv_at hl 0 rfl) ?_
            refine va_get (D := (dC, dI)) (ci := 4) (v := .ref h1) (C := RX2) (T := TX2) (N := 4) hx hb hts hin_X2 hown hK hP 0 rfl rfl 0 (by decide) hf_12 (fun _ h9 => h9) rfl dX2_type_83 ?_
            refine lv_iload_n hx hb dX2_type_86 rfl (lv_at hl 1 rfl) ?_
            refine mb_callSi (W.runV (As := [.int x1]) (rest := []) ⟨hx, hb, hml, hown, hts⟩ (c_X1_elementOf l dC dI cyI cyZ cyJ h1 a0 a1 a2 a3 so fi el ab sz x1 (mb_has gz c_1)) (cwV 1 hts gX2_type_X1_elementOf rfl rfl rfl (by decide +kernel) ⟨Nat.le_of_ble_eq_true rfl, Nat.le_of_ble_eq_true rfl⟩) (mb_preV hK (hP.sub [1, 2, 3, 4, 5] rfl) (ci := 3) (q0 := 0) rfl rfl) rfl rfl hl.1 rfl (lv_room (Nat.le_of_ble_eq_true rfl)) dX2_type_87 ⟨Nat.zero_le _, Nat.zero_le _⟩) ?_
            refine lv_goto (tgt := 95) hx hb dX2_type_90 (by decide) ?_
            exact W.iret (v := (f_X1_elementOf so fi el ab sz x1)) hx hb hr (fun t ht hW => ⟨(f_X1_elementOf so fi el ab sz x1), rfl, Eq.symm ((if_neg c_1).trans ((if_neg c_2).trans ((if_neg c_3).trans ((if_pos c_5).trans ((if_pos c_6).trans (rfl)))))), ht⟩) (fun q h => by cases h) dX2_type_95
        · by_cases c_7 : x2 = (3 : Int32)
          · refine lv_tableIn (tgt := 96) hx hb dX2_type_14 (by rw [c_7]; decide) (by rw [c_7]; decide) (off := 82) (by rw [c_7]; decide) (by decide) ?_
            refine lv_aload_n hx hb dX2_type_96 rfl (lv_at hl 0 rfl) ?_
            refine va_get (D := (dC, dI)) (ci := 4) (v := .ref h1) (C := RX2) (T := TX2) (N := 4) hx hb hts hin_X2 hown hK hP 0 rfl rfl 0 (by decide) hf_12 (fun _ h9 => h9) rfl dX2_type_97 ?_
            refine lv_iload_n hx hb dX2_type_100 rfl (lv_at hl 1 rfl) ?_
            refine mb_callSi (W.runV (As := [.int x1]) (rest := []) ⟨hx, hb, hml, hown, hts⟩ (c_X1_countAbove l dC dI cyI cyZ cyJ h1 a0 a1 a2 a3 so fi el ab sz x1 (mb_has gz c_1)) (cwV 1 hts gX2_type_X1_countAbove rfl rfl rfl (by decide +kernel) ⟨Nat.le_of_ble_eq_true rfl, Nat.le_of_ble_eq_true rfl⟩) (mb_preV hK (hP.sub [1, 2, 3, 4, 5] rfl) (ci := 3) (q0 := 0) rfl rfl) rfl rfl hl.1 rfl (lv_room (Nat.le_of_ble_eq_true rfl)) dX2_type_101 ⟨Nat.zero_le _, Nat.zero_le _⟩) ?_
            exact W.iret (v := (f_X1_countAbove so fi el ab sz x1)) hx hb hr (fun t ht hW => ⟨(f_X1_countAbove so fi el ab sz x1), rfl, Eq.symm ((if_neg c_1).trans ((if_neg c_2).trans ((if_neg c_3).trans ((if_neg c_5).trans ((if_pos c_7).trans (rfl)))))), ht⟩) (fun q h => by cases h) dX2_type_104
          · refine lv_tableOut (tgt := 105) hx hb dX2_type_14 (by have nc_2 := lv_neT c_2 (a := 0) (by decide); have nc_3 := lv_neT c_3 (a := 1) (by decide); have nc_5 := lv_neT c_5 (a := 2) (by decide); have nc_7 := lv_neT c_7 (a := 3) (by decide); omega) (by decide) ?_
            refine lv_bipush (v := (-2 : Int32)) hx hb dX2_type_105 (by decide) ?_
            exact W.iret (v := (-2 : Int32)) hx hb hr (fun t ht hW => ⟨(-2 : Int32), rfl, Eq.symm ((if_neg c_1).trans ((if_neg c_2).trans ((if_neg c_3).trans ((if_neg c_5).trans ((if_neg c_7).trans (rfl)))))), ht⟩) (fun q h => by cases h) dX2_type_107
  · refine lv_iconst (v := (-1 : Int32)) hx hb dX2_type_11 (by decide) ?_
    exact W.iret (v := (-1 : Int32)) hx hb hr (fun t ht hW => ⟨(-1 : Int32), rfl, Eq.symm ((if_pos c_1).trans (rfl)), ht⟩) (fun q h => by cases h) dX2_type_12
def f_X2_under (so : Nat → Int32) (fi : Nat → Int32) (el : Nat → Int32) (ab : Nat → Int64) (sz : Int32) (ot : Nat → Int32) (ob : Nat → Int64) (oc : Int32) (x1 : Int32) (x2 : Int32) : Int32 := if (f_X1_has so fi el ab sz x1) = 0 then (-1 : Int32)
  else if (f_X1_has so fi el ab sz x2) = 0 then (-1 : Int32)
  else if (f_X2_isPrimitive x1) = 0 then (if (f_X2_isPrimitive x2) = 0 then (if (f_X1_isUnder so fi el ab sz x1 x2) = 0 then (0 : Int32)
      else (1 : Int32))
    else (-2 : Int32))
  else (-2 : Int32)
set_option maxHeartbeats 4000000 in
set_option maxRecDepth 100000 in
theorem c_X2_under (l : Launch) (dC : Nat → ClassId) (dI : Nat → Nat → Nat) (cyI cyZ cyJ : ClassId) (tK tL tG : Nat) (ad : Nat → Nat) (h2 h1 a0 a1 a2 a3 b0 b1 : Nat) (so : Nat → Int32) (fi : Nat → Int32) (el : Nat → Int32) (ab : Nat → Int64) (sz : Int32) (ot : Nat → Int32) (ob : Nat → Int64) (oc : Int32) (x1 : Int32) (x2 : Int32) (gz : sz.toInt ≤ 40) : Met l yX2_under wsX2_under ({ frames := 2, cells := 0, slots := 0, locals := 42 }) (va_Pc [.ref h2, .int x1, .int x2] (mb_RG tK tL tG ad (dC, dI) (mb_tys cyI cyZ cyJ) [(h2, .inr (4, [.ref h1, .ref b0, .ref b1, .int oc])), (h1, .inr (3, [.ref a0, .ref a1, .ref a2, .ref a3, .int sz])), (a0, .inl (cyI, 40, .inl so)), (a1, .inl (cyZ, 40, .inl fi)), (a2, .inl (cyI, 40, .inl el)), (a3, .inl (cyJ, 40, .inr (.inl ab))), (b0, .inl (cyI, 60, .inl ot)), (b1, .inl (cyJ, 60, .inr (.inl ob)))])) (vp_Si (fun r => r = f_X2_under so fi el ab sz ot ob oc x1 x2)) 0 0 (fun _ => False) := by
  refine Met.ofW (cc := cX2_under) (maxL := 3) (ret := (some .int)) (by decide) rfl ?_
  intro p e s m args below meth c s₁ B hml hv
  obtain ⟨rfl, hG, hP, hK⟩ := hv
  have hx := B.exec
  have hb := B.bytes
  have hr := B.returns
  have hts := atoms_spec (ws := wsX2_under) B.pre
  have hown : s.vm.findClass RX2 = some m.cls := findClass_of_methodNamed B.named
  have hlocks := B.notSynchronized
  have hP : va_P (dC, dI) vwCl [(h2, .inr (4, [.ref h1, .ref b0, .ref b1, .int oc])), (h1, .inr (3, [.ref a0, .ref a1, .ref a2, .ref a3, .int sz])), (a0, .inl (cyI, 40, .inl so)), (a1, .inl (cyZ, 40, .inl fi)), (a2, .inl (cyI, 40, .inl el)), (a3, .inl (cyJ, 40, .inr (.inl ab))), (b0, .inl (cyI, 60, .inl ot)), (b1, .inl (cyJ, 60, .inr (.inl ob)))] s.heap := hP
  have hP0 : va_P (dC, dI) vwCl [] s.heap := fun k q h => by simp at h
  have hin_X2 : ∀ w ∈ wsX20, w ∈ wsX2_under := by decide +kernel
  have hf_12 := hts (.fieldLink RX2 12 "ConversionTables" "types" "LConversionTables$TypeTable;") (by decide +kernel)
  have hl := lv_entry ([.ref h2, .int x1, .int x2]) (n := 3) (Nat.le_of_ble_eq_true rfl)
  rw [lg_entry_eq]
  generalize (lg_sl ([.ref h2, .int x1, .int x2]) ++ List.replicate (3 - (lg_sl ([.ref h2, .int x1, .int x2])).length) Slot.unset).toArray = ls at hl ⊢
  have hl : lv_has ls 3 [(0, .ref h2), (1, .int x1), (2, .int x2)] := hl
  refine lv_aload_n hx hb dX2_under_0 rfl (lv_at hl 0 rfl) ?_
  refine va_get (D := (dC, dI)) (ci := 4) (v := .ref h1) (C := RX2) (T := TX2) (N := 4) hx hb hts hin_X2 hown hK hP 0 rfl rfl 0 (by decide) hf_12 (fun _ h9 => h9) rfl dX2_under_1 ?_
  refine lv_iload_n hx hb dX2_under_4 rfl (lv_at hl 1 rfl) ?_
  refine mb_callSi (W.runV (As := [.int x1]) (rest := []) ⟨hx, hb, hml, hown, hts⟩ (c_X1_has l dC dI cyI cyZ cyJ h1 a0 a1 a2 a3 so fi el ab sz x1) (cwV 1 hts gX2_under_X1_has rfl rfl rfl (by decide +kernel) ⟨Nat.le_of_ble_eq_true rfl, Nat.le_of_ble_eq_true rfl⟩) (mb_preV hK (hP.sub [1, 2, 3, 4, 5] rfl) (ci := 3) (q0 := 0) rfl rfl) rfl rfl hl.1 rfl (lv_room (Nat.le_of_ble_eq_true rfl)) dX2_under_5 ⟨Nat.zero_le _, Nat.zero_le _⟩) ?_
  refine lv_if_eq (tgt := 22) hx hb dX2_under_8 (by decide) (fun c_1 => ?_) (fun c_1 => ?_)
  · refine lv_iconst (v := (-1 : Int32)) hx hb dX2_under_22 (by decide) ?_
    exact W.iret (v := (-1 : Int32)) hx hb hr (fun t ht hW => ⟨(-1 : Int32), rfl, Eq.symm ((if_pos c_1).trans (rfl)), ht⟩) (fun q h => by cases h) dX2_under_23
  · refine lv_aload_n hx hb dX2_under_11 rfl (lv_at hl 0 rfl) ?_
    refine va_get (D := (dC, dI)) (ci := 4) (v := .ref h1) (C := RX2) (T := TX2) (N := 4) hx hb hts hin_X2 hown hK hP 0 rfl rfl 0 (by decide) hf_12 (fun _ h9 => h9) rfl dX2_under_12 ?_
    refine lv_iload_n hx hb dX2_under_15 rfl (lv_at hl 2 rfl) ?_
    refine mb_callSi (W.runV (As := [.int x2]) (rest := []) ⟨hx, hb, hml, hown, hts⟩ (c_X1_has l dC dI cyI cyZ cyJ h1 a0 a1 a2 a3 so fi el ab sz x2) (cwV 1 hts gX2_under_X1_has rfl rfl rfl (by decide +kernel) ⟨Nat.le_of_ble_eq_true rfl, Nat.le_of_ble_eq_true rfl⟩) (mb_preV hK (hP.sub [1, 2, 3, 4, 5] rfl) (ci := 3) (q0 := 0) rfl rfl) rfl rfl hl.1 rfl (lv_room (Nat.le_of_ble_eq_true rfl)) dX2_under_16 ⟨Nat.zero_le _, Nat.zero_le _⟩) ?_
    refine lv_if_ne (tgt := 24) hx hb dX2_under_19 (by decide) (fun c_2 => ?_) (fun c_2 => ?_)
    · refine lv_iload_n hx hb dX2_under_24 rfl (lv_at hl 1 rfl) ?_
      refine mb_callSi (W.runS (As := [.int x1]) (rest := []) ⟨hx, hb, hml, hown, hts⟩ (c_X2_isPrimitive l x1) (va_cwS 1 hts gX2_under_X2_isPrimitive rfl rfl rfl (by decide +kernel) ⟨Nat.le_of_ble_eq_true rfl, Nat.le_of_ble_eq_true rfl⟩) mb_preT rfl rfl hl.1 rfl (lv_room (Nat.le_of_ble_eq_true rfl)) dX2_under_25 ⟨Nat.zero_le _, Nat.zero_le _⟩) ?_
      refine lv_if_ne (tgt := 38) hx hb dX2_under_28 (by decide) (fun c_3 => ?_) (fun c_3 => ?_)
      · refine lv_bipush (v := (-2 : Int32)) hx hb dX2_under_38 (by decide) ?_
        exact W.iret (v := (-2 : Int32)) hx hb hr (fun t ht hW => ⟨(-2 : Int32), rfl, Eq.symm ((if_neg c_1).trans ((if_neg c_2).trans ((if_neg c_3).trans (rfl)))), ht⟩) (fun q h => by cases h) dX2_under_40
      · refine lv_iload_n hx hb dX2_under_31 rfl (lv_at hl 2 rfl) ?_
        refine mb_callSi (W.runS (As := [.int x2]) (rest := []) ⟨hx, hb, hml, hown, hts⟩ (c_X2_isPrimitive l x2) (va_cwS 1 hts gX2_under_X2_isPrimitive rfl rfl rfl (by decide +kernel) ⟨Nat.le_of_ble_eq_true rfl, Nat.le_of_ble_eq_true rfl⟩) mb_preT rfl rfl hl.1 rfl (lv_room (Nat.le_of_ble_eq_true rfl)) dX2_under_32 ⟨Nat.zero_le _, Nat.zero_le _⟩) ?_
        refine lv_if_eq (tgt := 41) hx hb dX2_under_35 (by decide) (fun c_4 => ?_) (fun c_4 => ?_)
        · refine lv_aload_n hx hb dX2_under_41 rfl (lv_at hl 0 rfl) ?_
          refine va_get (D := (dC, dI)) (ci := 4) (v := .ref h1) (C := RX2) (T := TX2) (N := 4) hx hb hts hin_X2 hown hK hP 0 rfl rfl 0 (by decide) hf_12 (fun _ h9 => h9) rfl dX2_under_42 ?_
          refine lv_iload_n hx hb dX2_under_45 rfl (lv_at hl 1 rfl) ?_
          refine lv_iload_n hx hb dX2_under_46 rfl (lv_at hl 2 rfl) ?_
          refine mb_callSi (W.runV (As := [.int x1, .int x2]) (rest := []) ⟨hx, hb, hml, hown, hts⟩ (c_X1_isUnder l dC dI cyI cyZ cyJ h1 a0 a1 a2 a3 so fi el ab sz x1 x2 (mb_has gz c_1)) (cwV 2 hts gX2_under_X1_isUnder rfl rfl rfl (by decide +kernel) ⟨Nat.le_of_ble_eq_true rfl, Nat.le_of_ble_eq_true rfl⟩) (mb_preV hK (hP.sub [1, 2, 3, 4, 5] rfl) (ci := 3) (q0 := 0) rfl rfl) rfl rfl hl.1 rfl (lv_room (Nat.le_of_ble_eq_true rfl)) dX2_under_47 ⟨Nat.zero_le _, Nat.zero_le _⟩) ?_
          refine lv_if_eq (tgt := 57) hx hb dX2_under_50 (by decide) (fun c_5 => ?_) (fun c_5 => ?_)
          · refine lv_iconst (v := (0 : Int32)) hx hb dX2_under_57 (by decide) ?_
            exact W.iret (v := (0 : Int32)) hx hb hr (fun t ht hW => ⟨(0 : Int32), rfl, Eq.symm ((if_neg c_1).trans ((if_neg c_2).trans ((if_pos c_3).trans ((if_pos c_4).trans ((if_pos c_5).trans (rfl)))))), ht⟩) (fun q h => by cases h) dX2_under_58
          · refine lv_iconst (v := (1 : Int32)) hx hb dX2_under_53 (by decide) ?_
            refine lv_goto (tgt := 58) hx hb dX2_under_54 (by decide) ?_
            exact W.iret (v := (1 : Int32)) hx hb hr (fun t ht hW => ⟨(1 : Int32), rfl, Eq.symm ((if_neg c_1).trans ((if_neg c_2).trans ((if_pos c_3).trans ((if_pos c_4).trans ((if_neg c_5).trans (rfl)))))), ht⟩) (fun q h => by cases h) dX2_under_58
        · refine lv_bipush (v := (-2 : Int32)) hx hb dX2_under_38 (by decide) ?_
          exact W.iret (v := (-2 : Int32)) hx hb hr (fun t ht hW => ⟨(-2 : Int32), rfl, Eq.symm ((if_neg c_1).trans ((if_neg c_2).trans ((if_pos c_3).trans ((if_neg c_4).trans (rfl))))), ht⟩) (fun q h => by cases h) dX2_under_40
    · refine lv_iconst (v := (-1 : Int32)) hx hb dX2_under_22 (by decide) ?_
      exact W.iret (v := (-1 : Int32)) hx hb hr (fun t ht hW => ⟨(-1 : Int32), rfl, Eq.symm ((if_neg c_1).trans ((if_pos c_2).trans (rfl))), ht⟩) (fun q h => by cases h) dX2_under_23
def f_X2_stepsByBoxing (so : Nat → Int32) (fi : Nat → Int32) (el : Nat → Int32) (ab : Nat → Int64) (sz : Int32) (ot : Nat → Int32) (ob : Nat → Int64) (oc : Int32) (x1 : Int32) (x2 : Int32) : Int32 := if (f_X2_boxed x1) = x2 then (5 : Int32)
  else if (f_X1_isUnder so fi el ab sz (f_X2_boxed x1) x2) = 0 then (0 : Int32)
  else (6 : Int32)
set_option maxHeartbeats 4000000 in
set_option maxRecDepth 100000 in
theorem c_X2_stepsByBoxing (l : Launch) (dC : Nat → ClassId) (dI : Nat → Nat → Nat) (cyI cyZ cyJ : ClassId) (tK tL tG : Nat) (ad : Nat → Nat) (h2 h1 a0 a1 a2 a3 b0 b1 : Nat) (so : Nat → Int32) (fi : Nat → Int32) (el : Nat → Int32) (ab : Nat → Int64) (sz : Int32) (ot : Nat → Int32) (ob : Nat → Int64) (oc : Int32) (x1 : Int32) (x2 : Int32) (g1 : vp_in x1 40) (g2 : vp_in x2 40) : Met l yX2_stepsByBoxing wsX2_stepsByBoxing ({ frames := 2, cells := 0, slots := 0, locals := 42 }) (va_Pc [.ref h2, .int x1, .int x2] (mb_RG tK tL tG ad (dC, dI) (mb_tys cyI cyZ cyJ) [(h2, .inr (4, [.ref h1, .ref b0, .ref b1, .int oc])), (h1, .inr (3, [.ref a0, .ref a1, .ref a2, .ref a3, .int sz])), (a0, .inl (cyI, 40, .inl so)), (a1, .inl (cyZ, 40, .inl fi)), (a2, .inl (cyI, 40, .inl el)), (a3, .inl (cyJ, 40, .inr (.inl ab))), (b0, .inl (cyI, 60, .inl ot)), (b1, .inl (cyJ, 60, .inr (.inl ob)))])) (vp_Si (fun r => r = f_X2_stepsByBoxing so fi el ab sz ot ob oc x1 x2)) 0 0 (fun _ => False) := by
  refine Met.ofW (cc := cX2_stepsByBoxing) (maxL := 4) (ret := (some .int)) (by decide) rfl ?_
  intro p e s m args below meth c s₁ B hml hv
  obtain ⟨rfl, hG, hP, hK⟩ := hv
  have hx := B.exec
  have hb := B.bytes
  have hr := B.returns
  have hts := atoms_spec (ws := wsX2_stepsByBoxing) B.pre
  have hown : s.vm.findClass RX2 = some m.cls := findClass_of_methodNamed B.named
  have hlocks := B.notSynchronized
  have hP : va_P (dC, dI) vwCl [(h2, .inr (4, [.ref h1, .ref b0, .ref b1, .int oc])), (h1, .inr (3, [.ref a0, .ref a1, .ref a2, .ref a3, .int sz])), (a0, .inl (cyI, 40, .inl so)), (a1, .inl (cyZ, 40, .inl fi)), (a2, .inl (cyI, 40, .inl el)), (a3, .inl (cyJ, 40, .inr (.inl ab))), (b0, .inl (cyI, 60, .inl ot)), (b1, .inl (cyJ, 60, .inr (.inl ob)))] s.heap := hP
  have hP0 : va_P (dC, dI) vwCl [] s.heap := fun k q h => by simp at h
  have hin_X2 : ∀ w ∈ wsX20, w ∈ wsX2_stepsByBoxing := by decide +kernel
  have hf_12 := hts (.fieldLink RX2 12 "ConversionTables" "types" "LConversionTables$TypeTable;") (by decide +kernel)
  have hl := lv_entry ([.ref h2, .int x1, .int x2]) (n := 4) (Nat.le_of_ble_eq_true rfl)
  rw [lg_entry_eq]
  generalize (lg_sl ([.ref h2, .int x1, .int x2]) ++ List.replicate (4 - (lg_sl ([.ref h2, .int x1, .int x2])).length) Slot.unset).toArray = ls at hl ⊢
  have hl : lv_has ls 4 [(0, .ref h2), (1, .int x1), (2, .int x2)] := hl
  refine lv_iload_n hx hb dX2_stepsByBoxing_0 rfl (lv_at hl 1 rfl) ?_
  refine mb_callSi (W.runS (As := [.int x1]) (rest := []) ⟨hx, hb, hml, hown, hts⟩ (c_X2_boxed l x1) (va_cwS 1 hts gX2_stepsByBoxing_X2_boxed rfl rfl rfl (by decide +kernel) ⟨Nat.le_of_ble_eq_true rfl, Nat.le_of_ble_eq_true rfl⟩) mb_preT rfl rfl hl.1 rfl (lv_room (Nat.le_of_ble_eq_true rfl)) dX2_stepsByBoxing_1 ⟨Nat.zero_le _, Nat.zero_le _⟩) ?_
  refine lv_istore_n (lv' := [(3, .int (f_X2_boxed x1)), (0, .ref h2), (1, .int x1), (2, .int x2)]) hx hb dX2_stepsByBoxing_4 rfl hl (by decide) rfl (fun ls hl => ?_)
  refine lv_iload_n hx hb dX2_stepsByBoxing_5 rfl (lv_at hl 0 rfl) ?_
  refine lv_iload_n hx hb dX2_stepsByBoxing_6 rfl (lv_at hl 3 rfl) ?_
  refine lv_icmp_ne (tgt := 12) hx hb dX2_stepsByBoxing_7 (by decide) (fun c_1 => ?_) (fun c_1 => ?_)
  · refine lv_aload_n hx hb dX2_stepsByBoxing_12 rfl (lv_at hl 1 rfl) ?_
    refine va_get (D := (dC, dI)) (ci := 4) (v := .ref h1) (C := RX2) (T := TX2) (N := 4) hx hb hts hin_X2 hown hK hP 0 rfl rfl 0 (by decide) hf_12 (fun _ h9 => h9) rfl dX2_stepsByBoxing_13 ?_
    refine lv_iload_n hx hb dX2_stepsByBoxing_16 rfl (lv_at hl 0 rfl) ?_
    refine lv_iload_n hx hb dX2_stepsByBoxing_17 rfl (lv_at hl 3 rfl) ?_
    refine mb_callSi (W.runV (As := [.int (f_X2_boxed x1), .int x2]) (rest := []) ⟨hx, hb, hml, hown, hts⟩ (c_X1_isUnder l dC dI cyI cyZ cyJ h1 a0 a1 a2 a3 so fi el ab sz (f_X2_boxed x1) x2 (mb_boxed_in g1)) (cwV 2 hts gX2_stepsByBoxing_X1_isUnder rfl rfl rfl (by decide +kernel) ⟨Nat.le_of_ble_eq_true rfl, Nat.le_of_ble_eq_true rfl⟩) (mb_preV hK (hP.sub [1, 2, 3, 4, 5] rfl) (ci := 3) (q0 := 0) rfl rfl) rfl rfl hl.1 rfl (lv_room (Nat.le_of_ble_eq_true rfl)) dX2_stepsByBoxing_18 ⟨Nat.zero_le _, Nat.zero_le _⟩) ?_
    refine lv_if_eq (tgt := 29) hx hb dX2_stepsByBoxing_21 (by decide) (fun c_2 => ?_) (fun c_2 => ?_)
    · refine lv_iconst (v := (0 : Int32)) hx hb dX2_stepsByBoxing_29 (by decide) ?_
      exact W.iret (v := (0 : Int32)) hx hb hr (fun t ht hW => ⟨(0 : Int32), rfl, Eq.symm ((if_neg c_1).trans ((if_pos c_2).trans (rfl))), ht⟩) (fun q h => by cases h) dX2_stepsByBoxing_30
    · refine lv_bipush (v := (6 : Int32)) hx hb dX2_stepsByBoxing_24 (by decide) ?_
      refine lv_goto (tgt := 30) hx hb dX2_stepsByBoxing_26 (by decide) ?_
      exact W.iret (v := (6 : Int32)) hx hb hr (fun t ht hW => ⟨(6 : Int32), rfl, Eq.symm ((if_neg c_1).trans ((if_neg c_2).trans (rfl))), ht⟩) (fun q h => by cases h) dX2_stepsByBoxing_30
  · refine lv_iconst (v := (5 : Int32)) hx hb dX2_stepsByBoxing_10 (by decide) ?_
    exact W.iret (v := (5 : Int32)) hx hb hr (fun t ht hW => ⟨(5 : Int32), rfl, Eq.symm ((if_pos c_1).trans (rfl)), ht⟩) (fun q h => by cases h) dX2_stepsByBoxing_11
def f_X2_stepsByUnboxing (so : Nat → Int32) (fi : Nat → Int32) (el : Nat → Int32) (ab : Nat → Int64) (sz : Int32) (ot : Nat → Int32) (ob : Nat → Int64) (oc : Int32) (x1 : Int32) (x2 : Int32) : Int32 := if (f_X2_isBox x1) = 0 then (if (f_X1_goesDown so fi el ab sz x1 (f_X2_boxed x2)) = 0 then (0 : Int32)
    else (11 : Int32))
  else if (f_X2_withoutBox x1) = x2 then (7 : Int32)
  else if (f_X2_isWider (f_X2_withoutBox x1) x2) = 0 then (0 : Int32)
  else (8 : Int32)
set_option maxHeartbeats 4000000 in
set_option maxRecDepth 100000 in
theorem c_X2_stepsByUnboxing (l : Launch) (dC : Nat → ClassId) (dI : Nat → Nat → Nat) (cyI cyZ cyJ : ClassId) (tK tL tG : Nat) (ad : Nat → Nat) (h2 h1 a0 a1 a2 a3 b0 b1 : Nat) (so : Nat → Int32) (fi : Nat → Int32) (el : Nat → Int32) (ab : Nat → Int64) (sz : Int32) (ot : Nat → Int32) (ob : Nat → Int64) (oc : Int32) (x1 : Int32) (x2 : Int32) (g1 : vp_in x1 40) (g2 : vp_in x2 40) (ge : mb_EL so el) : Met l yX2_stepsByUnboxing wsX2_stepsByUnboxing ({ frames := 3, cells := 0, slots := 0, locals := 68 }) (va_Pc [.ref h2, .int x1, .int x2] (mb_RG tK tL tG ad (dC, dI) (mb_tys cyI cyZ cyJ) [(h2, .inr (4, [.ref h1, .ref b0, .ref b1, .int oc])), (h1, .inr (3, [.ref a0, .ref a1, .ref a2, .ref a3, .int sz])), (a0, .inl (cyI, 40, .inl so)), (a1, .inl (cyZ, 40, .inl fi)), (a2, .inl (cyI, 40, .inl el)), (a3, .inl (cyJ, 40, .inr (.inl ab))), (b0, .inl (cyI, 60, .inl ot)), (b1, .inl (cyJ, 60, .inr (.inl ob)))])) (vp_Si (fun r => r = f_X2_stepsByUnboxing so fi el ab sz ot ob oc x1 x2)) 0 0 (fun _ => False) := by
  refine Met.ofW (cc := cX2_stepsByUnboxing) (maxL := 4) (ret := (some .int)) (by decide) rfl ?_
  intro p e s m args below meth c s₁ B hml hv
  obtain ⟨rfl, hG, hP, hK⟩ := hv
  have hx := B.exec
  have hb := B.bytes
  have hr := B.returns
  have hts := atoms_spec (ws := wsX2_stepsByUnboxing) B.pre
  have hown : s.vm.findClass RX2 = some m.cls := findClass_of_methodNamed B.named
  have hlocks := B.notSynchronized
  have hP : va_P (dC, dI) vwCl [(h2, .inr (4, [.ref h1, .ref b0, .ref b1, .int oc])), (h1, .inr (3, [.ref a0, .ref a1, .ref a2, .ref a3, .int sz])), (a0, .inl (cyI, 40, .inl so)), (a1, .inl (cyZ, 40, .inl fi)), (a2, .inl (cyI, 40, .inl el)), (a3, .inl (cyJ, 40, .inr (.inl ab))), (b0, .inl (cyI, 60, .inl ot)), (b1, .inl (cyJ, 60, .inr (.inl ob)))] s.heap := hP
  have hP0 : va_P (dC, dI) vwCl [] s.heap := fun k q h => by simp at h
  have hin_X2 : ∀ w ∈ wsX20, w ∈ wsX2_stepsByUnboxing := by decide +kernel
  have hf_12 := hts (.fieldLink RX2 12 "ConversionTables" "types" "LConversionTables$TypeTable;") (by decide +kernel)
  have hl := lv_entry ([.ref h2, .int x1, .int x2]) (n := 4) (Nat.le_of_ble_eq_true rfl)
  rw [lg_entry_eq]
  generalize (lg_sl ([.ref h2, .int x1, .int x2]) ++ List.replicate (4 - (lg_sl ([.ref h2, .int x1, .int x2])).length) Slot.unset).toArray = ls at hl ⊢
  have hl : lv_has ls 4 [(0, .ref h2), (1, .int x1), (2, .int x2)] := hl
  refine lv_iload_n hx hb dX2_stepsByUnboxing_0 rfl (lv_at hl 1 rfl) ?_
  refine mb_callSi (W.runS (As := [.int x1]) (rest := []) ⟨hx, hb, hml, hown, hts⟩ (c_X2_isBox l x1) (va_cwS 1 hts gX2_stepsByUnboxing_X2_isBox rfl rfl rfl (by decide +kernel) ⟨Nat.le_of_ble_eq_true rfl, Nat.le_of_ble_eq_true rfl⟩) mb_preT rfl rfl hl.1 rfl (lv_room (Nat.le_of_ble_eq_true rfl)) dX2_stepsByUnboxing_1 ⟨Nat.zero_le _, Nat.zero_le _⟩) ?_
  refine lv_if_ne (tgt := 29) hx hb dX2_stepsByUnboxing_4 (by decide) (fun c_1 => ?_) (fun c_1 => ?_)
  · refine lv_iload_n hx hb dX2_stepsByUnboxing_29 rfl (lv_at hl 1 rfl) ?_
    refine mb_callSi (W.runS (As := [.int x1]) (rest := []) ⟨hx, hb, hml, hown, hts⟩ (c_X2_withoutBox l x1) (va_cwS 1 hts gX2_stepsByUnboxing_X2_withoutBox rfl rfl rfl (by decide +kernel) ⟨Nat.le_of_ble_eq_true rfl, Nat.le_of_ble_eq_true rfl⟩) mb_preT rfl rfl hl.1 rfl (lv_room (Nat.le_of_ble_eq_true rfl)) dX2_stepsByUnboxing_30 ⟨Nat.zero_le _, Nat.zero_le _⟩) ?_
    refine lv_istore_n (lv' := [(3, .int (f_X2_withoutBox x1)), (0, .ref h2), (1, .int x1), (2, .int x2)]) hx hb dX2_stepsByUnboxing_33 rfl hl (by decide) rfl (fun ls hl => ?_)
    refine lv_iload_n hx hb dX2_stepsByUnboxing_34 rfl (lv_at hl 0 rfl) ?_
    refine lv_iload_n hx hb dX2_stepsByUnboxing_35 rfl (lv_at hl 3 rfl) ?_
    refine lv_icmp_ne (tgt := 42) hx hb dX2_stepsByUnboxing_36 (by decide) (fun c_2 => ?_) (fun c_2 => ?_)
    · refine lv_iload_n hx hb dX2_stepsByUnboxing_42 rfl (lv_at hl 0 rfl) ?_
      refine lv_iload_n hx hb dX2_stepsByUnboxing_43 rfl (lv_at hl 3 rfl) ?_
      refine mb_callSi (W.runS (As := [.int (f_X2_withoutBox x1), .int x2]) (rest := []) ⟨hx, hb, hml, hown, hts⟩ (c_X2_isWider l (f_X2_withoutBox x1) x2) (va_cwS 2 hts gX2_stepsByUnboxing_X2_isWider rfl rfl rfl (by decide +kernel) ⟨Nat.le_of_ble_eq_true rfl, Nat.le_of_ble_eq_true rfl⟩) mb_preT rfl rfl hl.1 rfl (lv_room (Nat.le_of_ble_eq_true rfl)) dX2_stepsByUnboxing_44 ⟨Nat.zero_le _, Nat.zero_le _⟩) ?_
      refine lv_if_eq (tgt := 55) hx hb dX2_stepsByUnboxing_47 (by decide) (fun c_3 => ?_) (fun c_3 => ?_)
      · refine lv_iconst (v := (0 : Int32)) hx hb dX2_stepsByUnboxing_55 (by decide) ?_
        exact W.iret (v := (0 : Int32)) hx hb hr (fun t ht hW => ⟨(0 : Int32), rfl, Eq.symm ((if_neg c_1).trans ((if_neg c_2).trans ((if_pos c_3).trans (rfl)))), ht⟩) (fun q h => by cases h) dX2_stepsByUnboxing_56
      · refine lv_bipush (v := (8 : Int32)) hx hb dX2_stepsByUnboxing_50 (by decide) ?_
        refine lv_goto (tgt := 56) hx hb dX2_stepsByUnboxing_52 (by decide) ?_
        exact W.iret (v := (8 : Int32)) hx hb hr (fun t ht hW => ⟨(8 : Int32), rfl, Eq.symm ((if_neg c_1).trans ((if_neg c_2).trans ((if_neg c_3).trans (rfl)))), ht⟩) (fun q h => by cases h) dX2_stepsByUnboxing_56
    · refine lv_bipush (v := (7 : Int32)) hx hb dX2_stepsByUnboxing_39 (by decide) ?_
      exact W.iret (v := (7 : Int32)) hx hb hr (fun t ht hW => ⟨(7 : Int32), rfl, Eq.symm ((if_neg c_1).trans ((if_pos c_2).trans (rfl))), ht⟩) (fun q h => by cases h) dX2_stepsByUnboxing_41
  · refine lv_aload_n hx hb dX2_stepsByUnboxing_7 rfl (lv_at hl 0 rfl) ?_
    refine va_get (D := (dC, dI)) (ci := 4) (v := .ref h1) (C := RX2) (T := TX2) (N := 4) hx hb hts hin_X2 hown hK hP 0 rfl rfl 0 (by decide) hf_12 (fun _ h9 => h9) rfl dX2_stepsByUnboxing_8 ?_
    refine lv_iload_n hx hb dX2_stepsByUnboxing_11 rfl (lv_at hl 1 rfl) ?_
    refine lv_iload_n hx hb dX2_stepsByUnboxing_12 rfl (lv_at hl 2 rfl) ?_
    refine mb_callSi (W.runS (As := [.int x2]) (rest := [.int x1, .ref h1]) ⟨hx, hb, hml, hown, hts⟩ (c_X2_boxed l x2) (va_cwS 1 hts gX2_stepsByUnboxing_X2_boxed rfl rfl rfl (by decide +kernel) ⟨Nat.le_of_ble_eq_true rfl, Nat.le_of_ble_eq_true rfl⟩) mb_preT rfl rfl hl.1 rfl (lv_room (Nat.le_of_ble_eq_true rfl)) dX2_stepsByUnboxing_13 ⟨Nat.zero_le _, Nat.zero_le _⟩) ?_
    refine mb_callSi (W.runV (As := [.int x1, .int (f_X2_boxed x2)]) (rest := []) ⟨hx, hb, hml, hown, hts⟩ (c_X1_goesDown l dC dI cyI cyZ cyJ h1 a0 a1 a2 a3 so fi el ab sz x1 (f_X2_boxed x2) g1 (mb_boxed_in g2) ge) (cwV 2 hts gX2_stepsByUnboxing_X1_goesDown rfl rfl rfl (by decide +kernel) ⟨Nat.le_of_ble_eq_true rfl, Nat.le_of_ble_eq_true rfl⟩) (mb_preV hK (hP.sub [1, 2, 3, 4, 5] rfl) (ci := 3) (q0 := 0) rfl rfl) rfl rfl hl.1 rfl (lv_room (Nat.le_of_ble_eq_true rfl)) dX2_stepsByUnboxing_16 ⟨Nat.zero_le _, Nat.zero_le _⟩) ?_
    refine lv_if_eq (tgt := 27) hx hb dX2_stepsByUnboxing_19 (by decide) (fun c_4 => ?_) (fun c_4 => ?_)
    · refine lv_iconst (v := (0 : Int32)) hx hb dX2_stepsByUnboxing_27 (by decide) ?_
      exact W.iret (v := (0 : Int32)) hx hb hr (fun t ht hW => ⟨(0 : Int32), rfl, Eq.symm ((if_pos c_1).trans ((if_pos c_4).trans (rfl))), ht⟩) (fun q h => by cases h) dX2_stepsByUnboxing_28
    · refine lv_bipush (v := (11 : Int32)) hx hb dX2_stepsByUnboxing_22 (by decide) ?_
      refine lv_goto (tgt := 28) hx hb dX2_stepsByUnboxing_24 (by decide) ?_
      exact W.iret (v := (11 : Int32)) hx hb hr (fun t ht hW => ⟨(11 : Int32), rfl, Eq.symm ((if_pos c_1).trans ((if_neg c_4).trans (rfl))), ht⟩) (fun q h => by cases h) dX2_stepsByUnboxing_28
def f_X2_stepBetweenReferences (so : Nat → Int32) (fi : Nat → Int32) (el : Nat → Int32) (ab : Nat → Int64) (sz : Int32) (ot : Nat → Int32) (ob : Nat → Int64) (oc : Int32) (x1 : Int32) (x2 : Int32) : Int32 := if (f_X1_isUnder so fi el ab sz x1 x2) = 0 then (if (f_X1_goesDown so fi el ab sz x1 x2) = 0 then (0 : Int32)
    else (10 : Int32))
  else (9 : Int32)
set_option maxHeartbeats 4000000 in
set_option maxRecDepth 100000 in
theorem c_X2_stepBetweenReferences (l : Launch) (dC : Nat → ClassId) (dI : Nat → Nat → Nat) (cyI cyZ cyJ : ClassId) (tK tL tG : Nat) (ad : Nat → Nat) (h2 h1 a0 a1 a2 a3 b0 b1 : Nat) (so : Nat → Int32) (fi : Nat → Int32) (el : Nat → Int32) (ab : Nat → Int64) (sz : Int32) (ot : Nat → Int32) (ob : Nat → Int64) (oc : Int32) (x1 : Int32) (x2 : Int32) (g1 : vp_in x1 40) (g2 : vp_in x2 40) (ge : mb_EL so el) : Met l yX2_stepBetweenReferences wsX2_stepBetweenReferences ({ frames := 3, cells := 0, slots := 0, locals := 68 }) (va_Pc [.ref h2, .int x1, .int x2] (mb_RG tK tL tG ad (dC, dI) (mb_tys cyI cyZ cyJ) [(h2, .inr (4, [.ref h1, .ref b0, .ref b1, .int oc])), (h1, .inr (3, [.ref a0, .ref a1, .ref a2, .ref a3, .int sz])), (a0, .inl (cyI, 40, .inl so)), (a1, .inl (cyZ, 40, .inl fi)), (a2, .inl (cyI, 40, .inl el)), (a3, .inl (cyJ, 40, .inr (.inl ab))), (b0, .inl (cyI, 60, .inl ot)), (b1, .inl (cyJ, 60, .inr (.inl ob)))])) (vp_Si (fun r => r = f_X2_stepBetweenReferences so fi el ab sz ot ob oc x1 x2)) 0 0 (fun _ => False) := by
  refine Met.ofW (cc := cX2_stepBetweenReferences) (maxL := 3) (ret := (some .int)) (by decide) rfl ?_
  intro p e s m args below meth c s₁ B hml hv
  obtain ⟨rfl, hG, hP, hK⟩ := hv
  have hx := B.exec
  have hb := B.bytes
  have hr := B.returns
  have hts := atoms_spec (ws := wsX2_stepBetweenReferences) B.pre
  have hown : s.vm.findClass RX2 = some m.cls := findClass_of_methodNamed B.named
  have hlocks := B.notSynchronized
  have hP : va_P (dC, dI) vwCl [(h2, .inr (4, [.ref h1, .ref b0, .ref b1, .int oc])), (h1, .inr (3, [.ref a0, .ref a1, .ref a2, .ref a3, .int sz])), (a0, .inl (cyI, 40, .inl so)), (a1, .inl (cyZ, 40, .inl fi)), (a2, .inl (cyI, 40, .inl el)), (a3, .inl (cyJ, 40, .inr (.inl ab))), (b0, .inl (cyI, 60, .inl ot)), (b1, .inl (cyJ, 60, .inr (.inl ob)))] s.heap := hP
  have hP0 : va_P (dC, dI) vwCl [] s.heap := fun k q h => by simp at h
  have hin_X2 : ∀ w ∈ wsX20, w ∈ wsX2_stepBetweenReferences := by decide +kernel
  have hf_12 := hts (.fieldLink RX2 12 "ConversionTables" "types" "LConversionTables$TypeTable;") (by decide +kernel)
  have hl := lv_entry ([.ref h2, .int x1, .int x2]) (n := 3) (Nat.le_of_ble_eq_true rfl)
  rw [lg_entry_eq]
  generalize (lg_sl ([.ref h2, .int x1, .int x2]) ++ List.replicate (3 - (lg_sl ([.ref h2, .int x1, .int x2])).length) Slot.unset).toArray = ls at hl ⊢
  have hl : lv_has ls 3 [(0, .ref h2), (1, .int x1), (2, .int x2)] := hl
  refine lv_aload_n hx hb dX2_stepBetweenReferences_0 rfl (lv_at hl 0 rfl) ?_
  refine va_get (D := (dC, dI)) (ci := 4) (v := .ref h1) (C := RX2) (T := TX2) (N := 4) hx hb hts hin_X2 hown hK hP 0 rfl rfl 0 (by decide) hf_12 (fun _ h9 => h9) rfl dX2_stepBetweenReferences_1 ?_
  refine lv_iload_n hx hb dX2_stepBetweenReferences_4 rfl (lv_at hl 1 rfl) ?_
  refine lv_iload_n hx hb dX2_stepBetweenReferences_5 rfl (lv_at hl 2 rfl) ?_
  refine mb_callSi (W.runV (As := [.int x1, .int x2]) (rest := []) ⟨hx, hb, hml, hown, hts⟩ (c_X1_isUnder l dC dI cyI cyZ cyJ h1 a0 a1 a2 a3 so fi el ab sz x1 x2 g1) (cwV 2 hts gX2_stepBetweenReferences_X1_isUnder rfl rfl rfl (by decide +kernel) ⟨Nat.le_of_ble_eq_true rfl, Nat.le_of_ble_eq_true rfl⟩) (mb_preV hK (hP.sub [1, 2, 3, 4, 5] rfl) (ci := 3) (q0 := 0) rfl rfl) rfl rfl hl.1 rfl (lv_room (Nat.le_of_ble_eq_true rfl)) dX2_stepBetweenReferences_6 ⟨Nat.zero_le _, Nat.zero_le _⟩) ?_
  refine lv_if_eq (tgt := 15) hx hb dX2_stepBetweenReferences_9 (by decide) (fun c_1 => ?_) (fun c_1 => ?_)
  · refine lv_aload_n hx hb dX2_stepBetweenReferences_15 rfl (lv_at hl 0 rfl) ?_
    refine va_get (D := (dC, dI)) (ci := 4) (v := .ref h1) (C := RX2) (T := TX2) (N := 4) hx hb hts hin_X2 hown hK hP 0 rfl rfl 0 (by decide) hf_12 (fun _ h9 => h9) rfl dX2_stepBetweenReferences_16 ?_
    refine lv_iload_n hx hb dX2_stepBetweenReferences_19 rfl (lv_at hl 1 rfl) ?_
    refine lv_iload_n hx hb dX2_stepBetweenReferences_20 rfl (lv_at hl 2 rfl) ?_
    refine mb_callSi (W.runV (As := [.int x1, .int x2]) (rest := []) ⟨hx, hb, hml, hown, hts⟩ (c_X1_goesDown l dC dI cyI cyZ cyJ h1 a0 a1 a2 a3 so fi el ab sz x1 x2 g1 g2 ge) (cwV 2 hts gX2_stepBetweenReferences_X1_goesDown rfl rfl rfl (by decide +kernel) ⟨Nat.le_of_ble_eq_true rfl, Nat.le_of_ble_eq_true rfl⟩) (mb_preV hK (hP.sub [1, 2, 3, 4, 5] rfl) (ci := 3) (q0 := 0) rfl rfl) rfl rfl hl.1 rfl (lv_room (Nat.le_of_ble_eq_true rfl)) dX2_stepBetweenReferences_21 ⟨Nat.zero_le _, Nat.zero_le _⟩) ?_
    refine lv_if_eq (tgt := 32) hx hb dX2_stepBetweenReferences_24 (by decide) (fun c_2 => ?_) (fun c_2 => ?_)
    · refine lv_iconst (v := (0 : Int32)) hx hb dX2_stepBetweenReferences_32 (by decide) ?_
      exact W.iret (v := (0 : Int32)) hx hb hr (fun t ht hW => ⟨(0 : Int32), rfl, Eq.symm ((if_pos c_1).trans ((if_pos c_2).trans (rfl))), ht⟩) (fun q h => by cases h) dX2_stepBetweenReferences_33
    · refine lv_bipush (v := (10 : Int32)) hx hb dX2_stepBetweenReferences_27 (by decide) ?_
      refine lv_goto (tgt := 33) hx hb dX2_stepBetweenReferences_29 (by decide) ?_
      exact W.iret (v := (10 : Int32)) hx hb hr (fun t ht hW => ⟨(10 : Int32), rfl, Eq.symm ((if_pos c_1).trans ((if_neg c_2).trans (rfl))), ht⟩) (fun q h => by cases h) dX2_stepBetweenReferences_33
  · refine lv_bipush (v := (9 : Int32)) hx hb dX2_stepBetweenReferences_12 (by decide) ?_
    exact W.iret (v := (9 : Int32)) hx hb hr (fun t ht hW => ⟨(9 : Int32), rfl, Eq.symm ((if_neg c_1).trans (rfl)), ht⟩) (fun q h => by cases h) dX2_stepBetweenReferences_14
def f_X2_stepsBetween (so : Nat → Int32) (fi : Nat → Int32) (el : Nat → Int32) (ab : Nat → Int64) (sz : Int32) (ot : Nat → Int32) (ob : Nat → Int64) (oc : Int32) (x1 : Int32) (x2 : Int32) : Int32 := if x1 = x2 then (1 : Int32)
  else if (f_X2_isPrimitive x1) = 0 then (if (f_X2_isPrimitive x2) = 0 then (f_X2_stepBetweenReferences so fi el ab sz ot ob oc x1 x2)
    else (f_X2_stepsByUnboxing so fi el ab sz ot ob oc x1 x2))
  else if (f_X2_isPrimitive x2) = 0 then (f_X2_stepsByBoxing so fi el ab sz ot ob oc x1 x2)
  else (f_X2_stepBetweenPrimitives x1 x2)
set_option maxHeartbeats 4000000 in
set_option maxRecDepth 100000 in
theorem c_X2_stepsBetween (l : Launch) (dC : Nat → ClassId) (dI : Nat → Nat → Nat) (cyI cyZ cyJ : ClassId) (tK tL tG : Nat) (ad : Nat → Nat) (h2 h1 a0 a1 a2 a3 b0 b1 : Nat) (so : Nat → Int32) (fi : Nat → Int32) (el : Nat → Int32) (ab : Nat → Int64) (sz : Int32) (ot : Nat → Int32) (ob : Nat → Int64) (oc : Int32) (x1 : Int32) (x2 : Int32) (g1 : vp_in x1 40) (g2 : vp_in x2 40) (ge : mb_EL so el) : Met l yX2_stepsBetween wsX2_stepsBetween ({ frames := 4, cells := 0, slots := 0, locals := 91 }) (va_Pc [.ref h2, .int x1, .int x2] (mb_RG tK tL tG ad (dC, dI) (mb_tys cyI cyZ cyJ) [(h2, .inr (4, [.ref h1, .ref b0, .ref b1, .int oc])), (h1, .inr (3, [.ref a0, .ref a1, .ref a2, .ref a3, .int sz])), (a0, .inl (cyI, 40, .inl so)), (a1, .inl (cyZ, 40, .inl fi)), (a2, .inl (cyI, 40, .inl el)), (a3, .inl (cyJ, 40, .inr (.inl ab))), (b0, .inl (cyI, 60, .inl ot)), (b1, .inl (cyJ, 60, .inr (.inl ob)))])) (vp_Si (fun r => r = f_X2_stepsBetween so fi el ab sz ot ob oc x1 x2)) 0 0 (fun _ => False) := by
  refine Met.ofW (cc := cX2_stepsBetween) (maxL := 3) (ret := (some .int)) (by decide) rfl ?_
  intro p e s m args below meth c s₁ B hml hv
  obtain ⟨rfl, hG, hP, hK⟩ := hv
  have hx := B.exec
  have hb := B.bytes
  have hr := B.returns
  have hts := atoms_spec (ws := wsX2_stepsBetween) B.pre
  have hown : s.vm.findClass RX2 = some m.cls := findClass_of_methodNamed B.named
  have hlocks := B.notSynchronized
  have hP : va_P (dC, dI) vwCl [(h2, .inr (4, [.ref h1, .ref b0, .ref b1, .int oc])), (h1, .inr (3, [.ref a0, .ref a1, .ref a2, .ref a3, .int sz])), (a0, .inl (cyI, 40, .inl so)), (a1, .inl (cyZ, 40, .inl fi)), (a2, .inl (cyI, 40, .inl el)), (a3, .inl (cyJ, 40, .inr (.inl ab))), (b0, .inl (cyI, 60, .inl ot)), (b1, .inl (cyJ, 60, .inr (.inl ob)))] s.heap := hP
  have hP0 : va_P (dC, dI) vwCl [] s.heap := fun k q h => by simp at h
  have hl := lv_entry ([.ref h2, .int x1, .int x2]) (n := 3) (Nat.le_of_ble_eq_true rfl)
  rw [lg_entry_eq]
  generalize (lg_sl ([.ref h2, .int x1, .int x2]) ++ List.replicate (3 - (lg_sl ([.ref h2, .int x1, .int x2])).length) Slot.unset).toArray = ls at hl ⊢
  have hl : lv_has ls 3 [(0, .ref h2), (1, .int x1), (2, .int x2)] := hl
  refine lv_iload_n hx hb dX2_stepsBetween_0 rfl (lv_at hl 1 rfl) ?_
  refine lv_iload_n hx hb dX2_stepsBetween_1 rfl (lv_at hl 2 rfl) ?_
  refine lv_icmp_ne (tgt := 7) hx hb dX2_stepsBetween_2 (by decide) (fun c_1 => ?_) (fun c_1 => ?_)
  · refine lv_iload_n hx hb dX2_stepsBetween_7 rfl (lv_at hl 1 rfl) ?_
    refine mb_callSi (W.runS (As := [.int x1]) (rest := []) ⟨hx, hb, hml, hown, hts⟩ (c_X2_isPrimitive l x1) (va_cwS 1 hts gX2_stepsBetween_X2_isPrimitive rfl rfl rfl (by decide +kernel) ⟨Nat.le_of_ble_eq_true rfl, Nat.le_of_ble_eq_true rfl⟩) mb_preT rfl rfl hl.1 rfl (lv_room (Nat.le_of_ble_eq_true rfl)) dX2_stepsBetween_8 ⟨Nat.zero_le _, Nat.zero_le _⟩) ?_
    refine lv_if_eq (tgt := 36) hx hb dX2_stepsBetween_11 (by decide) (fun c_2 => ?_) (fun c_2 => ?_)
    · refine lv_iload_n hx hb dX2_stepsBetween_36 rfl (lv_at hl 2 rfl) ?_
      refine mb_callSi (W.runS (As := [.int x2]) (rest := []) ⟨hx, hb, hml, hown, hts⟩ (c_X2_isPrimitive l x2) (va_cwS 1 hts gX2_stepsBetween_X2_isPrimitive rfl rfl rfl (by decide +kernel) ⟨Nat.le_of_ble_eq_true rfl, Nat.le_of_ble_eq_true rfl⟩) mb_preT rfl rfl hl.1 rfl (lv_room (Nat.le_of_ble_eq_true rfl)) dX2_stepsBetween_37 ⟨Nat.zero_le _, Nat.zero_le _⟩) ?_
      refine lv_if_eq (tgt := 52) hx hb dX2_stepsBetween_40 (by decide) (fun c_3 => ?_) (fun c_3 => ?_)
      · refine lv_aload_n hx hb dX2_stepsBetween_52 rfl (lv_at hl 0 rfl) ?_
        refine lv_iload_n hx hb dX2_stepsBetween_53 rfl (lv_at hl 1 rfl) ?_
        refine lv_iload_n hx hb dX2_stepsBetween_54 rfl (lv_at hl 2 rfl) ?_
        refine mb_callSi (W.runV (As := [.int x1, .int x2]) (rest := []) ⟨hx, hb, hml, hown, hts⟩ (c_X2_stepBetweenReferences l dC dI cyI cyZ cyJ tK tL tG ad h2 h1 a0 a1 a2 a3 b0 b1 so fi el ab sz ot ob oc x1 x2 g1 g2 ge) (cwV 2 hts gX2_stepsBetween_X2_stepBetweenReferences rfl rfl rfl (by decide +kernel) ⟨Nat.le_of_ble_eq_true rfl, Nat.le_of_ble_eq_true rfl⟩) (mb_preGV hG hK hP (ci := 4) (q0 := 0) rfl rfl) rfl rfl hl.1 rfl (lv_room (Nat.le_of_ble_eq_true rfl)) dX2_stepsBetween_55 ⟨Nat.zero_le _, Nat.zero_le _⟩) ?_
        exact W.iret (v := (f_X2_stepBetweenReferences so fi el ab sz ot ob oc x1 x2)) hx hb hr (fun t ht hW => ⟨(f_X2_stepBetweenReferences so fi el ab sz ot ob oc x1 x2), rfl, Eq.symm ((if_neg c_1).trans ((if_pos c_2).trans ((if_pos c_3).trans (rfl)))), ht⟩) (fun q h => by cases h) dX2_stepsBetween_58
      · refine lv_aload_n hx hb dX2_stepsBetween_43 rfl (lv_at hl 0 rfl) ?_
        refine lv_iload_n hx hb dX2_stepsBetween_44 rfl (lv_at hl 1 rfl) ?_
        refine lv_iload_n hx hb dX2_stepsBetween_45 rfl (lv_at hl 2 rfl) ?_
        refine mb_callSi (W.runV (As := [.int x1, .int x2]) (rest := []) ⟨hx, hb, hml, hown, hts⟩ (c_X2_stepsByUnboxing l dC dI cyI cyZ cyJ tK tL tG ad h2 h1 a0 a1 a2 a3 b0 b1 so fi el ab sz ot ob oc x1 x2 g1 g2 ge) (cwV 2 hts gX2_stepsBetween_X2_stepsByUnboxing rfl rfl rfl (by decide +kernel) ⟨Nat.le_of_ble_eq_true rfl, Nat.le_of_ble_eq_true rfl⟩) (mb_preGV hG hK hP (ci := 4) (q0 := 0) rfl rfl) rfl rfl hl.1 rfl (lv_room (Nat.le_of_ble_eq_true rfl)) dX2_stepsBetween_46 ⟨Nat.zero_le _, Nat.zero_le _⟩) ?_
        refine lv_goto (tgt := 58) hx hb dX2_stepsBetween_49 (by decide) ?_
        exact W.iret (v := (f_X2_stepsByUnboxing so fi el ab sz ot ob oc x1 x2)) hx hb hr (fun t ht hW => ⟨(f_X2_stepsByUnboxing so fi el ab sz ot ob oc x1 x2), rfl, Eq.symm ((if_neg c_1).trans ((if_pos c_2).trans ((if_neg c_3).trans (rfl)))), ht⟩) (fun q h => by cases h) dX2_stepsBetween_58
    · refine lv_iload_n hx hb dX2_stepsBetween_14 rfl (lv_at hl 2 rfl) ?_
      refine mb_callSi (W.runS (As := [.int x2]) (rest := []) ⟨hx, hb, hml, hown, hts⟩ (c_X2_isPrimitive l x2) (va_cwS 1 hts gX2_stepsBetween_X2_isPrimitive rfl rfl rfl (by decide +kernel) ⟨Nat.le_of_ble_eq_true rfl, Nat.le_of_ble_eq_true rfl⟩) mb_preT rfl rfl hl.1 rfl (lv_room (Nat.le_of_ble_eq_true rfl)) dX2_stepsBetween_15 ⟨Nat.zero_le _, Nat.zero_le _⟩) ?_
      refine lv_if_eq (tgt := 29) hx hb dX2_stepsBetween_18 (by decide) (fun c_4 => ?_) (fun c_4 => ?_)
      · refine lv_aload_n hx hb dX2_stepsBetween_29 rfl (lv_at hl 0 rfl) ?_
        refine lv_iload_n hx hb dX2_stepsBetween_30 rfl (lv_at hl 1 rfl) ?_
        refine lv_iload_n hx hb dX2_stepsBetween_31 rfl (lv_at hl 2 rfl) ?_
        refine mb_callSi (W.runV (As := [.int x1, .int x2]) (rest := []) ⟨hx, hb, hml, hown, hts⟩ (c_X2_stepsByBoxing l dC dI cyI cyZ cyJ tK tL tG ad h2 h1 a0 a1 a2 a3 b0 b1 so fi el ab sz ot ob oc x1 x2 g1 g2) (cwV 2 hts gX2_stepsBetween_X2_stepsByBoxing rfl rfl rfl (by decide +kernel) ⟨Nat.le_of_ble_eq_true rfl, Nat.le_of_ble_eq_true rfl⟩) (mb_preGV hG hK hP (ci := 4) (q0 := 0) rfl rfl) rfl rfl hl.1 rfl (lv_room (Nat.le_of_ble_eq_true rfl)) dX2_stepsBetween_32 ⟨Nat.zero_le _, Nat.zero_le _⟩) ?_
        exact W.iret (v := (f_X2_stepsByBoxing so fi el ab sz ot ob oc x1 x2)) hx hb hr (fun t ht hW => ⟨(f_X2_stepsByBoxing so fi el ab sz ot ob oc x1 x2), rfl, Eq.symm ((if_neg c_1).trans ((if_neg c_2).trans ((if_pos c_4).trans (rfl)))), ht⟩) (fun q h => by cases h) dX2_stepsBetween_35
      · refine lv_iload_n hx hb dX2_stepsBetween_21 rfl (lv_at hl 1 rfl) ?_
        refine lv_iload_n hx hb dX2_stepsBetween_22 rfl (lv_at hl 2 rfl) ?_
        refine mb_callSi (W.runS (As := [.int x1, .int x2]) (rest := []) ⟨hx, hb, hml, hown, hts⟩ (c_X2_stepBetweenPrimitives l x1 x2) (va_cwS 2 hts gX2_stepsBetween_X2_stepBetweenPrimitives rfl rfl rfl (by decide +kernel) ⟨Nat.le_of_ble_eq_true rfl, Nat.le_of_ble_eq_true rfl⟩) mb_preT rfl rfl hl.1 rfl (lv_room (Nat.le_of_ble_eq_true rfl)) dX2_stepsBetween_23 ⟨Nat.zero_le _, Nat.zero_le _⟩) ?_
        refine lv_goto (tgt := 35) hx hb dX2_stepsBetween_26 (by decide) ?_
        exact W.iret (v := (f_X2_stepBetweenPrimitives x1 x2)) hx hb hr (fun t ht hW => ⟨(f_X2_stepBetweenPrimitives x1 x2), rfl, Eq.symm ((if_neg c_1).trans ((if_neg c_2).trans ((if_neg c_4).trans (rfl)))), ht⟩) (fun q h => by cases h) dX2_stepsBetween_35
  · refine lv_iconst (v := (1 : Int32)) hx hb dX2_stepsBetween_5 (by decide) ?_
    exact W.iret (v := (1 : Int32)) hx hb hr (fun t ht hW => ⟨(1 : Int32), rfl, Eq.symm ((if_pos c_1).trans (rfl)), ht⟩) (fun q h => by cases h) dX2_stepsBetween_6
def f_X2_allowedKind_z_32 (so : Nat → Int32) (fi : Nat → Int32) (el : Nat → Int32) (ab : Nat → Int64) (sz : Int32) (ot : Nat → Int32) (ob : Nat → Int64) (oc : Int32) (x1 : Int32) (x2 : Int32) (x3 : Int32) (z_32 : Int32) : Int32 := if (((st_K x3.toNatClampNeg) >>> (z_32 &&& 31)) &&& (1 : Int32)) = (1 : Int32) then z_32
  else (0 : Int32)
def f_X2_allowedKind_z_29 (so : Nat → Int32) (fi : Nat → Int32) (el : Nat → Int32) (ab : Nat → Int64) (sz : Int32) (ot : Nat → Int32) (ob : Nat → Int64) (oc : Int32) (x1 : Int32) (x2 : Int32) (x3 : Int32) (z_29 : Int32) : Int32 := if (((st_K x3.toNatClampNeg) >>> (z_29 &&& 31)) &&& (1 : Int32)) = (1 : Int32) then z_29
  else (0 : Int32)
def f_X2_allowedKind_z_24 (so : Nat → Int32) (fi : Nat → Int32) (el : Nat → Int32) (ab : Nat → Int64) (sz : Int32) (ot : Nat → Int32) (ob : Nat → Int64) (oc : Int32) (x1 : Int32) (x2 : Int32) (x3 : Int32) (z_24 : Int32) : Int32 := if (((st_K x3.toNatClampNeg) >>> (z_24 &&& 31)) &&& (1 : Int32)) = (1 : Int32) then z_24
  else (0 : Int32)
def f_X2_allowedKind_z_21 (so : Nat → Int32) (fi : Nat → Int32) (el : Nat → Int32) (ab : Nat → Int64) (sz : Int32) (ot : Nat → Int32) (ob : Nat → Int64) (oc : Int32) (x1 : Int32) (x2 : Int32) (x3 : Int32) (z_21 : Int32) : Int32 := if (((st_K x3.toNatClampNeg) >>> (z_21 &&& 31)) &&& (1 : Int32)) = (1 : Int32) then z_21
  else (0 : Int32)
def f_X2_allowedKind_z_15 (so : Nat → Int32) (fi : Nat → Int32) (el : Nat → Int32) (ab : Nat → Int64) (sz : Int32) (ot : Nat → Int32) (ob : Nat → Int64) (oc : Int32) (x1 : Int32) (x2 : Int32) (x3 : Int32) (z_15 : Int32) : Int32 := if (((st_K x3.toNatClampNeg) >>> (z_15 &&& 31)) &&& (1 : Int32)) = (1 : Int32) then z_15
  else (0 : Int32)
def f_X2_allowedKind_z_12 (so : Nat → Int32) (fi : Nat → Int32) (el : Nat → Int32) (ab : Nat → Int64) (sz : Int32) (ot : Nat → Int32) (ob : Nat → Int64) (oc : Int32) (x1 : Int32) (x2 : Int32) (x3 : Int32) (z_12 : Int32) : Int32 := if (((st_K x3.toNatClampNeg) >>> (z_12 &&& 31)) &&& (1 : Int32)) = (1 : Int32) then z_12
  else (0 : Int32)
def f_X2_allowedKind_z_7 (so : Nat → Int32) (fi : Nat → Int32) (el : Nat → Int32) (ab : Nat → Int64) (sz : Int32) (ot : Nat → Int32) (ob : Nat → Int64) (oc : Int32) (x1 : Int32) (x2 : Int32) (x3 : Int32) (z_7 : Int32) : Int32 := if (((st_K x3.toNatClampNeg) >>> (z_7 &&& 31)) &&& (1 : Int32)) = (1 : Int32) then z_7
  else (0 : Int32)
def f_X2_allowedKind_z_4 (so : Nat → Int32) (fi : Nat → Int32) (el : Nat → Int32) (ab : Nat → Int64) (sz : Int32) (ot : Nat → Int32) (ob : Nat → Int64) (oc : Int32) (x1 : Int32) (x2 : Int32) (x3 : Int32) (z_4 : Int32) : Int32 := if (((st_K x3.toNatClampNeg) >>> (z_4 &&& 31)) &&& (1 : Int32)) = (1 : Int32) then z_4
  else (0 : Int32)
def f_X2_allowedKind (so : Nat → Int32) (fi : Nat → Int32) (el : Nat → Int32) (ab : Nat → Int64) (sz : Int32) (ot : Nat → Int32) (ob : Nat → Int64) (oc : Int32) (x1 : Int32) (x2 : Int32) (x3 : Int32) : Int32 := if x3 = (4 : Int32) then (if x2 = (21 : Int32) then (if x3 = (5 : Int32) then (if (f_X2_isNumber x2) = 0 then (0 : Int32)
        else if x3 = (4 : Int32) then (if x1 = (21 : Int32) then f_X2_allowedKind_z_32 so fi el ab sz ot ob oc x1 x2 x3 (f_X2_stepsBetween so fi el ab sz ot ob oc x1 x2)
          else if (((st_K x3.toNatClampNeg) >>> ((12 : Int32) &&& 31)) &&& (1 : Int32)) = (1 : Int32) then (12 : Int32)
          else (0 : Int32))
        else f_X2_allowedKind_z_29 so fi el ab sz ot ob oc x1 x2 x3 (f_X2_stepsBetween so fi el ab sz ot ob oc x1 x2))
      else if x3 = (4 : Int32) then (if x1 = (21 : Int32) then f_X2_allowedKind_z_24 so fi el ab sz ot ob oc x1 x2 x3 (f_X2_stepsBetween so fi el ab sz ot ob oc x1 x2)
        else if (((st_K x3.toNatClampNeg) >>> ((12 : Int32) &&& 31)) &&& (1 : Int32)) = (1 : Int32) then (12 : Int32)
        else (0 : Int32))
      else f_X2_allowedKind_z_21 so fi el ab sz ot ob oc x1 x2 x3 (f_X2_stepsBetween so fi el ab sz ot ob oc x1 x2))
    else (0 : Int32))
  else if x3 = (5 : Int32) then (if (f_X2_isNumber x2) = 0 then (0 : Int32)
    else if x3 = (4 : Int32) then (if x1 = (21 : Int32) then f_X2_allowedKind_z_15 so fi el ab sz ot ob oc x1 x2 x3 (f_X2_stepsBetween so fi el ab sz ot ob oc x1 x2)
      else if (((st_K x3.toNatClampNeg) >>> ((12 : Int32) &&& 31)) &&& (1 : Int32)) = (1 : Int32) then (12 : Int32)
      else (0 : Int32))
    else f_X2_allowedKind_z_12 so fi el ab sz ot ob oc x1 x2 x3 (f_X2_stepsBetween so fi el ab sz ot ob oc x1 x2))
  else if x3 = (4 : Int32) then (if x1 = (21 : Int32) then f_X2_allowedKind_z_7 so fi el ab sz ot ob oc x1 x2 x3 (f_X2_stepsBetween so fi el ab sz ot ob oc x1 x2)
    else if (((st_K x3.toNatClampNeg) >>> ((12 : Int32) &&& 31)) &&& (1 : Int32)) = (1 : Int32) then (12 : Int32)
    else (0 : Int32))
  else f_X2_allowedKind_z_4 so fi el ab sz ot ob oc x1 x2 x3 (f_X2_stepsBetween so fi el ab sz ot ob oc x1 x2)
set_option maxHeartbeats 4000000 in
set_option maxRecDepth 100000 in
theorem c_X2_allowedKind (l : Launch) (dC : Nat → ClassId) (dI : Nat → Nat → Nat) (cyI cyZ cyJ : ClassId) (tK tL tG : Nat) (ad : Nat → Nat) (h2 h1 a0 a1 a2 a3 b0 b1 : Nat) (so : Nat → Int32) (fi : Nat → Int32) (el : Nat → Int32) (ab : Nat → Int64) (sz : Int32) (ot : Nat → Int32) (ob : Nat → Int64) (oc : Int32) (x1 : Int32) (x2 : Int32) (x3 : Int32) (g1 : vp_in x1 40) (g2 : vp_in x2 40) (g3 : vp_in x3 6) (ge : mb_EL so el) : Met l yX2_allowedKind wsX2_allowedKind ({ frames := 5, cells := 0, slots := 0, locals := 113 }) (va_Pc [.ref h2, .int x1, .int x2, .int x3] (mb_RG tK tL tG ad (dC, dI) (mb_tys cyI cyZ cyJ) [(h2, .inr (4, [.ref h1, .ref b0, .ref b1, .int oc])), (h1, .inr (3, [.ref a0, .ref a1, .ref a2, .ref a3, .int sz])), (a0, .inl (cyI, 40, .inl so)), (a1, .inl (cyZ, 40, .inl fi)), (a2, .inl (cyI, 40, .inl el)), (a3, .inl (cyJ, 40, .inr (.inl ab))), (b0, .inl (cyI, 60, .inl ot)), (b1, .inl (cyJ, 60, .inr (.inl ob)))])) (vp_Si (fun r => r = f_X2_allowedKind so fi el ab sz ot ob oc x1 x2 x3)) 0 0 (fun _ => False) := by
  refine Met.ofW (cc := cX2_allowedKind) (maxL := 5) (ret := (some .int)) (by decide) rfl ?_
  intro p e s m args below meth c s₁ B hml hv
  obtain ⟨rfl, hG, hP, hK⟩ := hv
  have hx := B.exec
  have hb := B.bytes
  have hr := B.returns
  have hts := atoms_spec (ws := wsX2_allowedKind) B.pre
  have hown : s.vm.findClass RX2 = some m.cls := findClass_of_methodNamed B.named
  have hlocks := B.notSynchronized
  have hP : va_P (dC, dI) vwCl [(h2, .inr (4, [.ref h1, .ref b0, .ref b1, .int oc])), (h1, .inr (3, [.ref a0, .ref a1, .ref a2, .ref a3, .int sz])), (a0, .inl (cyI, 40, .inl so)), (a1, .inl (cyZ, 40, .inl fi)), (a2, .inl (cyI, 40, .inl el)), (a3, .inl (cyJ, 40, .inr (.inl ab))), (b0, .inl (cyI, 60, .inl ot)), (b1, .inl (cyJ, 60, .inr (.inl ob)))] s.heap := hP
  have hP0 : va_P (dC, dI) vwCl [] s.heap := fun k q h => by simp at h
  have hf_141 := hts (.fieldLink RX2 141 "ConversionTables" "ALLOWED_KINDS" "[I") (by decide +kernel)
  have hl := lv_entry ([.ref h2, .int x1, .int x2, .int x3]) (n := 5) (Nat.le_of_ble_eq_true rfl)
  rw [lg_entry_eq]
  generalize (lg_sl ([.ref h2, .int x1, .int x2, .int x3]) ++ List.replicate (5 - (lg_sl ([.ref h2, .int x1, .int x2, .int x3])).length) Slot.unset).toArray = ls at hl ⊢
  have hl : lv_has ls 5 [(0, .ref h2), (1, .int x1), (2, .int x2), (3, .int x3)] := hl
  refine lv_iload_n hx hb dX2_allowedKind_0 rfl (lv_at hl 3 rfl) ?_
  refine lv_iconst (v := (4 : Int32)) hx hb dX2_allowedKind_1 (by decide) ?_
  refine lv_icmp_ne (tgt := 11) hx hb dX2_allowedKind_2 (by decide) (fun c_1 => ?_) (fun c_1 => ?_)
  · refine lv_iload_n hx hb dX2_allowedKind_11 rfl (lv_at hl 3 rfl) ?_
    refine lv_iconst (v := (5 : Int32)) hx hb dX2_allowedKind_12 (by decide) ?_
    refine lv_icmp_ne (tgt := 25) hx hb dX2_allowedKind_13 (by decide) (fun c_2 => ?_) (fun c_2 => ?_)
    · refine lv_iload_n hx hb dX2_allowedKind_25 rfl (lv_at hl 3 rfl) ?_
      refine lv_iconst (v := (4 : Int32)) hx hb dX2_allowedKind_26 (by decide) ?_
      refine lv_icmp_ne (tgt := 41) hx hb dX2_allowedKind_27 (by decide) (fun c_3 => ?_) (fun c_3 => ?_)
      · refine lv_aload_n hx hb dX2_allowedKind_41 rfl (lv_at hl 0 rfl) ?_
        refine lv_iload_n hx hb dX2_allowedKind_42 rfl (lv_at hl 1 rfl) ?_
        refine lv_iload_n hx hb dX2_allowedKind_43 rfl (lv_at hl 2 rfl) ?_
        refine mb_callSi (W.runV (As := [.int x1, .int x2]) (rest := []) ⟨hx, hb, hml, hown, hts⟩ (c_X2_stepsBetween l dC dI cyI cyZ cyJ tK tL tG ad h2 h1 a0 a1 a2 a3 b0 b1 so fi el ab sz ot ob oc x1 x2 g1 g2 ge) (cwV 2 hts gX2_allowedKind_X2_stepsBetween rfl rfl rfl (by decide +kernel) ⟨Nat.le_of_ble_eq_true rfl, Nat.le_of_ble_eq_true rfl⟩) (mb_preGV hG hK hP (ci := 4) (q0 := 0) rfl rfl) rfl rfl hl.1 rfl (lv_room (Nat.le_of_ble_eq_true rfl)) dX2_allowedKind_44 ⟨Nat.zero_le _, Nat.zero_le _⟩) ?_
        refine lv_topi (fun z_4 ez_4 => ?_)
        refine lv_istore (lv' := [(4, .int z_4), (0, .ref h2), (1, .int x1), (2, .int x2), (3, .int x3)]) hx hb dX2_allowedKind_47 hl (by decide) rfl (fun ls hl => ?_)
        refine va_gets hx hb hG.1 va_S.rf hown hf_141 (fun _ h9 => h9) dX2_allowedKind_49 ?_
        refine lv_iload_n hx hb dX2_allowedKind_52 rfl (lv_at hl 4 rfl) ?_
        refine va_ti hx hb hG.2.1 va_S.rf g3 rfl dX2_allowedKind_53 ?_
        refine lv_iload hx hb dX2_allowedKind_54 (lv_at hl 0 rfl) ?_
        refine lv_ishr hx hb dX2_allowedKind_56 ?_
        refine lv_iconst (v := (1 : Int32)) hx hb dX2_allowedKind_57 (by decide) ?_
        refine lv_iand hx hb dX2_allowedKind_58 ?_
        refine lv_iconst (v := (1 : Int32)) hx hb dX2_allowedKind_59 (by decide) ?_
        refine lv_icmp_ne (tgt := 68) hx hb dX2_allowedKind_60 (by decide) (fun c_5 => ?_) (fun c_5 => ?_)
        · refine lv_iconst (v := (0 : Int32)) hx hb dX2_allowedKind_68 (by decide) ?_
          exact W.iret (v := (0 : Int32)) hx hb hr (fun t ht hW => ⟨(0 : Int32), rfl, Eq.symm ((if_neg c_1).trans ((if_neg c_2).trans ((if_neg c_3).trans ((congrArg (f_X2_allowedKind_z_4 so fi el ab sz ot ob oc x1 x2 x3) (Eq.symm ez_4)).trans ((if_neg c_5).trans (rfl)))))), ht⟩) (fun q h => by cases h) dX2_allowedKind_69
        · refine lv_iload hx hb dX2_allowedKind_63 (lv_at hl 0 rfl) ?_
          refine lv_goto (tgt := 69) hx hb dX2_allowedKind_65 (by decide) ?_
          exact W.iret (v := z_4) hx hb hr (fun t ht hW => ⟨z_4, rfl, Eq.symm ((if_neg c_1).trans ((if_neg c_2).trans ((if_neg c_3).trans ((congrArg (f_X2_allowedKind_z_4 so fi el ab sz ot ob oc x1 x2 x3) (Eq.symm ez_4)).trans ((if_pos c_5).trans (rfl)))))), ht⟩) (fun q h => by cases h) dX2_allowedKind_69
      · refine lv_iload_n hx hb dX2_allowedKind_30 rfl (lv_at hl 1 rfl) ?_
        refine lv_bipush (v := (21 : Int32)) hx hb dX2_allowedKind_31 (by decide) ?_
        refine lv_icmp_eq (tgt := 41) hx hb dX2_allowedKind_33 (by decide) (fun c_6 => ?_) (fun c_6 => ?_)
        · refine lv_aload_n hx hb dX2_allowedKind_41 rfl (lv_at hl 0 rfl) ?_
          refine lv_iload_n hx hb dX2_allowedKind_42 rfl (lv_at hl 1 rfl) ?_
          refine lv_iload_n hx hb dX2_allowedKind_43 rfl (lv_at hl 2 rfl) ?_
          refine mb_callSi (W.runV (As := [.int x1, .int x2]) (rest := []) ⟨hx, hb, hml, hown, hts⟩ (c_X2_stepsBetween l dC dI cyI cyZ cyJ tK tL tG ad h2 h1 a0 a1 a2 a3 b0 b1 so fi el ab sz ot ob oc x1 x2 g1 g2 ge) (cwV 2 hts gX2_allowedKind_X2_stepsBetween rfl rfl rfl (by decide +kernel) ⟨Nat.le_of_ble_eq_true rfl, Nat.le_of_ble_eq_true rfl⟩) (mb_preGV hG hK hP (ci := 4) (q0 := 0) rfl rfl) rfl rfl hl.1 rfl (lv_room (Nat.le_of_ble_eq_true rfl)) dX2_allowedKind_44 ⟨Nat.zero_le _, Nat.zero_le _⟩) ?_
          refine lv_topi (fun z_7 ez_7 => ?_)
          refine lv_istore (lv' := [(4, .int z_7), (0, .ref h2), (1, .int x1), (2, .int x2), (3, .int x3)]) hx hb dX2_allowedKind_47 hl (by decide) rfl (fun ls hl => ?_)
          refine va_gets hx hb hG.1 va_S.rf hown hf_141 (fun _ h9 => h9) dX2_allowedKind_49 ?_
          refine lv_iload_n hx hb dX2_allowedKind_52 rfl (lv_at hl 4 rfl) ?_
          refine va_ti hx hb hG.2.1 va_S.rf g3 rfl dX2_allowedKind_53 ?_
          refine lv_iload hx hb dX2_allowedKind_54 (lv_at hl 0 rfl) ?_
          refine lv_ishr hx hb dX2_allowedKind_56 ?_
          refine lv_iconst (v := (1 : Int32)) hx hb dX2_allowedKind_57 (by decide) ?_
          refine lv_iand hx hb dX2_allowedKind_58 ?_
          refine lv_iconst (v := (1 : Int32)) hx hb dX2_allowedKind_59 (by decide) ?_
          refine lv_icmp_ne (tgt := 68) hx hb dX2_allowedKind_60 (by decide) (fun c_8 => ?_) (fun c_8 => ?_)
          · refine lv_iconst (v := (0 : Int32)) hx hb dX2_allowedKind_68 (by decide) ?_
            exact W.iret (v := (0 : Int32)) hx hb hr (fun t ht hW => ⟨(0 : Int32), rfl, Eq.symm ((if_neg c_1).trans ((if_neg c_2).trans ((if_pos c_3).trans ((if_pos c_6).trans ((congrArg (f_X2_allowedKind_z_7 so fi el ab sz ot ob oc x1 x2 x3) (Eq.symm ez_7)).trans ((if_neg c_8).trans (rfl))))))), ht⟩) (fun q h => by cases h) dX2_allowedKind_69
          · refine lv_iload hx hb dX2_allowedKind_63 (lv_at hl 0 rfl) ?_
            refine lv_goto (tgt := 69) hx hb dX2_allowedKind_65 (by decide) ?_
            exact W.iret (v := z_7) hx hb hr (fun t ht hW => ⟨z_7, rfl, Eq.symm ((if_neg c_1).trans ((if_neg c_2).trans ((if_pos c_3).trans ((if_pos c_6).trans ((congrArg (f_X2_allowedKind_z_7 so fi el ab sz ot ob oc x1 x2 x3) (Eq.symm ez_7)).trans ((if_pos c_8).trans (rfl))))))), ht⟩) (fun q h => by cases h) dX2_allowedKind_69
        · refine lv_bipush (v := (12 : Int32)) hx hb dX2_allowedKind_36 (by decide) ?_
          refine lv_goto (tgt := 47) hx hb dX2_allowedKind_38 (by decide) ?_
          refine lv_istore (lv' := [(4, .int (12 : Int32)), (0, .ref h2), (1, .int x1), (2, .int x2), (3, .int x3)]) hx hb dX2_allowedKind_47 hl (by decide) rfl (fun ls hl => ?_)
          refine va_gets hx hb hG.1 va_S.rf hown hf_141 (fun _ h9 => h9) dX2_allowedKind_49 ?_
          refine lv_iload_n hx hb dX2_allowedKind_52 rfl (lv_at hl 4 rfl) ?_
          refine va_ti hx hb hG.2.1 va_S.rf g3 rfl dX2_allowedKind_53 ?_
          refine lv_iload hx hb dX2_allowedKind_54 (lv_at hl 0 rfl) ?_
          refine lv_ishr hx hb dX2_allowedKind_56 ?_
          refine lv_iconst (v := (1 : Int32)) hx hb dX2_allowedKind_57 (by decide) ?_
          refine lv_iand hx hb dX2_allowedKind_58 ?_
          refine lv_iconst (v := (1 : Int32)) hx hb dX2_allowedKind_59 (by decide) ?_
          refine lv_icmp_ne (tgt := 68) hx hb dX2_allowedKind_60 (by decide) (fun c_9 => ?_) (fun c_9 => ?_)
          · refine lv_iconst (v := (0 : Int32)) hx hb dX2_allowedKind_68 (by decide) ?_
            exact W.iret (v := (0 : Int32)) hx hb hr (fun t ht hW => ⟨(0 : Int32), rfl, Eq.symm ((if_neg c_1).trans ((if_neg c_2).trans ((if_pos c_3).trans ((if_neg c_6).trans ((if_neg c_9).trans (rfl)))))), ht⟩) (fun q h => by cases h) dX2_allowedKind_69
          · refine lv_iload hx hb dX2_allowedKind_63 (lv_at hl 0 rfl) ?_
            refine lv_goto (tgt := 69) hx hb dX2_allowedKind_65 (by decide) ?_
            exact W.iret (v := (12 : Int32)) hx hb hr (fun t ht hW => ⟨(12 : Int32), rfl, Eq.symm ((if_neg c_1).trans ((if_neg c_2).trans ((if_pos c_3).trans ((if_neg c_6).trans ((if_pos c_9).trans (rfl)))))), ht⟩) (fun q h => by cases h) dX2_allowedKind_69
    · refine lv_iload_n hx hb dX2_allowedKind_16 rfl (lv_at hl 2 rfl) ?_
      refine mb_callSi (W.runS (As := [.int x2]) (rest := []) ⟨hx, hb, hml, hown, hts⟩ (c_X2_isNumber l x2) (va_cwS 1 hts gX2_allowedKind_X2_isNumber rfl rfl rfl (by decide +kernel) ⟨Nat.le_of_ble_eq_true rfl, Nat.le_of_ble_eq_true rfl⟩) mb_preT rfl rfl hl.1 rfl (lv_room (Nat.le_of_ble_eq_true rfl)) dX2_allowedKind_17 ⟨Nat.zero_le _, Nat.zero_le _⟩) ?_
      refine lv_if_ne (tgt := 25) hx hb dX2_allowedKind_20 (by decide) (fun c_10 => ?_) (fun c_10 => ?_)
      · refine lv_iload_n hx hb dX2_allowedKind_25 rfl (lv_at hl 3 rfl) ?_
        refine lv_iconst (v := (4 : Int32)) hx hb dX2_allowedKind_26 (by decide) ?_
        refine lv_icmp_ne (tgt := 41) hx hb dX2_allowedKind_27 (by decide) (fun c_11 => ?_) (fun c_11 => ?_)
        · refine lv_aload_n hx hb dX2_allowedKind_41 rfl (lv_at hl 0 rfl) ?_
          refine lv_iload_n hx hb dX2_allowedKind_42 rfl (lv_at hl 1 rfl) ?_
          refine lv_iload_n hx hb dX2_allowedKind_43 rfl (lv_at hl 2 rfl) ?_
          refine mb_callSi (W.runV (As := [.int x1, .int x2]) (rest := []) ⟨hx, hb, hml, hown, hts⟩ (c_X2_stepsBetween l dC dI cyI cyZ cyJ tK tL tG ad h2 h1 a0 a1 a2 a3 b0 b1 so fi el ab sz ot ob oc x1 x2 g1 g2 ge) (cwV 2 hts gX2_allowedKind_X2_stepsBetween rfl rfl rfl (by decide +kernel) ⟨Nat.le_of_ble_eq_true rfl, Nat.le_of_ble_eq_true rfl⟩) (mb_preGV hG hK hP (ci := 4) (q0 := 0) rfl rfl) rfl rfl hl.1 rfl (lv_room (Nat.le_of_ble_eq_true rfl)) dX2_allowedKind_44 ⟨Nat.zero_le _, Nat.zero_le _⟩) ?_
          refine lv_topi (fun z_12 ez_12 => ?_)
          refine lv_istore (lv' := [(4, .int z_12), (0, .ref h2), (1, .int x1), (2, .int x2), (3, .int x3)]) hx hb dX2_allowedKind_47 hl (by decide) rfl (fun ls hl => ?_)
          refine va_gets hx hb hG.1 va_S.rf hown hf_141 (fun _ h9 => h9) dX2_allowedKind_49 ?_
          refine lv_iload_n hx hb dX2_allowedKind_52 rfl (lv_at hl 4 rfl) ?_
          refine va_ti hx hb hG.2.1 va_S.rf g3 rfl dX2_allowedKind_53 ?_
          refine lv_iload hx hb dX2_allowedKind_54 (lv_at hl 0 rfl) ?_
          refine lv_ishr hx hb dX2_allowedKind_56 ?_
          refine lv_iconst (v := (1 : Int32)) hx hb dX2_allowedKind_57 (by decide) ?_
          refine lv_iand hx hb dX2_allowedKind_58 ?_
          refine lv_iconst (v := (1 : Int32)) hx hb dX2_allowedKind_59 (by decide) ?_
          refine lv_icmp_ne (tgt := 68) hx hb dX2_allowedKind_60 (by decide) (fun c_13 => ?_) (fun c_13 => ?_)
          · refine lv_iconst (v := (0 : Int32)) hx hb dX2_allowedKind_68 (by decide) ?_
            exact W.iret (v := (0 : Int32)) hx hb hr (fun t ht hW => ⟨(0 : Int32), rfl, Eq.symm ((if_neg c_1).trans ((if_pos c_2).trans ((if_neg c_10).trans ((if_neg c_11).trans ((congrArg (f_X2_allowedKind_z_12 so fi el ab sz ot ob oc x1 x2 x3) (Eq.symm ez_12)).trans ((if_neg c_13).trans (rfl))))))), ht⟩) (fun q h => by cases h) dX2_allowedKind_69
          · refine lv_iload hx hb dX2_allowedKind_63 (lv_at hl 0 rfl) ?_
            refine lv_goto (tgt := 69) hx hb dX2_allowedKind_65 (by decide) ?_
            exact W.iret (v := z_12) hx hb hr (fun t ht hW => ⟨z_12, rfl, Eq.symm ((if_neg c_1).trans ((if_pos c_2).trans ((if_neg c_10).trans ((if_neg c_11).trans ((congrArg (f_X2_allowedKind_z_12 so fi el ab sz ot ob oc x1 x2 x3) (Eq.symm ez_12)).trans ((if_pos c_13).trans (rfl))))))), ht⟩) (fun q h => by cases h) dX2_allowedKind_69
        · refine lv_iload_n hx hb dX2_allowedKind_30 rfl (lv_at hl 1 rfl) ?_
          refine lv_bipush (v := (21 : Int32)) hx hb dX2_allowedKind_31 (by decide) ?_
          refine lv_icmp_eq (tgt := 41) hx hb dX2_allowedKind_33 (by decide) (fun c_14 => ?_) (fun c_14 => ?_)
          · refine lv_aload_n hx hb dX2_allowedKind_41 rfl (lv_at hl 0 rfl) ?_
            refine lv_iload_n hx hb dX2_allowedKind_42 rfl (lv_at hl 1 rfl) ?_
            refine lv_iload_n hx hb dX2_allowedKind_43 rfl (lv_at hl 2 rfl) ?_
            refine mb_callSi (W.runV (As := [.int x1, .int x2]) (rest := []) ⟨hx, hb, hml, hown, hts⟩ (c_X2_stepsBetween l dC dI cyI cyZ cyJ tK tL tG ad h2 h1 a0 a1 a2 a3 b0 b1 so fi el ab sz ot ob oc x1 x2 g1 g2 ge) (cwV 2 hts gX2_allowedKind_X2_stepsBetween rfl rfl rfl (by decide +kernel) ⟨Nat.le_of_ble_eq_true rfl, Nat.le_of_ble_eq_true rfl⟩) (mb_preGV hG hK hP (ci := 4) (q0 := 0) rfl rfl) rfl rfl hl.1 rfl (lv_room (Nat.le_of_ble_eq_true rfl)) dX2_allowedKind_44 ⟨Nat.zero_le _, Nat.zero_le _⟩) ?_
            refine lv_topi (fun z_15 ez_15 => ?_)
            refine lv_istore (lv' := [(4, .int z_15), (0, .ref h2), (1, .int x1), (2, .int x2), (3, .int x3)]) hx hb dX2_allowedKind_47 hl (by decide) rfl (fun ls hl => ?_)
            refine va_gets hx hb hG.1 va_S.rf hown hf_141 (fun _ h9 => h9) dX2_allowedKind_49 ?_
            refine lv_iload_n hx hb dX2_allowedKind_52 rfl (lv_at hl 4 rfl) ?_
            refine va_ti hx hb hG.2.1 va_S.rf g3 rfl dX2_allowedKind_53 ?_
            refine lv_iload hx hb dX2_allowedKind_54 (lv_at hl 0 rfl) ?_
            refine lv_ishr hx hb dX2_allowedKind_56 ?_
            refine lv_iconst (v := (1 : Int32)) hx hb dX2_allowedKind_57 (by decide) ?_
            refine lv_iand hx hb dX2_allowedKind_58 ?_
            refine lv_iconst (v := (1 : Int32)) hx hb dX2_allowedKind_59 (by decide) ?_
            refine lv_icmp_ne (tgt := 68) hx hb dX2_allowedKind_60 (by decide) (fun c_16 => ?_) (fun c_16 => ?_)
            · refine lv_iconst (v := (0 : Int32)) hx hb dX2_allowedKind_68 (by decide) ?_
              exact W.iret (v := (0 : Int32)) hx hb hr (fun t ht hW => ⟨(0 : Int32), rfl, Eq.symm ((if_neg c_1).trans ((if_pos c_2).trans ((if_neg c_10).trans ((if_pos c_11).trans ((if_pos c_14).trans ((congrArg (f_X2_allowedKind_z_15 so fi el ab sz ot ob oc x1 x2 x3) (Eq.symm ez_15)).trans ((if_neg c_16).trans (rfl)))))))), ht⟩) (fun q h => by cases h) dX2_allowedKind_69
            · refine lv_iload hx hb dX2_allowedKind_63 (lv_at hl 0 rfl) ?_
              refine lv_goto (tgt := 69) hx hb dX2_allowedKind_65 (by decide) ?_
              exact W.iret (v := z_15) hx hb hr (fun t ht hW => ⟨z_15, rfl, Eq.symm ((if_neg c_1).trans ((if_pos c_2).trans ((if_neg c_10).trans ((if_pos c_11).trans ((if_pos c_14).trans ((congrArg (f_X2_allowedKind_z_15 so fi el ab sz ot ob oc x1 x2 x3) (Eq.symm ez_15)).trans ((if_pos c_16).trans (rfl)))))))), ht⟩) (fun q h => by cases h) dX2_allowedKind_69
          · refine lv_bipush (v := (12 : Int32)) hx hb dX2_allowedKind_36 (by decide) ?_
            refine lv_goto (tgt := 47) hx hb dX2_allowedKind_38 (by decide) ?_
            refine lv_istore (lv' := [(4, .int (12 : Int32)), (0, .ref h2), (1, .int x1), (2, .int x2), (3, .int x3)]) hx hb dX2_allowedKind_47 hl (by decide) rfl (fun ls hl => ?_)
            refine va_gets hx hb hG.1 va_S.rf hown hf_141 (fun _ h9 => h9) dX2_allowedKind_49 ?_
            refine lv_iload_n hx hb dX2_allowedKind_52 rfl (lv_at hl 4 rfl) ?_
            refine va_ti hx hb hG.2.1 va_S.rf g3 rfl dX2_allowedKind_53 ?_
            refine lv_iload hx hb dX2_allowedKind_54 (lv_at hl 0 rfl) ?_
            refine lv_ishr hx hb dX2_allowedKind_56 ?_
            refine lv_iconst (v := (1 : Int32)) hx hb dX2_allowedKind_57 (by decide) ?_
            refine lv_iand hx hb dX2_allowedKind_58 ?_
            refine lv_iconst (v := (1 : Int32)) hx hb dX2_allowedKind_59 (by decide) ?_
            refine lv_icmp_ne (tgt := 68) hx hb dX2_allowedKind_60 (by decide) (fun c_17 => ?_) (fun c_17 => ?_)
            · refine lv_iconst (v := (0 : Int32)) hx hb dX2_allowedKind_68 (by decide) ?_
              exact W.iret (v := (0 : Int32)) hx hb hr (fun t ht hW => ⟨(0 : Int32), rfl, Eq.symm ((if_neg c_1).trans ((if_pos c_2).trans ((if_neg c_10).trans ((if_pos c_11).trans ((if_neg c_14).trans ((if_neg c_17).trans (rfl))))))), ht⟩) (fun q h => by cases h) dX2_allowedKind_69
            · refine lv_iload hx hb dX2_allowedKind_63 (lv_at hl 0 rfl) ?_
              refine lv_goto (tgt := 69) hx hb dX2_allowedKind_65 (by decide) ?_
              exact W.iret (v := (12 : Int32)) hx hb hr (fun t ht hW => ⟨(12 : Int32), rfl, Eq.symm ((if_neg c_1).trans ((if_pos c_2).trans ((if_neg c_10).trans ((if_pos c_11).trans ((if_neg c_14).trans ((if_pos c_17).trans (rfl))))))), ht⟩) (fun q h => by cases h) dX2_allowedKind_69
      · refine lv_iconst (v := (0 : Int32)) hx hb dX2_allowedKind_23 (by decide) ?_
        exact W.iret (v := (0 : Int32)) hx hb hr (fun t ht hW => ⟨(0 : Int32), rfl, Eq.symm ((if_neg c_1).trans ((if_pos c_2).trans ((if_pos c_10).trans (rfl)))), ht⟩) (fun q h => by cases h) dX2_allowedKind_24
  · refine lv_iload_n hx hb dX2_allowedKind_5 rfl (lv_at hl 2 rfl) ?_
    refine lv_bipush (v := (21 : Int32)) hx hb dX2_allowedKind_6 (by decide) ?_
    refine lv_icmp_ne (tgt := 23) hx hb dX2_allowedKind_8 (by decide) (fun c_18 => ?_) (fun c_18 => ?_)
    · refine lv_iconst (v := (0 : Int32)) hx hb dX2_allowedKind_23 (by decide) ?_
      exact W.iret (v := (0 : Int32)) hx hb hr (fun t ht hW => ⟨(0 : Int32), rfl, Eq.symm ((if_pos c_1).trans ((if_neg c_18).trans (rfl))), ht⟩) (fun q h => by cases h) dX2_allowedKind_24
    · refine lv_iload_n hx hb dX2_allowedKind_11 rfl (lv_at hl 3 rfl) ?_
      refine lv_iconst (v := (5 : Int32)) hx hb dX2_allowedKind_12 (by decide) ?_
      refine lv_icmp_ne (tgt := 25) hx hb dX2_allowedKind_13 (by decide) (fun c_19 => ?_) (fun c_19 => ?_)
      · refine lv_iload_n hx hb dX2_allowedKind_25 rfl (lv_at hl 3 rfl) ?_
        refine lv_iconst (v := (4 : Int32)) hx hb dX2_allowedKind_26 (by decide) ?_
        refine lv_icmp_ne (tgt := 41) hx hb dX2_allowedKind_27 (by decide) (fun c_20 => ?_) (fun c_20 => ?_)
        · refine lv_aload_n hx hb dX2_allowedKind_41 rfl (lv_at hl 0 rfl) ?_
          refine lv_iload_n hx hb dX2_allowedKind_42 rfl (lv_at hl 1 rfl) ?_
          refine lv_iload_n hx hb dX2_allowedKind_43 rfl (lv_at hl 2 rfl) ?_
          refine mb_callSi (W.runV (As := [.int x1, .int x2]) (rest := []) ⟨hx, hb, hml, hown, hts⟩ (c_X2_stepsBetween l dC dI cyI cyZ cyJ tK tL tG ad h2 h1 a0 a1 a2 a3 b0 b1 so fi el ab sz ot ob oc x1 x2 g1 g2 ge) (cwV 2 hts gX2_allowedKind_X2_stepsBetween rfl rfl rfl (by decide +kernel) ⟨Nat.le_of_ble_eq_true rfl, Nat.le_of_ble_eq_true rfl⟩) (mb_preGV hG hK hP (ci := 4) (q0 := 0) rfl rfl) rfl rfl hl.1 rfl (lv_room (Nat.le_of_ble_eq_true rfl)) dX2_allowedKind_44 ⟨Nat.zero_le _, Nat.zero_le _⟩) ?_
          refine lv_topi (fun z_21 ez_21 => ?_)
          refine lv_istore (lv' := [(4, .int z_21), (0, .ref h2), (1, .int x1), (2, .int x2), (3, .int x3)]) hx hb dX2_allowedKind_47 hl (by decide) rfl (fun ls hl => ?_)
          refine va_gets hx hb hG.1 va_S.rf hown hf_141 (fun _ h9 => h9) dX2_allowedKind_49 ?_
          refine lv_iload_n hx hb dX2_allowedKind_52 rfl (lv_at hl 4 rfl) ?_
          refine va_ti hx hb hG.2.1 va_S.rf g3 rfl dX2_allowedKind_53 ?_
          refine lv_iload hx hb dX2_allowedKind_54 (lv_at hl 0 rfl) ?_
          refine lv_ishr hx hb dX2_allowedKind_56 ?_
          refine lv_iconst (v := (1 : Int32)) hx hb dX2_allowedKind_57 (by decide) ?_
          refine lv_iand hx hb dX2_allowedKind_58 ?_
          refine lv_iconst (v := (1 : Int32)) hx hb dX2_allowedKind_59 (by decide) ?_
          refine lv_icmp_ne (tgt := 68) hx hb dX2_allowedKind_60 (by decide) (fun c_22 => ?_) (fun c_22 => ?_)
          · refine lv_iconst (v := (0 : Int32)) hx hb dX2_allowedKind_68 (by decide) ?_
            exact W.iret (v := (0 : Int32)) hx hb hr (fun t ht hW => ⟨(0 : Int32), rfl, Eq.symm ((if_pos c_1).trans ((if_pos c_18).trans ((if_neg c_19).trans ((if_neg c_20).trans ((congrArg (f_X2_allowedKind_z_21 so fi el ab sz ot ob oc x1 x2 x3) (Eq.symm ez_21)).trans ((if_neg c_22).trans (rfl))))))), ht⟩) (fun q h => by cases h) dX2_allowedKind_69
          · refine lv_iload hx hb dX2_allowedKind_63 (lv_at hl 0 rfl) ?_
            refine lv_goto (tgt := 69) hx hb dX2_allowedKind_65 (by decide) ?_
            exact W.iret (v := z_21) hx hb hr (fun t ht hW => ⟨z_21, rfl, Eq.symm ((if_pos c_1).trans ((if_pos c_18).trans ((if_neg c_19).trans ((if_neg c_20).trans ((congrArg (f_X2_allowedKind_z_21 so fi el ab sz ot ob oc x1 x2 x3) (Eq.symm ez_21)).trans ((if_pos c_22).trans (rfl))))))), ht⟩) (fun q h => by cases h) dX2_allowedKind_69
        · refine lv_iload_n hx hb dX2_allowedKind_30 rfl (lv_at hl 1 rfl) ?_
          refine lv_bipush (v := (21 : Int32)) hx hb dX2_allowedKind_31 (by decide) ?_
          refine lv_icmp_eq (tgt := 41) hx hb dX2_allowedKind_33 (by decide) (fun c_23 => ?_) (fun c_23 => ?_)
          · refine lv_aload_n hx hb dX2_allowedKind_41 rfl (lv_at hl 0 rfl) ?_
            refine lv_iload_n hx hb dX2_allowedKind_42 rfl (lv_at hl 1 rfl) ?_
            refine lv_iload_n hx hb dX2_allowedKind_43 rfl (lv_at hl 2 rfl) ?_
            refine mb_callSi (W.runV (As := [.int x1, .int x2]) (rest := []) ⟨hx, hb, hml, hown, hts⟩ (c_X2_stepsBetween l dC dI cyI cyZ cyJ tK tL tG ad h2 h1 a0 a1 a2 a3 b0 b1 so fi el ab sz ot ob oc x1 x2 g1 g2 ge) (cwV 2 hts gX2_allowedKind_X2_stepsBetween rfl rfl rfl (by decide +kernel) ⟨Nat.le_of_ble_eq_true rfl, Nat.le_of_ble_eq_true rfl⟩) (mb_preGV hG hK hP (ci := 4) (q0 := 0) rfl rfl) rfl rfl hl.1 rfl (lv_room (Nat.le_of_ble_eq_true rfl)) dX2_allowedKind_44 ⟨Nat.zero_le _, Nat.zero_le _⟩) ?_
            refine lv_topi (fun z_24 ez_24 => ?_)
            refine lv_istore (lv' := [(4, .int z_24), (0, .ref h2), (1, .int x1), (2, .int x2), (3, .int x3)]) hx hb dX2_allowedKind_47 hl (by decide) rfl (fun ls hl => ?_)
            refine va_gets hx hb hG.1 va_S.rf hown hf_141 (fun _ h9 => h9) dX2_allowedKind_49 ?_
            refine lv_iload_n hx hb dX2_allowedKind_52 rfl (lv_at hl 4 rfl) ?_
            refine va_ti hx hb hG.2.1 va_S.rf g3 rfl dX2_allowedKind_53 ?_
            refine lv_iload hx hb dX2_allowedKind_54 (lv_at hl 0 rfl) ?_
            refine lv_ishr hx hb dX2_allowedKind_56 ?_
            refine lv_iconst (v := (1 : Int32)) hx hb dX2_allowedKind_57 (by decide) ?_
            refine lv_iand hx hb dX2_allowedKind_58 ?_
            refine lv_iconst (v := (1 : Int32)) hx hb dX2_allowedKind_59 (by decide) ?_
            refine lv_icmp_ne (tgt := 68) hx hb dX2_allowedKind_60 (by decide) (fun c_25 => ?_) (fun c_25 => ?_)
            · refine lv_iconst (v := (0 : Int32)) hx hb dX2_allowedKind_68 (by decide) ?_
              exact W.iret (v := (0 : Int32)) hx hb hr (fun t ht hW => ⟨(0 : Int32), rfl, Eq.symm ((if_pos c_1).trans ((if_pos c_18).trans ((if_neg c_19).trans ((if_pos c_20).trans ((if_pos c_23).trans ((congrArg (f_X2_allowedKind_z_24 so fi el ab sz ot ob oc x1 x2 x3) (Eq.symm ez_24)).trans ((if_neg c_25).trans (rfl)))))))), ht⟩) (fun q h => by cases h) dX2_allowedKind_69
            · refine lv_iload hx hb dX2_allowedKind_63 (lv_at hl 0 rfl) ?_
              refine lv_goto (tgt := 69) hx hb dX2_allowedKind_65 (by decide) ?_
              exact W.iret (v := z_24) hx hb hr (fun t ht hW => ⟨z_24, rfl, Eq.symm ((if_pos c_1).trans ((if_pos c_18).trans ((if_neg c_19).trans ((if_pos c_20).trans ((if_pos c_23).trans ((congrArg (f_X2_allowedKind_z_24 so fi el ab sz ot ob oc x1 x2 x3) (Eq.symm ez_24)).trans ((if_pos c_25).trans (rfl)))))))), ht⟩) (fun q h => by cases h) dX2_allowedKind_69
          · refine lv_bipush (v := (12 : Int32)) hx hb dX2_allowedKind_36 (by decide) ?_
            refine lv_goto (tgt := 47) hx hb dX2_allowedKind_38 (by decide) ?_
            refine lv_istore (lv' := [(4, .int (12 : Int32)), (0, .ref h2), (1, .int x1), (2, .int x2), (3, .int x3)]) hx hb dX2_allowedKind_47 hl (by decide) rfl (fun ls hl => ?_)
            refine va_gets hx hb hG.1 va_S.rf hown hf_141 (fun _ h9 => h9) dX2_allowedKind_49 ?_
            refine lv_iload_n hx hb dX2_allowedKind_52 rfl (lv_at hl 4 rfl) ?_
            refine va_ti hx hb hG.2.1 va_S.rf g3 rfl dX2_allowedKind_53 ?_
            refine lv_iload hx hb dX2_allowedKind_54 (lv_at hl 0 rfl) ?_
            refine lv_ishr hx hb dX2_allowedKind_56 ?_
            refine lv_iconst (v := (1 : Int32)) hx hb dX2_allowedKind_57 (by decide) ?_
            refine lv_iand hx hb dX2_allowedKind_58 ?_
            refine lv_iconst (v := (1 : Int32)) hx hb dX2_allowedKind_59 (by decide) ?_
            refine lv_icmp_ne (tgt := 68) hx hb dX2_allowedKind_60 (by decide) (fun c_26 => ?_) (fun c_26 => ?_)
            · refine lv_iconst (v := (0 : Int32)) hx hb dX2_allowedKind_68 (by decide) ?_
              exact W.iret (v := (0 : Int32)) hx hb hr (fun t ht hW => ⟨(0 : Int32), rfl, Eq.symm ((if_pos c_1).trans ((if_pos c_18).trans ((if_neg c_19).trans ((if_pos c_20).trans ((if_neg c_23).trans ((if_neg c_26).trans (rfl))))))), ht⟩) (fun q h => by cases h) dX2_allowedKind_69
            · refine lv_iload hx hb dX2_allowedKind_63 (lv_at hl 0 rfl) ?_
              refine lv_goto (tgt := 69) hx hb dX2_allowedKind_65 (by decide) ?_
              exact W.iret (v := (12 : Int32)) hx hb hr (fun t ht hW => ⟨(12 : Int32), rfl, Eq.symm ((if_pos c_1).trans ((if_pos c_18).trans ((if_neg c_19).trans ((if_pos c_20).trans ((if_neg c_23).trans ((if_pos c_26).trans (rfl))))))), ht⟩) (fun q h => by cases h) dX2_allowedKind_69
      · refine lv_iload_n hx hb dX2_allowedKind_16 rfl (lv_at hl 2 rfl) ?_
        refine mb_callSi (W.runS (As := [.int x2]) (rest := []) ⟨hx, hb, hml, hown, hts⟩ (c_X2_isNumber l x2) (va_cwS 1 hts gX2_allowedKind_X2_isNumber rfl rfl rfl (by decide +kernel) ⟨Nat.le_of_ble_eq_true rfl, Nat.le_of_ble_eq_true rfl⟩) mb_preT rfl rfl hl.1 rfl (lv_room (Nat.le_of_ble_eq_true rfl)) dX2_allowedKind_17 ⟨Nat.zero_le _, Nat.zero_le _⟩) ?_
        refine lv_if_ne (tgt := 25) hx hb dX2_allowedKind_20 (by decide) (fun c_27 => ?_) (fun c_27 => ?_)
        · refine lv_iload_n hx hb dX2_allowedKind_25 rfl (lv_at hl 3 rfl) ?_
          refine lv_iconst (v := (4 : Int32)) hx hb dX2_allowedKind_26 (by decide) ?_
          refine lv_icmp_ne (tgt := 41) hx hb dX2_allowedKind_27 (by decide) (fun c_28 => ?_) (fun c_28 => ?_)
          · refine lv_aload_n hx hb dX2_allowedKind_41 rfl (lv_at hl 0 rfl) ?_
            refine lv_iload_n hx hb dX2_allowedKind_42 rfl (lv_at hl 1 rfl) ?_
            refine lv_iload_n hx hb dX2_allowedKind_43 rfl (lv_at hl 2 rfl) ?_
            refine mb_callSi (W.runV (As := [.int x1, .int x2]) (rest := []) ⟨hx, hb, hml, hown, hts⟩ (c_X2_stepsBetween l dC dI cyI cyZ cyJ tK tL tG ad h2 h1 a0 a1 a2 a3 b0 b1 so fi el ab sz ot ob oc x1 x2 g1 g2 ge) (cwV 2 hts gX2_allowedKind_X2_stepsBetween rfl rfl rfl (by decide +kernel) ⟨Nat.le_of_ble_eq_true rfl, Nat.le_of_ble_eq_true rfl⟩) (mb_preGV hG hK hP (ci := 4) (q0 := 0) rfl rfl) rfl rfl hl.1 rfl (lv_room (Nat.le_of_ble_eq_true rfl)) dX2_allowedKind_44 ⟨Nat.zero_le _, Nat.zero_le _⟩) ?_
            refine lv_topi (fun z_29 ez_29 => ?_)
            refine lv_istore (lv' := [(4, .int z_29), (0, .ref h2), (1, .int x1), (2, .int x2), (3, .int x3)]) hx hb dX2_allowedKind_47 hl (by decide) rfl (fun ls hl => ?_)
            refine va_gets hx hb hG.1 va_S.rf hown hf_141 (fun _ h9 => h9) dX2_allowedKind_49 ?_
            refine lv_iload_n hx hb dX2_allowedKind_52 rfl (lv_at hl 4 rfl) ?_
            refine va_ti hx hb hG.2.1 va_S.rf g3 rfl dX2_allowedKind_53 ?_
            refine lv_iload hx hb dX2_allowedKind_54 (lv_at hl 0 rfl) ?_
            refine lv_ishr hx hb dX2_allowedKind_56 ?_
            refine lv_iconst (v := (1 : Int32)) hx hb dX2_allowedKind_57 (by decide) ?_
            refine lv_iand hx hb dX2_allowedKind_58 ?_
            refine lv_iconst (v := (1 : Int32)) hx hb dX2_allowedKind_59 (by decide) ?_
            refine lv_icmp_ne (tgt := 68) hx hb dX2_allowedKind_60 (by decide) (fun c_30 => ?_) (fun c_30 => ?_)
            · refine lv_iconst (v := (0 : Int32)) hx hb dX2_allowedKind_68 (by decide) ?_
              exact W.iret (v := (0 : Int32)) hx hb hr (fun t ht hW => ⟨(0 : Int32), rfl, Eq.symm ((if_pos c_1).trans ((if_pos c_18).trans ((if_pos c_19).trans ((if_neg c_27).trans ((if_neg c_28).trans ((congrArg (f_X2_allowedKind_z_29 so fi el ab sz ot ob oc x1 x2 x3) (Eq.symm ez_29)).trans ((if_neg c_30).trans (rfl)))))))), ht⟩) (fun q h => by cases h) dX2_allowedKind_69
            · refine lv_iload hx hb dX2_allowedKind_63 (lv_at hl 0 rfl) ?_
              refine lv_goto (tgt := 69) hx hb dX2_allowedKind_65 (by decide) ?_
              exact W.iret (v := z_29) hx hb hr (fun t ht hW => ⟨z_29, rfl, Eq.symm ((if_pos c_1).trans ((if_pos c_18).trans ((if_pos c_19).trans ((if_neg c_27).trans ((if_neg c_28).trans ((congrArg (f_X2_allowedKind_z_29 so fi el ab sz ot ob oc x1 x2 x3) (Eq.symm ez_29)).trans ((if_pos c_30).trans (rfl)))))))), ht⟩) (fun q h => by cases h) dX2_allowedKind_69
          · refine lv_iload_n hx hb dX2_allowedKind_30 rfl (lv_at hl 1 rfl) ?_
            refine lv_bipush (v := (21 : Int32)) hx hb dX2_allowedKind_31 (by decide) ?_
            refine lv_icmp_eq (tgt := 41) hx hb dX2_allowedKind_33 (by decide) (fun c_31 => ?_) (fun c_31 => ?_)
            · refine lv_aload_n hx hb dX2_allowedKind_41 rfl (lv_at hl 0 rfl) ?_
              refine lv_iload_n hx hb dX2_allowedKind_42 rfl (lv_at hl 1 rfl) ?_
              refine lv_iload_n hx hb dX2_allowedKind_43 rfl (lv_at hl 2 rfl) ?_
              refine mb_callSi (W.runV (As := [.int x1, .int x2]) (rest := []) ⟨hx, hb, hml, hown, hts⟩ (c_X2_stepsBetween l dC dI cyI cyZ cyJ tK tL tG ad h2 h1 a0 a1 a2 a3 b0 b1 so fi el ab sz ot ob oc x1 x2 g1 g2 ge) (cwV 2 hts gX2_allowedKind_X2_stepsBetween rfl rfl rfl (by decide +kernel) ⟨Nat.le_of_ble_eq_true rfl, Nat.le_of_ble_eq_true rfl⟩) (mb_preGV hG hK hP (ci := 4) (q0 := 0) rfl rfl) rfl rfl hl.1 rfl (lv_room (Nat.le_of_ble_eq_true rfl)) dX2_allowedKind_44 ⟨Nat.zero_le _, Nat.zero_le _⟩) ?_
              refine lv_topi (fun z_32 ez_32 => ?_)
              refine lv_istore (lv' := [(4, .int z_32), (0, .ref h2), (1, .int x1), (2, .int x2), (3, .int x3)]) hx hb dX2_allowedKind_47 hl (by decide) rfl (fun ls hl => ?_)
              refine va_gets hx hb hG.1 va_S.rf hown hf_141 (fun _ h9 => h9) dX2_allowedKind_49 ?_
              refine lv_iload_n hx hb dX2_allowedKind_52 rfl (lv_at hl 4 rfl) ?_
              refine va_ti hx hb hG.2.1 va_S.rf g3 rfl dX2_allowedKind_53 ?_
              refine lv_iload hx hb dX2_allowedKind_54 (lv_at hl 0 rfl) ?_
              refine lv_ishr hx hb dX2_allowedKind_56 ?_
              refine lv_iconst (v := (1 : Int32)) hx hb dX2_allowedKind_57 (by decide) ?_
              refine lv_iand hx hb dX2_allowedKind_58 ?_
              refine lv_iconst (v := (1 : Int32)) hx hb dX2_allowedKind_59 (by decide) ?_
              refine lv_icmp_ne (tgt := 68) hx hb dX2_allowedKind_60 (by decide) (fun c_33 => ?_) (fun c_33 => ?_)
              · refine lv_iconst (v := (0 : Int32)) hx hb dX2_allowedKind_68 (by decide) ?_
                exact W.iret (v := (0 : Int32)) hx hb hr (fun t ht hW => ⟨(0 : Int32), rfl, Eq.symm ((if_pos c_1).trans ((if_pos c_18).trans ((if_pos c_19).trans ((if_neg c_27).trans ((if_pos c_28).trans ((if_pos c_31).trans ((congrArg (f_X2_allowedKind_z_32 so fi el ab sz ot ob oc x1 x2 x3) (Eq.symm ez_32)).trans ((if_neg c_33).trans (rfl))))))))), ht⟩) (fun q h => by cases h) dX2_allowedKind_69
              · refine lv_iload hx hb dX2_allowedKind_63 (lv_at hl 0 rfl) ?_
                refine lv_goto (tgt := 69) hx hb dX2_allowedKind_65 (by decide) ?_
                exact W.iret (v := z_32) hx hb hr (fun t ht hW => ⟨z_32, rfl, Eq.symm ((if_pos c_1).trans ((if_pos c_18).trans ((if_pos c_19).trans ((if_neg c_27).trans ((if_pos c_28).trans ((if_pos c_31).trans ((congrArg (f_X2_allowedKind_z_32 so fi el ab sz ot ob oc x1 x2 x3) (Eq.symm ez_32)).trans ((if_pos c_33).trans (rfl))))))))), ht⟩) (fun q h => by cases h) dX2_allowedKind_69
            · refine lv_bipush (v := (12 : Int32)) hx hb dX2_allowedKind_36 (by decide) ?_
              refine lv_goto (tgt := 47) hx hb dX2_allowedKind_38 (by decide) ?_
              refine lv_istore (lv' := [(4, .int (12 : Int32)), (0, .ref h2), (1, .int x1), (2, .int x2), (3, .int x3)]) hx hb dX2_allowedKind_47 hl (by decide) rfl (fun ls hl => ?_)
              refine va_gets hx hb hG.1 va_S.rf hown hf_141 (fun _ h9 => h9) dX2_allowedKind_49 ?_
              refine lv_iload_n hx hb dX2_allowedKind_52 rfl (lv_at hl 4 rfl) ?_
              refine va_ti hx hb hG.2.1 va_S.rf g3 rfl dX2_allowedKind_53 ?_
              refine lv_iload hx hb dX2_allowedKind_54 (lv_at hl 0 rfl) ?_
              refine lv_ishr hx hb dX2_allowedKind_56 ?_
              refine lv_iconst (v := (1 : Int32)) hx hb dX2_allowedKind_57 (by decide) ?_
              refine lv_iand hx hb dX2_allowedKind_58 ?_
              refine lv_iconst (v := (1 : Int32)) hx hb dX2_allowedKind_59 (by decide) ?_
              refine lv_icmp_ne (tgt := 68) hx hb dX2_allowedKind_60 (by decide) (fun c_34 => ?_) (fun c_34 => ?_)
              · refine lv_iconst (v := (0 : Int32)) hx hb dX2_allowedKind_68 (by decide) ?_
                exact W.iret (v := (0 : Int32)) hx hb hr (fun t ht hW => ⟨(0 : Int32), rfl, Eq.symm ((if_pos c_1).trans ((if_pos c_18).trans ((if_pos c_19).trans ((if_neg c_27).trans ((if_pos c_28).trans ((if_neg c_31).trans ((if_neg c_34).trans (rfl)))))))), ht⟩) (fun q h => by cases h) dX2_allowedKind_69
              · refine lv_iload hx hb dX2_allowedKind_63 (lv_at hl 0 rfl) ?_
                refine lv_goto (tgt := 69) hx hb dX2_allowedKind_65 (by decide) ?_
                exact W.iret (v := (12 : Int32)) hx hb hr (fun t ht hW => ⟨(12 : Int32), rfl, Eq.symm ((if_pos c_1).trans ((if_pos c_18).trans ((if_pos c_19).trans ((if_neg c_27).trans ((if_pos c_28).trans ((if_neg c_31).trans ((if_pos c_34).trans (rfl)))))))), ht⟩) (fun q h => by cases h) dX2_allowedKind_69
        · refine lv_iconst (v := (0 : Int32)) hx hb dX2_allowedKind_23 (by decide) ?_
          exact W.iret (v := (0 : Int32)) hx hb hr (fun t ht hW => ⟨(0 : Int32), rfl, Eq.symm ((if_pos c_1).trans ((if_pos c_18).trans ((if_pos c_19).trans ((if_pos c_27).trans (rfl))))), ht⟩) (fun q h => by cases h) dX2_allowedKind_24

theorem mb_in4 : vp_in (4 : Int32) 8 := vp_in_iff.mpr ⟨by decide, by decide⟩
theorem mb_inN {x : Int32} (h1 : ¬ x < 1) (h2 : ¬ (3 : Int32) < x) : vp_in x 8 := by
  rw [vp_in_iff]
  rw [Int32.lt_iff_toInt_lt] at h1 h2
  have e1 : (1 : Int32).toInt = 1 := rfl
  have e3 : (3 : Int32).toInt = 3 := rfl
  rw [e1] at h1
  rw [e3] at h2
  omega
def f_X2_areBitsOf (x1 : Int64) (x2 : Int32) : Int32 := if x1 < (st_L x2.toNatClampNeg) then (0 : Int32)
  else if (st_G x2.toNatClampNeg) < x1 then (0 : Int32)
  else (1 : Int32)
theorem nb_X2_areBitsOf (x1 : Int64) (x2 : Int32) : mb_B (f_X2_areBitsOf x1 x2) := by
  unfold f_X2_areBitsOf
  exact mb_B_ite (rfl) (mb_B_ite (rfl) (rfl))
set_option maxHeartbeats 4000000 in
set_option maxRecDepth 100000 in
theorem c_X2_areBitsOf (l : Launch) (dC : Nat → ClassId) (dI : Nat → Nat → Nat) (cyI cyZ cyJ : ClassId) (tK tL tG : Nat) (ad : Nat → Nat) (x1 : Int64) (x2 : Int32) (g1 : vp_in x2 8) : Met l yX2_areBitsOf wsX2_areBitsOf ({ frames := 0, cells := 0, slots := 0, locals := 0 }) (va_Pc [.long x1, .int x2] (mb_RG tK tL tG ad (dC, dI) (mb_tys cyI cyZ cyJ) [])) (vp_Si (fun r => r = f_X2_areBitsOf x1 x2)) 0 0 (fun _ => False) := by
  refine Met.ofW (cc := cX2_areBitsOf) (maxL := 3) (ret := (some .boolean)) (by decide) rfl ?_
  intro p e s m args below meth c s₁ B hml hv
  obtain ⟨rfl, hG, hP, hK⟩ := hv
  have hx := B.exec
  have hb := B.bytes
  have hr := B.returns
  have hts := atoms_spec (ws := wsX2_areBitsOf) B.pre
  have hown : s.vm.findClass RX2 = some m.cls := findClass_of_methodNamed B.named
  have hlocks := B.notSynchronized
  have hP0 : va_P (dC, dI) vwCl [] s.heap := fun k q h => by simp at h
  have hf_162 := hts (.fieldLink RX2 162 "ConversionTables" "LEAST_BITS" "[J") (by decide +kernel)
  have hf_165 := hts (.fieldLink RX2 165 "ConversionTables" "GREATEST_BITS" "[J") (by decide +kernel)
  have hl := lv_entry ([.long x1, .int x2]) (n := 3) (Nat.le_of_ble_eq_true rfl)
  rw [lg_entry_eq]
  generalize (lg_sl ([.long x1, .int x2]) ++ List.replicate (3 - (lg_sl ([.long x1, .int x2])).length) Slot.unset).toArray = ls at hl ⊢
  have hl : lv_has ls 3 [(0, .long x1), (2, .int x2)] := hl
  refine lv_lload_n hx hb dX2_areBitsOf_0 rfl (lv_at hl 0 rfl) ?_
  refine va_gets hx hb hG.2.2.1 va_S.rf hown hf_162 (fun _ h9 => h9) dX2_areBitsOf_1 ?_
  refine lv_iload_n hx hb dX2_areBitsOf_4 rfl (lv_at hl 1 rfl) ?_
  refine va_tl hx hb hG.2.2.2.1 va_S.rf g1 rfl dX2_areBitsOf_5 ?_
  refine mb_lc_lt (tgt := 24) hx hb dX2_areBitsOf_6 dX2_areBitsOf_7 (by decide) (fun c_1 => ?_) (fun c_1 => ?_)
  · refine lv_iconst (v := (0 : Int32)) hx hb dX2_areBitsOf_24 (by decide) ?_
    exact W.zret (v := (0 : Int32)) hx hb hr rfl (fun t ht hW => ⟨(0 : Int32), rfl, Eq.symm ((if_pos c_1).trans (rfl)), ht⟩) (fun q h => by cases h) dX2_areBitsOf_25
  · refine lv_lload_n hx hb dX2_areBitsOf_10 rfl (lv_at hl 0 rfl) ?_
    refine va_gets hx hb hG.2.2.2.2.1 va_S.rf hown hf_165 (fun _ h9 => h9) dX2_areBitsOf_11 ?_
    refine lv_iload_n hx hb dX2_areBitsOf_14 rfl (lv_at hl 1 rfl) ?_
    refine va_tl hx hb hG.2.2.2.2.2.1 va_S.rf g1 rfl dX2_areBitsOf_15 ?_
    refine mb_lc_gt (tgt := 24) hx hb dX2_areBitsOf_16 dX2_areBitsOf_17 (by decide) (fun c_2 => ?_) (fun c_2 => ?_)
    · refine lv_iconst (v := (0 : Int32)) hx hb dX2_areBitsOf_24 (by decide) ?_
      exact W.zret (v := (0 : Int32)) hx hb hr rfl (fun t ht hW => ⟨(0 : Int32), rfl, Eq.symm ((if_neg c_1).trans ((if_pos c_2).trans (rfl))), ht⟩) (fun q h => by cases h) dX2_areBitsOf_25
    · refine lv_iconst (v := (1 : Int32)) hx hb dX2_areBitsOf_20 (by decide) ?_
      refine lv_goto (tgt := 25) hx hb dX2_areBitsOf_21 (by decide) ?_
      exact W.zret (v := (1 : Int32)) hx hb hr rfl (fun t ht hW => ⟨(1 : Int32), rfl, Eq.symm ((if_neg c_1).trans ((if_neg c_2).trans (rfl))), ht⟩) (fun q h => by cases h) dX2_areBitsOf_25
def f_X2_nearestInt (x1 : Int64) : Int64 := (if (if x1 < (st_G (4 : Int32).toNatClampNeg) then x1 else (st_G (4 : Int32).toNatClampNeg)) < (st_L (4 : Int32).toNatClampNeg) then (st_L (4 : Int32).toNatClampNeg) else (if x1 < (st_G (4 : Int32).toNatClampNeg) then x1 else (st_G (4 : Int32).toNatClampNeg)))
set_option maxHeartbeats 4000000 in
set_option maxRecDepth 100000 in
theorem c_X2_nearestInt (l : Launch) (dC : Nat → ClassId) (dI : Nat → Nat → Nat) (cyI cyZ cyJ : ClassId) (tK tL tG : Nat) (ad : Nat → Nat) (x1 : Int64) : Met l yX2_nearestInt wsX2_nearestInt ({ frames := 1, cells := 0, slots := 0, locals := 23 }) (va_Pc [.long x1] (mb_RG tK tL tG ad (dC, dI) (mb_tys cyI cyZ cyJ) [])) (vp_Sl (fun r => r = f_X2_nearestInt x1)) 0 0 (fun _ => False) := by
  refine Met.ofW (cc := cX2_nearestInt) (maxL := 2) (ret := (some .long)) (by decide) rfl ?_
  intro p e s m args below meth c s₁ B hml hv
  obtain ⟨rfl, hG, hP, hK⟩ := hv
  have hx := B.exec
  have hb := B.bytes
  have hr := B.returns
  have hts := atoms_spec (ws := wsX2_nearestInt) B.pre
  have hown : s.vm.findClass RX2 = some m.cls := findClass_of_methodNamed B.named
  have hlocks := B.notSynchronized
  have hP0 : va_P (dC, dI) vwCl [] s.heap := fun k q h => by simp at h
  have hf_162 := hts (.fieldLink RX2 162 "ConversionTables" "LEAST_BITS" "[J") (by decide +kernel)
  have hf_165 := hts (.fieldLink RX2 165 "ConversionTables" "GREATEST_BITS" "[J") (by decide +kernel)
  have hl := lv_entry ([.long x1]) (n := 2) (Nat.le_of_ble_eq_true rfl)
  rw [lg_entry_eq]
  generalize (lg_sl ([.long x1]) ++ List.replicate (2 - (lg_sl ([.long x1])).length) Slot.unset).toArray = ls at hl ⊢
  have hl : lv_has ls 2 [(0, .long x1)] := hl
  refine va_gets hx hb hG.2.2.1 va_S.rf hown hf_162 (fun _ h9 => h9) dX2_nearestInt_0 ?_
  refine lv_iconst (v := (4 : Int32)) hx hb dX2_nearestInt_3 (by decide) ?_
  refine va_tl hx hb hG.2.2.2.1 va_S.rf mb_in4 rfl dX2_nearestInt_4 ?_
  refine va_gets hx hb hG.2.2.2.2.1 va_S.rf hown hf_165 (fun _ h9 => h9) dX2_nearestInt_5 ?_
  refine lv_iconst (v := (4 : Int32)) hx hb dX2_nearestInt_8 (by decide) ?_
  refine va_tl hx hb hG.2.2.2.2.2.1 va_S.rf mb_in4 rfl dX2_nearestInt_9 ?_
  refine lv_lload_n hx hb dX2_nearestInt_10 rfl (lv_at hl 0 rfl) ?_
  refine va_mmin_long hx hb (by rw [hml]; exact hl.1.symm) hown (hts (.methodLink RX2 199 Lib.MathLoose.min_long.x) (by decide +kernel)) (hts (.static Lib.MathLoose.min_long.x) (by decide +kernel)) (hts (.initialized "java/lang/Math") (by decide +kernel)) (hts (.code Lib.MathLoose.min_long.x Lib.MathLoose.min_long.code 4 (some .long)) (by decide +kernel)) (Nat.le_of_ble_eq_true rfl) (Nat.le_of_ble_eq_true rfl) (Nat.le_of_ble_eq_true rfl) (Nat.le_of_ble_eq_true rfl) dX2_nearestInt_11 ?_
  refine va_mmax_long hx hb (by rw [hml]; exact hl.1.symm) hown (hts (.methodLink RX2 203 Lib.MathLoose.max_long.x) (by decide +kernel)) (hts (.static Lib.MathLoose.max_long.x) (by decide +kernel)) (hts (.initialized "java/lang/Math") (by decide +kernel)) (hts (.code Lib.MathLoose.max_long.x Lib.MathLoose.max_long.code 4 (some .long)) (by decide +kernel)) (Nat.le_of_ble_eq_true rfl) (Nat.le_of_ble_eq_true rfl) (Nat.le_of_ble_eq_true rfl) (Nat.le_of_ble_eq_true rfl) dX2_nearestInt_14 ?_
  exact W.lret (v := (if (if x1 < (st_G (4 : Int32).toNatClampNeg) then x1 else (st_G (4 : Int32).toNatClampNeg)) < (st_L (4 : Int32).toNatClampNeg) then (st_L (4 : Int32).toNatClampNeg) else (if x1 < (st_G (4 : Int32).toNatClampNeg) then x1 else (st_G (4 : Int32).toNatClampNeg)))) hx hb hr (fun t ht hW => ⟨(if (if x1 < (st_G (4 : Int32).toNatClampNeg) then x1 else (st_G (4 : Int32).toNatClampNeg)) < (st_L (4 : Int32).toNatClampNeg) then (st_L (4 : Int32).toNatClampNeg) else (if x1 < (st_G (4 : Int32).toNatClampNeg) then x1 else (st_G (4 : Int32).toNatClampNeg))), rfl, Eq.symm (rfl), ht⟩) (fun q h => by cases h) dX2_nearestInt_17
def f_X2_constantFits (x1 : Int64) (x2 : Int32) (x3 : Int32) : Int32 := if (4 : Int32) < x2 then (0 : Int32)
  else if (f_X2_withoutBox x3) < (1 : Int32) then (0 : Int32)
  else if (3 : Int32) < (f_X2_withoutBox x3) then (0 : Int32)
  else if (f_X2_areBitsOf x1 (f_X2_withoutBox x3)) = 0 then (0 : Int32)
  else (1 : Int32)
theorem nb_X2_constantFits (x1 : Int64) (x2 : Int32) (x3 : Int32) : mb_B (f_X2_constantFits x1 x2 x3) := by
  unfold f_X2_constantFits
  exact mb_B_ite (rfl) (mb_B_ite (rfl) (mb_B_ite (rfl) (mb_B_ite (rfl) (rfl))))
set_option maxHeartbeats 4000000 in
set_option maxRecDepth 100000 in
theorem c_X2_constantFits (l : Launch) (dC : Nat → ClassId) (dI : Nat → Nat → Nat) (cyI cyZ cyJ : ClassId) (tK tL tG : Nat) (ad : Nat → Nat) (x1 : Int64) (x2 : Int32) (x3 : Int32) : Met l yX2_constantFits wsX2_constantFits ({ frames := 2, cells := 0, slots := 0, locals := 40 }) (va_Pc [.long x1, .int x2, .int x3] (mb_RG tK tL tG ad (dC, dI) (mb_tys cyI cyZ cyJ) [])) (vp_Si (fun r => r = f_X2_constantFits x1 x2 x3)) 0 0 (fun _ => False) := by
  refine Met.ofW (cc := cX2_constantFits) (maxL := 5) (ret := (some .boolean)) (by decide) rfl ?_
  intro p e s m args below meth c s₁ B hml hv
  obtain ⟨rfl, hG, hP, hK⟩ := hv
  have hx := B.exec
  have hb := B.bytes
  have hr := B.returns
  have hts := atoms_spec (ws := wsX2_constantFits) B.pre
  have hown : s.vm.findClass RX2 = some m.cls := findClass_of_methodNamed B.named
  have hlocks := B.notSynchronized
  have hP0 : va_P (dC, dI) vwCl [] s.heap := fun k q h => by simp at h
  have hl := lv_entry ([.long x1, .int x2, .int x3]) (n := 5) (Nat.le_of_ble_eq_true rfl)
  rw [lg_entry_eq]
  generalize (lg_sl ([.long x1, .int x2, .int x3]) ++ List.replicate (5 - (lg_sl ([.long x1, .int x2, .int x3])).length) Slot.unset).toArray = ls at hl ⊢
  have hl : lv_has ls 5 [(0, .long x1), (2, .int x2), (3, .int x3)] := hl
  refine lv_iload_n hx hb dX2_constantFits_0 rfl (lv_at hl 2 rfl) ?_
  refine mb_callSi (W.runS (As := [.int x3]) (rest := []) ⟨hx, hb, hml, hown, hts⟩ (c_X2_withoutBox l x3) (va_cwS 1 hts gX2_constantFits_X2_withoutBox rfl rfl rfl (by decide +kernel) ⟨Nat.le_of_ble_eq_true rfl, Nat.le_of_ble_eq_true rfl⟩) mb_preT rfl rfl hl.1 rfl (lv_room (Nat.le_of_ble_eq_true rfl)) dX2_constantFits_1 ⟨Nat.zero_le _, Nat.zero_le _⟩) ?_
  refine lv_istore (lv' := [(4, .int (f_X2_withoutBox x3)), (0, .long x1), (2, .int x2), (3, .int x3)]) hx hb dX2_constantFits_4 hl (by decide) rfl (fun ls hl => ?_)
  refine lv_iload_n hx hb dX2_constantFits_6 rfl (lv_at hl 2 rfl) ?_
  refine lv_iconst (v := (4 : Int32)) hx hb dX2_constantFits_7 (by decide) ?_
  refine lv_icmp_gt (tgt := 36) hx hb dX2_constantFits_8 (by decide) (fun c_1 => ?_) (fun c_1 => ?_)
  · refine lv_iconst (v := (0 : Int32)) hx hb dX2_constantFits_36 (by decide) ?_
    exact W.zret (v := (0 : Int32)) hx hb hr rfl (fun t ht hW => ⟨(0 : Int32), rfl, Eq.symm ((if_pos c_1).trans (rfl)), ht⟩) (fun q h => by cases h) dX2_constantFits_37
  · refine lv_iload hx hb dX2_constantFits_11 (lv_at hl 0 rfl) ?_
    refine lv_iconst (v := (1 : Int32)) hx hb dX2_constantFits_13 (by decide) ?_
    refine lv_icmp_lt (tgt := 36) hx hb dX2_constantFits_14 (by decide) (fun c_2 => ?_) (fun c_2 => ?_)
    · refine lv_iconst (v := (0 : Int32)) hx hb dX2_constantFits_36 (by decide) ?_
      exact W.zret (v := (0 : Int32)) hx hb hr rfl (fun t ht hW => ⟨(0 : Int32), rfl, Eq.symm ((if_neg c_1).trans ((if_pos c_2).trans (rfl))), ht⟩) (fun q h => by cases h) dX2_constantFits_37
    · refine lv_iload hx hb dX2_constantFits_17 (lv_at hl 0 rfl) ?_
      refine lv_iconst (v := (3 : Int32)) hx hb dX2_constantFits_19 (by decide) ?_
      refine lv_icmp_gt (tgt := 36) hx hb dX2_constantFits_20 (by decide) (fun c_3 => ?_) (fun c_3 => ?_)
      · refine lv_iconst (v := (0 : Int32)) hx hb dX2_constantFits_36 (by decide) ?_
        exact W.zret (v := (0 : Int32)) hx hb hr rfl (fun t ht hW => ⟨(0 : Int32), rfl, Eq.symm ((if_neg c_1).trans ((if_neg c_2).trans ((if_pos c_3).trans (rfl)))), ht⟩) (fun q h => by cases h) dX2_constantFits_37
      · refine lv_lload_n hx hb dX2_constantFits_23 rfl (lv_at hl 1 rfl) ?_
        refine lv_iload hx hb dX2_constantFits_24 (lv_at hl 0 rfl) ?_
        refine mb_callSi (W.runS (As := [.long x1, .int (f_X2_withoutBox x3)]) (rest := []) ⟨hx, hb, hml, hown, hts⟩ (c_X2_areBitsOf l dC dI cyI cyZ cyJ tK tL tG ad x1 (f_X2_withoutBox x3) (mb_inN c_2 c_3)) (va_cwS 2 hts gX2_constantFits_X2_areBitsOf rfl rfl rfl (by decide +kernel) ⟨Nat.le_of_ble_eq_true rfl, Nat.le_of_ble_eq_true rfl⟩) (mb_preGS hG hK hP0) rfl rfl hl.1 rfl (lv_room (Nat.le_of_ble_eq_true rfl)) dX2_constantFits_26 ⟨Nat.zero_le _, Nat.zero_le _⟩) ?_
        refine lv_if_eq (tgt := 36) hx hb dX2_constantFits_29 (by decide) (fun c_4 => ?_) (fun c_4 => ?_)
        · refine lv_iconst (v := (0 : Int32)) hx hb dX2_constantFits_36 (by decide) ?_
          exact W.zret (v := (0 : Int32)) hx hb hr rfl (fun t ht hW => ⟨(0 : Int32), rfl, Eq.symm ((if_neg c_1).trans ((if_neg c_2).trans ((if_neg c_3).trans ((if_pos c_4).trans (rfl))))), ht⟩) (fun q h => by cases h) dX2_constantFits_37
        · refine lv_iconst (v := (1 : Int32)) hx hb dX2_constantFits_32 (by decide) ?_
          refine lv_goto (tgt := 37) hx hb dX2_constantFits_33 (by decide) ?_
          exact W.zret (v := (1 : Int32)) hx hb hr rfl (fun t ht hW => ⟨(1 : Int32), rfl, Eq.symm ((if_neg c_1).trans ((if_neg c_2).trans ((if_neg c_3).trans ((if_neg c_4).trans (rfl))))), ht⟩) (fun q h => by cases h) dX2_constantFits_37
def fx_X2_formatOf (x1 : Int32) : Nat := if x1 = (6 : Int32) then 0
  else 1
theorem lt_X2_formatOf (x1 : Int32) : fx_X2_formatOf x1 < 2 := by
  unfold fx_X2_formatOf
  split <;> decide
set_option maxHeartbeats 4000000 in
set_option maxRecDepth 100000 in
theorem c_X2_formatOf (l : Launch) (dC : Nat → ClassId) (dI : Nat → Nat → Nat) (cyI cyZ cyJ : ClassId) (tK tL tG : Nat) (ad : Nat → Nat) (x1 : Int32) : Met l yX2_formatOf wsX2_formatOf ({ frames := 0, cells := 0, slots := 0, locals := 0 }) (va_Pc [.int x1] (mb_RG tK tL tG ad (dC, dI) (mb_tys cyI cyZ cyJ) [])) (va_Se ad (fun r => r = some (fx_X2_formatOf x1))) 0 0 (fun _ => False) := by
  refine Met.ofW (cc := cX2_formatOf) (maxL := 1) (ret := (some (.object "ConversionTables$Format"))) (by decide) rfl ?_
  intro p e s m args below meth c s₁ B hml hv
  obtain ⟨rfl, hG, hP, hK⟩ := hv
  have hx := B.exec
  have hb := B.bytes
  have hr := B.returns
  have hts := atoms_spec (ws := wsX2_formatOf) B.pre
  have hown : s.vm.findClass RX2 = some m.cls := findClass_of_methodNamed B.named
  have hlocks := B.notSynchronized
  have hP0 : va_P (dC, dI) vwCl [] s.heap := fun k q h => by simp at h
  have hf_174 := hts (.fieldLink RX2 174 "ConversionTables$Format" "OF_DOUBLE" "LConversionTables$Format;") (by decide +kernel)
  have hf_168 := hts (.fieldLink RX2 168 "ConversionTables$Format" "OF_FLOAT" "LConversionTables$Format;") (by decide +kernel)
  have hl := lv_entry ([.int x1]) (n := 1) (Nat.le_of_ble_eq_true rfl)
  rw [lg_entry_eq]
  generalize (lg_sl ([.int x1]) ++ List.replicate (1 - (lg_sl ([.int x1])).length) Slot.unset).toArray = ls at hl ⊢
  have hl : lv_has ls 1 [(0, .int x1)] := hl
  refine lv_iload_n hx hb dX2_formatOf_0 rfl (lv_at hl 0 rfl) ?_
  refine lv_bipush (v := (6 : Int32)) hx hb dX2_formatOf_1 (by decide) ?_
  refine lv_icmp_ne (tgt := 12) hx hb dX2_formatOf_3 (by decide) (fun c_1 => ?_) (fun c_1 => ?_)
  · refine va_gets hx hb (hG.2.2.2.2.2.2.1.1 1 (by decide)).1 va_S.rf hown hf_174 (fun _ h9 => h9) dX2_formatOf_12 ?_
    exact W.aret (v := .ref (ad 1)) hx hb hr (Or.inl ⟨_, rfl⟩) (Or.inr ⟨_, rfl⟩) (fun t ht hW => ⟨some 1, rfl, congrArg some (Eq.symm ((if_neg c_1).trans (rfl))), ht⟩) (fun q h => by cases h) dX2_formatOf_15
  · refine va_gets hx hb (hG.2.2.2.2.2.2.1.1 0 (by decide)).1 va_S.rf hown hf_168 (fun _ h9 => h9) dX2_formatOf_6 ?_
    refine lv_goto (tgt := 15) hx hb dX2_formatOf_9 (by decide) ?_
    exact W.aret (v := .ref (ad 0)) hx hb hr (Or.inl ⟨_, rfl⟩) (Or.inr ⟨_, rfl⟩) (fun t ht hW => ⟨some 0, rfl, congrArg some (Eq.symm ((if_pos c_1).trans (rfl))), ht⟩) (fun q h => by cases h) dX2_formatOf_15
def f_X0_withoutSign (i : Nat) (x1 : Int64) : Int64 := (x1 &&& ((fm_sign i) ^^^ (-1 : Int64)))
set_option maxHeartbeats 4000000 in
set_option maxRecDepth 100000 in
theorem c_X0_withoutSign (l : Launch) (dC : Nat → ClassId) (dI : Nat → Nat → Nat) (cyI cyZ cyJ : ClassId) (tK tL tG : Nat) (ad : Nat → Nat) (i : Nat) (x1 : Int64) (hi : i < 2) : Met l yX0_withoutSign wsX0_withoutSign ({ frames := 0, cells := 0, slots := 0, locals := 0 }) (va_Pc [.ref (ad i), .long x1] (mb_RG tK tL tG ad (dC, dI) (mb_tys cyI cyZ cyJ) [])) (vp_Sl (fun r => r = f_X0_withoutSign i x1)) 0 0 (fun _ => False) := by
  refine Met.ofW (cc := cX0_withoutSign) (maxL := 3) (ret := (some .long)) (by decide) rfl ?_
  intro p e s m args below meth c s₁ B hml hv
  obtain ⟨rfl, hG, hP, hK⟩ := hv
  have hx := B.exec
  have hb := B.bytes
  have hr := B.returns
  have hts := atoms_spec (ws := wsX0_withoutSign) B.pre
  have hown : s.vm.findClass RX0 = some m.cls := findClass_of_methodNamed B.named
  have hlocks := B.notSynchronized
  have hP0 : va_P (dC, dI) vwCl [] s.heap := fun k q h => by simp at h
  have hf_43 := hts (.fieldLink RX0 43 "ConversionTables$Format" "sign" "J") (by decide +kernel)
  have hl := lv_entry ([.ref (ad i), .long x1]) (n := 3) (Nat.le_of_ble_eq_true rfl)
  rw [lg_entry_eq]
  generalize (lg_sl ([.ref (ad i), .long x1]) ++ List.replicate (3 - (lg_sl ([.ref (ad i), .long x1])).length) Slot.unset).toArray = ls at hl ⊢
  have hl : lv_has ls 3 [(0, .ref (ad i)), (1, .long x1)] := hl
  refine lv_lload_n hx hb dX0_withoutSign_0 rfl (lv_at hl 1 rfl) ?_
  refine lv_aload_n hx hb dX0_withoutSign_1 rfl (lv_at hl 0 rfl) ?_
  refine va_getX hx hb hG.2.2.2.2.2.2.2.2.2 (by first | assumption | exact lt_X2_formatOf _) va_S.rf hown hf_43 (fun _ h9 => h9) dX0_withoutSign_2 ?_
  refine lv_ldc2 (v := (-1 : Int64)) hx hb hown (hts (.constantLong RX0 46 (-1)) (by decide +kernel)) dX0_withoutSign_5 ?_
  refine lv_lxor hx hb dX0_withoutSign_8 ?_
  refine lv_land hx hb dX0_withoutSign_9 ?_
  exact W.lret (v := (x1 &&& ((fm_sign i) ^^^ (-1 : Int64)))) hx hb hr (fun t ht hW => ⟨(x1 &&& ((fm_sign i) ^^^ (-1 : Int64))), rfl, Eq.symm (rfl), ht⟩) (fun q h => by cases h) dX0_withoutSign_10
def f_X0_withSign (i : Nat) (x1 : Int32) (x2 : Int64) : Int64 := if x1 = 0 then x2
  else (x2 ||| (fm_sign i))
set_option maxHeartbeats 4000000 in
set_option maxRecDepth 100000 in
theorem c_X0_withSign (l : Launch) (dC : Nat → ClassId) (dI : Nat → Nat → Nat) (cyI cyZ cyJ : ClassId) (tK tL tG : Nat) (ad : Nat → Nat) (i : Nat) (x1 : Int32) (x2 : Int64) (hi : i < 2) : Met l yX0_withSign wsX0_withSign ({ frames := 0, cells := 0, slots := 0, locals := 0 }) (va_Pc [.ref (ad i), .int x1, .long x2] (mb_RG tK tL tG ad (dC, dI) (mb_tys cyI cyZ cyJ) [])) (vp_Sl (fun r => r = f_X0_withSign i x1 x2)) 0 0 (fun _ => False) := by
  refine Met.ofW (cc := cX0_withSign) (maxL := 4) (ret := (some .long)) (by decide) rfl ?_
  intro p e s m args below meth c s₁ B hml hv
  obtain ⟨rfl, hG, hP, hK⟩ := hv
  have hx := B.exec
  have hb := B.bytes
  have hr := B.returns
  have hts := atoms_spec (ws := wsX0_withSign) B.pre
  have hown : s.vm.findClass RX0 = some m.cls := findClass_of_methodNamed B.named
  have hlocks := B.notSynchronized
  have hP0 : va_P (dC, dI) vwCl [] s.heap := fun k q h => by simp at h
  have hf_43 := hts (.fieldLink RX0 43 "ConversionTables$Format" "sign" "J") (by decide +kernel)
  have hl := lv_entry ([.ref (ad i), .int x1, .long x2]) (n := 4) (Nat.le_of_ble_eq_true rfl)
  rw [lg_entry_eq]
  generalize (lg_sl ([.ref (ad i), .int x1, .long x2]) ++ List.replicate (4 - (lg_sl ([.ref (ad i), .int x1, .long x2])).length) Slot.unset).toArray = ls at hl ⊢
  have hl : lv_has ls 4 [(0, .ref (ad i)), (1, .int x1), (2, .long x2)] := hl
  refine lv_iload_n hx hb dX0_withSign_0 rfl (lv_at hl 1 rfl) ?_
  refine lv_if_eq (tgt := 13) hx hb dX0_withSign_1 (by decide) (fun c_1 => ?_) (fun c_1 => ?_)
  · refine lv_lload_n hx hb dX0_withSign_13 rfl (lv_at hl 2 rfl) ?_
    exact W.lret (v := x2) hx hb hr (fun t ht hW => ⟨x2, rfl, Eq.symm ((if_pos c_1).trans (rfl)), ht⟩) (fun q h => by cases h) dX0_withSign_14
  · refine lv_lload_n hx hb dX0_withSign_4 rfl (lv_at hl 2 rfl) ?_
    refine lv_aload_n hx hb dX0_withSign_5 rfl (lv_at hl 0 rfl) ?_
    refine va_getX hx hb hG.2.2.2.2.2.2.2.2.2 (by first | assumption | exact lt_X2_formatOf _) va_S.rf hown hf_43 (fun _ h9 => h9) dX0_withSign_6 ?_
    refine lv_lor hx hb dX0_withSign_9 ?_
    refine lv_goto (tgt := 14) hx hb dX0_withSign_10 (by decide) ?_
    exact W.lret (v := (x2 ||| (fm_sign i))) hx hb hr (fun t ht hW => ⟨(x2 ||| (fm_sign i)), rfl, Eq.symm ((if_neg c_1).trans (rfl)), ht⟩) (fun q h => by cases h) dX0_withSign_14
def f_X0_exponentField (i : Nat) (x1 : Int64) : Int64 := ((f_X0_withoutSign i x1).toUInt64 >>> (((fm_prec i) - (1 : Int32)).toInt64.toUInt64 &&& Int64.toUInt64 63)).toInt64
set_option maxHeartbeats 4000000 in
set_option maxRecDepth 100000 in
theorem c_X0_exponentField (l : Launch) (dC : Nat → ClassId) (dI : Nat → Nat → Nat) (cyI cyZ cyJ : ClassId) (tK tL tG : Nat) (ad : Nat → Nat) (i : Nat) (x1 : Int64) (hi : i < 2) : Met l yX0_exponentField wsX0_exponentField ({ frames := 1, cells := 0, slots := 0, locals := 22 }) (va_Pc [.ref (ad i), .long x1] (mb_RG tK tL tG ad (dC, dI) (mb_tys cyI cyZ cyJ) [])) (vp_Sl (fun r => r = f_X0_exponentField i x1)) 0 0 (fun _ => False) := by
  refine Met.ofW (cc := cX0_exponentField) (maxL := 3) (ret := (some .long)) (by decide) rfl ?_
  intro p e s m args below meth c s₁ B hml hv
  obtain ⟨rfl, hG, hP, hK⟩ := hv
  have hx := B.exec
  have hb := B.bytes
  have hr := B.returns
  have hts := atoms_spec (ws := wsX0_exponentField) B.pre
  have hown : s.vm.findClass RX0 = some m.cls := findClass_of_methodNamed B.named
  have hlocks := B.notSynchronized
  have hP0 : va_P (dC, dI) vwCl [] s.heap := fun k q h => by simp at h
  have hf_29 := hts (.fieldLink RX0 29 "ConversionTables$Format" "precision" "I") (by decide +kernel)
  have hl := lv_entry ([.ref (ad i), .long x1]) (n := 3) (Nat.le_of_ble_eq_true rfl)
  rw [lg_entry_eq]
  generalize (lg_sl ([.ref (ad i), .long x1]) ++ List.replicate (3 - (lg_sl ([.ref (ad i), .long x1])).length) Slot.unset).toArray = ls at hl ⊢
  have hl : lv_has ls 3 [(0, .ref (ad i)), (1, .long x1)] := hl
  refine lv_aload_n hx hb dX0_exponentField_0 rfl (lv_at hl 0 rfl) ?_
  refine lv_lload_n hx hb dX0_exponentField_1 rfl (lv_at hl 1 rfl) ?_
  refine mb_callSl (W.runV (As := [.long x1]) (rest := []) ⟨hx, hb, hml, hown, hts⟩ (c_X0_withoutSign l dC dI cyI cyZ cyJ tK tL tG ad i x1 (by first | assumption | exact lt_X2_formatOf _) ) (cwV 1 hts gX0_exponentField_X0_withoutSign rfl rfl rfl (by decide +kernel) ⟨Nat.le_of_ble_eq_true rfl, Nat.le_of_ble_eq_true rfl⟩) (mb_preGE hG hK hP0 (by first | assumption | exact lt_X2_formatOf _)) rfl rfl hl.1 rfl (lv_room (Nat.le_of_ble_eq_true rfl)) dX0_exponentField_2 ⟨Nat.zero_le _, Nat.zero_le _⟩) ?_
  refine lv_aload_n hx hb dX0_exponentField_5 rfl (lv_at hl 0 rfl) ?_
  refine va_getE (q := fq_prec) hx hb hG.2.2.2.2.2.2.1 (by first | assumption | exact lt_X2_formatOf _) va_S.rf hown (by simp [fq_all]) hf_29 (fun _ h9 => h9) dX0_exponentField_6 ?_
  refine lv_iconst (v := (1 : Int32)) hx hb dX0_exponentField_9 (by decide) ?_
  refine lv_isub hx hb dX0_exponentField_10 ?_
  refine lv_lushr hx hb dX0_exponentField_11 rfl ?_
  exact W.lret (v := ((f_X0_withoutSign i x1).toUInt64 >>> (((fm_prec i) - (1 : Int32)).toInt64.toUInt64 &&& Int64.toUInt64 63)).toInt64) hx hb hr (fun t ht hW => ⟨((f_X0_withoutSign i x1).toUInt64 >>> (((fm_prec i) - (1 : Int32)).toInt64.toUInt64 &&& Int64.toUInt64 63)).toInt64, rfl, Eq.symm (rfl), ht⟩) (fun q h => by cases h) dX0_exponentField_12
def f_X0_significand_z_2 (i : Nat) (x1 : Int64) (z_1 : Int64) (z_2 : Int64) : Int64 := if (f_X0_exponentField i x1) = (0 : Int64) then z_2
  else (z_2 ||| z_1)
def f_X0_significand_z_1 (i : Nat) (x1 : Int64) (z_1 : Int64) : Int64 := f_X0_significand_z_2 i x1 z_1 ((f_X0_withoutSign i x1) &&& (z_1 - (1 : Int64)))
def f_X0_significand (i : Nat) (x1 : Int64) : Int64 := f_X0_significand_z_1 i x1 ((1 : Int64) <<< (((fm_prec i) - (1 : Int32)).toInt64 &&& 63))
set_option maxHeartbeats 4000000 in
set_option maxRecDepth 100000 in
theorem c_X0_significand (l : Launch) (dC : Nat → ClassId) (dI : Nat → Nat → Nat) (cyI cyZ cyJ : ClassId) (tK tL tG : Nat) (ad : Nat → Nat) (i : Nat) (x1 : Int64) (hi : i < 2) : Met l yX0_significand wsX0_significand ({ frames := 2, cells := 0, slots := 0, locals := 44 }) (va_Pc [.ref (ad i), .long x1] (mb_RG tK tL tG ad (dC, dI) (mb_tys cyI cyZ cyJ) [])) (vp_Sl (fun r => r = f_X0_significand i x1)) 0 0 (fun _ => False) := by
  refine Met.ofW (cc := cX0_significand) (maxL := 7) (ret := (some .long)) (by decide) rfl ?_
  intro p e s m args below meth c s₁ B hml hv
  obtain ⟨rfl, hG, hP, hK⟩ := hv
  have hx := B.exec
  have hb := B.bytes
  have hr := B.returns
  have hts := atoms_spec (ws := wsX0_significand) B.pre
  have hown : s.vm.findClass RX0 = some m.cls := findClass_of_methodNamed B.named
  have hlocks := B.notSynchronized
  have hP0 : va_P (dC, dI) vwCl [] s.heap := fun k q h => by simp at h
  have hf_29 := hts (.fieldLink RX0 29 "ConversionTables$Format" "precision" "I") (by decide +kernel)
  have hl := lv_entry ([.ref (ad i), .long x1]) (n := 7) (Nat.le_of_ble_eq_true rfl)
  rw [lg_entry_eq]
  generalize (lg_sl ([.ref (ad i), .long x1]) ++ List.replicate (7 - (lg_sl ([.ref (ad i), .long x1])).length) Slot.unset).toArray = ls at hl ⊢
  have hl : lv_has ls 7 [(0, .ref (ad i)), (1, .long x1)] := hl
  refine lv_lconst (v := (1 : Int64)) hx hb dX0_significand_0 (by decide) ?_
  refine lv_aload_n hx hb dX0_significand_1 rfl (lv_at hl 0 rfl) ?_
  refine va_getE (q := fq_prec) hx hb hG.2.2.2.2.2.2.1 (by first | assumption | exact lt_X2_formatOf _) va_S.rf hown (by simp [fq_all]) hf_29 (fun _ h9 => h9) dX0_significand_2 ?_
  refine lv_iconst (v := (1 : Int32)) hx hb dX0_significand_5 (by decide) ?_
  refine lv_isub hx hb dX0_significand_6 ?_
  refine lv_lshl hx hb dX0_significand_7 rfl ?_
  refine lv_topl (fun z_1 ez_1 => ?_)
  refine lv_lstore_n (lv' := [(3, .long z_1), (0, .ref (ad i)), (1, .long x1)]) hx hb dX0_significand_8 rfl hl (by decide) rfl (fun ls hl => ?_)
  refine lv_aload_n hx hb dX0_significand_9 rfl (lv_at hl 1 rfl) ?_
  refine lv_lload_n hx hb dX0_significand_10 rfl (lv_at hl 2 rfl) ?_
  refine mb_callSl (W.runV (As := [.long x1]) (rest := []) ⟨hx, hb, hml, hown, hts⟩ (c_X0_withoutSign l dC dI cyI cyZ cyJ tK tL tG ad i x1 (by first | assumption | exact lt_X2_formatOf _) ) (cwV 1 hts gX0_significand_X0_withoutSign rfl rfl rfl (by decide +kernel) ⟨Nat.le_of_ble_eq_true rfl, Nat.le_of_ble_eq_true rfl⟩) (mb_preGE hG hK hP0 (by first | assumption | exact lt_X2_formatOf _)) rfl rfl hl.1 rfl (lv_room (Nat.le_of_ble_eq_true rfl)) dX0_significand_11 ⟨Nat.zero_le _, Nat.zero_le _⟩) ?_
  refine lv_lload_n hx hb dX0_significand_14 rfl (lv_at hl 0 rfl) ?_
  refine lv_lconst (v := (1 : Int64)) hx hb dX0_significand_15 (by decide) ?_
  refine lv_lsub hx hb dX0_significand_16 ?_
  refine lv_land hx hb dX0_significand_17 ?_
  refine lv_topl (fun z_2 ez_2 => ?_)
  refine lv_lstore (lv' := [(5, .long z_2), (3, .long z_1), (0, .ref (ad i)), (1, .long x1)]) hx hb dX0_significand_18 hl (by decide) rfl (fun ls hl => ?_)
  refine lv_aload_n hx hb dX0_significand_20 rfl (lv_at hl 2 rfl) ?_
  refine lv_lload_n hx hb dX0_significand_21 rfl (lv_at hl 3 rfl) ?_
  refine mb_callSl (W.runV (As := [.long x1]) (rest := []) ⟨hx, hb, hml, hown, hts⟩ (c_X0_exponentField l dC dI cyI cyZ cyJ tK tL tG ad i x1 (by first | assumption | exact lt_X2_formatOf _) ) (cwV 1 hts gX0_significand_X0_exponentField rfl rfl rfl (by decide +kernel) ⟨Nat.le_of_ble_eq_true rfl, Nat.le_of_ble_eq_true rfl⟩) (mb_preGE hG hK hP0 (by first | assumption | exact lt_X2_formatOf _)) rfl rfl hl.1 rfl (lv_room (Nat.le_of_ble_eq_true rfl)) dX0_significand_22 ⟨Nat.zero_le _, Nat.zero_le _⟩) ?_
  refine lv_lconst (v := (0 : Int64)) hx hb dX0_significand_25 (by decide) ?_
  refine mb_lc_ne (tgt := 35) hx hb dX0_significand_26 dX0_significand_27 (by decide) (fun c_3 => ?_) (fun c_3 => ?_)
  · refine lv_lload hx hb dX0_significand_35 (lv_at hl 0 rfl) ?_
    refine lv_lload_n hx hb dX0_significand_37 rfl (lv_at hl 1 rfl) ?_
    refine lv_lor hx hb dX0_significand_38 ?_
    exact W.lret (v := (z_2 ||| z_1)) hx hb hr (fun t ht hW => ⟨(z_2 ||| z_1), rfl, Eq.symm ((congrArg (f_X0_significand_z_1 i x1) (Eq.symm ez_1)).trans ((congrArg (f_X0_significand_z_2 i x1 z_1) (Eq.symm ez_2)).trans ((if_neg c_3).trans (rfl)))), ht⟩) (fun q h => by cases h) dX0_significand_39
  · refine lv_lload hx hb dX0_significand_30 (lv_at hl 0 rfl) ?_
    refine lv_goto (tgt := 39) hx hb dX0_significand_32 (by decide) ?_
    exact W.lret (v := z_2) hx hb hr (fun t ht hW => ⟨z_2, rfl, Eq.symm ((congrArg (f_X0_significand_z_1 i x1) (Eq.symm ez_1)).trans ((congrArg (f_X0_significand_z_2 i x1 z_1) (Eq.symm ez_2)).trans ((if_pos c_3).trans (rfl)))), ht⟩) (fun q h => by cases h) dX0_significand_39
def f_X0_exponent (i : Nat) (x1 : Int64) : Int32 := (((fm_low i) + ((if (1 : Int64) < (f_X0_exponentField i x1) then (f_X0_exponentField i x1) else (1 : Int64)).toInt32)) - (1 : Int32))
set_option maxHeartbeats 4000000 in
set_option maxRecDepth 100000 in
theorem c_X0_exponent (l : Launch) (dC : Nat → ClassId) (dI : Nat → Nat → Nat) (cyI cyZ cyJ : ClassId) (tK tL tG : Nat) (ad : Nat → Nat) (i : Nat) (x1 : Int64) (hi : i < 2) : Met l yX0_exponent wsX0_exponent ({ frames := 2, cells := 0, slots := 0, locals := 44 }) (va_Pc [.ref (ad i), .long x1] (mb_RG tK tL tG ad (dC, dI) (mb_tys cyI cyZ cyJ) [])) (vp_Si (fun r => r = f_X0_exponent i x1)) 0 0 (fun _ => False) := by
  refine Met.ofW (cc := cX0_exponent) (maxL := 3) (ret := (some .int)) (by decide) rfl ?_
  intro p e s m args below meth c s₁ B hml hv
  obtain ⟨rfl, hG, hP, hK⟩ := hv
  have hx := B.exec
  have hb := B.bytes
  have hr := B.returns
  have hts := atoms_spec (ws := wsX0_exponent) B.pre
  have hown : s.vm.findClass RX0 = some m.cls := findClass_of_methodNamed B.named
  have hlocks := B.notSynchronized
  have hP0 : va_P (dC, dI) vwCl [] s.heap := fun k q h => by simp at h
  have hf_33 := hts (.fieldLink RX0 33 "ConversionTables$Format" "lowestExponent" "I") (by decide +kernel)
  have hl := lv_entry ([.ref (ad i), .long x1]) (n := 3) (Nat.le_of_ble_eq_true rfl)
  rw [lg_entry_eq]
  generalize (lg_sl ([.ref (ad i), .long x1]) ++ List.replicate (3 - (lg_sl ([.ref (ad i), .long x1])).length) Slot.unset).toArray = ls at hl ⊢
  have hl : lv_has ls 3 [(0, .ref (ad i)), (1, .long x1)] := hl
  refine lv_aload_n hx hb dX0_exponent_0 rfl (lv_at hl 0 rfl) ?_
  refine va_getE (q := fq_low) hx hb hG.2.2.2.2.2.2.1 (by first | assumption | exact lt_X2_formatOf _) va_S.rf hown (by simp [fq_all]) hf_33 (fun _ h9 => h9) dX0_exponent_1 ?_
  refine lv_aload_n hx hb dX0_exponent_4 rfl (lv_at hl 0 rfl) ?_
  refine lv_lload_n hx hb dX0_exponent_5 rfl (lv_at hl 1 rfl) ?_
  refine mb_callSl (W.runV (As := [.long x1]) (rest := [.int (fm_low i)]) ⟨hx, hb, hml, hown, hts⟩ (c_X0_exponentField l dC dI cyI cyZ cyJ tK tL tG ad i x1 (by first | assumption | exact lt_X2_formatOf _) ) (cwV 1 hts gX0_exponent_X0_exponentField rfl rfl rfl (by decide +kernel) ⟨Nat.le_of_ble_eq_true rfl, Nat.le_of_ble_eq_true rfl⟩) (mb_preGE hG hK hP0 (by first | assumption | exact lt_X2_formatOf _)) rfl rfl hl.1 rfl (lv_room (Nat.le_of_ble_eq_true rfl)) dX0_exponent_6 ⟨Nat.zero_le _, Nat.zero_le _⟩) ?_
  refine lv_lconst (v := (1 : Int64)) hx hb dX0_exponent_9 (by decide) ?_
  refine va_mmax_long hx hb (by rw [hml]; exact hl.1.symm) hown (hts (.methodLink RX0 55 Lib.MathLoose.max_long.x) (by decide +kernel)) (hts (.static Lib.MathLoose.max_long.x) (by decide +kernel)) (hts (.initialized "java/lang/Math") (by decide +kernel)) (hts (.code Lib.MathLoose.max_long.x Lib.MathLoose.max_long.code 4 (some .long)) (by decide +kernel)) (Nat.le_of_ble_eq_true rfl) (Nat.le_of_ble_eq_true rfl) (Nat.le_of_ble_eq_true rfl) (Nat.le_of_ble_eq_true rfl) dX0_exponent_10 ?_
  refine lv_l2i hx hb dX0_exponent_13 rfl ?_
  refine lv_iadd hx hb dX0_exponent_14 ?_
  refine lv_iconst (v := (1 : Int32)) hx hb dX0_exponent_15 (by decide) ?_
  refine lv_isub hx hb dX0_exponent_16 ?_
  exact W.iret (v := (((fm_low i) + ((if (1 : Int64) < (f_X0_exponentField i x1) then (f_X0_exponentField i x1) else (1 : Int64)).toInt32)) - (1 : Int32))) hx hb hr (fun t ht hW => ⟨(((fm_low i) + ((if (1 : Int64) < (f_X0_exponentField i x1) then (f_X0_exponentField i x1) else (1 : Int64)).toInt32)) - (1 : Int32)), rfl, Eq.symm (rfl), ht⟩) (fun q h => by cases h) dX0_exponent_17
def f_X0_nearest_z_2 (i : Nat) (x1 : Int64) (x2 : Int32) (z_2 : Int32) : Int64 := (if (fm_inf i) < ((((z_2 - (fm_low i)).toInt64) <<< (((fm_prec i) - (1 : Int32)).toInt64 &&& 63)) + (f_X0_rounded x1 (z_2 - x2))) then (fm_inf i) else ((((z_2 - (fm_low i)).toInt64) <<< (((fm_prec i) - (1 : Int32)).toInt64 &&& 63)) + (f_X0_rounded x1 (z_2 - x2))))
def f_X0_nearest (i : Nat) (x1 : Int64) (x2 : Int32) : Int64 := if x1 = (0 : Int64) then (0 : Int64)
  else f_X0_nearest_z_2 i x1 x2 (if ((x2 + (f_X0_widthOf x1)) - (fm_prec i)) < (fm_low i) then (fm_low i) else ((x2 + (f_X0_widthOf x1)) - (fm_prec i)))
set_option maxHeartbeats 4000000 in
set_option maxRecDepth 100000 in
theorem c_X0_nearest (l : Launch) (dC : Nat → ClassId) (dI : Nat → Nat → Nat) (cyI cyZ cyJ : ClassId) (tK tL tG : Nat) (ad : Nat → Nat) (i : Nat) (x1 : Int64) (x2 : Int32) (hi : i < 2) : Met l yX0_nearest wsX0_nearest ({ frames := 3, cells := 0, slots := 0, locals := 64 }) (va_Pc [.ref (ad i), .long x1, .int x2] (mb_RG tK tL tG ad (dC, dI) (mb_tys cyI cyZ cyJ) [])) (vp_Sl (fun r => r = f_X0_nearest i x1 x2)) 0 0 (fun _ => False) := by
  refine Met.ofW (cc := cX0_nearest) (maxL := 9) (ret := (some .long)) (by decide) rfl ?_
  intro p e s m args below meth c s₁ B hml hv
  obtain ⟨rfl, hG, hP, hK⟩ := hv
  have hx := B.exec
  have hb := B.bytes
  have hr := B.returns
  have hts := atoms_spec (ws := wsX0_nearest) B.pre
  have hown : s.vm.findClass RX0 = some m.cls := findClass_of_methodNamed B.named
  have hlocks := B.notSynchronized
  have hP0 : va_P (dC, dI) vwCl [] s.heap := fun k q h => by simp at h
  have hf_29 := hts (.fieldLink RX0 29 "ConversionTables$Format" "precision" "I") (by decide +kernel)
  have hf_33 := hts (.fieldLink RX0 33 "ConversionTables$Format" "lowestExponent" "I") (by decide +kernel)
  have hf_36 := hts (.fieldLink RX0 36 "ConversionTables$Format" "infinity" "J") (by decide +kernel)
  have hl := lv_entry ([.ref (ad i), .long x1, .int x2]) (n := 9) (Nat.le_of_ble_eq_true rfl)
  rw [lg_entry_eq]
  generalize (lg_sl ([.ref (ad i), .long x1, .int x2]) ++ List.replicate (9 - (lg_sl ([.ref (ad i), .long x1, .int x2])).length) Slot.unset).toArray = ls at hl ⊢
  have hl : lv_has ls 9 [(0, .ref (ad i)), (1, .long x1), (3, .int x2)] := hl
  refine lv_lload_n hx hb dX0_nearest_0 rfl (lv_at hl 1 rfl) ?_
  refine lv_lconst (v := (0 : Int64)) hx hb dX0_nearest_1 (by decide) ?_
  refine mb_lc_ne (tgt := 8) hx hb dX0_nearest_2 dX0_nearest_3 (by decide) (fun c_1 => ?_) (fun c_1 => ?_)
  · refine lv_iload_n hx hb dX0_nearest_8 rfl (lv_at hl 2 rfl) ?_
    refine lv_lload_n hx hb dX0_nearest_9 rfl (lv_at hl 1 rfl) ?_
    refine mb_callSi (W.runS (As := [.long x1]) (rest := [.int x2]) ⟨hx, hb, hml, hown, hts⟩ (c_X0_widthOf l x1) (va_cwS 1 hts gX0_nearest_X0_widthOf rfl rfl rfl (by decide +kernel) ⟨Nat.le_of_ble_eq_true rfl, Nat.le_of_ble_eq_true rfl⟩) mb_preT rfl rfl hl.1 rfl (lv_room (Nat.le_of_ble_eq_true rfl)) dX0_nearest_10 ⟨Nat.zero_le _, Nat.zero_le _⟩) ?_
    refine lv_iadd hx hb dX0_nearest_13 ?_
    refine lv_aload_n hx hb dX0_nearest_14 rfl (lv_at hl 0 rfl) ?_
    refine va_getE (q := fq_prec) hx hb hG.2.2.2.2.2.2.1 (by first | assumption | exact lt_X2_formatOf _) va_S.rf hown (by simp [fq_all]) hf_29 (fun _ h9 => h9) dX0_nearest_15 ?_
    refine lv_isub hx hb dX0_nearest_18 ?_
    refine lv_aload_n hx hb dX0_nearest_19 rfl (lv_at hl 0 rfl) ?_
    refine va_getE (q := fq_low) hx hb hG.2.2.2.2.2.2.1 (by first | assumption | exact lt_X2_formatOf _) va_S.rf hown (by simp [fq_all]) hf_33 (fun _ h9 => h9) dX0_nearest_20 ?_
    refine va_mmax hx hb (by rw [hml]; exact hl.1.symm) hown (hts (.methodLink RX0 91 Lib.Math.max.name) (by decide +kernel)) (hts (.static Lib.Math.max.name) (by decide +kernel)) (hts (.initialized "java/lang/Math") (by decide +kernel)) (hts (.code Lib.Math.max.name Lib.Math.max.code 2 (some .int)) (by decide +kernel)) (Nat.le_of_ble_eq_true rfl) (Nat.le_of_ble_eq_true rfl) (Nat.le_of_ble_eq_true rfl) (Nat.le_of_ble_eq_true rfl) dX0_nearest_23 ?_
    refine lv_topi (fun z_2 ez_2 => ?_)
    refine lv_istore (lv' := [(4, .int z_2), (0, .ref (ad i)), (1, .long x1), (3, .int x2)]) hx hb dX0_nearest_26 hl (by decide) rfl (fun ls hl => ?_)
    refine lv_lload_n hx hb dX0_nearest_28 rfl (lv_at hl 2 rfl) ?_
    refine lv_iload hx hb dX0_nearest_29 (lv_at hl 0 rfl) ?_
    refine lv_iload_n hx hb dX0_nearest_31 rfl (lv_at hl 3 rfl) ?_
    refine lv_isub hx hb dX0_nearest_32 ?_
    refine mb_callSl (W.runS (As := [.long x1, .int (z_2 - x2)]) (rest := []) ⟨hx, hb, hml, hown, hts⟩ (c_X0_rounded l x1 (z_2 - x2)) (va_cwS 2 hts gX0_nearest_X0_rounded rfl rfl rfl (by decide +kernel) ⟨Nat.le_of_ble_eq_true rfl, Nat.le_of_ble_eq_true rfl⟩) mb_preT rfl rfl hl.1 rfl (lv_room (Nat.le_of_ble_eq_true rfl)) dX0_nearest_33 ⟨Nat.zero_le _, Nat.zero_le _⟩) ?_
    refine lv_lstore (lv' := [(5, .long (f_X0_rounded x1 (z_2 - x2))), (4, .int z_2), (0, .ref (ad i)), (1, .long x1), (3, .int x2)]) hx hb dX0_nearest_36 hl (by decide) rfl (fun ls hl => ?_)
    refine lv_iload hx hb dX0_nearest_38 (lv_at hl 1 rfl) ?_
    refine lv_aload_n hx hb dX0_nearest_40 rfl (lv_at hl 2 rfl) ?_
    refine va_getE (q := fq_low) hx hb hG.2.2.2.2.2.2.1 (by first | assumption | exact lt_X2_formatOf _) va_S.rf hown (by simp [fq_all]) hf_33 (fun _ h9 => h9) dX0_nearest_41 ?_
    refine lv_isub hx hb dX0_nearest_44 ?_
    refine lv_i2l hx hb dX0_nearest_45 rfl ?_
    refine lv_lstore (lv' := [(7, .long ((z_2 - (fm_low i)).toInt64)), (5, .long (f_X0_rounded x1 (z_2 - x2))), (4, .int z_2), (0, .ref (ad i)), (1, .long x1), (3, .int x2)]) hx hb dX0_nearest_46 hl (by decide) rfl (fun ls hl => ?_)
    refine lv_lload hx hb dX0_nearest_48 (lv_at hl 0 rfl) ?_
    refine lv_aload_n hx hb dX0_nearest_50 rfl (lv_at hl 3 rfl) ?_
    refine va_getE (q := fq_prec) hx hb hG.2.2.2.2.2.2.1 (by first | assumption | exact lt_X2_formatOf _) va_S.rf hown (by simp [fq_all]) hf_29 (fun _ h9 => h9) dX0_nearest_51 ?_
    refine lv_iconst (v := (1 : Int32)) hx hb dX0_nearest_54 (by decide) ?_
    refine lv_isub hx hb dX0_nearest_55 ?_
    refine lv_lshl hx hb dX0_nearest_56 rfl ?_
    refine lv_lload hx hb dX0_nearest_57 (lv_at hl 1 rfl) ?_
    refine lv_ladd hx hb dX0_nearest_59 ?_
    refine lv_aload_n hx hb dX0_nearest_60 rfl (lv_at hl 3 rfl) ?_
    refine va_getX hx hb hG.2.2.2.2.2.2.2.1 (by first | assumption | exact lt_X2_formatOf _) va_S.rf hown hf_36 (fun _ h9 => h9) dX0_nearest_61 ?_
    refine va_mmin_long hx hb (by rw [hml]; exact hl.1.symm) hown (hts (.methodLink RX0 97 Lib.MathLoose.min_long.x) (by decide +kernel)) (hts (.static Lib.MathLoose.min_long.x) (by decide +kernel)) (hts (.initialized "java/lang/Math") (by decide +kernel)) (hts (.code Lib.MathLoose.min_long.x Lib.MathLoose.min_long.code 4 (some .long)) (by decide +kernel)) (Nat.le_of_ble_eq_true rfl) (Nat.le_of_ble_eq_true rfl) (Nat.le_of_ble_eq_true rfl) (Nat.le_of_ble_eq_true rfl) dX0_nearest_64 ?_
    exact W.lret (v := (if (fm_inf i) < ((((z_2 - (fm_low i)).toInt64) <<< (((fm_prec i) - (1 : Int32)).toInt64 &&& 63)) + (f_X0_rounded x1 (z_2 - x2))) then (fm_inf i) else ((((z_2 - (fm_low i)).toInt64) <<< (((fm_prec i) - (1 : Int32)).toInt64 &&& 63)) + (f_X0_rounded x1 (z_2 - x2))))) hx hb hr (fun t ht hW => ⟨(if (fm_inf i) < ((((z_2 - (fm_low i)).toInt64) <<< (((fm_prec i) - (1 : Int32)).toInt64 &&& 63)) + (f_X0_rounded x1 (z_2 - x2))) then (fm_inf i) else ((((z_2 - (fm_low i)).toInt64) <<< (((fm_prec i) - (1 : Int32)).toInt64 &&& 63)) + (f_X0_rounded x1 (z_2 - x2)))), rfl, Eq.symm ((if_neg c_1).trans ((congrArg (f_X0_nearest_z_2 i x1 x2) (Eq.symm ez_2)).trans (rfl))), ht⟩) (fun q h => by cases h) dX0_nearest_67
  · refine lv_lconst (v := (0 : Int64)) hx hb dX0_nearest_6 (by decide) ?_
    exact W.lret (v := (0 : Int64)) hx hb hr (fun t ht hW => ⟨(0 : Int64), rfl, Eq.symm ((if_pos c_1).trans (rfl)), ht⟩) (fun q h => by cases h) dX0_nearest_7
def f_X0_fromLong (i : Nat) (x1 : Int64) : Int64 := if (0 : Int64) ≤ x1 then (if (0 : Int32) = 0 then (f_X0_withSign i (0 : Int32) (f_X0_nearest i x1 (0 : Int32)))
    else (f_X0_withSign i (0 : Int32) (f_X0_nearest i (-x1) (0 : Int32))))
  else if (1 : Int32) = 0 then (f_X0_withSign i (1 : Int32) (f_X0_nearest i x1 (0 : Int32)))
  else (f_X0_withSign i (1 : Int32) (f_X0_nearest i (-x1) (0 : Int32)))
set_option maxHeartbeats 4000000 in
set_option maxRecDepth 100000 in
theorem c_X0_fromLong (l : Launch) (dC : Nat → ClassId) (dI : Nat → Nat → Nat) (cyI cyZ cyJ : ClassId) (tK tL tG : Nat) (ad : Nat → Nat) (i : Nat) (x1 : Int64) (hi : i < 2) : Met l yX0_fromLong wsX0_fromLong ({ frames := 4, cells := 0, slots := 0, locals := 92 }) (va_Pc [.ref (ad i), .long x1] (mb_RG tK tL tG ad (dC, dI) (mb_tys cyI cyZ cyJ) [])) (vp_Sl (fun r => r = f_X0_fromLong i x1)) 0 0 (fun _ => False) := by
  refine Met.ofW (cc := cX0_fromLong) (maxL := 4) (ret := (some .long)) (by decide) rfl ?_
  intro p e s m args below meth c s₁ B hml hv
  obtain ⟨rfl, hG, hP, hK⟩ := hv
  have hx := B.exec
  have hb := B.bytes
  have hr := B.returns
  have hts := atoms_spec (ws := wsX0_fromLong) B.pre
  have hown : s.vm.findClass RX0 = some m.cls := findClass_of_methodNamed B.named
  have hlocks := B.notSynchronized
  have hP0 : va_P (dC, dI) vwCl [] s.heap := fun k q h => by simp at h
  have hl := lv_entry ([.ref (ad i), .long x1]) (n := 4) (Nat.le_of_ble_eq_true rfl)
  rw [lg_entry_eq]
  generalize (lg_sl ([.ref (ad i), .long x1]) ++ List.replicate (4 - (lg_sl ([.ref (ad i), .long x1])).length) Slot.unset).toArray = ls at hl ⊢
  have hl : lv_has ls 4 [(0, .ref (ad i)), (1, .long x1)] := hl
  refine lv_lload_n hx hb dX0_fromLong_0 rfl (lv_at hl 1 rfl) ?_
  refine lv_lconst (v := (0 : Int64)) hx hb dX0_fromLong_1 (by decide) ?_
  refine mb_lc_ge (tgt := 10) hx hb dX0_fromLong_2 dX0_fromLong_3 (by decide) (fun c_1 => ?_) (fun c_1 => ?_)
  · refine lv_iconst (v := (0 : Int32)) hx hb dX0_fromLong_10 (by decide) ?_
    refine lv_istore_n (lv' := [(3, .int (0 : Int32)), (0, .ref (ad i)), (1, .long x1)]) hx hb dX0_fromLong_11 rfl hl (by decide) rfl (fun ls hl => ?_)
    refine lv_aload_n hx hb dX0_fromLong_12 rfl (lv_at hl 1 rfl) ?_
    refine lv_iload_n hx hb dX0_fromLong_13 rfl (lv_at hl 0 rfl) ?_
    refine lv_aload_n hx hb dX0_fromLong_14 rfl (lv_at hl 1 rfl) ?_
    refine lv_iload_n hx hb dX0_fromLong_15 rfl (lv_at hl 0 rfl) ?_
    refine lv_if_eq (tgt := 24) hx hb dX0_fromLong_16 (by decide) (fun c_2 => ?_) (fun c_2 => ?_)
    · refine lv_lload_n hx hb dX0_fromLong_24 rfl (lv_at hl 2 rfl) ?_
      refine lv_iconst (v := (0 : Int32)) hx hb dX0_fromLong_25 (by decide) ?_
      refine mb_callSl (W.runV (As := [.long x1, .int (0 : Int32)]) (rest := [.int (0 : Int32), .ref (ad i)]) ⟨hx, hb, hml, hown, hts⟩ (c_X0_nearest l dC dI cyI cyZ cyJ tK tL tG ad i x1 (0 : Int32) (by first | assumption | exact lt_X2_formatOf _) ) (cwV 2 hts gX0_fromLong_X0_nearest rfl rfl rfl (by decide +kernel) ⟨Nat.le_of_ble_eq_true rfl, Nat.le_of_ble_eq_true rfl⟩) (mb_preGE hG hK hP0 (by first | assumption | exact lt_X2_formatOf _)) rfl rfl hl.1 rfl (lv_room (Nat.le_of_ble_eq_true rfl)) dX0_fromLong_26 ⟨Nat.zero_le _, Nat.zero_le _⟩) ?_
      refine mb_callSl (W.runV (As := [.int (0 : Int32), .long (f_X0_nearest i x1 (0 : Int32))]) (rest := []) ⟨hx, hb, hml, hown, hts⟩ (c_X0_withSign l dC dI cyI cyZ cyJ tK tL tG ad i (0 : Int32) (f_X0_nearest i x1 (0 : Int32)) (by first | assumption | exact lt_X2_formatOf _) ) (cwV 2 hts gX0_fromLong_X0_withSign rfl rfl rfl (by decide +kernel) ⟨Nat.le_of_ble_eq_true rfl, Nat.le_of_ble_eq_true rfl⟩) (mb_preGE hG hK hP0 (by first | assumption | exact lt_X2_formatOf _)) rfl rfl hl.1 rfl (lv_room (Nat.le_of_ble_eq_true rfl)) dX0_fromLong_29 ⟨Nat.zero_le _, Nat.zero_le _⟩) ?_
      exact W.lret (v := (f_X0_withSign i (0 : Int32) (f_X0_nearest i x1 (0 : Int32)))) hx hb hr (fun t ht hW => ⟨(f_X0_withSign i (0 : Int32) (f_X0_nearest i x1 (0 : Int32))), rfl, Eq.symm ((if_pos c_1).trans ((if_pos c_2).trans (rfl))), ht⟩) (fun q h => by cases h) dX0_fromLong_32
    · refine lv_lload_n hx hb dX0_fromLong_19 rfl (lv_at hl 2 rfl) ?_
      refine lv_lneg hx hb dX0_fromLong_20 ?_
      refine lv_goto (tgt := 25) hx hb dX0_fromLong_21 (by decide) ?_
      refine lv_iconst (v := (0 : Int32)) hx hb dX0_fromLong_25 (by decide) ?_
      refine mb_callSl (W.runV (As := [.long (-x1), .int (0 : Int32)]) (rest := [.int (0 : Int32), .ref (ad i)]) ⟨hx, hb, hml, hown, hts⟩ (c_X0_nearest l dC dI cyI cyZ cyJ tK tL tG ad i (-x1) (0 : Int32) (by first | assumption | exact lt_X2_formatOf _) ) (cwV 2 hts gX0_fromLong_X0_nearest rfl rfl rfl (by decide +kernel) ⟨Nat.le_of_ble_eq_true rfl, Nat.le_of_ble_eq_true rfl⟩) (mb_preGE hG hK hP0 (by first | assumption | exact lt_X2_formatOf _)) rfl rfl hl.1 rfl (lv_room (Nat.le_of_ble_eq_true rfl)) dX0_fromLong_26 ⟨Nat.zero_le _, Nat.zero_le _⟩) ?_
      refine mb_callSl (W.runV (As := [.int (0 : Int32), .long (f_X0_nearest i (-x1) (0 : Int32))]) (rest := []) ⟨hx, hb, hml, hown, hts⟩ (c_X0_withSign l dC dI cyI cyZ cyJ tK tL tG ad i (0 : Int32) (f_X0_nearest i (-x1) (0 : Int32)) (by first | assumption | exact lt_X2_formatOf _) ) (cwV 2 hts gX0_fromLong_X0_withSign rfl rfl rfl (by decide +kernel) ⟨Nat.le_of_ble_eq_true rfl, Nat.le_of_ble_eq_true rfl⟩) (mb_preGE hG hK hP0 (by first | assumption | exact lt_X2_formatOf _)) rfl rfl hl.1 rfl (lv_room (Nat.le_of_ble_eq_true rfl)) dX0_fromLong_29 ⟨Nat.zero_le _, Nat.zero_le _⟩) ?_
      exact W.lret (v := (f_X0_withSign i (0 : Int32) (f_X0_nearest i (-x1) (0 : Int32)))) hx hb hr (fun t ht hW => ⟨(f_X0_withSign i (0 : Int32) (f_X0_nearest i (-x1) (0 : Int32))), rfl, Eq.symm ((if_pos c_1).trans ((if_neg c_2).trans (rfl))), ht⟩) (fun q h => by cases h) dX0_fromLong_32
  · refine lv_iconst (v := (1 : Int32)) hx hb dX0_fromLong_6 (by decide) ?_
    refine lv_goto (tgt := 11) hx hb dX0_fromLong_7 (by decide) ?_
    refine lv_istore_n (lv' := [(3, .int (1 : Int32)), (0, .ref (ad i)), (1, .long x1)]) hx hb dX0_fromLong_11 rfl hl (by decide) rfl (fun ls hl => ?_)
    refine lv_aload_n hx hb dX0_fromLong_12 rfl (lv_at hl 1 rfl) ?_
    refine lv_iload_n hx hb dX0_fromLong_13 rfl (lv_at hl 0 rfl) ?_
    refine lv_aload_n hx hb dX0_fromLong_14 rfl (lv_at hl 1 rfl) ?_
    refine lv_iload_n hx hb dX0_fromLong_15 rfl (lv_at hl 0 rfl) ?_
    refine lv_if_eq (tgt := 24) hx hb dX0_fromLong_16 (by decide) (fun c_3 => ?_) (fun c_3 => ?_)
    · refine lv_lload_n hx hb dX0_fromLong_24 rfl (lv_at hl 2 rfl) ?_
      refine lv_iconst (v := (0 : Int32)) hx hb dX0_fromLong_25 (by decide) ?_
      refine mb_callSl (W.runV (As := [.long x1, .int (0 : Int32)]) (rest := [.int (1 : Int32), .ref (ad i)]) ⟨hx, hb, hml, hown, hts⟩ (c_X0_nearest l dC dI cyI cyZ cyJ tK tL tG ad i x1 (0 : Int32) (by first | assumption | exact lt_X2_formatOf _) ) (cwV 2 hts gX0_fromLong_X0_nearest rfl rfl rfl (by decide +kernel) ⟨Nat.le_of_ble_eq_true rfl, Nat.le_of_ble_eq_true rfl⟩) (mb_preGE hG hK hP0 (by first | assumption | exact lt_X2_formatOf _)) rfl rfl hl.1 rfl (lv_room (Nat.le_of_ble_eq_true rfl)) dX0_fromLong_26 ⟨Nat.zero_le _, Nat.zero_le _⟩) ?_
      refine mb_callSl (W.runV (As := [.int (1 : Int32), .long (f_X0_nearest i x1 (0 : Int32))]) (rest := []) ⟨hx, hb, hml, hown, hts⟩ (c_X0_withSign l dC dI cyI cyZ cyJ tK tL tG ad i (1 : Int32) (f_X0_nearest i x1 (0 : Int32)) (by first | assumption | exact lt_X2_formatOf _) ) (cwV 2 hts gX0_fromLong_X0_withSign rfl rfl rfl (by decide +kernel) ⟨Nat.le_of_ble_eq_true rfl, Nat.le_of_ble_eq_true rfl⟩) (mb_preGE hG hK hP0 (by first | assumption | exact lt_X2_formatOf _)) rfl rfl hl.1 rfl (lv_room (Nat.le_of_ble_eq_true rfl)) dX0_fromLong_29 ⟨Nat.zero_le _, Nat.zero_le _⟩) ?_
      exact W.lret (v := (f_X0_withSign i (1 : Int32) (f_X0_nearest i x1 (0 : Int32)))) hx hb hr (fun t ht hW => ⟨(f_X0_withSign i (1 : Int32) (f_X0_nearest i x1 (0 : Int32))), rfl, Eq.symm ((if_neg c_1).trans ((if_pos c_3).trans (rfl))), ht⟩) (fun q h => by cases h) dX0_fromLong_32
    · refine lv_lload_n hx hb dX0_fromLong_19 rfl (lv_at hl 2 rfl) ?_
      refine lv_lneg hx hb dX0_fromLong_20 ?_
      refine lv_goto (tgt := 25) hx hb dX0_fromLong_21 (by decide) ?_
      refine lv_iconst (v := (0 : Int32)) hx hb dX0_fromLong_25 (by decide) ?_
      refine mb_callSl (W.runV (As := [.long (-x1), .int (0 : Int32)]) (rest := [.int (1 : Int32), .ref (ad i)]) ⟨hx, hb, hml, hown, hts⟩ (c_X0_nearest l dC dI cyI cyZ cyJ tK tL tG ad i (-x1) (0 : Int32) (by first | assumption | exact lt_X2_formatOf _) ) (cwV 2 hts gX0_fromLong_X0_nearest rfl rfl rfl (by decide +kernel) ⟨Nat.le_of_ble_eq_true rfl, Nat.le_of_ble_eq_true rfl⟩) (mb_preGE hG hK hP0 (by first | assumption | exact lt_X2_formatOf _)) rfl rfl hl.1 rfl (lv_room (Nat.le_of_ble_eq_true rfl)) dX0_fromLong_26 ⟨Nat.zero_le _, Nat.zero_le _⟩) ?_
      refine mb_callSl (W.runV (As := [.int (1 : Int32), .long (f_X0_nearest i (-x1) (0 : Int32))]) (rest := []) ⟨hx, hb, hml, hown, hts⟩ (c_X0_withSign l dC dI cyI cyZ cyJ tK tL tG ad i (1 : Int32) (f_X0_nearest i (-x1) (0 : Int32)) (by first | assumption | exact lt_X2_formatOf _) ) (cwV 2 hts gX0_fromLong_X0_withSign rfl rfl rfl (by decide +kernel) ⟨Nat.le_of_ble_eq_true rfl, Nat.le_of_ble_eq_true rfl⟩) (mb_preGE hG hK hP0 (by first | assumption | exact lt_X2_formatOf _)) rfl rfl hl.1 rfl (lv_room (Nat.le_of_ble_eq_true rfl)) dX0_fromLong_29 ⟨Nat.zero_le _, Nat.zero_le _⟩) ?_
      exact W.lret (v := (f_X0_withSign i (1 : Int32) (f_X0_nearest i (-x1) (0 : Int32)))) hx hb hr (fun t ht hW => ⟨(f_X0_withSign i (1 : Int32) (f_X0_nearest i (-x1) (0 : Int32))), rfl, Eq.symm ((if_neg c_1).trans ((if_neg c_3).trans (rfl))), ht⟩) (fun q h => by cases h) dX0_fromLong_32
def f_X0_fromFormat (i : Nat) (x1 : Nat) (x2 : Int64) : Int64 := if (f_X0_withoutSign x1 x2) ≤ (fm_inf x1) then (if (0 : Int64) ≤ x2 then (if (f_X0_withoutSign x1 x2) = (fm_inf x1) then (f_X0_withSign i (0 : Int32) (fm_inf i))
      else (f_X0_withSign i (0 : Int32) (f_X0_nearest i (f_X0_significand x1 x2) (f_X0_exponent x1 x2))))
    else if (f_X0_withoutSign x1 x2) = (fm_inf x1) then (f_X0_withSign i (1 : Int32) (fm_inf i))
    else (f_X0_withSign i (1 : Int32) (f_X0_nearest i (f_X0_significand x1 x2) (f_X0_exponent x1 x2))))
  else (fm_nan i)
set_option maxHeartbeats 4000000 in
set_option maxRecDepth 100000 in
theorem c_X0_fromFormat (l : Launch) (dC : Nat → ClassId) (dI : Nat → Nat → Nat) (cyI cyZ cyJ : ClassId) (tK tL tG : Nat) (ad : Nat → Nat) (i : Nat) (x1 : Nat) (x2 : Int64) (hi : i < 2) (hj : x1 < 2) : Met l yX0_fromFormat wsX0_fromFormat ({ frames := 4, cells := 0, slots := 0, locals := 92 }) (va_Pc [.ref (ad i), .ref (ad x1), .long x2] (mb_RG tK tL tG ad (dC, dI) (mb_tys cyI cyZ cyJ) [])) (vp_Sl (fun r => r = f_X0_fromFormat i x1 x2)) 0 0 (fun _ => False) := by
  refine Met.ofW (cc := cX0_fromFormat) (maxL := 7) (ret := (some .long)) (by decide) rfl ?_
  intro p e s m args below meth c s₁ B hml hv
  obtain ⟨rfl, hG, hP, hK⟩ := hv
  have hx := B.exec
  have hb := B.bytes
  have hr := B.returns
  have hts := atoms_spec (ws := wsX0_fromFormat) B.pre
  have hown : s.vm.findClass RX0 = some m.cls := findClass_of_methodNamed B.named
  have hlocks := B.notSynchronized
  have hP0 : va_P (dC, dI) vwCl [] s.heap := fun k q h => by simp at h
  have hf_36 := hts (.fieldLink RX0 36 "ConversionTables$Format" "infinity" "J") (by decide +kernel)
  have hf_40 := hts (.fieldLink RX0 40 "ConversionTables$Format" "nan" "J") (by decide +kernel)
  have hl := lv_entry ([.ref (ad i), .ref (ad x1), .long x2]) (n := 7) (Nat.le_of_ble_eq_true rfl)
  rw [lg_entry_eq]
  generalize (lg_sl ([.ref (ad i), .ref (ad x1), .long x2]) ++ List.replicate (7 - (lg_sl ([.ref (ad i), .ref (ad x1), .long x2])).length) Slot.unset).toArray = ls at hl ⊢
  have hl : lv_has ls 7 [(0, .ref (ad i)), (1, .ref (ad x1)), (2, .long x2)] := hl
  refine lv_aload_n hx hb dX0_fromFormat_0 rfl (lv_at hl 1 rfl) ?_
  refine lv_lload_n hx hb dX0_fromFormat_1 rfl (lv_at hl 2 rfl) ?_
  refine mb_callSl (W.runV (As := [.long x2]) (rest := []) ⟨hx, hb, hml, hown, hts⟩ (c_X0_withoutSign l dC dI cyI cyZ cyJ tK tL tG ad x1 x2 (by first | assumption | exact lt_X2_formatOf _) ) (cwV 1 hts gX0_fromFormat_X0_withoutSign rfl rfl rfl (by decide +kernel) ⟨Nat.le_of_ble_eq_true rfl, Nat.le_of_ble_eq_true rfl⟩) (mb_preGE hG hK hP0 (by first | assumption | exact lt_X2_formatOf _)) rfl rfl hl.1 rfl (lv_room (Nat.le_of_ble_eq_true rfl)) dX0_fromFormat_2 ⟨Nat.zero_le _, Nat.zero_le _⟩) ?_
  refine lv_lstore (lv' := [(4, .long (f_X0_withoutSign x1 x2)), (0, .ref (ad i)), (1, .ref (ad x1)), (2, .long x2)]) hx hb dX0_fromFormat_5 hl (by decide) rfl (fun ls hl => ?_)
  refine lv_lload hx hb dX0_fromFormat_7 (lv_at hl 0 rfl) ?_
  refine lv_aload_n hx hb dX0_fromFormat_9 rfl (lv_at hl 2 rfl) ?_
  refine va_getX hx hb hG.2.2.2.2.2.2.2.1 (by first | assumption | exact lt_X2_formatOf _) va_S.rf hown hf_36 (fun _ h9 => h9) dX0_fromFormat_10 ?_
  refine mb_lc_le (tgt := 22) hx hb dX0_fromFormat_13 dX0_fromFormat_14 (by decide) (fun c_1 => ?_) (fun c_1 => ?_)
  · refine lv_lload_n hx hb dX0_fromFormat_22 rfl (lv_at hl 3 rfl) ?_
    refine lv_lconst (v := (0 : Int64)) hx hb dX0_fromFormat_23 (by decide) ?_
    refine mb_lc_ge (tgt := 32) hx hb dX0_fromFormat_24 dX0_fromFormat_25 (by decide) (fun c_2 => ?_) (fun c_2 => ?_)
    · refine lv_iconst (v := (0 : Int32)) hx hb dX0_fromFormat_32 (by decide) ?_
      refine lv_istore (lv' := [(6, .int (0 : Int32)), (4, .long (f_X0_withoutSign x1 x2)), (0, .ref (ad i)), (1, .ref (ad x1)), (2, .long x2)]) hx hb dX0_fromFormat_33 hl (by decide) rfl (fun ls hl => ?_)
      refine lv_lload hx hb dX0_fromFormat_35 (lv_at hl 1 rfl) ?_
      refine lv_aload_n hx hb dX0_fromFormat_37 rfl (lv_at hl 3 rfl) ?_
      refine va_getX hx hb hG.2.2.2.2.2.2.2.1 (by first | assumption | exact lt_X2_formatOf _) va_S.rf hown hf_36 (fun _ h9 => h9) dX0_fromFormat_38 ?_
      refine mb_lc_ne (tgt := 56) hx hb dX0_fromFormat_41 dX0_fromFormat_42 (by decide) (fun c_3 => ?_) (fun c_3 => ?_)
      · refine lv_aload_n hx hb dX0_fromFormat_56 rfl (lv_at hl 2 rfl) ?_
        refine lv_iload hx hb dX0_fromFormat_57 (lv_at hl 0 rfl) ?_
        refine lv_aload_n hx hb dX0_fromFormat_59 rfl (lv_at hl 2 rfl) ?_
        refine lv_aload_n hx hb dX0_fromFormat_60 rfl (lv_at hl 3 rfl) ?_
        refine lv_lload_n hx hb dX0_fromFormat_61 rfl (lv_at hl 4 rfl) ?_
        refine mb_callSl (W.runV (As := [.long x2]) (rest := [.ref (ad i), .int (0 : Int32), .ref (ad i)]) ⟨hx, hb, hml, hown, hts⟩ (c_X0_significand l dC dI cyI cyZ cyJ tK tL tG ad x1 x2 (by first | assumption | exact lt_X2_formatOf _) ) (cwV 1 hts gX0_fromFormat_X0_significand rfl rfl rfl (by decide +kernel) ⟨Nat.le_of_ble_eq_true rfl, Nat.le_of_ble_eq_true rfl⟩) (mb_preGE hG hK hP0 (by first | assumption | exact lt_X2_formatOf _)) rfl rfl hl.1 rfl (lv_room (Nat.le_of_ble_eq_true rfl)) dX0_fromFormat_62 ⟨Nat.zero_le _, Nat.zero_le _⟩) ?_
        refine lv_aload_n hx hb dX0_fromFormat_65 rfl (lv_at hl 3 rfl) ?_
        refine lv_lload_n hx hb dX0_fromFormat_66 rfl (lv_at hl 4 rfl) ?_
        refine mb_callSi (W.runV (As := [.long x2]) (rest := [.long (f_X0_significand x1 x2), .ref (ad i), .int (0 : Int32), .ref (ad i)]) ⟨hx, hb, hml, hown, hts⟩ (c_X0_exponent l dC dI cyI cyZ cyJ tK tL tG ad x1 x2 (by first | assumption | exact lt_X2_formatOf _) ) (cwV 1 hts gX0_fromFormat_X0_exponent rfl rfl rfl (by decide +kernel) ⟨Nat.le_of_ble_eq_true rfl, Nat.le_of_ble_eq_true rfl⟩) (mb_preGE hG hK hP0 (by first | assumption | exact lt_X2_formatOf _)) rfl rfl hl.1 rfl (lv_room (Nat.le_of_ble_eq_true rfl)) dX0_fromFormat_67 ⟨Nat.zero_le _, Nat.zero_le _⟩) ?_
        refine mb_callSl (W.runV (As := [.long (f_X0_significand x1 x2), .int (f_X0_exponent x1 x2)]) (rest := [.int (0 : Int32), .ref (ad i)]) ⟨hx, hb, hml, hown, hts⟩ (c_X0_nearest l dC dI cyI cyZ cyJ tK tL tG ad i (f_X0_significand x1 x2) (f_X0_exponent x1 x2) (by first | assumption | exact lt_X2_formatOf _) ) (cwV 2 hts gX0_fromFormat_X0_nearest rfl rfl rfl (by decide +kernel) ⟨Nat.le_of_ble_eq_true rfl, Nat.le_of_ble_eq_true rfl⟩) (mb_preGE hG hK hP0 (by first | assumption | exact lt_X2_formatOf _)) rfl rfl hl.1 rfl (lv_room (Nat.le_of_ble_eq_true rfl)) dX0_fromFormat_70 ⟨Nat.zero_le _, Nat.zero_le _⟩) ?_
        refine mb_callSl (W.runV (As := [.int (0 : Int32), .long (f_X0_nearest i (f_X0_significand x1 x2) (f_X0_exponent x1 x2))]) (rest := []) ⟨hx, hb, hml, hown, hts⟩ (c_X0_withSign l dC dI cyI cyZ cyJ tK tL tG ad i (0 : Int32) (f_X0_nearest i (f_X0_significand x1 x2) (f_X0_exponent x1 x2)) (by first | assumption | exact lt_X2_formatOf _) ) (cwV 2 hts gX0_fromFormat_X0_withSign rfl rfl rfl (by decide +kernel) ⟨Nat.le_of_ble_eq_true rfl, Nat.le_of_ble_eq_true rfl⟩) (mb_preGE hG hK hP0 (by first | assumption | exact lt_X2_formatOf _)) rfl rfl hl.1 rfl (lv_room (Nat.le_of_ble_eq_true rfl)) dX0_fromFormat_73 ⟨Nat.zero_le _, Nat.zero_le _⟩) ?_
        exact W.lret (v := (f_X0_withSign i (0 : Int32) (f_X0_nearest i (f_X0_significand x1 x2) (f_X0_exponent x1 x2)))) hx hb hr (fun t ht hW => ⟨(f_X0_withSign i (0 : Int32) (f_X0_nearest i (f_X0_significand x1 x2) (f_X0_exponent x1 x2))), rfl, Eq.symm ((if_pos c_1).trans ((if_pos c_2).trans ((if_neg c_3).trans (rfl)))), ht⟩) (fun q h => by cases h) dX0_fromFormat_76
      · refine lv_aload_n hx hb dX0_fromFormat_45 rfl (lv_at hl 2 rfl) ?_
        refine lv_iload hx hb dX0_fromFormat_46 (lv_at hl 0 rfl) ?_
        refine lv_aload_n hx hb dX0_fromFormat_48 rfl (lv_at hl 2 rfl) ?_
        refine va_getX hx hb hG.2.2.2.2.2.2.2.1 (by first | assumption | exact lt_X2_formatOf _) va_S.rf hown hf_36 (fun _ h9 => h9) dX0_fromFormat_49 ?_
        refine mb_callSl (W.runV (As := [.int (0 : Int32), .long (fm_inf i)]) (rest := []) ⟨hx, hb, hml, hown, hts⟩ (c_X0_withSign l dC dI cyI cyZ cyJ tK tL tG ad i (0 : Int32) (fm_inf i) (by first | assumption | exact lt_X2_formatOf _) ) (cwV 2 hts gX0_fromFormat_X0_withSign rfl rfl rfl (by decide +kernel) ⟨Nat.le_of_ble_eq_true rfl, Nat.le_of_ble_eq_true rfl⟩) (mb_preGE hG hK hP0 (by first | assumption | exact lt_X2_formatOf _)) rfl rfl hl.1 rfl (lv_room (Nat.le_of_ble_eq_true rfl)) dX0_fromFormat_52 ⟨Nat.zero_le _, Nat.zero_le _⟩) ?_
        exact W.lret (v := (f_X0_withSign i (0 : Int32) (fm_inf i))) hx hb hr (fun t ht hW => ⟨(f_X0_withSign i (0 : Int32) (fm_inf i)), rfl, Eq.symm ((if_pos c_1).trans ((if_pos c_2).trans ((if_pos c_3).trans (rfl)))), ht⟩) (fun q h => by cases h) dX0_fromFormat_55
    · refine lv_iconst (v := (1 : Int32)) hx hb dX0_fromFormat_28 (by decide) ?_
      refine lv_goto (tgt := 33) hx hb dX0_fromFormat_29 (by decide) ?_
      refine lv_istore (lv' := [(6, .int (1 : Int32)), (4, .long (f_X0_withoutSign x1 x2)), (0, .ref (ad i)), (1, .ref (ad x1)), (2, .long x2)]) hx hb dX0_fromFormat_33 hl (by decide) rfl (fun ls hl => ?_)
      refine lv_lload hx hb dX0_fromFormat_35 (lv_at hl 1 rfl) ?_
      refine lv_aload_n hx hb dX0_fromFormat_37 rfl (lv_at hl 3 rfl) ?_
      refine va_getX hx hb hG.2.2.2.2.2.2.2.1 (by first | assumption | exact lt_X2_formatOf _) va_S.rf hown hf_36 (fun _ h9 => h9) dX0_fromFormat_38 ?_
      refine mb_lc_ne (tgt := 56) hx hb dX0_fromFormat_41 dX0_fromFormat_42 (by decide) (fun c_4 => ?_) (fun c_4 => ?_)
      · refine lv_aload_n hx hb dX0_fromFormat_56 rfl (lv_at hl 2 rfl) ?_
        refine lv_iload hx hb dX0_fromFormat_57 (lv_at hl 0 rfl) ?_
        refine lv_aload_n hx hb dX0_fromFormat_59 rfl (lv_at hl 2 rfl) ?_
        refine lv_aload_n hx hb dX0_fromFormat_60 rfl (lv_at hl 3 rfl) ?_
        refine lv_lload_n hx hb dX0_fromFormat_61 rfl (lv_at hl 4 rfl) ?_
        refine mb_callSl (W.runV (As := [.long x2]) (rest := [.ref (ad i), .int (1 : Int32), .ref (ad i)]) ⟨hx, hb, hml, hown, hts⟩ (c_X0_significand l dC dI cyI cyZ cyJ tK tL tG ad x1 x2 (by first | assumption | exact lt_X2_formatOf _) ) (cwV 1 hts gX0_fromFormat_X0_significand rfl rfl rfl (by decide +kernel) ⟨Nat.le_of_ble_eq_true rfl, Nat.le_of_ble_eq_true rfl⟩) (mb_preGE hG hK hP0 (by first | assumption | exact lt_X2_formatOf _)) rfl rfl hl.1 rfl (lv_room (Nat.le_of_ble_eq_true rfl)) dX0_fromFormat_62 ⟨Nat.zero_le _, Nat.zero_le _⟩) ?_
        refine lv_aload_n hx hb dX0_fromFormat_65 rfl (lv_at hl 3 rfl) ?_
        refine lv_lload_n hx hb dX0_fromFormat_66 rfl (lv_at hl 4 rfl) ?_
        refine mb_callSi (W.runV (As := [.long x2]) (rest := [.long (f_X0_significand x1 x2), .ref (ad i), .int (1 : Int32), .ref (ad i)]) ⟨hx, hb, hml, hown, hts⟩ (c_X0_exponent l dC dI cyI cyZ cyJ tK tL tG ad x1 x2 (by first | assumption | exact lt_X2_formatOf _) ) (cwV 1 hts gX0_fromFormat_X0_exponent rfl rfl rfl (by decide +kernel) ⟨Nat.le_of_ble_eq_true rfl, Nat.le_of_ble_eq_true rfl⟩) (mb_preGE hG hK hP0 (by first | assumption | exact lt_X2_formatOf _)) rfl rfl hl.1 rfl (lv_room (Nat.le_of_ble_eq_true rfl)) dX0_fromFormat_67 ⟨Nat.zero_le _, Nat.zero_le _⟩) ?_
        refine mb_callSl (W.runV (As := [.long (f_X0_significand x1 x2), .int (f_X0_exponent x1 x2)]) (rest := [.int (1 : Int32), .ref (ad i)]) ⟨hx, hb, hml, hown, hts⟩ (c_X0_nearest l dC dI cyI cyZ cyJ tK tL tG ad i (f_X0_significand x1 x2) (f_X0_exponent x1 x2) (by first | assumption | exact lt_X2_formatOf _) ) (cwV 2 hts gX0_fromFormat_X0_nearest rfl rfl rfl (by decide +kernel) ⟨Nat.le_of_ble_eq_true rfl, Nat.le_of_ble_eq_true rfl⟩) (mb_preGE hG hK hP0 (by first | assumption | exact lt_X2_formatOf _)) rfl rfl hl.1 rfl (lv_room (Nat.le_of_ble_eq_true rfl)) dX0_fromFormat_70 ⟨Nat.zero_le _, Nat.zero_le _⟩) ?_
        refine mb_callSl (W.runV (As := [.int (1 : Int32), .long (f_X0_nearest i (f_X0_significand x1 x2) (f_X0_exponent x1 x2))]) (rest := []) ⟨hx, hb, hml, hown, hts⟩ (c_X0_withSign l dC dI cyI cyZ cyJ tK tL tG ad i (1 : Int32) (f_X0_nearest i (f_X0_significand x1 x2) (f_X0_exponent x1 x2)) (by first | assumption | exact lt_X2_formatOf _) ) (cwV 2 hts gX0_fromFormat_X0_withSign rfl rfl rfl (by decide +kernel) ⟨Nat.le_of_ble_eq_true rfl, Nat.le_of_ble_eq_true rfl⟩) (mb_preGE hG hK hP0 (by first | assumption | exact lt_X2_formatOf _)) rfl rfl hl.1 rfl (lv_room (Nat.le_of_ble_eq_true rfl)) dX0_fromFormat_73 ⟨Nat.zero_le _, Nat.zero_le _⟩) ?_
        exact W.lret (v := (f_X0_withSign i (1 : Int32) (f_X0_nearest i (f_X0_significand x1 x2) (f_X0_exponent x1 x2)))) hx hb hr (fun t ht hW => ⟨(f_X0_withSign i (1 : Int32) (f_X0_nearest i (f_X0_significand x1 x2) (f_X0_exponent x1 x2))), rfl, Eq.symm ((if_pos c_1).trans ((if_neg c_2).trans ((if_neg c_4).trans (rfl)))), ht⟩) (fun q h => by cases h) dX0_fromFormat_76
      · refine lv_aload_n hx hb dX0_fromFormat_45 rfl (lv_at hl 2 rfl) ?_
        refine lv_iload hx hb dX0_fromFormat_46 (lv_at hl 0 rfl) ?_
        refine lv_aload_n hx hb dX0_fromFormat_48 rfl (lv_at hl 2 rfl) ?_
        refine va_getX hx hb hG.2.2.2.2.2.2.2.1 (by first | assumption | exact lt_X2_formatOf _) va_S.rf hown hf_36 (fun _ h9 => h9) dX0_fromFormat_49 ?_
        refine mb_callSl (W.runV (As := [.int (1 : Int32), .long (fm_inf i)]) (rest := []) ⟨hx, hb, hml, hown, hts⟩ (c_X0_withSign l dC dI cyI cyZ cyJ tK tL tG ad i (1 : Int32) (fm_inf i) (by first | assumption | exact lt_X2_formatOf _) ) (cwV 2 hts gX0_fromFormat_X0_withSign rfl rfl rfl (by decide +kernel) ⟨Nat.le_of_ble_eq_true rfl, Nat.le_of_ble_eq_true rfl⟩) (mb_preGE hG hK hP0 (by first | assumption | exact lt_X2_formatOf _)) rfl rfl hl.1 rfl (lv_room (Nat.le_of_ble_eq_true rfl)) dX0_fromFormat_52 ⟨Nat.zero_le _, Nat.zero_le _⟩) ?_
        exact W.lret (v := (f_X0_withSign i (1 : Int32) (fm_inf i))) hx hb hr (fun t ht hW => ⟨(f_X0_withSign i (1 : Int32) (fm_inf i)), rfl, Eq.symm ((if_pos c_1).trans ((if_neg c_2).trans ((if_pos c_4).trans (rfl)))), ht⟩) (fun q h => by cases h) dX0_fromFormat_55
  · refine lv_aload_n hx hb dX0_fromFormat_17 rfl (lv_at hl 1 rfl) ?_
    refine va_getX hx hb hG.2.2.2.2.2.2.2.2.1 (by first | assumption | exact lt_X2_formatOf _) va_S.rf hown hf_40 (fun _ h9 => h9) dX0_fromFormat_18 ?_
    exact W.lret (v := (fm_nan i)) hx hb hr (fun t ht hW => ⟨(fm_nan i), rfl, Eq.symm ((if_neg c_1).trans (rfl)), ht⟩) (fun q h => by cases h) dX0_fromFormat_21
def f_X0_toLong_z_4 (i : Nat) (x1 : Int64) (z_4 : Int64) : Int64 := if (0 : Int32) = 0 then z_4
  else (-z_4)
def f_X0_toLong_z_8 (i : Nat) (x1 : Int64) (z_8 : Int64) : Int64 := if (1 : Int32) = 0 then z_8
  else (-z_8)
def f_X0_toLong (i : Nat) (x1 : Int64) : Int64 := if (f_X0_withoutSign i x1) ≤ (fm_inf i) then (if (0 : Int64) ≤ x1 then (if ((f_X0_exponent i x1) + (f_X0_widthOf (f_X0_significand i x1))) ≤ (63 : Int32) then f_X0_toLong_z_4 i x1 (f_X0_shifted (f_X0_significand i x1) (f_X0_exponent i x1))
      else if (0 : Int32) = 0 then (9223372036854775807 : Int64)
      else (-9223372036854775808 : Int64))
    else if ((f_X0_exponent i x1) + (f_X0_widthOf (f_X0_significand i x1))) ≤ (63 : Int32) then f_X0_toLong_z_8 i x1 (f_X0_shifted (f_X0_significand i x1) (f_X0_exponent i x1))
    else if (1 : Int32) = 0 then (9223372036854775807 : Int64)
    else (-9223372036854775808 : Int64))
  else (0 : Int64)
set_option maxHeartbeats 4000000 in
set_option maxRecDepth 100000 in
theorem c_X0_toLong (l : Launch) (dC : Nat → ClassId) (dI : Nat → Nat → Nat) (cyI cyZ cyJ : ClassId) (tK tL tG : Nat) (ad : Nat → Nat) (i : Nat) (x1 : Int64) (hi : i < 2) : Met l yX0_toLong wsX0_toLong ({ frames := 3, cells := 0, slots := 0, locals := 70 }) (va_Pc [.ref (ad i), .long x1] (mb_RG tK tL tG ad (dC, dI) (mb_tys cyI cyZ cyJ) [])) (vp_Sl (fun r => r = f_X0_toLong i x1)) 0 0 (fun _ => False) := by
  refine Met.ofW (cc := cX0_toLong) (maxL := 9) (ret := (some .long)) (by decide) rfl ?_
  intro p e s m args below meth c s₁ B hml hv
  obtain ⟨rfl, hG, hP, hK⟩ := hv
  have hx := B.exec
  have hb := B.bytes
  have hr := B.returns
  have hts := atoms_spec (ws := wsX0_toLong) B.pre
  have hown : s.vm.findClass RX0 = some m.cls := findClass_of_methodNamed B.named
  have hlocks := B.notSynchronized
  have hP0 : va_P (dC, dI) vwCl [] s.heap := fun k q h => by simp at h
  have hf_36 := hts (.fieldLink RX0 36 "ConversionTables$Format" "infinity" "J") (by decide +kernel)
  have hl := lv_entry ([.ref (ad i), .long x1]) (n := 9) (Nat.le_of_ble_eq_true rfl)
  rw [lg_entry_eq]
  generalize (lg_sl ([.ref (ad i), .long x1]) ++ List.replicate (9 - (lg_sl ([.ref (ad i), .long x1])).length) Slot.unset).toArray = ls at hl ⊢
  have hl : lv_has ls 9 [(0, .ref (ad i)), (1, .long x1)] := hl
  refine lv_aload_n hx hb dX0_toLong_0 rfl (lv_at hl 0 rfl) ?_
  refine lv_lload_n hx hb dX0_toLong_1 rfl (lv_at hl 1 rfl) ?_
  refine mb_callSl (W.runV (As := [.long x1]) (rest := []) ⟨hx, hb, hml, hown, hts⟩ (c_X0_withoutSign l dC dI cyI cyZ cyJ tK tL tG ad i x1 (by first | assumption | exact lt_X2_formatOf _) ) (cwV 1 hts gX0_toLong_X0_withoutSign rfl rfl rfl (by decide +kernel) ⟨Nat.le_of_ble_eq_true rfl, Nat.le_of_ble_eq_true rfl⟩) (mb_preGE hG hK hP0 (by first | assumption | exact lt_X2_formatOf _)) rfl rfl hl.1 rfl (lv_room (Nat.le_of_ble_eq_true rfl)) dX0_toLong_2 ⟨Nat.zero_le _, Nat.zero_le _⟩) ?_
  refine lv_aload_n hx hb dX0_toLong_5 rfl (lv_at hl 0 rfl) ?_
  refine va_getX hx hb hG.2.2.2.2.2.2.2.1 (by first | assumption | exact lt_X2_formatOf _) va_S.rf hown hf_36 (fun _ h9 => h9) dX0_toLong_6 ?_
  refine mb_lc_le (tgt := 15) hx hb dX0_toLong_9 dX0_toLong_10 (by decide) (fun c_1 => ?_) (fun c_1 => ?_)
  · refine lv_lload_n hx hb dX0_toLong_15 rfl (lv_at hl 1 rfl) ?_
    refine lv_lconst (v := (0 : Int64)) hx hb dX0_toLong_16 (by decide) ?_
    refine mb_lc_ge (tgt := 25) hx hb dX0_toLong_17 dX0_toLong_18 (by decide) (fun c_2 => ?_) (fun c_2 => ?_)
    · refine lv_iconst (v := (0 : Int32)) hx hb dX0_toLong_25 (by decide) ?_
      refine lv_istore_n (lv' := [(3, .int (0 : Int32)), (0, .ref (ad i)), (1, .long x1)]) hx hb dX0_toLong_26 rfl hl (by decide) rfl (fun ls hl => ?_)
      refine lv_aload_n hx hb dX0_toLong_27 rfl (lv_at hl 1 rfl) ?_
      refine lv_lload_n hx hb dX0_toLong_28 rfl (lv_at hl 2 rfl) ?_
      refine mb_callSl (W.runV (As := [.long x1]) (rest := []) ⟨hx, hb, hml, hown, hts⟩ (c_X0_significand l dC dI cyI cyZ cyJ tK tL tG ad i x1 (by first | assumption | exact lt_X2_formatOf _) ) (cwV 1 hts gX0_toLong_X0_significand rfl rfl rfl (by decide +kernel) ⟨Nat.le_of_ble_eq_true rfl, Nat.le_of_ble_eq_true rfl⟩) (mb_preGE hG hK hP0 (by first | assumption | exact lt_X2_formatOf _)) rfl rfl hl.1 rfl (lv_room (Nat.le_of_ble_eq_true rfl)) dX0_toLong_29 ⟨Nat.zero_le _, Nat.zero_le _⟩) ?_
      refine lv_lstore (lv' := [(4, .long (f_X0_significand i x1)), (3, .int (0 : Int32)), (0, .ref (ad i)), (1, .long x1)]) hx hb dX0_toLong_32 hl (by decide) rfl (fun ls hl => ?_)
      refine lv_aload_n hx hb dX0_toLong_34 rfl (lv_at hl 2 rfl) ?_
      refine lv_lload_n hx hb dX0_toLong_35 rfl (lv_at hl 3 rfl) ?_
      refine mb_callSi (W.runV (As := [.long x1]) (rest := []) ⟨hx, hb, hml, hown, hts⟩ (c_X0_exponent l dC dI cyI cyZ cyJ tK tL tG ad i x1 (by first | assumption | exact lt_X2_formatOf _) ) (cwV 1 hts gX0_toLong_X0_exponent rfl rfl rfl (by decide +kernel) ⟨Nat.le_of_ble_eq_true rfl, Nat.le_of_ble_eq_true rfl⟩) (mb_preGE hG hK hP0 (by first | assumption | exact lt_X2_formatOf _)) rfl rfl hl.1 rfl (lv_room (Nat.le_of_ble_eq_true rfl)) dX0_toLong_36 ⟨Nat.zero_le _, Nat.zero_le _⟩) ?_
      refine lv_istore (lv' := [(6, .int (f_X0_exponent i x1)), (4, .long (f_X0_significand i x1)), (3, .int (0 : Int32)), (0, .ref (ad i)), (1, .long x1)]) hx hb dX0_toLong_39 hl (by decide) rfl (fun ls hl => ?_)
      refine lv_iload hx hb dX0_toLong_41 (lv_at hl 0 rfl) ?_
      refine lv_lload hx hb dX0_toLong_43 (lv_at hl 1 rfl) ?_
      refine mb_callSi (W.runS (As := [.long (f_X0_significand i x1)]) (rest := [.int (f_X0_exponent i x1)]) ⟨hx, hb, hml, hown, hts⟩ (c_X0_widthOf l (f_X0_significand i x1)) (va_cwS 1 hts gX0_toLong_X0_widthOf rfl rfl rfl (by decide +kernel) ⟨Nat.le_of_ble_eq_true rfl, Nat.le_of_ble_eq_true rfl⟩) mb_preT rfl rfl hl.1 rfl (lv_room (Nat.le_of_ble_eq_true rfl)) dX0_toLong_45 ⟨Nat.zero_le _, Nat.zero_le _⟩) ?_
      refine lv_iadd hx hb dX0_toLong_48 ?_
      refine lv_bipush (v := (63 : Int32)) hx hb dX0_toLong_49 (by decide) ?_
      refine lv_icmp_le (tgt := 68) hx hb dX0_toLong_51 (by decide) (fun c_3 => ?_) (fun c_3 => ?_)
      · refine lv_lload hx hb dX0_toLong_68 (lv_at hl 1 rfl) ?_
        refine lv_iload hx hb dX0_toLong_70 (lv_at hl 0 rfl) ?_
        refine mb_callSl (W.runS (As := [.long (f_X0_significand i x1), .int (f_X0_exponent i x1)]) (rest := []) ⟨hx, hb, hml, hown, hts⟩ (c_X0_shifted l (f_X0_significand i x1) (f_X0_exponent i x1)) (va_cwS 2 hts gX0_toLong_X0_shifted rfl rfl rfl (by decide +kernel) ⟨Nat.le_of_ble_eq_true rfl, Nat.le_of_ble_eq_true rfl⟩) mb_preT rfl rfl hl.1 rfl (lv_room (Nat.le_of_ble_eq_true rfl)) dX0_toLong_72 ⟨Nat.zero_le _, Nat.zero_le _⟩) ?_
        refine lv_topl (fun z_4 ez_4 => ?_)
        refine lv_lstore (lv' := [(7, .long z_4), (6, .int (f_X0_exponent i x1)), (4, .long (f_X0_significand i x1)), (3, .int (0 : Int32)), (0, .ref (ad i)), (1, .long x1)]) hx hb dX0_toLong_75 hl (by decide) rfl (fun ls hl => ?_)
        refine lv_iload_n hx hb dX0_toLong_77 rfl (lv_at hl 3 rfl) ?_
        refine lv_if_eq (tgt := 87) hx hb dX0_toLong_78 (by decide) (fun c_5 => ?_) (fun c_5 => ?_)
        · refine lv_lload hx hb dX0_toLong_87 (lv_at hl 0 rfl) ?_
          exact W.lret (v := z_4) hx hb hr (fun t ht hW => ⟨z_4, rfl, Eq.symm ((if_pos c_1).trans ((if_pos c_2).trans ((if_pos c_3).trans ((congrArg (f_X0_toLong_z_4 i x1) (Eq.symm ez_4)).trans ((if_pos c_5).trans (rfl)))))), ht⟩) (fun q h => by cases h) dX0_toLong_89
        · refine lv_lload hx hb dX0_toLong_81 (lv_at hl 0 rfl) ?_
          refine lv_lneg hx hb dX0_toLong_83 ?_
          refine lv_goto (tgt := 89) hx hb dX0_toLong_84 (by decide) ?_
          exact W.lret (v := (-z_4)) hx hb hr (fun t ht hW => ⟨(-z_4), rfl, Eq.symm ((if_pos c_1).trans ((if_pos c_2).trans ((if_pos c_3).trans ((congrArg (f_X0_toLong_z_4 i x1) (Eq.symm ez_4)).trans ((if_neg c_5).trans (rfl)))))), ht⟩) (fun q h => by cases h) dX0_toLong_89
      · refine lv_iload_n hx hb dX0_toLong_54 rfl (lv_at hl 2 rfl) ?_
        refine lv_if_eq (tgt := 64) hx hb dX0_toLong_55 (by decide) (fun c_6 => ?_) (fun c_6 => ?_)
        · refine lv_ldc2 (v := (9223372036854775807 : Int64)) hx hb hown (hts (.constantLong RX0 81 (9223372036854775807)) (by decide +kernel)) dX0_toLong_64 ?_
          exact W.lret (v := (9223372036854775807 : Int64)) hx hb hr (fun t ht hW => ⟨(9223372036854775807 : Int64), rfl, Eq.symm ((if_pos c_1).trans ((if_pos c_2).trans ((if_neg c_3).trans ((if_pos c_6).trans (rfl))))), ht⟩) (fun q h => by cases h) dX0_toLong_67
        · refine lv_ldc2 (v := (-9223372036854775808 : Int64)) hx hb hown (hts (.constantLong RX0 79 (-9223372036854775808)) (by decide +kernel)) dX0_toLong_58 ?_
          refine lv_goto (tgt := 67) hx hb dX0_toLong_61 (by decide) ?_
          exact W.lret (v := (-9223372036854775808 : Int64)) hx hb hr (fun t ht hW => ⟨(-9223372036854775808 : Int64), rfl, Eq.symm ((if_pos c_1).trans ((if_pos c_2).trans ((if_neg c_3).trans ((if_neg c_6).trans (rfl))))), ht⟩) (fun q h => by cases h) dX0_toLong_67
    · refine lv_iconst (v := (1 : Int32)) hx hb dX0_toLong_21 (by decide) ?_
      refine lv_goto (tgt := 26) hx hb dX0_toLong_22 (by decide) ?_
      refine lv_istore_n (lv' := [(3, .int (1 : Int32)), (0, .ref (ad i)), (1, .long x1)]) hx hb dX0_toLong_26 rfl hl (by decide) rfl (fun ls hl => ?_)
      refine lv_aload_n hx hb dX0_toLong_27 rfl (lv_at hl 1 rfl) ?_
      refine lv_lload_n hx hb dX0_toLong_28 rfl (lv_at hl 2 rfl) ?_
      refine mb_callSl (W.runV (As := [.long x1]) (rest := []) ⟨hx, hb, hml, hown, hts⟩ (c_X0_significand l dC dI cyI cyZ cyJ tK tL tG ad i x1 (by first | assumption | exact lt_X2_formatOf _) ) (cwV 1 hts gX0_toLong_X0_significand rfl rfl rfl (by decide +kernel) ⟨Nat.le_of_ble_eq_true rfl, Nat.le_of_ble_eq_true rfl⟩) (mb_preGE hG hK hP0 (by first | assumption | exact lt_X2_formatOf _)) rfl rfl hl.1 rfl (lv_room (Nat.le_of_ble_eq_true rfl)) dX0_toLong_29 ⟨Nat.zero_le _, Nat.zero_le _⟩) ?_
      refine lv_lstore (lv' := [(4, .long (f_X0_significand i x1)), (3, .int (1 : Int32)), (0, .ref (ad i)), (1, .long x1)]) hx hb dX0_toLong_32 hl (by decide) rfl (fun ls hl => ?_)
      refine lv_aload_n hx hb dX0_toLong_34 rfl (lv_at hl 2 rfl) ?_
      refine lv_lload_n hx hb dX0_toLong_35 rfl (lv_at hl 3 rfl) ?_
      refine mb_callSi (W.runV (As := [.long x1]) (rest := []) ⟨hx, hb, hml, hown, hts⟩ (c_X0_exponent l dC dI cyI cyZ cyJ tK tL tG ad i x1 (by first | assumption | exact lt_X2_formatOf _) ) (cwV 1 hts gX0_toLong_X0_exponent rfl rfl rfl (by decide +kernel) ⟨Nat.le_of_ble_eq_true rfl, Nat.le_of_ble_eq_true rfl⟩) (mb_preGE hG hK hP0 (by first | assumption | exact lt_X2_formatOf _)) rfl rfl hl.1 rfl (lv_room (Nat.le_of_ble_eq_true rfl)) dX0_toLong_36 ⟨Nat.zero_le _, Nat.zero_le _⟩) ?_
      refine lv_istore (lv' := [(6, .int (f_X0_exponent i x1)), (4, .long (f_X0_significand i x1)), (3, .int (1 : Int32)), (0, .ref (ad i)), (1, .long x1)]) hx hb dX0_toLong_39 hl (by decide) rfl (fun ls hl => ?_)
      refine lv_iload hx hb dX0_toLong_41 (lv_at hl 0 rfl) ?_
      refine lv_lload hx hb dX0_toLong_43 (lv_at hl 1 rfl) ?_
      refine mb_callSi (W.runS (As := [.long (f_X0_significand i x1)]) (rest := [.int (f_X0_exponent i x1)]) ⟨hx, hb, hml, hown, hts⟩ (c_X0_widthOf l (f_X0_significand i x1)) (va_cwS 1 hts gX0_toLong_X0_widthOf rfl rfl rfl (by decide +kernel) ⟨Nat.le_of_ble_eq_true rfl, Nat.le_of_ble_eq_true rfl⟩) mb_preT rfl rfl hl.1 rfl (lv_room (Nat.le_of_ble_eq_true rfl)) dX0_toLong_45 ⟨Nat.zero_le _, Nat.zero_le _⟩) ?_
      refine lv_iadd hx hb dX0_toLong_48 ?_
      refine lv_bipush (v := (63 : Int32)) hx hb dX0_toLong_49 (by decide) ?_
      refine lv_icmp_le (tgt := 68) hx hb dX0_toLong_51 (by decide) (fun c_7 => ?_) (fun c_7 => ?_)
      · refine lv_lload hx hb dX0_toLong_68 (lv_at hl 1 rfl) ?_
        refine lv_iload hx hb dX0_toLong_70 (lv_at hl 0 rfl) ?_
        refine mb_callSl (W.runS (As := [.long (f_X0_significand i x1), .int (f_X0_exponent i x1)]) (rest := []) ⟨hx, hb, hml, hown, hts⟩ (c_X0_shifted l (f_X0_significand i x1) (f_X0_exponent i x1)) (va_cwS 2 hts gX0_toLong_X0_shifted rfl rfl rfl (by decide +kernel) ⟨Nat.le_of_ble_eq_true rfl, Nat.le_of_ble_eq_true rfl⟩) mb_preT rfl rfl hl.1 rfl (lv_room (Nat.le_of_ble_eq_true rfl)) dX0_toLong_72 ⟨Nat.zero_le _, Nat.zero_le _⟩) ?_
        refine lv_topl (fun z_8 ez_8 => ?_)
        refine lv_lstore (lv' := [(7, .long z_8), (6, .int (f_X0_exponent i x1)), (4, .long (f_X0_significand i x1)), (3, .int (1 : Int32)), (0, .ref (ad i)), (1, .long x1)]) hx hb dX0_toLong_75 hl (by decide) rfl (fun ls hl => ?_)
        refine lv_iload_n hx hb dX0_toLong_77 rfl (lv_at hl 3 rfl) ?_
        refine lv_if_eq (tgt := 87) hx hb dX0_toLong_78 (by decide) (fun c_9 => ?_) (fun c_9 => ?_)
        · refine lv_lload hx hb dX0_toLong_87 (lv_at hl 0 rfl) ?_
          exact W.lret (v := z_8) hx hb hr (fun t ht hW => ⟨z_8, rfl, Eq.symm ((if_pos c_1).trans ((if_neg c_2).trans ((if_pos c_7).trans ((congrArg (f_X0_toLong_z_8 i x1) (Eq.symm ez_8)).trans ((if_pos c_9).trans (rfl)))))), ht⟩) (fun q h => by cases h) dX0_toLong_89
        · refine lv_lload hx hb dX0_toLong_81 (lv_at hl 0 rfl) ?_
          refine lv_lneg hx hb dX0_toLong_83 ?_
          refine lv_goto (tgt := 89) hx hb dX0_toLong_84 (by decide) ?_
          exact W.lret (v := (-z_8)) hx hb hr (fun t ht hW => ⟨(-z_8), rfl, Eq.symm ((if_pos c_1).trans ((if_neg c_2).trans ((if_pos c_7).trans ((congrArg (f_X0_toLong_z_8 i x1) (Eq.symm ez_8)).trans ((if_neg c_9).trans (rfl)))))), ht⟩) (fun q h => by cases h) dX0_toLong_89
      · refine lv_iload_n hx hb dX0_toLong_54 rfl (lv_at hl 2 rfl) ?_
        refine lv_if_eq (tgt := 64) hx hb dX0_toLong_55 (by decide) (fun c_10 => ?_) (fun c_10 => ?_)
        · refine lv_ldc2 (v := (9223372036854775807 : Int64)) hx hb hown (hts (.constantLong RX0 81 (9223372036854775807)) (by decide +kernel)) dX0_toLong_64 ?_
          exact W.lret (v := (9223372036854775807 : Int64)) hx hb hr (fun t ht hW => ⟨(9223372036854775807 : Int64), rfl, Eq.symm ((if_pos c_1).trans ((if_neg c_2).trans ((if_neg c_7).trans ((if_pos c_10).trans (rfl))))), ht⟩) (fun q h => by cases h) dX0_toLong_67
        · refine lv_ldc2 (v := (-9223372036854775808 : Int64)) hx hb hown (hts (.constantLong RX0 79 (-9223372036854775808)) (by decide +kernel)) dX0_toLong_58 ?_
          refine lv_goto (tgt := 67) hx hb dX0_toLong_61 (by decide) ?_
          exact W.lret (v := (-9223372036854775808 : Int64)) hx hb hr (fun t ht hW => ⟨(-9223372036854775808 : Int64), rfl, Eq.symm ((if_pos c_1).trans ((if_neg c_2).trans ((if_neg c_7).trans ((if_neg c_10).trans (rfl))))), ht⟩) (fun q h => by cases h) dX0_toLong_67
  · refine lv_lconst (v := (0 : Int64)) hx hb dX0_toLong_13 (by decide) ?_
    exact W.lret (v := (0 : Int64)) hx hb hr (fun t ht hW => ⟨(0 : Int64), rfl, Eq.symm ((if_neg c_1).trans (rfl)), ht⟩) (fun q h => by cases h) dX0_toLong_14
def f_X2_turnedToFloating (x1 : Int32) (x2 : Int64) (x3 : Int32) : Int64 := if (f_X2_isWhole x1) = 0 then (f_X0_fromFormat (fx_X2_formatOf x3) (fx_X2_formatOf x1) x2)
  else (f_X0_fromLong (fx_X2_formatOf x3) x2)
set_option maxHeartbeats 4000000 in
set_option maxRecDepth 100000 in
theorem c_X2_turnedToFloating (l : Launch) (dC : Nat → ClassId) (dI : Nat → Nat → Nat) (cyI cyZ cyJ : ClassId) (tK tL tG : Nat) (ad : Nat → Nat) (x1 : Int32) (x2 : Int64) (x3 : Int32) : Met l yX2_turnedToFloating wsX2_turnedToFloating ({ frames := 5, cells := 0, slots := 0, locals := 118 }) (va_Pc [.int x1, .long x2, .int x3] (mb_RG tK tL tG ad (dC, dI) (mb_tys cyI cyZ cyJ) [])) (vp_Sl (fun r => r = f_X2_turnedToFloating x1 x2 x3)) 0 0 (fun _ => False) := by
  refine Met.ofW (cc := cX2_turnedToFloating) (maxL := 4) (ret := (some .long)) (by decide) rfl ?_
  intro p e s m args below meth c s₁ B hml hv
  obtain ⟨rfl, hG, hP, hK⟩ := hv
  have hx := B.exec
  have hb := B.bytes
  have hr := B.returns
  have hts := atoms_spec (ws := wsX2_turnedToFloating) B.pre
  have hown : s.vm.findClass RX2 = some m.cls := findClass_of_methodNamed B.named
  have hlocks := B.notSynchronized
  have hP0 : va_P (dC, dI) vwCl [] s.heap := fun k q h => by simp at h
  have hl := lv_entry ([.int x1, .long x2, .int x3]) (n := 4) (Nat.le_of_ble_eq_true rfl)
  rw [lg_entry_eq]
  generalize (lg_sl ([.int x1, .long x2, .int x3]) ++ List.replicate (4 - (lg_sl ([.int x1, .long x2, .int x3])).length) Slot.unset).toArray = ls at hl ⊢
  have hl : lv_has ls 4 [(0, .int x1), (1, .long x2), (3, .int x3)] := hl
  refine lv_iload_n hx hb dX2_turnedToFloating_0 rfl (lv_at hl 0 rfl) ?_
  refine mb_callSi (W.runS (As := [.int x1]) (rest := []) ⟨hx, hb, hml, hown, hts⟩ (c_X2_isWhole l x1) (va_cwS 1 hts gX2_turnedToFloating_X2_isWhole rfl rfl rfl (by decide +kernel) ⟨Nat.le_of_ble_eq_true rfl, Nat.le_of_ble_eq_true rfl⟩) mb_preT rfl rfl hl.1 rfl (lv_room (Nat.le_of_ble_eq_true rfl)) dX2_turnedToFloating_1 ⟨Nat.zero_le _, Nat.zero_le _⟩) ?_
  refine lv_if_eq (tgt := 16) hx hb dX2_turnedToFloating_4 (by decide) (fun c_1 => ?_) (fun c_1 => ?_)
  · refine lv_iload_n hx hb dX2_turnedToFloating_16 rfl (lv_at hl 2 rfl) ?_
    refine va_cse (W.runS (As := [.int x3]) (rest := []) ⟨hx, hb, hml, hown, hts⟩ (c_X2_formatOf l dC dI cyI cyZ cyJ tK tL tG ad x3) (va_cwS 1 hts gX2_turnedToFloating_X2_formatOf rfl rfl rfl (by decide +kernel) ⟨Nat.le_of_ble_eq_true rfl, Nat.le_of_ble_eq_true rfl⟩) (mb_preGS hG hK hP0) rfl rfl hl.1 rfl (lv_room (Nat.le_of_ble_eq_true rfl)) dX2_turnedToFloating_17 ⟨Nat.zero_le _, Nat.zero_le _⟩) (fun r er => ?_)
    subst er
    refine lv_iload_n hx hb dX2_turnedToFloating_20 rfl (lv_at hl 0 rfl) ?_
    refine va_cse (W.runS (As := [.int x1]) (rest := [.ref (ad (fx_X2_formatOf x3))]) ⟨hx, hb, hml, hown, hts⟩ (c_X2_formatOf l dC dI cyI cyZ cyJ tK tL tG ad x1) (va_cwS 1 hts gX2_turnedToFloating_X2_formatOf rfl rfl rfl (by decide +kernel) ⟨Nat.le_of_ble_eq_true rfl, Nat.le_of_ble_eq_true rfl⟩) (mb_preGS hG hK hP0) rfl rfl hl.1 rfl (lv_room (Nat.le_of_ble_eq_true rfl)) dX2_turnedToFloating_21 ⟨Nat.zero_le _, Nat.zero_le _⟩) (fun r er => ?_)
    subst er
    refine lv_lload_n hx hb dX2_turnedToFloating_24 rfl (lv_at hl 1 rfl) ?_
    refine mb_callSl (W.runV (As := [.ref (ad (fx_X2_formatOf x1)), .long x2]) (rest := []) ⟨hx, hb, hml, hown, hts⟩ (c_X0_fromFormat l dC dI cyI cyZ cyJ tK tL tG ad (fx_X2_formatOf x3) (fx_X2_formatOf x1) x2 (by first | assumption | exact lt_X2_formatOf _) (lt_X2_formatOf x1)) (cwV 2 hts gX2_turnedToFloating_X0_fromFormat rfl rfl rfl (by decide +kernel) ⟨Nat.le_of_ble_eq_true rfl, Nat.le_of_ble_eq_true rfl⟩) (mb_preGE hG hK hP0 (by first | assumption | exact lt_X2_formatOf _)) rfl rfl hl.1 rfl (lv_room (Nat.le_of_ble_eq_true rfl)) dX2_turnedToFloating_25 ⟨Nat.zero_le _, Nat.zero_le _⟩) ?_
    exact W.lret (v := (f_X0_fromFormat (fx_X2_formatOf x3) (fx_X2_formatOf x1) x2)) hx hb hr (fun t ht hW => ⟨(f_X0_fromFormat (fx_X2_formatOf x3) (fx_X2_formatOf x1) x2), rfl, Eq.symm ((if_pos c_1).trans (rfl)), ht⟩) (fun q h => by cases h) dX2_turnedToFloating_28
  · refine lv_iload_n hx hb dX2_turnedToFloating_7 rfl (lv_at hl 2 rfl) ?_
    refine va_cse (W.runS (As := [.int x3]) (rest := []) ⟨hx, hb, hml, hown, hts⟩ (c_X2_formatOf l dC dI cyI cyZ cyJ tK tL tG ad x3) (va_cwS 1 hts gX2_turnedToFloating_X2_formatOf rfl rfl rfl (by decide +kernel) ⟨Nat.le_of_ble_eq_true rfl, Nat.le_of_ble_eq_true rfl⟩) (mb_preGS hG hK hP0) rfl rfl hl.1 rfl (lv_room (Nat.le_of_ble_eq_true rfl)) dX2_turnedToFloating_8 ⟨Nat.zero_le _, Nat.zero_le _⟩) (fun r er => ?_)
    subst er
    refine lv_lload_n hx hb dX2_turnedToFloating_11 rfl (lv_at hl 1 rfl) ?_
    refine mb_callSl (W.runV (As := [.long x2]) (rest := []) ⟨hx, hb, hml, hown, hts⟩ (c_X0_fromLong l dC dI cyI cyZ cyJ tK tL tG ad (fx_X2_formatOf x3) x2 (by first | assumption | exact lt_X2_formatOf _) ) (cwV 1 hts gX2_turnedToFloating_X0_fromLong rfl rfl rfl (by decide +kernel) ⟨Nat.le_of_ble_eq_true rfl, Nat.le_of_ble_eq_true rfl⟩) (mb_preGE hG hK hP0 (by first | assumption | exact lt_X2_formatOf _)) rfl rfl hl.1 rfl (lv_room (Nat.le_of_ble_eq_true rfl)) dX2_turnedToFloating_12 ⟨Nat.zero_le _, Nat.zero_le _⟩) ?_
    exact W.lret (v := (f_X0_fromLong (fx_X2_formatOf x3) x2)) hx hb hr (fun t ht hW => ⟨(f_X0_fromLong (fx_X2_formatOf x3) x2), rfl, Eq.symm ((if_neg c_1).trans (rfl)), ht⟩) (fun q h => by cases h) dX2_turnedToFloating_15
def f_X2_turnedToWhole (x1 : Int32) (x2 : Int64) (x3 : Int32) : Int64 := if (f_X2_isWhole x1) = 0 then (if x3 = (5 : Int32) then (f_X0_toLong (fx_X2_formatOf x1) x2)
    else (f_X2_lowestBits (f_X2_nearestInt (f_X0_toLong (fx_X2_formatOf x1) x2)) x3))
  else (f_X2_lowestBits x2 x3)
set_option maxHeartbeats 4000000 in
set_option maxRecDepth 100000 in
theorem c_X2_turnedToWhole (l : Launch) (dC : Nat → ClassId) (dI : Nat → Nat → Nat) (cyI cyZ cyJ : ClassId) (tK tL tG : Nat) (ad : Nat → Nat) (x1 : Int32) (x2 : Int64) (x3 : Int32) : Met l yX2_turnedToWhole wsX2_turnedToWhole ({ frames := 4, cells := 0, slots := 0, locals := 98 }) (va_Pc [.int x1, .long x2, .int x3] (mb_RG tK tL tG ad (dC, dI) (mb_tys cyI cyZ cyJ) [])) (vp_Sl (fun r => r = f_X2_turnedToWhole x1 x2 x3)) 0 0 (fun _ => False) := by
  refine Met.ofW (cc := cX2_turnedToWhole) (maxL := 6) (ret := (some .long)) (by decide) rfl ?_
  intro p e s m args below meth c s₁ B hml hv
  obtain ⟨rfl, hG, hP, hK⟩ := hv
  have hx := B.exec
  have hb := B.bytes
  have hr := B.returns
  have hts := atoms_spec (ws := wsX2_turnedToWhole) B.pre
  have hown : s.vm.findClass RX2 = some m.cls := findClass_of_methodNamed B.named
  have hlocks := B.notSynchronized
  have hP0 : va_P (dC, dI) vwCl [] s.heap := fun k q h => by simp at h
  have hl := lv_entry ([.int x1, .long x2, .int x3]) (n := 6) (Nat.le_of_ble_eq_true rfl)
  rw [lg_entry_eq]
  generalize (lg_sl ([.int x1, .long x2, .int x3]) ++ List.replicate (6 - (lg_sl ([.int x1, .long x2, .int x3])).length) Slot.unset).toArray = ls at hl ⊢
  have hl : lv_has ls 6 [(0, .int x1), (1, .long x2), (3, .int x3)] := hl
  refine lv_iload_n hx hb dX2_turnedToWhole_0 rfl (lv_at hl 0 rfl) ?_
  refine mb_callSi (W.runS (As := [.int x1]) (rest := []) ⟨hx, hb, hml, hown, hts⟩ (c_X2_isWhole l x1) (va_cwS 1 hts gX2_turnedToWhole_X2_isWhole rfl rfl rfl (by decide +kernel) ⟨Nat.le_of_ble_eq_true rfl, Nat.le_of_ble_eq_true rfl⟩) mb_preT rfl rfl hl.1 rfl (lv_room (Nat.le_of_ble_eq_true rfl)) dX2_turnedToWhole_1 ⟨Nat.zero_le _, Nat.zero_le _⟩) ?_
  refine lv_if_eq (tgt := 13) hx hb dX2_turnedToWhole_4 (by decide) (fun c_1 => ?_) (fun c_1 => ?_)
  · refine lv_iload_n hx hb dX2_turnedToWhole_13 rfl (lv_at hl 0 rfl) ?_
    refine va_cse (W.runS (As := [.int x1]) (rest := []) ⟨hx, hb, hml, hown, hts⟩ (c_X2_formatOf l dC dI cyI cyZ cyJ tK tL tG ad x1) (va_cwS 1 hts gX2_turnedToWhole_X2_formatOf rfl rfl rfl (by decide +kernel) ⟨Nat.le_of_ble_eq_true rfl, Nat.le_of_ble_eq_true rfl⟩) (mb_preGS hG hK hP0) rfl rfl hl.1 rfl (lv_room (Nat.le_of_ble_eq_true rfl)) dX2_turnedToWhole_14 ⟨Nat.zero_le _, Nat.zero_le _⟩) (fun r er => ?_)
    subst er
    refine lv_lload_n hx hb dX2_turnedToWhole_17 rfl (lv_at hl 1 rfl) ?_
    refine mb_callSl (W.runV (As := [.long x2]) (rest := []) ⟨hx, hb, hml, hown, hts⟩ (c_X0_toLong l dC dI cyI cyZ cyJ tK tL tG ad (fx_X2_formatOf x1) x2 (by first | assumption | exact lt_X2_formatOf _) ) (cwV 1 hts gX2_turnedToWhole_X0_toLong rfl rfl rfl (by decide +kernel) ⟨Nat.le_of_ble_eq_true rfl, Nat.le_of_ble_eq_true rfl⟩) (mb_preGE hG hK hP0 (by first | assumption | exact lt_X2_formatOf _)) rfl rfl hl.1 rfl (lv_room (Nat.le_of_ble_eq_true rfl)) dX2_turnedToWhole_18 ⟨Nat.zero_le _, Nat.zero_le _⟩) ?_
    refine lv_lstore (lv' := [(4, .long (f_X0_toLong (fx_X2_formatOf x1) x2)), (0, .int x1), (1, .long x2), (3, .int x3)]) hx hb dX2_turnedToWhole_21 hl (by decide) rfl (fun ls hl => ?_)
    refine lv_iload_n hx hb dX2_turnedToWhole_23 rfl (lv_at hl 3 rfl) ?_
    refine lv_iconst (v := (5 : Int32)) hx hb dX2_turnedToWhole_24 (by decide) ?_
    refine lv_icmp_ne (tgt := 33) hx hb dX2_turnedToWhole_25 (by decide) (fun c_2 => ?_) (fun c_2 => ?_)
    · refine lv_lload hx hb dX2_turnedToWhole_33 (lv_at hl 0 rfl) ?_
      refine mb_callSl (W.runS (As := [.long (f_X0_toLong (fx_X2_formatOf x1) x2)]) (rest := []) ⟨hx, hb, hml, hown, hts⟩ (c_X2_nearestInt l dC dI cyI cyZ cyJ tK tL tG ad (f_X0_toLong (fx_X2_formatOf x1) x2)) (va_cwS 1 hts gX2_turnedToWhole_X2_nearestInt rfl rfl rfl (by decide +kernel) ⟨Nat.le_of_ble_eq_true rfl, Nat.le_of_ble_eq_true rfl⟩) (mb_preGS hG hK hP0) rfl rfl hl.1 rfl (lv_room (Nat.le_of_ble_eq_true rfl)) dX2_turnedToWhole_35 ⟨Nat.zero_le _, Nat.zero_le _⟩) ?_
      refine lv_iload_n hx hb dX2_turnedToWhole_38 rfl (lv_at hl 3 rfl) ?_
      refine mb_callSl (W.runS (As := [.long (f_X2_nearestInt (f_X0_toLong (fx_X2_formatOf x1) x2)), .int x3]) (rest := []) ⟨hx, hb, hml, hown, hts⟩ (c_X2_lowestBits l (f_X2_nearestInt (f_X0_toLong (fx_X2_formatOf x1) x2)) x3) (va_cwS 2 hts gX2_turnedToWhole_X2_lowestBits rfl rfl rfl (by decide +kernel) ⟨Nat.le_of_ble_eq_true rfl, Nat.le_of_ble_eq_true rfl⟩) mb_preT rfl rfl hl.1 rfl (lv_room (Nat.le_of_ble_eq_true rfl)) dX2_turnedToWhole_39 ⟨Nat.zero_le _, Nat.zero_le _⟩) ?_
      exact W.lret (v := (f_X2_lowestBits (f_X2_nearestInt (f_X0_toLong (fx_X2_formatOf x1) x2)) x3)) hx hb hr (fun t ht hW => ⟨(f_X2_lowestBits (f_X2_nearestInt (f_X0_toLong (fx_X2_formatOf x1) x2)) x3), rfl, Eq.symm ((if_pos c_1).trans ((if_neg c_2).trans (rfl))), ht⟩) (fun q h => by cases h) dX2_turnedToWhole_42
    · refine lv_lload hx hb dX2_turnedToWhole_28 (lv_at hl 0 rfl) ?_
      refine lv_goto (tgt := 42) hx hb dX2_turnedToWhole_30 (by decide) ?_
      exact W.lret (v := (f_X0_toLong (fx_X2_formatOf x1) x2)) hx hb hr (fun t ht hW => ⟨(f_X0_toLong (fx_X2_formatOf x1) x2), rfl, Eq.symm ((if_pos c_1).trans ((if_pos c_2).trans (rfl))), ht⟩) (fun q h => by cases h) dX2_turnedToWhole_42
  · refine lv_lload_n hx hb dX2_turnedToWhole_7 rfl (lv_at hl 1 rfl) ?_
    refine lv_iload_n hx hb dX2_turnedToWhole_8 rfl (lv_at hl 2 rfl) ?_
    refine mb_callSl (W.runS (As := [.long x2, .int x3]) (rest := []) ⟨hx, hb, hml, hown, hts⟩ (c_X2_lowestBits l x2 x3) (va_cwS 2 hts gX2_turnedToWhole_X2_lowestBits rfl rfl rfl (by decide +kernel) ⟨Nat.le_of_ble_eq_true rfl, Nat.le_of_ble_eq_true rfl⟩) mb_preT rfl rfl hl.1 rfl (lv_room (Nat.le_of_ble_eq_true rfl)) dX2_turnedToWhole_9 ⟨Nat.zero_le _, Nat.zero_le _⟩) ?_
    exact W.lret (v := (f_X2_lowestBits x2 x3)) hx hb hr (fun t ht hW => ⟨(f_X2_lowestBits x2 x3), rfl, Eq.symm ((if_neg c_1).trans (rfl)), ht⟩) (fun q h => by cases h) dX2_turnedToWhole_12
def f_X2_withOneNaN (x1 : Int32) (x2 : Int64) : Int64 := if (6 : Int32) ≤ x1 then (f_X0_fromFormat (fx_X2_formatOf x1) (fx_X2_formatOf x1) x2)
  else x2
set_option maxHeartbeats 4000000 in
set_option maxRecDepth 100000 in
theorem c_X2_withOneNaN (l : Launch) (dC : Nat → ClassId) (dI : Nat → Nat → Nat) (cyI cyZ cyJ : ClassId) (tK tL tG : Nat) (ad : Nat → Nat) (x1 : Int32) (x2 : Int64) : Met l yX2_withOneNaN wsX2_withOneNaN ({ frames := 5, cells := 0, slots := 0, locals := 118 }) (va_Pc [.int x1, .long x2] (mb_RG tK tL tG ad (dC, dI) (mb_tys cyI cyZ cyJ) [])) (vp_Sl (fun r => r = f_X2_withOneNaN x1 x2)) 0 0 (fun _ => False) := by
  refine Met.ofW (cc := cX2_withOneNaN) (maxL := 4) (ret := (some .long)) (by decide) rfl ?_
  intro p e s m args below meth c s₁ B hml hv
  obtain ⟨rfl, hG, hP, hK⟩ := hv
  have hx := B.exec
  have hb := B.bytes
  have hr := B.returns
  have hts := atoms_spec (ws := wsX2_withOneNaN) B.pre
  have hown : s.vm.findClass RX2 = some m.cls := findClass_of_methodNamed B.named
  have hlocks := B.notSynchronized
  have hP0 : va_P (dC, dI) vwCl [] s.heap := fun k q h => by simp at h
  have hl := lv_entry ([.int x1, .long x2]) (n := 4) (Nat.le_of_ble_eq_true rfl)
  rw [lg_entry_eq]
  generalize (lg_sl ([.int x1, .long x2]) ++ List.replicate (4 - (lg_sl ([.int x1, .long x2])).length) Slot.unset).toArray = ls at hl ⊢
  have hl : lv_has ls 4 [(0, .int x1), (1, .long x2)] := hl
  refine lv_iload_n hx hb dX2_withOneNaN_0 rfl (lv_at hl 0 rfl) ?_
  refine lv_bipush (v := (6 : Int32)) hx hb dX2_withOneNaN_1 (by decide) ?_
  refine lv_icmp_ge (tgt := 8) hx hb dX2_withOneNaN_3 (by decide) (fun c_1 => ?_) (fun c_1 => ?_)
  · refine lv_iload_n hx hb dX2_withOneNaN_8 rfl (lv_at hl 0 rfl) ?_
    refine va_cse (W.runS (As := [.int x1]) (rest := []) ⟨hx, hb, hml, hown, hts⟩ (c_X2_formatOf l dC dI cyI cyZ cyJ tK tL tG ad x1) (va_cwS 1 hts gX2_withOneNaN_X2_formatOf rfl rfl rfl (by decide +kernel) ⟨Nat.le_of_ble_eq_true rfl, Nat.le_of_ble_eq_true rfl⟩) (mb_preGS hG hK hP0) rfl rfl hl.1 rfl (lv_room (Nat.le_of_ble_eq_true rfl)) dX2_withOneNaN_9 ⟨Nat.zero_le _, Nat.zero_le _⟩) (fun r er => ?_)
    subst er
    refine lv_astore_n (lv' := [(3, .ref (ad (fx_X2_formatOf x1))), (0, .int x1), (1, .long x2)]) hx hb dX2_withOneNaN_12 rfl hl (by decide) rfl (fun ls hl => ?_)
    refine lv_aload_n hx hb dX2_withOneNaN_13 rfl (lv_at hl 0 rfl) ?_
    refine lv_aload_n hx hb dX2_withOneNaN_14 rfl (lv_at hl 0 rfl) ?_
    refine lv_lload_n hx hb dX2_withOneNaN_15 rfl (lv_at hl 2 rfl) ?_
    refine mb_callSl (W.runV (As := [.ref (ad (fx_X2_formatOf x1)), .long x2]) (rest := []) ⟨hx, hb, hml, hown, hts⟩ (c_X0_fromFormat l dC dI cyI cyZ cyJ tK tL tG ad (fx_X2_formatOf x1) (fx_X2_formatOf x1) x2 (by first | assumption | exact lt_X2_formatOf _) (lt_X2_formatOf x1)) (cwV 2 hts gX2_withOneNaN_X0_fromFormat rfl rfl rfl (by decide +kernel) ⟨Nat.le_of_ble_eq_true rfl, Nat.le_of_ble_eq_true rfl⟩) (mb_preGE hG hK hP0 (by first | assumption | exact lt_X2_formatOf _)) rfl rfl hl.1 rfl (lv_room (Nat.le_of_ble_eq_true rfl)) dX2_withOneNaN_16 ⟨Nat.zero_le _, Nat.zero_le _⟩) ?_
    exact W.lret (v := (f_X0_fromFormat (fx_X2_formatOf x1) (fx_X2_formatOf x1) x2)) hx hb hr (fun t ht hW => ⟨(f_X0_fromFormat (fx_X2_formatOf x1) (fx_X2_formatOf x1) x2), rfl, Eq.symm ((if_pos c_1).trans (rfl)), ht⟩) (fun q h => by cases h) dX2_withOneNaN_19
  · refine lv_lload_n hx hb dX2_withOneNaN_6 rfl (lv_at hl 1 rfl) ?_
    exact W.lret (v := x2) hx hb hr (fun t ht hW => ⟨x2, rfl, Eq.symm ((if_neg c_1).trans (rfl)), ht⟩) (fun q h => by cases h) dX2_withOneNaN_7

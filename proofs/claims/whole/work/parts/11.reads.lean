theorem mb_i0 : (0 : Int32).toInt = 0 := rfl
theorem mb_has {so fi el : Nat → Int32} {ab : Nat → Int64} {sz x : Int32} (gz : sz.toInt ≤ 40) (h : ¬ f_X1_has so fi el ab sz x = 0) : vp_in x 40 := by
  unfold f_X1_has at h
  rw [vp_in_iff]
  split at h
  · exact absurd rfl h
  · split at h
    · exact absurd rfl h
    · rename_i h1 h2
      rw [Int32.lt_iff_toInt_lt, mb_i0] at h1
      rw [Int32.le_iff_toInt_le] at h2
      omega
theorem mb_boxed_in {x : Int32} (g : vp_in x 40) : vp_in (f_X2_boxed x) 40 := by
  obtain ⟨j, hj, rfl⟩ := vp_in_of g (by decide)
  have h0 : ¬ nI j < 0 := nI_pos (by omega)
  have e7 : (7 : Int32) = nI 7 := rfl
  unfold f_X2_boxed f_X2_isPrimitive
  rw [if_neg h0, e7]
  by_cases h7 : 7 < j
  · rw [if_pos (nI_lt h7 (by omega)), if_pos rfl]
    exact g
  · rw [if_neg (nI_nlt (by omega) (by omega)), if_neg (by decide)]
    have e8 : (8 : Int32) = nI 8 := rfl
    rw [e8, nI_add]
    exact vp_in_nI (by omega) (by decide)
theorem mb_ctx {x : Int32} (h : ¬ f_X2_isContext x = 0) : vp_in x 6 := by
  unfold f_X2_isContext at h
  rw [vp_in_iff]
  split at h
  · exact absurd rfl h
  · split at h
    · exact absurd rfl h
    · rename_i h1 h2
      rw [Int32.lt_iff_toInt_lt, mb_i0] at h1
      rw [Int32.lt_iff_toInt_lt] at h2
      have e5 : (5 : Int32).toInt = 5 := rfl
      omega
theorem mb_whole8 {x : Int32} (h : ¬ f_X2_isWhole x = 0) : vp_in x 8 := by
  unfold f_X2_isWhole at h
  rw [vp_in_iff]
  split at h
  · exact absurd rfl h
  · split at h
    · exact absurd rfl h
    · rename_i h1 h2
      rw [Int32.lt_iff_toInt_lt] at h1 h2
      have e1 : (1 : Int32).toInt = 1 := rfl
      have e5 : (5 : Int32).toInt = 5 := rfl
      omega
theorem mb_num8 {x : Int32} (h : ¬ f_X2_isNumber x = 0) : vp_in x 8 := by
  unfold f_X2_isNumber at h
  rw [vp_in_iff]
  split at h
  · exact absurd rfl h
  · split at h
    · exact absurd rfl h
    · rename_i h1 h2
      rw [Int32.lt_iff_toInt_lt] at h1 h2
      have e1 : (1 : Int32).toInt = 1 := rfl
      have e7 : (7 : Int32).toInt = 7 := rfl
      omega
theorem mb_in26 : vp_in (2 : Int32) 6 := vp_in_iff.mpr ⟨by decide, by decide⟩
theorem mb_in36 : vp_in (3 : Int32) 6 := vp_in_iff.mpr ⟨by decide, by decide⟩
def f_X2_isTypeOrNone (so : Nat → Int32) (fi : Nat → Int32) (el : Nat → Int32) (ab : Nat → Int64) (sz : Int32) (ot : Nat → Int32) (ob : Nat → Int64) (oc : Int32) (x1 : Int32) : Int32 := if x1 = (-1 : Int32) then (1 : Int32)
  else if (f_X1_has so fi el ab sz x1) = 0 then (0 : Int32)
  else (1 : Int32)
theorem nb_X2_isTypeOrNone (so : Nat → Int32) (fi : Nat → Int32) (el : Nat → Int32) (ab : Nat → Int64) (sz : Int32) (ot : Nat → Int32) (ob : Nat → Int64) (oc : Int32) (x1 : Int32) : mb_B (f_X2_isTypeOrNone so fi el ab sz ot ob oc x1) := by
  unfold f_X2_isTypeOrNone
  exact mb_B_ite (rfl) (mb_B_ite (rfl) (rfl))
set_option maxHeartbeats 4000000 in
set_option maxRecDepth 100000 in
theorem c_X2_isTypeOrNone (l : Launch) (dC : Nat → ClassId) (dI : Nat → Nat → Nat) (cyI cyZ cyJ : ClassId) (tK tL tG : Nat) (ad : Nat → Nat) (h2 h1 a0 a1 a2 a3 b0 b1 : Nat) (so : Nat → Int32) (fi : Nat → Int32) (el : Nat → Int32) (ab : Nat → Int64) (sz : Int32) (ot : Nat → Int32) (ob : Nat → Int64) (oc : Int32) (x1 : Int32) : Met l yX2_isTypeOrNone wsX2_isTypeOrNone ({ frames := 1, cells := 0, slots := 0, locals := 21 }) (va_Pc [.ref h2, .int x1] (mb_RG tK tL tG ad (dC, dI) (mb_tys cyI cyZ cyJ) [(h2, .inr (4, [.ref h1, .ref b0, .ref b1, .int oc])), (h1, .inr (3, [.ref a0, .ref a1, .ref a2, .ref a3, .int sz])), (a0, .inl (cyI, 40, .inl so)), (a1, .inl (cyZ, 40, .inl fi)), (a2, .inl (cyI, 40, .inl el)), (a3, .inl (cyJ, 40, .inr (.inl ab))), (b0, .inl (cyI, 60, .inl ot)), (b1, .inl (cyJ, 60, .inr (.inl ob)))])) (vp_Si (fun r => r = f_X2_isTypeOrNone so fi el ab sz ot ob oc x1)) 0 0 (fun _ => False) := by
  refine Met.ofW (cc := cX2_isTypeOrNone) (maxL := 2) (ret := (some .boolean)) (by decide) rfl ?_
  intro p e s m args below meth c s₁ B hml hv
  obtain ⟨rfl, hG, hP, hK⟩ := hv
  have hx := B.exec
  have hb := B.bytes
  have hr := B.returns
  have hts := atoms_spec (ws := wsX2_isTypeOrNone) B.pre
  have hown : s.vm.findClass RX2 = some m.cls := findClass_of_methodNamed B.named
  have hlocks := B.notSynchronized
  have hP : va_P (dC, dI) vwCl [(h2, .inr (4, [.ref h1, .ref b0, .ref b1, .int oc])), (h1, .inr (3, [.ref a0, .ref a1, .ref a2, .ref a3, .int sz])), (a0, .inl (cyI, 40, .inl so)), (a1, .inl (cyZ, 40, .inl fi)), (a2, .inl (cyI, 40, .inl el)), (a3, .inl (cyJ, 40, .inr (.inl ab))), (b0, .inl (cyI, 60, .inl ot)), (b1, .inl (cyJ, 60, .inr (.inl ob)))] s.heap := hP
  have hP0 : va_P (dC, dI) vwCl [] s.heap := fun k q h => by simp at h
  have hin_X2 : ∀ w ∈ wsX20, w ∈ wsX2_isTypeOrNone := by decide +kernel
  have hf_12 := hts (.fieldLink RX2 12 "ConversionTables" "types" "LConversionTables$TypeTable;") (by decide +kernel)
  have hl := lv_entry ([.ref h2, .int x1]) (n := 2) (Nat.le_of_ble_eq_true rfl)
  rw [lg_entry_eq]
  generalize (lg_sl ([.ref h2, .int x1]) ++ List.replicate (2 - (lg_sl ([.ref h2, .int x1])).length) Slot.unset).toArray = ls at hl ⊢
  have hl : lv_has ls 2 [(0, .ref h2), (1, .int x1)] := hl
  refine lv_iload_n hx hb dX2_isTypeOrNone_0 rfl (lv_at hl 1 rfl) ?_
  refine lv_iconst (v := (-1 : Int32)) hx hb dX2_isTypeOrNone_1 (by decide) ?_
  refine lv_icmp_eq (tgt := 16) hx hb dX2_isTypeOrNone_2 (by decide) (fun c_1 => ?_) (fun c_1 => ?_)
  · refine lv_iconst (v := (1 : Int32)) hx hb dX2_isTypeOrNone_16 (by decide) ?_
    refine lv_goto (tgt := 21) hx hb dX2_isTypeOrNone_17 (by decide) ?_
    exact W.zret (v := (1 : Int32)) hx hb hr rfl (fun t ht hW => ⟨(1 : Int32), rfl, Eq.symm ((if_pos c_1).trans (rfl)), ht⟩) (fun q h => by cases h) dX2_isTypeOrNone_21
  · refine lv_aload_n hx hb dX2_isTypeOrNone_5 rfl (lv_at hl 0 rfl) ?_
    refine va_get (D := (dC, dI)) (ci := 4) (v := .ref h1) (C := RX2) (T := TX2) (N := 4) hx hb hts hin_X2 hown hK hP 0 rfl rfl 0 (by decide) hf_12 (fun _ h9 => h9) rfl dX2_isTypeOrNone_6 ?_
    refine lv_iload_n hx hb dX2_isTypeOrNone_9 rfl (lv_at hl 1 rfl) ?_
    refine mb_callSi (W.runV (As := [.int x1]) (rest := []) ⟨hx, hb, hml, hown, hts⟩ (c_X1_has l dC dI cyI cyZ cyJ h1 a0 a1 a2 a3 so fi el ab sz x1) (cwV 1 hts gX2_isTypeOrNone_X1_has rfl rfl rfl (by decide +kernel) ⟨Nat.le_of_ble_eq_true rfl, Nat.le_of_ble_eq_true rfl⟩) (mb_preV hK (hP.sub [1, 2, 3, 4, 5] rfl) (ci := 3) (q0 := 0) rfl rfl) rfl rfl hl.1 rfl (lv_room (Nat.le_of_ble_eq_true rfl)) dX2_isTypeOrNone_10 ⟨Nat.zero_le _, Nat.zero_le _⟩) ?_
    refine lv_if_eq (tgt := 20) hx hb dX2_isTypeOrNone_13 (by decide) (fun c_2 => ?_) (fun c_2 => ?_)
    · refine lv_iconst (v := (0 : Int32)) hx hb dX2_isTypeOrNone_20 (by decide) ?_
      exact W.zret (v := (0 : Int32)) hx hb hr rfl (fun t ht hW => ⟨(0 : Int32), rfl, Eq.symm ((if_neg c_1).trans ((if_pos c_2).trans (rfl))), ht⟩) (fun q h => by cases h) dX2_isTypeOrNone_21
    · refine lv_iconst (v := (1 : Int32)) hx hb dX2_isTypeOrNone_16 (by decide) ?_
      refine lv_goto (tgt := 21) hx hb dX2_isTypeOrNone_17 (by decide) ?_
      exact W.zret (v := (1 : Int32)) hx hb hr rfl (fun t ht hW => ⟨(1 : Int32), rfl, Eq.symm ((if_neg c_1).trans ((if_neg c_2).trans (rfl))), ht⟩) (fun q h => by cases h) dX2_isTypeOrNone_21
def f_X2_isInterfaceOrNone (so : Nat → Int32) (fi : Nat → Int32) (el : Nat → Int32) (ab : Nat → Int64) (sz : Int32) (ot : Nat → Int32) (ob : Nat → Int64) (oc : Int32) (x1 : Int32) : Int32 := if x1 = (-1 : Int32) then (1 : Int32)
  else if (f_X1_sortOf so fi el ab sz x1) = (2 : Int32) then (1 : Int32)
  else (0 : Int32)
theorem nb_X2_isInterfaceOrNone (so : Nat → Int32) (fi : Nat → Int32) (el : Nat → Int32) (ab : Nat → Int64) (sz : Int32) (ot : Nat → Int32) (ob : Nat → Int64) (oc : Int32) (x1 : Int32) : mb_B (f_X2_isInterfaceOrNone so fi el ab sz ot ob oc x1) := by
  unfold f_X2_isInterfaceOrNone
  exact mb_B_ite (rfl) (mb_B_ite (rfl) (rfl))
set_option maxHeartbeats 4000000 in
set_option maxRecDepth 100000 in
theorem c_X2_isInterfaceOrNone (l : Launch) (dC : Nat → ClassId) (dI : Nat → Nat → Nat) (cyI cyZ cyJ : ClassId) (tK tL tG : Nat) (ad : Nat → Nat) (h2 h1 a0 a1 a2 a3 b0 b1 : Nat) (so : Nat → Int32) (fi : Nat → Int32) (el : Nat → Int32) (ab : Nat → Int64) (sz : Int32) (ot : Nat → Int32) (ob : Nat → Int64) (oc : Int32) (x1 : Int32) (g1 : x1 = -1 ∨ vp_in x1 40) : Met l yX2_isInterfaceOrNone wsX2_isInterfaceOrNone ({ frames := 1, cells := 0, slots := 0, locals := 21 }) (va_Pc [.ref h2, .int x1] (mb_RG tK tL tG ad (dC, dI) (mb_tys cyI cyZ cyJ) [(h2, .inr (4, [.ref h1, .ref b0, .ref b1, .int oc])), (h1, .inr (3, [.ref a0, .ref a1, .ref a2, .ref a3, .int sz])), (a0, .inl (cyI, 40, .inl so)), (a1, .inl (cyZ, 40, .inl fi)), (a2, .inl (cyI, 40, .inl el)), (a3, .inl (cyJ, 40, .inr (.inl ab))), (b0, .inl (cyI, 60, .inl ot)), (b1, .inl (cyJ, 60, .inr (.inl ob)))])) (vp_Si (fun r => r = f_X2_isInterfaceOrNone so fi el ab sz ot ob oc x1)) 0 0 (fun _ => False) := by
  refine Met.ofW (cc := cX2_isInterfaceOrNone) (maxL := 2) (ret := (some .boolean)) (by decide) rfl ?_
  intro p e s m args below meth c s₁ B hml hv
  obtain ⟨rfl, hG, hP, hK⟩ := hv
  have hx := B.exec
  have hb := B.bytes
  have hr := B.returns
  have hts := atoms_spec (ws := wsX2_isInterfaceOrNone) B.pre
  have hown : s.vm.findClass RX2 = some m.cls := findClass_of_methodNamed B.named
  have hlocks := B.notSynchronized
  have hP : va_P (dC, dI) vwCl [(h2, .inr (4, [.ref h1, .ref b0, .ref b1, .int oc])), (h1, .inr (3, [.ref a0, .ref a1, .ref a2, .ref a3, .int sz])), (a0, .inl (cyI, 40, .inl so)), (a1, .inl (cyZ, 40, .inl fi)), (a2, .inl (cyI, 40, .inl el)), (a3, .inl (cyJ, 40, .inr (.inl ab))), (b0, .inl (cyI, 60, .inl ot)), (b1, .inl (cyJ, 60, .inr (.inl ob)))] s.heap := hP
  have hP0 : va_P (dC, dI) vwCl [] s.heap := fun k q h => by simp at h
  have hin_X2 : ∀ w ∈ wsX20, w ∈ wsX2_isInterfaceOrNone := by decide +kernel
  have hf_12 := hts (.fieldLink RX2 12 "ConversionTables" "types" "LConversionTables$TypeTable;") (by decide +kernel)
  have hl := lv_entry ([.ref h2, .int x1]) (n := 2) (Nat.le_of_ble_eq_true rfl)
  rw [lg_entry_eq]
  generalize (lg_sl ([.ref h2, .int x1]) ++ List.replicate (2 - (lg_sl ([.ref h2, .int x1])).length) Slot.unset).toArray = ls at hl ⊢
  have hl : lv_has ls 2 [(0, .ref h2), (1, .int x1)] := hl
  refine lv_iload_n hx hb dX2_isInterfaceOrNone_0 rfl (lv_at hl 1 rfl) ?_
  refine lv_iconst (v := (-1 : Int32)) hx hb dX2_isInterfaceOrNone_1 (by decide) ?_
  refine lv_icmp_eq (tgt := 17) hx hb dX2_isInterfaceOrNone_2 (by decide) (fun c_1 => ?_) (fun c_1 => ?_)
  · refine lv_iconst (v := (1 : Int32)) hx hb dX2_isInterfaceOrNone_17 (by decide) ?_
    refine lv_goto (tgt := 22) hx hb dX2_isInterfaceOrNone_18 (by decide) ?_
    exact W.zret (v := (1 : Int32)) hx hb hr rfl (fun t ht hW => ⟨(1 : Int32), rfl, Eq.symm ((if_pos c_1).trans (rfl)), ht⟩) (fun q h => by cases h) dX2_isInterfaceOrNone_22
  · refine lv_aload_n hx hb dX2_isInterfaceOrNone_5 rfl (lv_at hl 0 rfl) ?_
    refine va_get (D := (dC, dI)) (ci := 4) (v := .ref h1) (C := RX2) (T := TX2) (N := 4) hx hb hts hin_X2 hown hK hP 0 rfl rfl 0 (by decide) hf_12 (fun _ h9 => h9) rfl dX2_isInterfaceOrNone_6 ?_
    refine lv_iload_n hx hb dX2_isInterfaceOrNone_9 rfl (lv_at hl 1 rfl) ?_
    refine mb_callSi (W.runV (As := [.int x1]) (rest := []) ⟨hx, hb, hml, hown, hts⟩ (c_X1_sortOf l dC dI cyI cyZ cyJ h1 a0 a1 a2 a3 so fi el ab sz x1 (Or.resolve_left g1 c_1)) (cwV 1 hts gX2_isInterfaceOrNone_X1_sortOf rfl rfl rfl (by decide +kernel) ⟨Nat.le_of_ble_eq_true rfl, Nat.le_of_ble_eq_true rfl⟩) (mb_preV hK (hP.sub [1, 2, 3, 4, 5] rfl) (ci := 3) (q0 := 0) rfl rfl) rfl rfl hl.1 rfl (lv_room (Nat.le_of_ble_eq_true rfl)) dX2_isInterfaceOrNone_10 ⟨Nat.zero_le _, Nat.zero_le _⟩) ?_
    refine lv_iconst (v := (2 : Int32)) hx hb dX2_isInterfaceOrNone_13 (by decide) ?_
    refine lv_icmp_ne (tgt := 21) hx hb dX2_isInterfaceOrNone_14 (by decide) (fun c_2 => ?_) (fun c_2 => ?_)
    · refine lv_iconst (v := (0 : Int32)) hx hb dX2_isInterfaceOrNone_21 (by decide) ?_
      exact W.zret (v := (0 : Int32)) hx hb hr rfl (fun t ht hW => ⟨(0 : Int32), rfl, Eq.symm ((if_neg c_1).trans ((if_neg c_2).trans (rfl))), ht⟩) (fun q h => by cases h) dX2_isInterfaceOrNone_22
    · refine lv_iconst (v := (1 : Int32)) hx hb dX2_isInterfaceOrNone_17 (by decide) ?_
      refine lv_goto (tgt := 22) hx hb dX2_isInterfaceOrNone_18 (by decide) ?_
      exact W.zret (v := (1 : Int32)) hx hb hr rfl (fun t ht hW => ⟨(1 : Int32), rfl, Eq.symm ((if_neg c_1).trans ((if_pos c_2).trans (rfl))), ht⟩) (fun q h => by cases h) dX2_isInterfaceOrNone_22
def f_X2_isObject (so : Nat → Int32) (fi : Nat → Int32) (el : Nat → Int32) (ab : Nat → Int64) (sz : Int32) (ot : Nat → Int32) (ob : Nat → Int64) (oc : Int32) (x1 : Int32) : Int32 := if x1 < 0 then (0 : Int32)
  else if oc ≤ x1 then (0 : Int32)
  else (1 : Int32)
theorem nb_X2_isObject (so : Nat → Int32) (fi : Nat → Int32) (el : Nat → Int32) (ab : Nat → Int64) (sz : Int32) (ot : Nat → Int32) (ob : Nat → Int64) (oc : Int32) (x1 : Int32) : mb_B (f_X2_isObject so fi el ab sz ot ob oc x1) := by
  unfold f_X2_isObject
  exact mb_B_ite (rfl) (mb_B_ite (rfl) (rfl))
set_option maxHeartbeats 4000000 in
set_option maxRecDepth 100000 in
theorem c_X2_isObject (l : Launch) (dC : Nat → ClassId) (dI : Nat → Nat → Nat) (cyI cyZ cyJ : ClassId) (tK tL tG : Nat) (ad : Nat → Nat) (h2 h1 a0 a1 a2 a3 b0 b1 : Nat) (so : Nat → Int32) (fi : Nat → Int32) (el : Nat → Int32) (ab : Nat → Int64) (sz : Int32) (ot : Nat → Int32) (ob : Nat → Int64) (oc : Int32) (x1 : Int32) : Met l yX2_isObject wsX2_isObject ({ frames := 0, cells := 0, slots := 0, locals := 0 }) (va_Pc [.ref h2, .int x1] (mb_RG tK tL tG ad (dC, dI) (mb_tys cyI cyZ cyJ) [(h2, .inr (4, [.ref h1, .ref b0, .ref b1, .int oc])), (h1, .inr (3, [.ref a0, .ref a1, .ref a2, .ref a3, .int sz])), (a0, .inl (cyI, 40, .inl so)), (a1, .inl (cyZ, 40, .inl fi)), (a2, .inl (cyI, 40, .inl el)), (a3, .inl (cyJ, 40, .inr (.inl ab))), (b0, .inl (cyI, 60, .inl ot)), (b1, .inl (cyJ, 60, .inr (.inl ob)))])) (vp_Si (fun r => r = f_X2_isObject so fi el ab sz ot ob oc x1)) 0 0 (fun _ => False) := by
  refine Met.ofW (cc := cX2_isObject) (maxL := 2) (ret := (some .boolean)) (by decide) rfl ?_
  intro p e s m args below meth c s₁ B hml hv
  obtain ⟨rfl, hG, hP, hK⟩ := hv
  have hx := B.exec
  have hb := B.bytes
  have hr := B.returns
  have hts := atoms_spec (ws := wsX2_isObject) B.pre
  have hown : s.vm.findClass RX2 = some m.cls := findClass_of_methodNamed B.named
  have hlocks := B.notSynchronized
  have hP : va_P (dC, dI) vwCl [(h2, .inr (4, [.ref h1, .ref b0, .ref b1, .int oc])), (h1, .inr (3, [.ref a0, .ref a1, .ref a2, .ref a3, .int sz])), (a0, .inl (cyI, 40, .inl so)), (a1, .inl (cyZ, 40, .inl fi)), (a2, .inl (cyI, 40, .inl el)), (a3, .inl (cyJ, 40, .inr (.inl ab))), (b0, .inl (cyI, 60, .inl ot)), (b1, .inl (cyJ, 60, .inr (.inl ob)))] s.heap := hP
  have hP0 : va_P (dC, dI) vwCl [] s.heap := fun k q h => by simp at h
  have hin_X2 : ∀ w ∈ wsX20, w ∈ wsX2_isObject := by decide +kernel
  have hf_24 := hts (.fieldLink RX2 24 "ConversionTables" "objectCount" "I") (by decide +kernel)
  have hl := lv_entry ([.ref h2, .int x1]) (n := 2) (Nat.le_of_ble_eq_true rfl)
  rw [lg_entry_eq]
  generalize (lg_sl ([.ref h2, .int x1]) ++ List.replicate (2 - (lg_sl ([.ref h2, .int x1])).length) Slot.unset).toArray = ls at hl ⊢
  have hl : lv_has ls 2 [(0, .ref h2), (1, .int x1)] := hl
  refine lv_iload_n hx hb dX2_isObject_0 rfl (lv_at hl 1 rfl) ?_
  refine lv_if_lt (tgt := 16) hx hb dX2_isObject_1 (by decide) (fun c_1 => ?_) (fun c_1 => ?_)
  · refine lv_iconst (v := (0 : Int32)) hx hb dX2_isObject_16 (by decide) ?_
    exact W.zret (v := (0 : Int32)) hx hb hr rfl (fun t ht hW => ⟨(0 : Int32), rfl, Eq.symm ((if_pos c_1).trans (rfl)), ht⟩) (fun q h => by cases h) dX2_isObject_17
  · refine lv_iload_n hx hb dX2_isObject_4 rfl (lv_at hl 1 rfl) ?_
    refine lv_aload_n hx hb dX2_isObject_5 rfl (lv_at hl 0 rfl) ?_
    refine va_get (D := (dC, dI)) (ci := 4) (v := .int oc) (C := RX2) (T := TX2) (N := 4) hx hb hts hin_X2 hown hK hP 0 rfl rfl 3 (by decide) hf_24 (fun _ h9 => h9) rfl dX2_isObject_6 ?_
    refine lv_icmp_ge (tgt := 16) hx hb dX2_isObject_9 (by decide) (fun c_2 => ?_) (fun c_2 => ?_)
    · refine lv_iconst (v := (0 : Int32)) hx hb dX2_isObject_16 (by decide) ?_
      exact W.zret (v := (0 : Int32)) hx hb hr rfl (fun t ht hW => ⟨(0 : Int32), rfl, Eq.symm ((if_neg c_1).trans ((if_pos c_2).trans (rfl))), ht⟩) (fun q h => by cases h) dX2_isObject_17
    · refine lv_iconst (v := (1 : Int32)) hx hb dX2_isObject_12 (by decide) ?_
      refine lv_goto (tgt := 17) hx hb dX2_isObject_13 (by decide) ?_
      exact W.zret (v := (1 : Int32)) hx hb hr rfl (fun t ht hW => ⟨(1 : Int32), rfl, Eq.symm ((if_neg c_1).trans ((if_neg c_2).trans (rfl))), ht⟩) (fun q h => by cases h) dX2_isObject_17
def f_X2_isFullOfObjects (so : Nat → Int32) (fi : Nat → Int32) (el : Nat → Int32) (ab : Nat → Int64) (sz : Int32) (ot : Nat → Int32) (ob : Nat → Int64) (oc : Int32) : Int32 := if oc < (60 : Int32) then (0 : Int32)
  else (1 : Int32)
theorem nb_X2_isFullOfObjects (so : Nat → Int32) (fi : Nat → Int32) (el : Nat → Int32) (ab : Nat → Int64) (sz : Int32) (ot : Nat → Int32) (ob : Nat → Int64) (oc : Int32) : mb_B (f_X2_isFullOfObjects so fi el ab sz ot ob oc) := by
  unfold f_X2_isFullOfObjects
  exact mb_B_ite (rfl) (rfl)
set_option maxHeartbeats 4000000 in
set_option maxRecDepth 100000 in
theorem c_X2_isFullOfObjects (l : Launch) (dC : Nat → ClassId) (dI : Nat → Nat → Nat) (cyI cyZ cyJ : ClassId) (tK tL tG : Nat) (ad : Nat → Nat) (h2 h1 a0 a1 a2 a3 b0 b1 : Nat) (so : Nat → Int32) (fi : Nat → Int32) (el : Nat → Int32) (ab : Nat → Int64) (sz : Int32) (ot : Nat → Int32) (ob : Nat → Int64) (oc : Int32)  : Met l yX2_isFullOfObjects wsX2_isFullOfObjects ({ frames := 0, cells := 0, slots := 0, locals := 0 }) (va_Pc [.ref h2] (mb_RG tK tL tG ad (dC, dI) (mb_tys cyI cyZ cyJ) [(h2, .inr (4, [.ref h1, .ref b0, .ref b1, .int oc])), (h1, .inr (3, [.ref a0, .ref a1, .ref a2, .ref a3, .int sz])), (a0, .inl (cyI, 40, .inl so)), (a1, .inl (cyZ, 40, .inl fi)), (a2, .inl (cyI, 40, .inl el)), (a3, .inl (cyJ, 40, .inr (.inl ab))), (b0, .inl (cyI, 60, .inl ot)), (b1, .inl (cyJ, 60, .inr (.inl ob)))])) (vp_Si (fun r => r = f_X2_isFullOfObjects so fi el ab sz ot ob oc)) 0 0 (fun _ => False) := by
  refine Met.ofW (cc := cX2_isFullOfObjects) (maxL := 1) (ret := (some .boolean)) (by decide) rfl ?_
  intro p e s m args below meth c s₁ B hml hv
  obtain ⟨rfl, hG, hP, hK⟩ := hv
  have hx := B.exec
  have hb := B.bytes
  have hr := B.returns
  have hts := atoms_spec (ws := wsX2_isFullOfObjects) B.pre
  have hown : s.vm.findClass RX2 = some m.cls := findClass_of_methodNamed B.named
  have hlocks := B.notSynchronized
  have hP : va_P (dC, dI) vwCl [(h2, .inr (4, [.ref h1, .ref b0, .ref b1, .int oc])), (h1, .inr (3, [.ref a0, .ref a1, .ref a2, .ref a3, .int sz])), (a0, .inl (cyI, 40, .inl so)), (a1, .inl (cyZ, 40, .inl fi)), (a2, .inl (cyI, 40, .inl el)), (a3, .inl (cyJ, 40, .inr (.inl ab))), (b0, .inl (cyI, 60, .inl ot)), (b1, .inl (cyJ, 60, .inr (.inl ob)))] s.heap := hP
  have hP0 : va_P (dC, dI) vwCl [] s.heap := fun k q h => by simp at h
  have hin_X2 : ∀ w ∈ wsX20, w ∈ wsX2_isFullOfObjects := by decide +kernel
  have hf_24 := hts (.fieldLink RX2 24 "ConversionTables" "objectCount" "I") (by decide +kernel)
  have hl := lv_entry ([.ref h2]) (n := 1) (Nat.le_of_ble_eq_true rfl)
  rw [lg_entry_eq]
  generalize (lg_sl ([.ref h2]) ++ List.replicate (1 - (lg_sl ([.ref h2])).length) Slot.unset).toArray = ls at hl ⊢
  have hl : lv_has ls 1 [(0, .ref h2)] := hl
  refine lv_aload_n hx hb dX2_isFullOfObjects_0 rfl (lv_at hl 0 rfl) ?_
  refine va_get (D := (dC, dI)) (ci := 4) (v := .int oc) (C := RX2) (T := TX2) (N := 4) hx hb hts hin_X2 hown hK hP 0 rfl rfl 3 (by decide) hf_24 (fun _ h9 => h9) rfl dX2_isFullOfObjects_1 ?_
  refine lv_bipush (v := (60 : Int32)) hx hb dX2_isFullOfObjects_4 (by decide) ?_
  refine lv_icmp_lt (tgt := 13) hx hb dX2_isFullOfObjects_6 (by decide) (fun c_1 => ?_) (fun c_1 => ?_)
  · refine lv_iconst (v := (0 : Int32)) hx hb dX2_isFullOfObjects_13 (by decide) ?_
    exact W.zret (v := (0 : Int32)) hx hb hr rfl (fun t ht hW => ⟨(0 : Int32), rfl, Eq.symm ((if_pos c_1).trans (rfl)), ht⟩) (fun q h => by cases h) dX2_isFullOfObjects_14
  · refine lv_iconst (v := (1 : Int32)) hx hb dX2_isFullOfObjects_9 (by decide) ?_
    refine lv_goto (tgt := 14) hx hb dX2_isFullOfObjects_10 (by decide) ?_
    exact W.zret (v := (1 : Int32)) hx hb hr rfl (fun t ht hW => ⟨(1 : Int32), rfl, Eq.symm ((if_neg c_1).trans (rfl)), ht⟩) (fun q h => by cases h) dX2_isFullOfObjects_14
def f_X2_mayBeMade (so : Nat → Int32) (fi : Nat → Int32) (el : Nat → Int32) (ab : Nat → Int64) (sz : Int32) (ot : Nat → Int32) (ob : Nat → Int64) (oc : Int32) (x1 : Int32) : Int32 := if (23 : Int32) ≤ x1 then (if (f_X1_sortOf so fi el ab sz x1) = (2 : Int32) then (0 : Int32)
    else (1 : Int32))
  else if x1 = (16 : Int32) then (1 : Int32)
  else if x1 = (21 : Int32) then (1 : Int32)
  else if x1 = (22 : Int32) then (1 : Int32)
  else (0 : Int32)
theorem nb_X2_mayBeMade (so : Nat → Int32) (fi : Nat → Int32) (el : Nat → Int32) (ab : Nat → Int64) (sz : Int32) (ot : Nat → Int32) (ob : Nat → Int64) (oc : Int32) (x1 : Int32) : mb_B (f_X2_mayBeMade so fi el ab sz ot ob oc x1) := by
  unfold f_X2_mayBeMade
  exact mb_B_ite (mb_B_ite (rfl) (rfl)) (mb_B_ite (rfl) (mb_B_ite (rfl) (mb_B_ite (rfl) (rfl))))
set_option maxHeartbeats 4000000 in
set_option maxRecDepth 100000 in
theorem c_X2_mayBeMade (l : Launch) (dC : Nat → ClassId) (dI : Nat → Nat → Nat) (cyI cyZ cyJ : ClassId) (tK tL tG : Nat) (ad : Nat → Nat) (h2 h1 a0 a1 a2 a3 b0 b1 : Nat) (so : Nat → Int32) (fi : Nat → Int32) (el : Nat → Int32) (ab : Nat → Int64) (sz : Int32) (ot : Nat → Int32) (ob : Nat → Int64) (oc : Int32) (x1 : Int32) (g1 : vp_in x1 40) : Met l yX2_mayBeMade wsX2_mayBeMade ({ frames := 1, cells := 0, slots := 0, locals := 21 }) (va_Pc [.ref h2, .int x1] (mb_RG tK tL tG ad (dC, dI) (mb_tys cyI cyZ cyJ) [(h2, .inr (4, [.ref h1, .ref b0, .ref b1, .int oc])), (h1, .inr (3, [.ref a0, .ref a1, .ref a2, .ref a3, .int sz])), (a0, .inl (cyI, 40, .inl so)), (a1, .inl (cyZ, 40, .inl fi)), (a2, .inl (cyI, 40, .inl el)), (a3, .inl (cyJ, 40, .inr (.inl ab))), (b0, .inl (cyI, 60, .inl ot)), (b1, .inl (cyJ, 60, .inr (.inl ob)))])) (vp_Si (fun r => r = f_X2_mayBeMade so fi el ab sz ot ob oc x1)) 0 0 (fun _ => False) := by
  refine Met.ofW (cc := cX2_mayBeMade) (maxL := 2) (ret := (some .boolean)) (by decide) rfl ?_
  intro p e s m args below meth c s₁ B hml hv
  obtain ⟨rfl, hG, hP, hK⟩ := hv
  have hx := B.exec
  have hb := B.bytes
  have hr := B.returns
  have hts := atoms_spec (ws := wsX2_mayBeMade) B.pre
  have hown : s.vm.findClass RX2 = some m.cls := findClass_of_methodNamed B.named
  have hlocks := B.notSynchronized
  have hP : va_P (dC, dI) vwCl [(h2, .inr (4, [.ref h1, .ref b0, .ref b1, .int oc])), (h1, .inr (3, [.ref a0, .ref a1, .ref a2, .ref a3, .int sz])), (a0, .inl (cyI, 40, .inl so)), (a1, .inl (cyZ, 40, .inl fi)), (a2, .inl (cyI, 40, .inl el)), (a3, .inl (cyJ, 40, .inr (.inl ab))), (b0, .inl (cyI, 60, .inl ot)), (b1, .inl (cyJ, 60, .inr (.inl ob)))] s.heap := hP
  have hP0 : va_P (dC, dI) vwCl [] s.heap := fun k q h => by simp at h
  have hin_X2 : ∀ w ∈ wsX20, w ∈ wsX2_mayBeMade := by decide +kernel
  have hf_12 := hts (.fieldLink RX2 12 "ConversionTables" "types" "LConversionTables$TypeTable;") (by decide +kernel)
  have hl := lv_entry ([.ref h2, .int x1]) (n := 2) (Nat.le_of_ble_eq_true rfl)
  rw [lg_entry_eq]
  generalize (lg_sl ([.ref h2, .int x1]) ++ List.replicate (2 - (lg_sl ([.ref h2, .int x1])).length) Slot.unset).toArray = ls at hl ⊢
  have hl : lv_has ls 2 [(0, .ref h2), (1, .int x1)] := hl
  refine lv_iload_n hx hb dX2_mayBeMade_0 rfl (lv_at hl 1 rfl) ?_
  refine lv_bipush (v := (23 : Int32)) hx hb dX2_mayBeMade_1 (by decide) ?_
  refine lv_icmp_ge (tgt := 30) hx hb dX2_mayBeMade_3 (by decide) (fun c_1 => ?_) (fun c_1 => ?_)
  · refine lv_aload_n hx hb dX2_mayBeMade_30 rfl (lv_at hl 0 rfl) ?_
    refine va_get (D := (dC, dI)) (ci := 4) (v := .ref h1) (C := RX2) (T := TX2) (N := 4) hx hb hts hin_X2 hown hK hP 0 rfl rfl 0 (by decide) hf_12 (fun _ h9 => h9) rfl dX2_mayBeMade_31 ?_
    refine lv_iload_n hx hb dX2_mayBeMade_34 rfl (lv_at hl 1 rfl) ?_
    refine mb_callSi (W.runV (As := [.int x1]) (rest := []) ⟨hx, hb, hml, hown, hts⟩ (c_X1_sortOf l dC dI cyI cyZ cyJ h1 a0 a1 a2 a3 so fi el ab sz x1 g1) (cwV 1 hts gX2_mayBeMade_X1_sortOf rfl rfl rfl (by decide +kernel) ⟨Nat.le_of_ble_eq_true rfl, Nat.le_of_ble_eq_true rfl⟩) (mb_preV hK (hP.sub [1, 2, 3, 4, 5] rfl) (ci := 3) (q0 := 0) rfl rfl) rfl rfl hl.1 rfl (lv_room (Nat.le_of_ble_eq_true rfl)) dX2_mayBeMade_35 ⟨Nat.zero_le _, Nat.zero_le _⟩) ?_
    refine lv_iconst (v := (2 : Int32)) hx hb dX2_mayBeMade_38 (by decide) ?_
    refine lv_icmp_eq (tgt := 46) hx hb dX2_mayBeMade_39 (by decide) (fun c_2 => ?_) (fun c_2 => ?_)
    · refine lv_iconst (v := (0 : Int32)) hx hb dX2_mayBeMade_46 (by decide) ?_
      exact W.zret (v := (0 : Int32)) hx hb hr rfl (fun t ht hW => ⟨(0 : Int32), rfl, Eq.symm ((if_pos c_1).trans ((if_pos c_2).trans (rfl))), ht⟩) (fun q h => by cases h) dX2_mayBeMade_47
    · refine lv_iconst (v := (1 : Int32)) hx hb dX2_mayBeMade_42 (by decide) ?_
      refine lv_goto (tgt := 47) hx hb dX2_mayBeMade_43 (by decide) ?_
      exact W.zret (v := (1 : Int32)) hx hb hr rfl (fun t ht hW => ⟨(1 : Int32), rfl, Eq.symm ((if_pos c_1).trans ((if_neg c_2).trans (rfl))), ht⟩) (fun q h => by cases h) dX2_mayBeMade_47
  · refine lv_iload_n hx hb dX2_mayBeMade_6 rfl (lv_at hl 1 rfl) ?_
    refine lv_bipush (v := (16 : Int32)) hx hb dX2_mayBeMade_7 (by decide) ?_
    refine lv_icmp_eq (tgt := 24) hx hb dX2_mayBeMade_9 (by decide) (fun c_3 => ?_) (fun c_3 => ?_)
    · refine lv_iconst (v := (1 : Int32)) hx hb dX2_mayBeMade_24 (by decide) ?_
      refine lv_goto (tgt := 29) hx hb dX2_mayBeMade_25 (by decide) ?_
      exact W.zret (v := (1 : Int32)) hx hb hr rfl (fun t ht hW => ⟨(1 : Int32), rfl, Eq.symm ((if_neg c_1).trans ((if_pos c_3).trans (rfl))), ht⟩) (fun q h => by cases h) dX2_mayBeMade_29
    · refine lv_iload_n hx hb dX2_mayBeMade_12 rfl (lv_at hl 1 rfl) ?_
      refine lv_bipush (v := (21 : Int32)) hx hb dX2_mayBeMade_13 (by decide) ?_
      refine lv_icmp_eq (tgt := 24) hx hb dX2_mayBeMade_15 (by decide) (fun c_4 => ?_) (fun c_4 => ?_)
      · refine lv_iconst (v := (1 : Int32)) hx hb dX2_mayBeMade_24 (by decide) ?_
        refine lv_goto (tgt := 29) hx hb dX2_mayBeMade_25 (by decide) ?_
        exact W.zret (v := (1 : Int32)) hx hb hr rfl (fun t ht hW => ⟨(1 : Int32), rfl, Eq.symm ((if_neg c_1).trans ((if_neg c_3).trans ((if_pos c_4).trans (rfl)))), ht⟩) (fun q h => by cases h) dX2_mayBeMade_29
      · refine lv_iload_n hx hb dX2_mayBeMade_18 rfl (lv_at hl 1 rfl) ?_
        refine lv_bipush (v := (22 : Int32)) hx hb dX2_mayBeMade_19 (by decide) ?_
        refine lv_icmp_ne (tgt := 28) hx hb dX2_mayBeMade_21 (by decide) (fun c_5 => ?_) (fun c_5 => ?_)
        · refine lv_iconst (v := (0 : Int32)) hx hb dX2_mayBeMade_28 (by decide) ?_
          exact W.zret (v := (0 : Int32)) hx hb hr rfl (fun t ht hW => ⟨(0 : Int32), rfl, Eq.symm ((if_neg c_1).trans ((if_neg c_3).trans ((if_neg c_4).trans ((if_neg c_5).trans (rfl))))), ht⟩) (fun q h => by cases h) dX2_mayBeMade_29
        · refine lv_iconst (v := (1 : Int32)) hx hb dX2_mayBeMade_24 (by decide) ?_
          refine lv_goto (tgt := 29) hx hb dX2_mayBeMade_25 (by decide) ?_
          exact W.zret (v := (1 : Int32)) hx hb hr rfl (fun t ht hW => ⟨(1 : Int32), rfl, Eq.symm ((if_neg c_1).trans ((if_neg c_3).trans ((if_neg c_4).trans ((if_pos c_5).trans (rfl))))), ht⟩) (fun q h => by cases h) dX2_mayBeMade_29
theorem mb_objc {so fi el : Nat → Int32} {ab : Nat → Int64} {sz : Int32} {ot : Nat → Int32} {ob : Nat → Int64} {oc x : Int32} (h : ¬ f_X2_isObject so fi el ab sz ot ob oc x = 0) : ¬ x < 0 ∧ ¬ oc ≤ x := by
  unfold f_X2_isObject at h
  split at h
  · exact absurd rfl h
  · split at h
    · exact absurd rfl h
    · rename_i h1 h2
      exact ⟨h1, h2⟩
theorem mb_obj {so fi el : Nat → Int32} {ab : Nat → Int64} {sz : Int32} {ot : Nat → Int32} {ob : Nat → Int64} {oc x : Int32} (go : oc.toInt ≤ 60) (h : ¬ f_X2_isObject so fi el ab sz ot ob oc x = 0) : vp_in x 60 := by
  obtain ⟨h1, h2⟩ := mb_objc h
  rw [vp_in_iff]
  rw [Int32.lt_iff_toInt_lt, mb_i0] at h1
  rw [Int32.le_iff_toInt_le] at h2
  omega
theorem mb_own {so fi el : Nat → Int32} {ab : Nat → Int64} {sz : Int32} {ot : Nat → Int32} {ob : Nat → Int64} {oc x : Int32} (gt : ∀ x : Int32, ¬ x < 0 → ¬ oc ≤ x → vp_in (ot x.toNatClampNeg) 40) (h : ¬ f_X2_isObject so fi el ab sz ot ob oc x = 0) : vp_in (ot x.toNatClampNeg) 40 := gt x (mb_objc h).1 (mb_objc h).2

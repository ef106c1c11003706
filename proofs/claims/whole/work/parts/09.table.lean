/-- the element of an ARRAY stands before it -/
def mb_EL (so el : Nat → Int32) : Prop := ∀ x : Int32, vp_in x 40 → so x.toNatClampNeg = 3 → 0 ≤ (el x.toNatClampNeg).toInt ∧ (el x.toNatClampNeg).toInt < x.toInt
theorem mb_EL.vp {so el : Nat → Int32} (h : mb_EL so el) {x : Int32} (hx : vp_in x 40) (hs : so x.toNatClampNeg = 3) : vp_in (el x.toNatClampNeg) 40 := by
  have h1 := h x hx hs
  rw [vp_in_iff] at hx ⊢
  omega
theorem mb_inc {t : Int32} (h0 : 0 ≤ t.toInt) (h1 : t.toInt ≤ 100000) : (t + 1).toInt = t.toInt + 1 := by
  obtain ⟨j, hj, rfl⟩ := nI_of (x := t) (by rw [Int32.lt_iff_toInt_lt]; have : (0 : Int32).toInt = 0 := rfl; omega)
  rw [nI_toInt hj] at h0 h1 ⊢
  rw [nI_1, nI_toInt (by omega)]
  omega
def f_X1_size (so : Nat → Int32) (fi : Nat → Int32) (el : Nat → Int32) (ab : Nat → Int64) (sz : Int32) : Int32 := sz
set_option maxHeartbeats 4000000 in
set_option maxRecDepth 100000 in
theorem c_X1_size (l : Launch) (dC : Nat → ClassId) (dI : Nat → Nat → Nat) (cyI cyZ cyJ : ClassId) (h1 a0 a1 a2 a3 : Nat) (so : Nat → Int32) (fi : Nat → Int32) (el : Nat → Int32) (ab : Nat → Int64) (sz : Int32)  : Met l yX1_size wsX1_size ({ frames := 0, cells := 0, slots := 0, locals := 0 }) (va_Pc [.ref h1] (mb_R (dC, dI) (mb_tys cyI cyZ cyJ) [(h1, .inr (3, [.ref a0, .ref a1, .ref a2, .ref a3, .int sz])), (a0, .inl (cyI, 40, .inl so)), (a1, .inl (cyZ, 40, .inl fi)), (a2, .inl (cyI, 40, .inl el)), (a3, .inl (cyJ, 40, .inr (.inl ab)))])) (vp_Si (fun r => r = f_X1_size so fi el ab sz)) 0 0 (fun _ => False) := by
  refine Met.ofW (cc := cX1_size) (maxL := 1) (ret := (some .int)) (by decide) rfl ?_
  intro p e s m args below meth c s₁ B hml hv
  obtain ⟨rfl, hP, hK⟩ := hv
  have hx := B.exec
  have hb := B.bytes
  have hr := B.returns
  have hts := atoms_spec (ws := wsX1_size) B.pre
  have hown : s.vm.findClass RX1 = some m.cls := findClass_of_methodNamed B.named
  have hlocks := B.notSynchronized
  have hP : va_P (dC, dI) vwCl [(h1, .inr (3, [.ref a0, .ref a1, .ref a2, .ref a3, .int sz])), (a0, .inl (cyI, 40, .inl so)), (a1, .inl (cyZ, 40, .inl fi)), (a2, .inl (cyI, 40, .inl el)), (a3, .inl (cyJ, 40, .inr (.inl ab)))] s.heap := hP
  have hP0 : va_P (dC, dI) vwCl [] s.heap := fun k q h => by simp at h
  have hin_X1 : ∀ w ∈ wsX10, w ∈ wsX1_size := by decide +kernel
  have hf_26 := hts (.fieldLink RX1 26 "ConversionTables$TypeTable" "size" "I") (by decide +kernel)
  have hl := lv_entry ([.ref h1]) (n := 1) (Nat.le_of_ble_eq_true rfl)
  rw [lg_entry_eq]
  generalize (lg_sl ([.ref h1]) ++ List.replicate (1 - (lg_sl ([.ref h1])).length) Slot.unset).toArray = ls at hl ⊢
  have hl : lv_has ls 1 [(0, .ref h1)] := hl
  refine lv_aload_n hx hb dX1_size_0 rfl (lv_at hl 0 rfl) ?_
  refine va_get (D := (dC, dI)) (ci := 3) (v := .int sz) (C := RX1) (T := TX1) (N := 5) hx hb hts hin_X1 hown hK hP 0 rfl rfl 4 (by decide) hf_26 (fun _ h9 => h9) rfl dX1_size_1 ?_
  exact W.iret (v := sz) hx hb hr (fun t ht hW => ⟨sz, rfl, Eq.symm (rfl), ht⟩) (fun q h => by cases h) dX1_size_4
def f_X1_isFull (so : Nat → Int32) (fi : Nat → Int32) (el : Nat → Int32) (ab : Nat → Int64) (sz : Int32) : Int32 := if sz < (40 : Int32) then (0 : Int32)
  else (1 : Int32)
theorem nb_X1_isFull (so : Nat → Int32) (fi : Nat → Int32) (el : Nat → Int32) (ab : Nat → Int64) (sz : Int32) : mb_B (f_X1_isFull so fi el ab sz) := by
  unfold f_X1_isFull
  exact mb_B_ite (rfl) (rfl)
set_option maxHeartbeats 4000000 in
set_option maxRecDepth 100000 in
theorem c_X1_isFull (l : Launch) (dC : Nat → ClassId) (dI : Nat → Nat → Nat) (cyI cyZ cyJ : ClassId) (h1 a0 a1 a2 a3 : Nat) (so : Nat → Int32) (fi : Nat → Int32) (el : Nat → Int32) (ab : Nat → Int64) (sz : Int32)  : Met l yX1_isFull wsX1_isFull ({ frames := 0, cells := 0, slots := 0, locals := 0 }) (va_Pc [.ref h1] (mb_R (dC, dI) (mb_tys cyI cyZ cyJ) [(h1, .inr (3, [.ref a0, .ref a1, .ref a2, .ref a3, .int sz])), (a0, .inl (cyI, 40, .inl so)), (a1, .inl (cyZ, 40, .inl fi)), (a2, .inl (cyI, 40, .inl el)), (a3, .inl (cyJ, 40, .inr (.inl ab)))])) (vp_Si (fun r => r = f_X1_isFull so fi el ab sz)) 0 0 (fun _ => False) := by
  refine Met.ofW (cc := cX1_isFull) (maxL := 1) (ret := (some .boolean)) (by decide) rfl ?_
  intro p e s m args below meth c s₁ B hml hv
  obtain ⟨rfl, hP, hK⟩ := hv
  have hx := B.exec
  have hb := B.bytes
  have hr := B.returns
  have hts := atoms_spec (ws := wsX1_isFull) B.pre
  have hown : s.vm.findClass RX1 = some m.cls := findClass_of_methodNamed B.named
  have hlocks := B.notSynchronized
  have hP : va_P (dC, dI) vwCl [(h1, .inr (3, [.ref a0, .ref a1, .ref a2, .ref a3, .int sz])), (a0, .inl (cyI, 40, .inl so)), (a1, .inl (cyZ, 40, .inl fi)), (a2, .inl (cyI, 40, .inl el)), (a3, .inl (cyJ, 40, .inr (.inl ab)))] s.heap := hP
  have hP0 : va_P (dC, dI) vwCl [] s.heap := fun k q h => by simp at h
  have hin_X1 : ∀ w ∈ wsX10, w ∈ wsX1_isFull := by decide +kernel
  have hf_26 := hts (.fieldLink RX1 26 "ConversionTables$TypeTable" "size" "I") (by decide +kernel)
  have hl := lv_entry ([.ref h1]) (n := 1) (Nat.le_of_ble_eq_true rfl)
  rw [lg_entry_eq]
  generalize (lg_sl ([.ref h1]) ++ List.replicate (1 - (lg_sl ([.ref h1])).length) Slot.unset).toArray = ls at hl ⊢
  have hl : lv_has ls 1 [(0, .ref h1)] := hl
  refine lv_aload_n hx hb dX1_isFull_0 rfl (lv_at hl 0 rfl) ?_
  refine va_get (D := (dC, dI)) (ci := 3) (v := .int sz) (C := RX1) (T := TX1) (N := 5) hx hb hts hin_X1 hown hK hP 0 rfl rfl 4 (by decide) hf_26 (fun _ h9 => h9) rfl dX1_isFull_1 ?_
  refine lv_bipush (v := (40 : Int32)) hx hb dX1_isFull_4 (by decide) ?_
  refine lv_icmp_lt (tgt := 13) hx hb dX1_isFull_6 (by decide) (fun c_1 => ?_) (fun c_1 => ?_)
  · refine lv_iconst (v := (0 : Int32)) hx hb dX1_isFull_13 (by decide) ?_
    exact W.zret (v := (0 : Int32)) hx hb hr rfl (fun t ht hW => ⟨(0 : Int32), rfl, Eq.symm ((if_pos c_1).trans (rfl)), ht⟩) (fun q h => by cases h) dX1_isFull_14
  · refine lv_iconst (v := (1 : Int32)) hx hb dX1_isFull_9 (by decide) ?_
    refine lv_goto (tgt := 14) hx hb dX1_isFull_10 (by decide) ?_
    exact W.zret (v := (1 : Int32)) hx hb hr rfl (fun t ht hW => ⟨(1 : Int32), rfl, Eq.symm ((if_neg c_1).trans (rfl)), ht⟩) (fun q h => by cases h) dX1_isFull_14
def f_X1_has (so : Nat → Int32) (fi : Nat → Int32) (el : Nat → Int32) (ab : Nat → Int64) (sz : Int32) (x1 : Int32) : Int32 := if x1 < 0 then (0 : Int32)
  else if sz ≤ x1 then (0 : Int32)
  else (1 : Int32)
theorem nb_X1_has (so : Nat → Int32) (fi : Nat → Int32) (el : Nat → Int32) (ab : Nat → Int64) (sz : Int32) (x1 : Int32) : mb_B (f_X1_has so fi el ab sz x1) := by
  unfold f_X1_has
  exact mb_B_ite (rfl) (mb_B_ite (rfl) (rfl))
set_option maxHeartbeats 4000000 in
set_option maxRecDepth 100000 in
theorem c_X1_has (l : Launch) (dC : Nat → ClassId) (dI : Nat → Nat → Nat) (cyI cyZ cyJ : ClassId) (h1 a0 a1 a2 a3 : Nat) (so : Nat → Int32) (fi : Nat → Int32) (el : Nat → Int32) (ab : Nat → Int64) (sz : Int32) (x1 : Int32) : Met l yX1_has wsX1_has ({ frames := 0, cells := 0, slots := 0, locals := 0 }) (va_Pc [.ref h1, .int x1] (mb_R (dC, dI) (mb_tys cyI cyZ cyJ) [(h1, .inr (3, [.ref a0, .ref a1, .ref a2, .ref a3, .int sz])), (a0, .inl (cyI, 40, .inl so)), (a1, .inl (cyZ, 40, .inl fi)), (a2, .inl (cyI, 40, .inl el)), (a3, .inl (cyJ, 40, .inr (.inl ab)))])) (vp_Si (fun r => r = f_X1_has so fi el ab sz x1)) 0 0 (fun _ => False) := by
  refine Met.ofW (cc := cX1_has) (maxL := 2) (ret := (some .boolean)) (by decide) rfl ?_
  intro p e s m args below meth c s₁ B hml hv
  obtain ⟨rfl, hP, hK⟩ := hv
  have hx := B.exec
  have hb := B.bytes
  have hr := B.returns
  have hts := atoms_spec (ws := wsX1_has) B.pre
  have hown : s.vm.findClass RX1 = some m.cls := findClass_of_methodNamed B.named
  have hlocks := B.notSynchronized
  have hP : va_P (dC, dI) vwCl [(h1, .inr (3, [.ref a0, .ref a1, .ref a2, .ref a3, .int sz])), (a0, .inl (cyI, 40, .inl so)), (a1, .inl (cyZ, 40, .inl fi)), (a2, .inl (cyI, 40, .inl el)), (a3, .inl (cyJ, 40, .inr (.inl ab)))] s.heap := hP
  have hP0 : va_P (dC, dI) vwCl [] s.heap := fun k q h => by simp at h
  have hin_X1 : ∀ w ∈ wsX10, w ∈ wsX1_has := by decide +kernel
  have hf_26 := hts (.fieldLink RX1 26 "ConversionTables$TypeTable" "size" "I") (by decide +kernel)
  have hl := lv_entry ([.ref h1, .int x1]) (n := 2) (Nat.le_of_ble_eq_true rfl)
  rw [lg_entry_eq]
  generalize (lg_sl ([.ref h1, .int x1]) ++ List.replicate (2 - (lg_sl ([.ref h1, .int x1])).length) Slot.unset).toArray = ls at hl ⊢
  have hl : lv_has ls 2 [(0, .ref h1), (1, .int x1)] := hl
  refine lv_iload_n hx hb dX1_has_0 rfl (lv_at hl 1 rfl) ?_
  refine lv_if_lt (tgt := 16) hx hb dX1_has_1 (by decide) (fun c_1 => ?_) (fun c_1 => ?_)
  · refine lv_iconst (v := (0 : Int32)) hx hb dX1_has_16 (by decide) ?_
    exact W.zret (v := (0 : Int32)) hx hb hr rfl (fun t ht hW => ⟨(0 : Int32), rfl, Eq.symm ((if_pos c_1).trans (rfl)), ht⟩) (fun q h => by cases h) dX1_has_17
  · refine lv_iload_n hx hb dX1_has_4 rfl (lv_at hl 1 rfl) ?_
    refine lv_aload_n hx hb dX1_has_5 rfl (lv_at hl 0 rfl) ?_
    refine va_get (D := (dC, dI)) (ci := 3) (v := .int sz) (C := RX1) (T := TX1) (N := 5) hx hb hts hin_X1 hown hK hP 0 rfl rfl 4 (by decide) hf_26 (fun _ h9 => h9) rfl dX1_has_6 ?_
    refine lv_icmp_ge (tgt := 16) hx hb dX1_has_9 (by decide) (fun c_2 => ?_) (fun c_2 => ?_)
    · refine lv_iconst (v := (0 : Int32)) hx hb dX1_has_16 (by decide) ?_
      exact W.zret (v := (0 : Int32)) hx hb hr rfl (fun t ht hW => ⟨(0 : Int32), rfl, Eq.symm ((if_neg c_1).trans ((if_pos c_2).trans (rfl))), ht⟩) (fun q h => by cases h) dX1_has_17
    · refine lv_iconst (v := (1 : Int32)) hx hb dX1_has_12 (by decide) ?_
      refine lv_goto (tgt := 17) hx hb dX1_has_13 (by decide) ?_
      exact W.zret (v := (1 : Int32)) hx hb hr rfl (fun t ht hW => ⟨(1 : Int32), rfl, Eq.symm ((if_neg c_1).trans ((if_neg c_2).trans (rfl))), ht⟩) (fun q h => by cases h) dX1_has_17
def f_X1_sortOf (so : Nat → Int32) (fi : Nat → Int32) (el : Nat → Int32) (ab : Nat → Int64) (sz : Int32) (x1 : Int32) : Int32 := (so x1.toNatClampNeg)
set_option maxHeartbeats 4000000 in
set_option maxRecDepth 100000 in
theorem c_X1_sortOf (l : Launch) (dC : Nat → ClassId) (dI : Nat → Nat → Nat) (cyI cyZ cyJ : ClassId) (h1 a0 a1 a2 a3 : Nat) (so : Nat → Int32) (fi : Nat → Int32) (el : Nat → Int32) (ab : Nat → Int64) (sz : Int32) (x1 : Int32) (g1 : vp_in x1 40) : Met l yX1_sortOf wsX1_sortOf ({ frames := 0, cells := 0, slots := 0, locals := 0 }) (va_Pc [.ref h1, .int x1] (mb_R (dC, dI) (mb_tys cyI cyZ cyJ) [(h1, .inr (3, [.ref a0, .ref a1, .ref a2, .ref a3, .int sz])), (a0, .inl (cyI, 40, .inl so)), (a1, .inl (cyZ, 40, .inl fi)), (a2, .inl (cyI, 40, .inl el)), (a3, .inl (cyJ, 40, .inr (.inl ab)))])) (vp_Si (fun r => r = f_X1_sortOf so fi el ab sz x1)) 0 0 (fun _ => False) := by
  refine Met.ofW (cc := cX1_sortOf) (maxL := 2) (ret := (some .int)) (by decide) rfl ?_
  intro p e s m args below meth c s₁ B hml hv
  obtain ⟨rfl, hP, hK⟩ := hv
  have hx := B.exec
  have hb := B.bytes
  have hr := B.returns
  have hts := atoms_spec (ws := wsX1_sortOf) B.pre
  have hown : s.vm.findClass RX1 = some m.cls := findClass_of_methodNamed B.named
  have hlocks := B.notSynchronized
  have hP : va_P (dC, dI) vwCl [(h1, .inr (3, [.ref a0, .ref a1, .ref a2, .ref a3, .int sz])), (a0, .inl (cyI, 40, .inl so)), (a1, .inl (cyZ, 40, .inl fi)), (a2, .inl (cyI, 40, .inl el)), (a3, .inl (cyJ, 40, .inr (.inl ab)))] s.heap := hP
  have hP0 : va_P (dC, dI) vwCl [] s.heap := fun k q h => by simp at h
  have hin_X1 : ∀ w ∈ wsX10, w ∈ wsX1_sortOf := by decide +kernel
  have hf_9 := hts (.fieldLink RX1 9 "ConversionTables$TypeTable" "sorts" "[I") (by decide +kernel)
  have hl := lv_entry ([.ref h1, .int x1]) (n := 2) (Nat.le_of_ble_eq_true rfl)
  rw [lg_entry_eq]
  generalize (lg_sl ([.ref h1, .int x1]) ++ List.replicate (2 - (lg_sl ([.ref h1, .int x1])).length) Slot.unset).toArray = ls at hl ⊢
  have hl : lv_has ls 2 [(0, .ref h1), (1, .int x1)] := hl
  refine lv_aload_n hx hb dX1_sortOf_0 rfl (lv_at hl 0 rfl) ?_
  refine va_get (D := (dC, dI)) (ci := 3) (v := .ref a0) (C := RX1) (T := TX1) (N := 5) hx hb hts hin_X1 hown hK hP 0 rfl rfl 0 (by decide) hf_9 (fun _ h9 => h9) rfl dX1_sortOf_1 ?_
  refine lv_iload_n hx hb dX1_sortOf_4 rfl (lv_at hl 1 rfl) ?_
  refine va_iald hx hb hK hP 1 0 rfl rfl g1 dX1_sortOf_5 ?_
  exact W.iret (v := (so x1.toNatClampNeg)) hx hb hr (fun t ht hW => ⟨(so x1.toNatClampNeg), rfl, Eq.symm (rfl), ht⟩) (fun q h => by cases h) dX1_sortOf_6
def f_X1_isFinal (so : Nat → Int32) (fi : Nat → Int32) (el : Nat → Int32) (ab : Nat → Int64) (sz : Int32) (x1 : Int32) : Int32 := (fi x1.toNatClampNeg)
theorem nb_X1_isFinal (so : Nat → Int32) (fi : Nat → Int32) (el : Nat → Int32) (ab : Nat → Int64) (sz : Int32) (x1 : Int32) (gb : ∀ k, mb_B (fi k)): mb_B (f_X1_isFinal so fi el ab sz x1) := by
  unfold f_X1_isFinal
  exact (by first | assumption | exact gb _)
set_option maxHeartbeats 4000000 in
set_option maxRecDepth 100000 in
theorem c_X1_isFinal (l : Launch) (dC : Nat → ClassId) (dI : Nat → Nat → Nat) (cyI cyZ cyJ : ClassId) (h1 a0 a1 a2 a3 : Nat) (so : Nat → Int32) (fi : Nat → Int32) (el : Nat → Int32) (ab : Nat → Int64) (sz : Int32) (x1 : Int32) (g1 : vp_in x1 40) (gb : ∀ k, mb_B (fi k)) : Met l yX1_isFinal wsX1_isFinal ({ frames := 0, cells := 0, slots := 0, locals := 0 }) (va_Pc [.ref h1, .int x1] (mb_R (dC, dI) (mb_tys cyI cyZ cyJ) [(h1, .inr (3, [.ref a0, .ref a1, .ref a2, .ref a3, .int sz])), (a0, .inl (cyI, 40, .inl so)), (a1, .inl (cyZ, 40, .inl fi)), (a2, .inl (cyI, 40, .inl el)), (a3, .inl (cyJ, 40, .inr (.inl ab)))])) (vp_Si (fun r => r = f_X1_isFinal so fi el ab sz x1)) 0 0 (fun _ => False) := by
  refine Met.ofW (cc := cX1_isFinal) (maxL := 2) (ret := (some .boolean)) (by decide) rfl ?_
  intro p e s m args below meth c s₁ B hml hv
  obtain ⟨rfl, hP, hK⟩ := hv
  have hx := B.exec
  have hb := B.bytes
  have hr := B.returns
  have hts := atoms_spec (ws := wsX1_isFinal) B.pre
  have hown : s.vm.findClass RX1 = some m.cls := findClass_of_methodNamed B.named
  have hlocks := B.notSynchronized
  have hP : va_P (dC, dI) vwCl [(h1, .inr (3, [.ref a0, .ref a1, .ref a2, .ref a3, .int sz])), (a0, .inl (cyI, 40, .inl so)), (a1, .inl (cyZ, 40, .inl fi)), (a2, .inl (cyI, 40, .inl el)), (a3, .inl (cyJ, 40, .inr (.inl ab)))] s.heap := hP
  have hP0 : va_P (dC, dI) vwCl [] s.heap := fun k q h => by simp at h
  have hin_X1 : ∀ w ∈ wsX10, w ∈ wsX1_isFinal := by decide +kernel
  have hf_15 := hts (.fieldLink RX1 15 "ConversionTables$TypeTable" "finals" "[Z") (by decide +kernel)
  have hl := lv_entry ([.ref h1, .int x1]) (n := 2) (Nat.le_of_ble_eq_true rfl)
  rw [lg_entry_eq]
  generalize (lg_sl ([.ref h1, .int x1]) ++ List.replicate (2 - (lg_sl ([.ref h1, .int x1])).length) Slot.unset).toArray = ls at hl ⊢
  have hl : lv_has ls 2 [(0, .ref h1), (1, .int x1)] := hl
  refine lv_aload_n hx hb dX1_isFinal_0 rfl (lv_at hl 0 rfl) ?_
  refine va_get (D := (dC, dI)) (ci := 3) (v := .ref a1) (C := RX1) (T := TX1) (N := 5) hx hb hts hin_X1 hown hK hP 0 rfl rfl 1 (by decide) hf_15 (fun _ h9 => h9) rfl dX1_isFinal_1 ?_
  refine lv_iload_n hx hb dX1_isFinal_4 rfl (lv_at hl 1 rfl) ?_
  refine va_zald hx hb hK hP 2 1 rfl rfl g1 dX1_isFinal_5 ?_
  exact W.zret (v := (fi x1.toNatClampNeg)) hx hb hr (by first | assumption | exact gb _) (fun t ht hW => ⟨(fi x1.toNatClampNeg), rfl, Eq.symm (rfl), ht⟩) (fun q h => by cases h) dX1_isFinal_6
def f_X1_elementOf (so : Nat → Int32) (fi : Nat → Int32) (el : Nat → Int32) (ab : Nat → Int64) (sz : Int32) (x1 : Int32) : Int32 := (el x1.toNatClampNeg)
set_option maxHeartbeats 4000000 in
set_option maxRecDepth 100000 in
theorem c_X1_elementOf (l : Launch) (dC : Nat → ClassId) (dI : Nat → Nat → Nat) (cyI cyZ cyJ : ClassId) (h1 a0 a1 a2 a3 : Nat) (so : Nat → Int32) (fi : Nat → Int32) (el : Nat → Int32) (ab : Nat → Int64) (sz : Int32) (x1 : Int32) (g1 : vp_in x1 40) : Met l yX1_elementOf wsX1_elementOf ({ frames := 0, cells := 0, slots := 0, locals := 0 }) (va_Pc [.ref h1, .int x1] (mb_R (dC, dI) (mb_tys cyI cyZ cyJ) [(h1, .inr (3, [.ref a0, .ref a1, .ref a2, .ref a3, .int sz])), (a0, .inl (cyI, 40, .inl so)), (a1, .inl (cyZ, 40, .inl fi)), (a2, .inl (cyI, 40, .inl el)), (a3, .inl (cyJ, 40, .inr (.inl ab)))])) (vp_Si (fun r => r = f_X1_elementOf so fi el ab sz x1)) 0 0 (fun _ => False) := by
  refine Met.ofW (cc := cX1_elementOf) (maxL := 2) (ret := (some .int)) (by decide) rfl ?_
  intro p e s m args below meth c s₁ B hml hv
  obtain ⟨rfl, hP, hK⟩ := hv
  have hx := B.exec
  have hb := B.bytes
  have hr := B.returns
  have hts := atoms_spec (ws := wsX1_elementOf) B.pre
  have hown : s.vm.findClass RX1 = some m.cls := findClass_of_methodNamed B.named
  have hlocks := B.notSynchronized
  have hP : va_P (dC, dI) vwCl [(h1, .inr (3, [.ref a0, .ref a1, .ref a2, .ref a3, .int sz])), (a0, .inl (cyI, 40, .inl so)), (a1, .inl (cyZ, 40, .inl fi)), (a2, .inl (cyI, 40, .inl el)), (a3, .inl (cyJ, 40, .inr (.inl ab)))] s.heap := hP
  have hP0 : va_P (dC, dI) vwCl [] s.heap := fun k q h => by simp at h
  have hin_X1 : ∀ w ∈ wsX10, w ∈ wsX1_elementOf := by decide +kernel
  have hf_19 := hts (.fieldLink RX1 19 "ConversionTables$TypeTable" "elements" "[I") (by decide +kernel)
  have hl := lv_entry ([.ref h1, .int x1]) (n := 2) (Nat.le_of_ble_eq_true rfl)
  rw [lg_entry_eq]
  generalize (lg_sl ([.ref h1, .int x1]) ++ List.replicate (2 - (lg_sl ([.ref h1, .int x1])).length) Slot.unset).toArray = ls at hl ⊢
  have hl : lv_has ls 2 [(0, .ref h1), (1, .int x1)] := hl
  refine lv_aload_n hx hb dX1_elementOf_0 rfl (lv_at hl 0 rfl) ?_
  refine va_get (D := (dC, dI)) (ci := 3) (v := .ref a2) (C := RX1) (T := TX1) (N := 5) hx hb hts hin_X1 hown hK hP 0 rfl rfl 2 (by decide) hf_19 (fun _ h9 => h9) rfl dX1_elementOf_1 ?_
  refine lv_iload_n hx hb dX1_elementOf_4 rfl (lv_at hl 1 rfl) ?_
  refine va_iald hx hb hK hP 3 0 rfl rfl g1 dX1_elementOf_5 ?_
  exact W.iret (v := (el x1.toNatClampNeg)) hx hb hr (fun t ht hW => ⟨(el x1.toNatClampNeg), rfl, Eq.symm (rfl), ht⟩) (fun q h => by cases h) dX1_elementOf_6
def f_X1_countAbove (so : Nat → Int32) (fi : Nat → Int32) (el : Nat → Int32) (ab : Nat → Int64) (sz : Int32) (x1 : Int32) : Int32 := (f_J13_bitCount_95d88 (ab x1.toNatClampNeg))
set_option maxHeartbeats 4000000 in
set_option maxRecDepth 100000 in
theorem c_X1_countAbove (l : Launch) (dC : Nat → ClassId) (dI : Nat → Nat → Nat) (cyI cyZ cyJ : ClassId) (h1 a0 a1 a2 a3 : Nat) (so : Nat → Int32) (fi : Nat → Int32) (el : Nat → Int32) (ab : Nat → Int64) (sz : Int32) (x1 : Int32) (g1 : vp_in x1 40) : Met l yX1_countAbove wsX1_countAbove ({ frames := 1, cells := 0, slots := 0, locals := 21 }) (va_Pc [.ref h1, .int x1] (mb_R (dC, dI) (mb_tys cyI cyZ cyJ) [(h1, .inr (3, [.ref a0, .ref a1, .ref a2, .ref a3, .int sz])), (a0, .inl (cyI, 40, .inl so)), (a1, .inl (cyZ, 40, .inl fi)), (a2, .inl (cyI, 40, .inl el)), (a3, .inl (cyJ, 40, .inr (.inl ab)))])) (vp_Si (fun r => r = f_X1_countAbove so fi el ab sz x1)) 0 0 (fun _ => False) := by
  refine Met.ofW (cc := cX1_countAbove) (maxL := 2) (ret := (some .int)) (by decide) rfl ?_
  intro p e s m args below meth c s₁ B hml hv
  obtain ⟨rfl, hP, hK⟩ := hv
  have hx := B.exec
  have hb := B.bytes
  have hr := B.returns
  have hts := atoms_spec (ws := wsX1_countAbove) B.pre
  have hown : s.vm.findClass RX1 = some m.cls := findClass_of_methodNamed B.named
  have hlocks := B.notSynchronized
  have hP : va_P (dC, dI) vwCl [(h1, .inr (3, [.ref a0, .ref a1, .ref a2, .ref a3, .int sz])), (a0, .inl (cyI, 40, .inl so)), (a1, .inl (cyZ, 40, .inl fi)), (a2, .inl (cyI, 40, .inl el)), (a3, .inl (cyJ, 40, .inr (.inl ab)))] s.heap := hP
  have hP0 : va_P (dC, dI) vwCl [] s.heap := fun k q h => by simp at h
  have hin_X1 : ∀ w ∈ wsX10, w ∈ wsX1_countAbove := by decide +kernel
  have hf_22 := hts (.fieldLink RX1 22 "ConversionTables$TypeTable" "aboves" "[J") (by decide +kernel)
  have hl := lv_entry ([.ref h1, .int x1]) (n := 2) (Nat.le_of_ble_eq_true rfl)
  rw [lg_entry_eq]
  generalize (lg_sl ([.ref h1, .int x1]) ++ List.replicate (2 - (lg_sl ([.ref h1, .int x1])).length) Slot.unset).toArray = ls at hl ⊢
  have hl : lv_has ls 2 [(0, .ref h1), (1, .int x1)] := hl
  refine lv_aload_n hx hb dX1_countAbove_0 rfl (lv_at hl 0 rfl) ?_
  refine va_get (D := (dC, dI)) (ci := 3) (v := .ref a3) (C := RX1) (T := TX1) (N := 5) hx hb hts hin_X1 hown hK hP 0 rfl rfl 3 (by decide) hf_22 (fun _ h9 => h9) rfl dX1_countAbove_1 ?_
  refine lv_iload_n hx hb dX1_countAbove_4 rfl (lv_at hl 1 rfl) ?_
  refine va_lald hx hb hK hP 4 2 rfl rfl g1 dX1_countAbove_5 ?_
  refine mb_callSi (W.runS (As := [.long (ab x1.toNatClampNeg)]) (rest := []) ⟨hx, hb, hml, hown, hts⟩ (c_J13_bitCount_95d88 l (ab x1.toNatClampNeg)) (va_cwS 1 hts gX1_countAbove_J13_bitCount_95d88 rfl rfl rfl (by decide +kernel) ⟨Nat.le_of_ble_eq_true rfl, Nat.le_of_ble_eq_true rfl⟩) mb_preT rfl rfl hl.1 rfl (lv_room (Nat.le_of_ble_eq_true rfl)) dX1_countAbove_6 ⟨Nat.zero_le _, Nat.zero_le _⟩) ?_
  exact W.iret (v := (f_J13_bitCount_95d88 (ab x1.toNatClampNeg))) hx hb hr (fun t ht hW => ⟨(f_J13_bitCount_95d88 (ab x1.toNatClampNeg)), rfl, Eq.symm (rfl), ht⟩) (fun q h => by cases h) dX1_countAbove_9
def f_X1_isUnder (so : Nat → Int32) (fi : Nat → Int32) (el : Nat → Int32) (ab : Nat → Int64) (sz : Int32) (x1 : Int32) (x2 : Int32) : Int32 := if ((ab x1.toNatClampNeg) &&& (f_X1_bit x2)) = (0 : Int64) then (0 : Int32)
  else (1 : Int32)
theorem nb_X1_isUnder (so : Nat → Int32) (fi : Nat → Int32) (el : Nat → Int32) (ab : Nat → Int64) (sz : Int32) (x1 : Int32) (x2 : Int32) : mb_B (f_X1_isUnder so fi el ab sz x1 x2) := by
  unfold f_X1_isUnder
  exact mb_B_ite (rfl) (rfl)
set_option maxHeartbeats 4000000 in
set_option maxRecDepth 100000 in
theorem c_X1_isUnder (l : Launch) (dC : Nat → ClassId) (dI : Nat → Nat → Nat) (cyI cyZ cyJ : ClassId) (h1 a0 a1 a2 a3 : Nat) (so : Nat → Int32) (fi : Nat → Int32) (el : Nat → Int32) (ab : Nat → Int64) (sz : Int32) (x1 : Int32) (x2 : Int32) (g1 : vp_in x1 40) : Met l yX1_isUnder wsX1_isUnder ({ frames := 1, cells := 0, slots := 0, locals := 20 }) (va_Pc [.ref h1, .int x1, .int x2] (mb_R (dC, dI) (mb_tys cyI cyZ cyJ) [(h1, .inr (3, [.ref a0, .ref a1, .ref a2, .ref a3, .int sz])), (a0, .inl (cyI, 40, .inl so)), (a1, .inl (cyZ, 40, .inl fi)), (a2, .inl (cyI, 40, .inl el)), (a3, .inl (cyJ, 40, .inr (.inl ab)))])) (vp_Si (fun r => r = f_X1_isUnder so fi el ab sz x1 x2)) 0 0 (fun _ => False) := by
  refine Met.ofW (cc := cX1_isUnder) (maxL := 3) (ret := (some .boolean)) (by decide) rfl ?_
  intro p e s m args below meth c s₁ B hml hv
  obtain ⟨rfl, hP, hK⟩ := hv
  have hx := B.exec
  have hb := B.bytes
  have hr := B.returns
  have hts := atoms_spec (ws := wsX1_isUnder) B.pre
  have hown : s.vm.findClass RX1 = some m.cls := findClass_of_methodNamed B.named
  have hlocks := B.notSynchronized
  have hP : va_P (dC, dI) vwCl [(h1, .inr (3, [.ref a0, .ref a1, .ref a2, .ref a3, .int sz])), (a0, .inl (cyI, 40, .inl so)), (a1, .inl (cyZ, 40, .inl fi)), (a2, .inl (cyI, 40, .inl el)), (a3, .inl (cyJ, 40, .inr (.inl ab)))] s.heap := hP
  have hP0 : va_P (dC, dI) vwCl [] s.heap := fun k q h => by simp at h
  have hin_X1 : ∀ w ∈ wsX10, w ∈ wsX1_isUnder := by decide +kernel
  have hf_22 := hts (.fieldLink RX1 22 "ConversionTables$TypeTable" "aboves" "[J") (by decide +kernel)
  have hl := lv_entry ([.ref h1, .int x1, .int x2]) (n := 3) (Nat.le_of_ble_eq_true rfl)
  rw [lg_entry_eq]
  generalize (lg_sl ([.ref h1, .int x1, .int x2]) ++ List.replicate (3 - (lg_sl ([.ref h1, .int x1, .int x2])).length) Slot.unset).toArray = ls at hl ⊢
  have hl : lv_has ls 3 [(0, .ref h1), (1, .int x1), (2, .int x2)] := hl
  refine lv_aload_n hx hb dX1_isUnder_0 rfl (lv_at hl 0 rfl) ?_
  refine va_get (D := (dC, dI)) (ci := 3) (v := .ref a3) (C := RX1) (T := TX1) (N := 5) hx hb hts hin_X1 hown hK hP 0 rfl rfl 3 (by decide) hf_22 (fun _ h9 => h9) rfl dX1_isUnder_1 ?_
  refine lv_iload_n hx hb dX1_isUnder_4 rfl (lv_at hl 1 rfl) ?_
  refine va_lald hx hb hK hP 4 2 rfl rfl g1 dX1_isUnder_5 ?_
  refine lv_iload_n hx hb dX1_isUnder_6 rfl (lv_at hl 2 rfl) ?_
  refine mb_callSl (W.runS (As := [.int x2]) (rest := [.long (ab x1.toNatClampNeg)]) ⟨hx, hb, hml, hown, hts⟩ (c_X1_bit l x2) (va_cwS 1 hts gX1_isUnder_X1_bit rfl rfl rfl (by decide +kernel) ⟨Nat.le_of_ble_eq_true rfl, Nat.le_of_ble_eq_true rfl⟩) mb_preT rfl rfl hl.1 rfl (lv_room (Nat.le_of_ble_eq_true rfl)) dX1_isUnder_7 ⟨Nat.zero_le _, Nat.zero_le _⟩) ?_
  refine lv_land hx hb dX1_isUnder_10 ?_
  refine lv_lconst (v := (0 : Int64)) hx hb dX1_isUnder_11 (by decide) ?_
  refine mb_lc_eq (tgt := 20) hx hb dX1_isUnder_12 dX1_isUnder_13 (by decide) (fun c_1 => ?_) (fun c_1 => ?_)
  · refine lv_iconst (v := (0 : Int32)) hx hb dX1_isUnder_20 (by decide) ?_
    exact W.zret (v := (0 : Int32)) hx hb hr rfl (fun t ht hW => ⟨(0 : Int32), rfl, Eq.symm ((if_pos c_1).trans (rfl)), ht⟩) (fun q h => by cases h) dX1_isUnder_21
  · refine lv_iconst (v := (1 : Int32)) hx hb dX1_isUnder_16 (by decide) ?_
    refine lv_goto (tgt := 21) hx hb dX1_isUnder_17 (by decide) ?_
    exact W.zret (v := (1 : Int32)) hx hb hr rfl (fun t ht hW => ⟨(1 : Int32), rfl, Eq.symm ((if_neg c_1).trans (rfl)), ht⟩) (fun q h => by cases h) dX1_isUnder_21
def f_X1_mayHaveSubclass (so : Nat → Int32) (fi : Nat → Int32) (el : Nat → Int32) (ab : Nat → Int64) (sz : Int32) (x1 : Int32) : Int32 := if (so x1.toNatClampNeg) = (1 : Int32) then (if (fi x1.toNatClampNeg) = 0 then (if x1 = (17 : Int32) then (0 : Int32)
      else (1 : Int32))
    else (0 : Int32))
  else (0 : Int32)
theorem nb_X1_mayHaveSubclass (so : Nat → Int32) (fi : Nat → Int32) (el : Nat → Int32) (ab : Nat → Int64) (sz : Int32) (x1 : Int32) : mb_B (f_X1_mayHaveSubclass so fi el ab sz x1) := by
  unfold f_X1_mayHaveSubclass
  exact mb_B_ite (mb_B_ite (mb_B_ite (rfl) (rfl)) (rfl)) (rfl)
set_option maxHeartbeats 4000000 in
set_option maxRecDepth 100000 in
theorem c_X1_mayHaveSubclass (l : Launch) (dC : Nat → ClassId) (dI : Nat → Nat → Nat) (cyI cyZ cyJ : ClassId) (h1 a0 a1 a2 a3 : Nat) (so : Nat → Int32) (fi : Nat → Int32) (el : Nat → Int32) (ab : Nat → Int64) (sz : Int32) (x1 : Int32) (g1 : vp_in x1 40) : Met l yX1_mayHaveSubclass wsX1_mayHaveSubclass ({ frames := 0, cells := 0, slots := 0, locals := 0 }) (va_Pc [.ref h1, .int x1] (mb_R (dC, dI) (mb_tys cyI cyZ cyJ) [(h1, .inr (3, [.ref a0, .ref a1, .ref a2, .ref a3, .int sz])), (a0, .inl (cyI, 40, .inl so)), (a1, .inl (cyZ, 40, .inl fi)), (a2, .inl (cyI, 40, .inl el)), (a3, .inl (cyJ, 40, .inr (.inl ab)))])) (vp_Si (fun r => r = f_X1_mayHaveSubclass so fi el ab sz x1)) 0 0 (fun _ => False) := by
  refine Met.ofW (cc := cX1_mayHaveSubclass) (maxL := 2) (ret := (some .boolean)) (by decide) rfl ?_
  intro p e s m args below meth c s₁ B hml hv
  obtain ⟨rfl, hP, hK⟩ := hv
  have hx := B.exec
  have hb := B.bytes
  have hr := B.returns
  have hts := atoms_spec (ws := wsX1_mayHaveSubclass) B.pre
  have hown : s.vm.findClass RX1 = some m.cls := findClass_of_methodNamed B.named
  have hlocks := B.notSynchronized
  have hP : va_P (dC, dI) vwCl [(h1, .inr (3, [.ref a0, .ref a1, .ref a2, .ref a3, .int sz])), (a0, .inl (cyI, 40, .inl so)), (a1, .inl (cyZ, 40, .inl fi)), (a2, .inl (cyI, 40, .inl el)), (a3, .inl (cyJ, 40, .inr (.inl ab)))] s.heap := hP
  have hP0 : va_P (dC, dI) vwCl [] s.heap := fun k q h => by simp at h
  have hin_X1 : ∀ w ∈ wsX10, w ∈ wsX1_mayHaveSubclass := by decide +kernel
  have hf_9 := hts (.fieldLink RX1 9 "ConversionTables$TypeTable" "sorts" "[I") (by decide +kernel)
  have hf_15 := hts (.fieldLink RX1 15 "ConversionTables$TypeTable" "finals" "[Z") (by decide +kernel)
  have hl := lv_entry ([.ref h1, .int x1]) (n := 2) (Nat.le_of_ble_eq_true rfl)
  rw [lg_entry_eq]
  generalize (lg_sl ([.ref h1, .int x1]) ++ List.replicate (2 - (lg_sl ([.ref h1, .int x1])).length) Slot.unset).toArray = ls at hl ⊢
  have hl : lv_has ls 2 [(0, .ref h1), (1, .int x1)] := hl
  refine lv_aload_n hx hb dX1_mayHaveSubclass_0 rfl (lv_at hl 0 rfl) ?_
  refine va_get (D := (dC, dI)) (ci := 3) (v := .ref a0) (C := RX1) (T := TX1) (N := 5) hx hb hts hin_X1 hown hK hP 0 rfl rfl 0 (by decide) hf_9 (fun _ h9 => h9) rfl dX1_mayHaveSubclass_1 ?_
  refine lv_iload_n hx hb dX1_mayHaveSubclass_4 rfl (lv_at hl 1 rfl) ?_
  refine va_iald hx hb hK hP 1 0 rfl rfl g1 dX1_mayHaveSubclass_5 ?_
  refine lv_iconst (v := (1 : Int32)) hx hb dX1_mayHaveSubclass_6 (by decide) ?_
  refine lv_icmp_ne (tgt := 29) hx hb dX1_mayHaveSubclass_7 (by decide) (fun c_1 => ?_) (fun c_1 => ?_)
  · refine lv_iconst (v := (0 : Int32)) hx hb dX1_mayHaveSubclass_29 (by decide) ?_
    exact W.zret (v := (0 : Int32)) hx hb hr rfl (fun t ht hW => ⟨(0 : Int32), rfl, Eq.symm ((if_neg c_1).trans (rfl)), ht⟩) (fun q h => by cases h) dX1_mayHaveSubclass_30
  · refine lv_aload_n hx hb dX1_mayHaveSubclass_10 rfl (lv_at hl 0 rfl) ?_
    refine va_get (D := (dC, dI)) (ci := 3) (v := .ref a1) (C := RX1) (T := TX1) (N := 5) hx hb hts hin_X1 hown hK hP 0 rfl rfl 1 (by decide) hf_15 (fun _ h9 => h9) rfl dX1_mayHaveSubclass_11 ?_
    refine lv_iload_n hx hb dX1_mayHaveSubclass_14 rfl (lv_at hl 1 rfl) ?_
    refine va_zald hx hb hK hP 2 1 rfl rfl g1 dX1_mayHaveSubclass_15 ?_
    refine lv_if_ne (tgt := 29) hx hb dX1_mayHaveSubclass_16 (by decide) (fun c_2 => ?_) (fun c_2 => ?_)
    · refine lv_iconst (v := (0 : Int32)) hx hb dX1_mayHaveSubclass_29 (by decide) ?_
      exact W.zret (v := (0 : Int32)) hx hb hr rfl (fun t ht hW => ⟨(0 : Int32), rfl, Eq.symm ((if_pos c_1).trans ((if_neg c_2).trans (rfl))), ht⟩) (fun q h => by cases h) dX1_mayHaveSubclass_30
    · refine lv_iload_n hx hb dX1_mayHaveSubclass_19 rfl (lv_at hl 1 rfl) ?_
      refine lv_bipush (v := (17 : Int32)) hx hb dX1_mayHaveSubclass_20 (by decide) ?_
      refine lv_icmp_eq (tgt := 29) hx hb dX1_mayHaveSubclass_22 (by decide) (fun c_3 => ?_) (fun c_3 => ?_)
      · refine lv_iconst (v := (0 : Int32)) hx hb dX1_mayHaveSubclass_29 (by decide) ?_
        exact W.zret (v := (0 : Int32)) hx hb hr rfl (fun t ht hW => ⟨(0 : Int32), rfl, Eq.symm ((if_pos c_1).trans ((if_pos c_2).trans ((if_pos c_3).trans (rfl)))), ht⟩) (fun q h => by cases h) dX1_mayHaveSubclass_30
      · refine lv_iconst (v := (1 : Int32)) hx hb dX1_mayHaveSubclass_25 (by decide) ?_
        refine lv_goto (tgt := 30) hx hb dX1_mayHaveSubclass_26 (by decide) ?_
        exact W.zret (v := (1 : Int32)) hx hb hr rfl (fun t ht hW => ⟨(1 : Int32), rfl, Eq.symm ((if_pos c_1).trans ((if_pos c_2).trans ((if_neg c_3).trans (rfl)))), ht⟩) (fun q h => by cases h) dX1_mayHaveSubclass_30
def f_X1_aboveOrNothing (so : Nat → Int32) (fi : Nat → Int32) (el : Nat → Int32) (ab : Nat → Int64) (sz : Int32) (x1 : Int32) : Int64 := if x1 = (-1 : Int32) then (0 : Int64)
  else (ab x1.toNatClampNeg)
set_option maxHeartbeats 4000000 in
set_option maxRecDepth 100000 in
theorem c_X1_aboveOrNothing (l : Launch) (dC : Nat → ClassId) (dI : Nat → Nat → Nat) (cyI cyZ cyJ : ClassId) (h1 a0 a1 a2 a3 : Nat) (so : Nat → Int32) (fi : Nat → Int32) (el : Nat → Int32) (ab : Nat → Int64) (sz : Int32) (x1 : Int32) (g1 : x1 = -1 ∨ vp_in x1 40) : Met l yX1_aboveOrNothing wsX1_aboveOrNothing ({ frames := 0, cells := 0, slots := 0, locals := 0 }) (va_Pc [.ref h1, .int x1] (mb_R (dC, dI) (mb_tys cyI cyZ cyJ) [(h1, .inr (3, [.ref a0, .ref a1, .ref a2, .ref a3, .int sz])), (a0, .inl (cyI, 40, .inl so)), (a1, .inl (cyZ, 40, .inl fi)), (a2, .inl (cyI, 40, .inl el)), (a3, .inl (cyJ, 40, .inr (.inl ab)))])) (vp_Sl (fun r => r = f_X1_aboveOrNothing so fi el ab sz x1)) 0 0 (fun _ => False) := by
  refine Met.ofW (cc := cX1_aboveOrNothing) (maxL := 2) (ret := (some .long)) (by decide) rfl ?_
  intro p e s m args below meth c s₁ B hml hv
  obtain ⟨rfl, hP, hK⟩ := hv
  have hx := B.exec
  have hb := B.bytes
  have hr := B.returns
  have hts := atoms_spec (ws := wsX1_aboveOrNothing) B.pre
  have hown : s.vm.findClass RX1 = some m.cls := findClass_of_methodNamed B.named
  have hlocks := B.notSynchronized
  have hP : va_P (dC, dI) vwCl [(h1, .inr (3, [.ref a0, .ref a1, .ref a2, .ref a3, .int sz])), (a0, .inl (cyI, 40, .inl so)), (a1, .inl (cyZ, 40, .inl fi)), (a2, .inl (cyI, 40, .inl el)), (a3, .inl (cyJ, 40, .inr (.inl ab)))] s.heap := hP
  have hP0 : va_P (dC, dI) vwCl [] s.heap := fun k q h => by simp at h
  have hin_X1 : ∀ w ∈ wsX10, w ∈ wsX1_aboveOrNothing := by decide +kernel
  have hf_22 := hts (.fieldLink RX1 22 "ConversionTables$TypeTable" "aboves" "[J") (by decide +kernel)
  have hl := lv_entry ([.ref h1, .int x1]) (n := 2) (Nat.le_of_ble_eq_true rfl)
  rw [lg_entry_eq]
  generalize (lg_sl ([.ref h1, .int x1]) ++ List.replicate (2 - (lg_sl ([.ref h1, .int x1])).length) Slot.unset).toArray = ls at hl ⊢
  have hl : lv_has ls 2 [(0, .ref h1), (1, .int x1)] := hl
  refine lv_iload_n hx hb dX1_aboveOrNothing_0 rfl (lv_at hl 1 rfl) ?_
  refine lv_iconst (v := (-1 : Int32)) hx hb dX1_aboveOrNothing_1 (by decide) ?_
  refine lv_icmp_ne (tgt := 9) hx hb dX1_aboveOrNothing_2 (by decide) (fun c_1 => ?_) (fun c_1 => ?_)
  · refine lv_aload_n hx hb dX1_aboveOrNothing_9 rfl (lv_at hl 0 rfl) ?_
    refine va_get (D := (dC, dI)) (ci := 3) (v := .ref a3) (C := RX1) (T := TX1) (N := 5) hx hb hts hin_X1 hown hK hP 0 rfl rfl 3 (by decide) hf_22 (fun _ h9 => h9) rfl dX1_aboveOrNothing_10 ?_
    refine lv_iload_n hx hb dX1_aboveOrNothing_13 rfl (lv_at hl 1 rfl) ?_
    refine va_lald hx hb hK hP 4 2 rfl rfl (Or.resolve_left g1 c_1) dX1_aboveOrNothing_14 ?_
    exact W.lret (v := (ab x1.toNatClampNeg)) hx hb hr (fun t ht hW => ⟨(ab x1.toNatClampNeg), rfl, Eq.symm ((if_neg c_1).trans (rfl)), ht⟩) (fun q h => by cases h) dX1_aboveOrNothing_15
  · refine lv_lconst (v := (0 : Int64)) hx hb dX1_aboveOrNothing_5 (by decide) ?_
    refine lv_goto (tgt := 15) hx hb dX1_aboveOrNothing_6 (by decide) ?_
    exact W.lret (v := (0 : Int64)) hx hb hr (fun t ht hW => ⟨(0 : Int64), rfl, Eq.symm ((if_pos c_1).trans (rfl)), ht⟩) (fun q h => by cases h) dX1_aboveOrNothing_15
def f_X1_isArrayOfReferences (so : Nat → Int32) (fi : Nat → Int32) (el : Nat → Int32) (ab : Nat → Int64) (sz : Int32) (x1 : Int32) : Int32 := if (so x1.toNatClampNeg) = (3 : Int32) then (if (el x1.toNatClampNeg) ≤ (7 : Int32) then (0 : Int32)
    else (1 : Int32))
  else (0 : Int32)
theorem nb_X1_isArrayOfReferences (so : Nat → Int32) (fi : Nat → Int32) (el : Nat → Int32) (ab : Nat → Int64) (sz : Int32) (x1 : Int32) : mb_B (f_X1_isArrayOfReferences so fi el ab sz x1) := by
  unfold f_X1_isArrayOfReferences
  exact mb_B_ite (mb_B_ite (rfl) (rfl)) (rfl)
set_option maxHeartbeats 4000000 in
set_option maxRecDepth 100000 in
theorem c_X1_isArrayOfReferences (l : Launch) (dC : Nat → ClassId) (dI : Nat → Nat → Nat) (cyI cyZ cyJ : ClassId) (h1 a0 a1 a2 a3 : Nat) (so : Nat → Int32) (fi : Nat → Int32) (el : Nat → Int32) (ab : Nat → Int64) (sz : Int32) (x1 : Int32) (g1 : vp_in x1 40) : Met l yX1_isArrayOfReferences wsX1_isArrayOfReferences ({ frames := 0, cells := 0, slots := 0, locals := 0 }) (va_Pc [.ref h1, .int x1] (mb_R (dC, dI) (mb_tys cyI cyZ cyJ) [(h1, .inr (3, [.ref a0, .ref a1, .ref a2, .ref a3, .int sz])), (a0, .inl (cyI, 40, .inl so)), (a1, .inl (cyZ, 40, .inl fi)), (a2, .inl (cyI, 40, .inl el)), (a3, .inl (cyJ, 40, .inr (.inl ab)))])) (vp_Si (fun r => r = f_X1_isArrayOfReferences so fi el ab sz x1)) 0 0 (fun _ => False) := by
  refine Met.ofW (cc := cX1_isArrayOfReferences) (maxL := 2) (ret := (some .boolean)) (by decide) rfl ?_
  intro p e s m args below meth c s₁ B hml hv
  obtain ⟨rfl, hP, hK⟩ := hv
  have hx := B.exec
  have hb := B.bytes
  have hr := B.returns
  have hts := atoms_spec (ws := wsX1_isArrayOfReferences) B.pre
  have hown : s.vm.findClass RX1 = some m.cls := findClass_of_methodNamed B.named
  have hlocks := B.notSynchronized
  have hP : va_P (dC, dI) vwCl [(h1, .inr (3, [.ref a0, .ref a1, .ref a2, .ref a3, .int sz])), (a0, .inl (cyI, 40, .inl so)), (a1, .inl (cyZ, 40, .inl fi)), (a2, .inl (cyI, 40, .inl el)), (a3, .inl (cyJ, 40, .inr (.inl ab)))] s.heap := hP
  have hP0 : va_P (dC, dI) vwCl [] s.heap := fun k q h => by simp at h
  have hin_X1 : ∀ w ∈ wsX10, w ∈ wsX1_isArrayOfReferences := by decide +kernel
  have hf_9 := hts (.fieldLink RX1 9 "ConversionTables$TypeTable" "sorts" "[I") (by decide +kernel)
  have hf_19 := hts (.fieldLink RX1 19 "ConversionTables$TypeTable" "elements" "[I") (by decide +kernel)
  have hl := lv_entry ([.ref h1, .int x1]) (n := 2) (Nat.le_of_ble_eq_true rfl)
  rw [lg_entry_eq]
  generalize (lg_sl ([.ref h1, .int x1]) ++ List.replicate (2 - (lg_sl ([.ref h1, .int x1])).length) Slot.unset).toArray = ls at hl ⊢
  have hl : lv_has ls 2 [(0, .ref h1), (1, .int x1)] := hl
  refine lv_aload_n hx hb dX1_isArrayOfReferences_0 rfl (lv_at hl 0 rfl) ?_
  refine va_get (D := (dC, dI)) (ci := 3) (v := .ref a0) (C := RX1) (T := TX1) (N := 5) hx hb hts hin_X1 hown hK hP 0 rfl rfl 0 (by decide) hf_9 (fun _ h9 => h9) rfl dX1_isArrayOfReferences_1 ?_
  refine lv_iload_n hx hb dX1_isArrayOfReferences_4 rfl (lv_at hl 1 rfl) ?_
  refine va_iald hx hb hK hP 1 0 rfl rfl g1 dX1_isArrayOfReferences_5 ?_
  refine lv_iconst (v := (3 : Int32)) hx hb dX1_isArrayOfReferences_6 (by decide) ?_
  refine lv_icmp_ne (tgt := 25) hx hb dX1_isArrayOfReferences_7 (by decide) (fun c_1 => ?_) (fun c_1 => ?_)
  · refine lv_iconst (v := (0 : Int32)) hx hb dX1_isArrayOfReferences_25 (by decide) ?_
    exact W.zret (v := (0 : Int32)) hx hb hr rfl (fun t ht hW => ⟨(0 : Int32), rfl, Eq.symm ((if_neg c_1).trans (rfl)), ht⟩) (fun q h => by cases h) dX1_isArrayOfReferences_26
  · refine lv_aload_n hx hb dX1_isArrayOfReferences_10 rfl (lv_at hl 0 rfl) ?_
    refine va_get (D := (dC, dI)) (ci := 3) (v := .ref a2) (C := RX1) (T := TX1) (N := 5) hx hb hts hin_X1 hown hK hP 0 rfl rfl 2 (by decide) hf_19 (fun _ h9 => h9) rfl dX1_isArrayOfReferences_11 ?_
    refine lv_iload_n hx hb dX1_isArrayOfReferences_14 rfl (lv_at hl 1 rfl) ?_
    refine va_iald hx hb hK hP 3 0 rfl rfl g1 dX1_isArrayOfReferences_15 ?_
    refine lv_bipush (v := (7 : Int32)) hx hb dX1_isArrayOfReferences_16 (by decide) ?_
    refine lv_icmp_le (tgt := 25) hx hb dX1_isArrayOfReferences_18 (by decide) (fun c_2 => ?_) (fun c_2 => ?_)
    · refine lv_iconst (v := (0 : Int32)) hx hb dX1_isArrayOfReferences_25 (by decide) ?_
      exact W.zret (v := (0 : Int32)) hx hb hr rfl (fun t ht hW => ⟨(0 : Int32), rfl, Eq.symm ((if_pos c_1).trans ((if_pos c_2).trans (rfl))), ht⟩) (fun q h => by cases h) dX1_isArrayOfReferences_26
    · refine lv_iconst (v := (1 : Int32)) hx hb dX1_isArrayOfReferences_21 (by decide) ?_
      refine lv_goto (tgt := 26) hx hb dX1_isArrayOfReferences_22 (by decide) ?_
      exact W.zret (v := (1 : Int32)) hx hb hr rfl (fun t ht hW => ⟨(1 : Int32), rfl, Eq.symm ((if_pos c_1).trans ((if_neg c_2).trans (rfl))), ht⟩) (fun q h => by cases h) dX1_isArrayOfReferences_26
def f_X1_isOpenClass (so : Nat → Int32) (fi : Nat → Int32) (el : Nat → Int32) (ab : Nat → Int64) (sz : Int32) (x1 : Int32) : Int32 := if (so x1.toNatClampNeg) = (1 : Int32) then (if (fi x1.toNatClampNeg) = 0 then (1 : Int32)
    else (0 : Int32))
  else (0 : Int32)
theorem nb_X1_isOpenClass (so : Nat → Int32) (fi : Nat → Int32) (el : Nat → Int32) (ab : Nat → Int64) (sz : Int32) (x1 : Int32) : mb_B (f_X1_isOpenClass so fi el ab sz x1) := by
  unfold f_X1_isOpenClass
  exact mb_B_ite (mb_B_ite (rfl) (rfl)) (rfl)
set_option maxHeartbeats 4000000 in
set_option maxRecDepth 100000 in
theorem c_X1_isOpenClass (l : Launch) (dC : Nat → ClassId) (dI : Nat → Nat → Nat) (cyI cyZ cyJ : ClassId) (h1 a0 a1 a2 a3 : Nat) (so : Nat → Int32) (fi : Nat → Int32) (el : Nat → Int32) (ab : Nat → Int64) (sz : Int32) (x1 : Int32) (g1 : vp_in x1 40) : Met l yX1_isOpenClass wsX1_isOpenClass ({ frames := 0, cells := 0, slots := 0, locals := 0 }) (va_Pc [.ref h1, .int x1] (mb_R (dC, dI) (mb_tys cyI cyZ cyJ) [(h1, .inr (3, [.ref a0, .ref a1, .ref a2, .ref a3, .int sz])), (a0, .inl (cyI, 40, .inl so)), (a1, .inl (cyZ, 40, .inl fi)), (a2, .inl (cyI, 40, .inl el)), (a3, .inl (cyJ, 40, .inr (.inl ab)))])) (vp_Si (fun r => r = f_X1_isOpenClass so fi el ab sz x1)) 0 0 (fun _ => False) := by
  refine Met.ofW (cc := cX1_isOpenClass) (maxL := 2) (ret := (some .boolean)) (by decide) rfl ?_
  intro p e s m args below meth c s₁ B hml hv
  obtain ⟨rfl, hP, hK⟩ := hv
  have hx := B.exec
  have hb := B.bytes
  have hr := B.returns
  have hts := atoms_spec (ws := wsX1_isOpenClass) B.pre
  have hown : s.vm.findClass RX1 = some m.cls := findClass_of_methodNamed B.named
  have hlocks := B.notSynchronized
  have hP : va_P (dC, dI) vwCl [(h1, .inr (3, [.ref a0, .ref a1, .ref a2, .ref a3, .int sz])), (a0, .inl (cyI, 40, .inl so)), (a1, .inl (cyZ, 40, .inl fi)), (a2, .inl (cyI, 40, .inl el)), (a3, .inl (cyJ, 40, .inr (.inl ab)))] s.heap := hP
  have hP0 : va_P (dC, dI) vwCl [] s.heap := fun k q h => by simp at h
  have hin_X1 : ∀ w ∈ wsX10, w ∈ wsX1_isOpenClass := by decide +kernel
  have hf_9 := hts (.fieldLink RX1 9 "ConversionTables$TypeTable" "sorts" "[I") (by decide +kernel)
  have hf_15 := hts (.fieldLink RX1 15 "ConversionTables$TypeTable" "finals" "[Z") (by decide +kernel)
  have hl := lv_entry ([.ref h1, .int x1]) (n := 2) (Nat.le_of_ble_eq_true rfl)
  rw [lg_entry_eq]
  generalize (lg_sl ([.ref h1, .int x1]) ++ List.replicate (2 - (lg_sl ([.ref h1, .int x1])).length) Slot.unset).toArray = ls at hl ⊢
  have hl : lv_has ls 2 [(0, .ref h1), (1, .int x1)] := hl
  refine lv_aload_n hx hb dX1_isOpenClass_0 rfl (lv_at hl 0 rfl) ?_
  refine va_get (D := (dC, dI)) (ci := 3) (v := .ref a0) (C := RX1) (T := TX1) (N := 5) hx hb hts hin_X1 hown hK hP 0 rfl rfl 0 (by decide) hf_9 (fun _ h9 => h9) rfl dX1_isOpenClass_1 ?_
  refine lv_iload_n hx hb dX1_isOpenClass_4 rfl (lv_at hl 1 rfl) ?_
  refine va_iald hx hb hK hP 1 0 rfl rfl g1 dX1_isOpenClass_5 ?_
  refine lv_iconst (v := (1 : Int32)) hx hb dX1_isOpenClass_6 (by decide) ?_
  refine lv_icmp_ne (tgt := 23) hx hb dX1_isOpenClass_7 (by decide) (fun c_1 => ?_) (fun c_1 => ?_)
  · refine lv_iconst (v := (0 : Int32)) hx hb dX1_isOpenClass_23 (by decide) ?_
    exact W.zret (v := (0 : Int32)) hx hb hr rfl (fun t ht hW => ⟨(0 : Int32), rfl, Eq.symm ((if_neg c_1).trans (rfl)), ht⟩) (fun q h => by cases h) dX1_isOpenClass_24
  · refine lv_aload_n hx hb dX1_isOpenClass_10 rfl (lv_at hl 0 rfl) ?_
    refine va_get (D := (dC, dI)) (ci := 3) (v := .ref a1) (C := RX1) (T := TX1) (N := 5) hx hb hts hin_X1 hown hK hP 0 rfl rfl 1 (by decide) hf_15 (fun _ h9 => h9) rfl dX1_isOpenClass_11 ?_
    refine lv_iload_n hx hb dX1_isOpenClass_14 rfl (lv_at hl 1 rfl) ?_
    refine va_zald hx hb hK hP 2 1 rfl rfl g1 dX1_isOpenClass_15 ?_
    refine lv_if_ne (tgt := 23) hx hb dX1_isOpenClass_16 (by decide) (fun c_2 => ?_) (fun c_2 => ?_)
    · refine lv_iconst (v := (0 : Int32)) hx hb dX1_isOpenClass_23 (by decide) ?_
      exact W.zret (v := (0 : Int32)) hx hb hr rfl (fun t ht hW => ⟨(0 : Int32), rfl, Eq.symm ((if_pos c_1).trans ((if_neg c_2).trans (rfl))), ht⟩) (fun q h => by cases h) dX1_isOpenClass_24
    · refine lv_iconst (v := (1 : Int32)) hx hb dX1_isOpenClass_19 (by decide) ?_
      refine lv_goto (tgt := 24) hx hb dX1_isOpenClass_20 (by decide) ?_
      exact W.zret (v := (1 : Int32)) hx hb hr rfl (fun t ht hW => ⟨(1 : Int32), rfl, Eq.symm ((if_pos c_1).trans ((if_pos c_2).trans (rfl))), ht⟩) (fun q h => by cases h) dX1_isOpenClass_24
def f_X1_mayShareObjects (so : Nat → Int32) (fi : Nat → Int32) (el : Nat → Int32) (ab : Nat → Int64) (sz : Int32) (x1 : Int32) (x2 : Int32) : Int32 := if (so x1.toNatClampNeg) = (2 : Int32) then (if (so x2.toNatClampNeg) = (2 : Int32) then (1 : Int32)
    else if (f_X1_isOpenClass so fi el ab sz x2) = 0 then (0 : Int32)
    else (1 : Int32))
  else if (so x2.toNatClampNeg) = (2 : Int32) then (if (f_X1_isOpenClass so fi el ab sz x1) = 0 then (0 : Int32)
    else (1 : Int32))
  else (0 : Int32)
theorem nb_X1_mayShareObjects (so : Nat → Int32) (fi : Nat → Int32) (el : Nat → Int32) (ab : Nat → Int64) (sz : Int32) (x1 : Int32) (x2 : Int32) : mb_B (f_X1_mayShareObjects so fi el ab sz x1 x2) := by
  unfold f_X1_mayShareObjects
  exact mb_B_ite (mb_B_ite (rfl) (mb_B_ite (rfl) (rfl))) (mb_B_ite (mb_B_ite (rfl) (rfl)) (rfl))
set_option maxHeartbeats 4000000 in
set_option maxRecDepth 100000 in
theorem c_X1_mayShareObjects (l : Launch) (dC : Nat → ClassId) (dI : Nat → Nat → Nat) (cyI cyZ cyJ : ClassId) (h1 a0 a1 a2 a3 : Nat) (so : Nat → Int32) (fi : Nat → Int32) (el : Nat → Int32) (ab : Nat → Int64) (sz : Int32) (x1 : Int32) (x2 : Int32) (g1 : vp_in x1 40) (g2 : vp_in x2 40) : Met l yX1_mayShareObjects wsX1_mayShareObjects ({ frames := 1, cells := 0, slots := 0, locals := 21 }) (va_Pc [.ref h1, .int x1, .int x2] (mb_R (dC, dI) (mb_tys cyI cyZ cyJ) [(h1, .inr (3, [.ref a0, .ref a1, .ref a2, .ref a3, .int sz])), (a0, .inl (cyI, 40, .inl so)), (a1, .inl (cyZ, 40, .inl fi)), (a2, .inl (cyI, 40, .inl el)), (a3, .inl (cyJ, 40, .inr (.inl ab)))])) (vp_Si (fun r => r = f_X1_mayShareObjects so fi el ab sz x1 x2)) 0 0 (fun _ => False) := by
  refine Met.ofW (cc := cX1_mayShareObjects) (maxL := 3) (ret := (some .boolean)) (by decide) rfl ?_
  intro p e s m args below meth c s₁ B hml hv
  obtain ⟨rfl, hP, hK⟩ := hv
  have hx := B.exec
  have hb := B.bytes
  have hr := B.returns
  have hts := atoms_spec (ws := wsX1_mayShareObjects) B.pre
  have hown : s.vm.findClass RX1 = some m.cls := findClass_of_methodNamed B.named
  have hlocks := B.notSynchronized
  have hP : va_P (dC, dI) vwCl [(h1, .inr (3, [.ref a0, .ref a1, .ref a2, .ref a3, .int sz])), (a0, .inl (cyI, 40, .inl so)), (a1, .inl (cyZ, 40, .inl fi)), (a2, .inl (cyI, 40, .inl el)), (a3, .inl (cyJ, 40, .inr (.inl ab)))] s.heap := hP
  have hP0 : va_P (dC, dI) vwCl [] s.heap := fun k q h => by simp at h
  have hin_X1 : ∀ w ∈ wsX10, w ∈ wsX1_mayShareObjects := by decide +kernel
  have hf_9 := hts (.fieldLink RX1 9 "ConversionTables$TypeTable" "sorts" "[I") (by decide +kernel)
  have hl := lv_entry ([.ref h1, .int x1, .int x2]) (n := 3) (Nat.le_of_ble_eq_true rfl)
  rw [lg_entry_eq]
  generalize (lg_sl ([.ref h1, .int x1, .int x2]) ++ List.replicate (3 - (lg_sl ([.ref h1, .int x1, .int x2])).length) Slot.unset).toArray = ls at hl ⊢
  have hl : lv_has ls 3 [(0, .ref h1), (1, .int x1), (2, .int x2)] := hl
  refine lv_aload_n hx hb dX1_mayShareObjects_0 rfl (lv_at hl 0 rfl) ?_
  refine va_get (D := (dC, dI)) (ci := 3) (v := .ref a0) (C := RX1) (T := TX1) (N := 5) hx hb hts hin_X1 hown hK hP 0 rfl rfl 0 (by decide) hf_9 (fun _ h9 => h9) rfl dX1_mayShareObjects_1 ?_
  refine lv_iload_n hx hb dX1_mayShareObjects_4 rfl (lv_at hl 1 rfl) ?_
  refine va_iald hx hb hK hP 1 0 rfl rfl g1 dX1_mayShareObjects_5 ?_
  refine lv_iconst (v := (2 : Int32)) hx hb dX1_mayShareObjects_6 (by decide) ?_
  refine lv_icmp_ne (tgt := 34) hx hb dX1_mayShareObjects_7 (by decide) (fun c_1 => ?_) (fun c_1 => ?_)
  · refine lv_aload_n hx hb dX1_mayShareObjects_34 rfl (lv_at hl 0 rfl) ?_
    refine va_get (D := (dC, dI)) (ci := 3) (v := .ref a0) (C := RX1) (T := TX1) (N := 5) hx hb hts hin_X1 hown hK hP 0 rfl rfl 0 (by decide) hf_9 (fun _ h9 => h9) rfl dX1_mayShareObjects_35 ?_
    refine lv_iload_n hx hb dX1_mayShareObjects_38 rfl (lv_at hl 2 rfl) ?_
    refine va_iald hx hb hK hP 1 0 rfl rfl g2 dX1_mayShareObjects_39 ?_
    refine lv_iconst (v := (2 : Int32)) hx hb dX1_mayShareObjects_40 (by decide) ?_
    refine lv_icmp_ne (tgt := 56) hx hb dX1_mayShareObjects_41 (by decide) (fun c_2 => ?_) (fun c_2 => ?_)
    · refine lv_iconst (v := (0 : Int32)) hx hb dX1_mayShareObjects_56 (by decide) ?_
      exact W.zret (v := (0 : Int32)) hx hb hr rfl (fun t ht hW => ⟨(0 : Int32), rfl, Eq.symm ((if_neg c_1).trans ((if_neg c_2).trans (rfl))), ht⟩) (fun q h => by cases h) dX1_mayShareObjects_57
    · refine lv_aload_n hx hb dX1_mayShareObjects_44 rfl (lv_at hl 0 rfl) ?_
      refine lv_iload_n hx hb dX1_mayShareObjects_45 rfl (lv_at hl 1 rfl) ?_
      refine mb_callSi (W.runV (As := [.int x1]) (rest := []) ⟨hx, hb, hml, hown, hts⟩ (c_X1_isOpenClass l dC dI cyI cyZ cyJ h1 a0 a1 a2 a3 so fi el ab sz x1 g1) (cwV 1 hts gX1_mayShareObjects_X1_isOpenClass rfl rfl rfl (by decide +kernel) ⟨Nat.le_of_ble_eq_true rfl, Nat.le_of_ble_eq_true rfl⟩) (mb_preV hK hP (ci := 3) (q0 := 0) rfl rfl) rfl rfl hl.1 rfl (lv_room (Nat.le_of_ble_eq_true rfl)) dX1_mayShareObjects_46 ⟨Nat.zero_le _, Nat.zero_le _⟩) ?_
      refine lv_if_eq (tgt := 56) hx hb dX1_mayShareObjects_49 (by decide) (fun c_3 => ?_) (fun c_3 => ?_)
      · refine lv_iconst (v := (0 : Int32)) hx hb dX1_mayShareObjects_56 (by decide) ?_
        exact W.zret (v := (0 : Int32)) hx hb hr rfl (fun t ht hW => ⟨(0 : Int32), rfl, Eq.symm ((if_neg c_1).trans ((if_pos c_2).trans ((if_pos c_3).trans (rfl)))), ht⟩) (fun q h => by cases h) dX1_mayShareObjects_57
      · refine lv_iconst (v := (1 : Int32)) hx hb dX1_mayShareObjects_52 (by decide) ?_
        refine lv_goto (tgt := 57) hx hb dX1_mayShareObjects_53 (by decide) ?_
        exact W.zret (v := (1 : Int32)) hx hb hr rfl (fun t ht hW => ⟨(1 : Int32), rfl, Eq.symm ((if_neg c_1).trans ((if_pos c_2).trans ((if_neg c_3).trans (rfl)))), ht⟩) (fun q h => by cases h) dX1_mayShareObjects_57
  · refine lv_aload_n hx hb dX1_mayShareObjects_10 rfl (lv_at hl 0 rfl) ?_
    refine va_get (D := (dC, dI)) (ci := 3) (v := .ref a0) (C := RX1) (T := TX1) (N := 5) hx hb hts hin_X1 hown hK hP 0 rfl rfl 0 (by decide) hf_9 (fun _ h9 => h9) rfl dX1_mayShareObjects_11 ?_
    refine lv_iload_n hx hb dX1_mayShareObjects_14 rfl (lv_at hl 2 rfl) ?_
    refine va_iald hx hb hK hP 1 0 rfl rfl g2 dX1_mayShareObjects_15 ?_
    refine lv_iconst (v := (2 : Int32)) hx hb dX1_mayShareObjects_16 (by decide) ?_
    refine lv_icmp_eq (tgt := 28) hx hb dX1_mayShareObjects_17 (by decide) (fun c_4 => ?_) (fun c_4 => ?_)
    · refine lv_iconst (v := (1 : Int32)) hx hb dX1_mayShareObjects_28 (by decide) ?_
      refine lv_goto (tgt := 33) hx hb dX1_mayShareObjects_29 (by decide) ?_
      exact W.zret (v := (1 : Int32)) hx hb hr rfl (fun t ht hW => ⟨(1 : Int32), rfl, Eq.symm ((if_pos c_1).trans ((if_pos c_4).trans (rfl))), ht⟩) (fun q h => by cases h) dX1_mayShareObjects_33
    · refine lv_aload_n hx hb dX1_mayShareObjects_20 rfl (lv_at hl 0 rfl) ?_
      refine lv_iload_n hx hb dX1_mayShareObjects_21 rfl (lv_at hl 2 rfl) ?_
      refine mb_callSi (W.runV (As := [.int x2]) (rest := []) ⟨hx, hb, hml, hown, hts⟩ (c_X1_isOpenClass l dC dI cyI cyZ cyJ h1 a0 a1 a2 a3 so fi el ab sz x2 g2) (cwV 1 hts gX1_mayShareObjects_X1_isOpenClass rfl rfl rfl (by decide +kernel) ⟨Nat.le_of_ble_eq_true rfl, Nat.le_of_ble_eq_true rfl⟩) (mb_preV hK hP (ci := 3) (q0 := 0) rfl rfl) rfl rfl hl.1 rfl (lv_room (Nat.le_of_ble_eq_true rfl)) dX1_mayShareObjects_22 ⟨Nat.zero_le _, Nat.zero_le _⟩) ?_
      refine lv_if_eq (tgt := 32) hx hb dX1_mayShareObjects_25 (by decide) (fun c_5 => ?_) (fun c_5 => ?_)
      · refine lv_iconst (v := (0 : Int32)) hx hb dX1_mayShareObjects_32 (by decide) ?_
        exact W.zret (v := (0 : Int32)) hx hb hr rfl (fun t ht hW => ⟨(0 : Int32), rfl, Eq.symm ((if_pos c_1).trans ((if_neg c_4).trans ((if_pos c_5).trans (rfl)))), ht⟩) (fun q h => by cases h) dX1_mayShareObjects_33
      · refine lv_iconst (v := (1 : Int32)) hx hb dX1_mayShareObjects_28 (by decide) ?_
        refine lv_goto (tgt := 33) hx hb dX1_mayShareObjects_29 (by decide) ?_
        exact W.zret (v := (1 : Int32)) hx hb hr rfl (fun t ht hW => ⟨(1 : Int32), rfl, Eq.symm ((if_pos c_1).trans ((if_neg c_4).trans ((if_neg c_5).trans (rfl)))), ht⟩) (fun q h => by cases h) dX1_mayShareObjects_33

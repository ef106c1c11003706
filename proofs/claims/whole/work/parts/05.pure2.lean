def f_X2_isPrimitive (x1 : Int32) : Int32 := if x1 < 0 then (0 : Int32)
  else if (7 : Int32) < x1 then (0 : Int32)
  else (1 : Int32)
theorem nb_X2_isPrimitive (x1 : Int32) : mb_B (f_X2_isPrimitive x1) := by
  unfold f_X2_isPrimitive
  exact mb_B_ite (rfl) (mb_B_ite (rfl) (rfl))
set_option maxHeartbeats 4000000 in
set_option maxRecDepth 100000 in
theorem c_X2_isPrimitive (l : Launch) (x1 : Int32) : Met l yX2_isPrimitive wsX2_isPrimitive ({ frames := 0, cells := 0, slots := 0, locals := 0 }) (va_Pc [.int x1] (fun _ => True)) (vp_Si (fun r => r = f_X2_isPrimitive x1)) 0 0 (fun _ => False) := by
  refine Met.ofW (cc := cX2_isPrimitive) (maxL := 1) (ret := (some .boolean)) (by decide) rfl ?_
  intro p e s m args below meth c s₁ B hml hv
  obtain ⟨rfl, -⟩ := hv
  have hx := B.exec
  have hb := B.bytes
  have hr := B.returns
  have hts := atoms_spec (ws := wsX2_isPrimitive) B.pre
  have hown : s.vm.findClass RX2 = some m.cls := findClass_of_methodNamed B.named
  have hlocks := B.notSynchronized
  have hl := lv_entry ([.int x1]) (n := 1) (Nat.le_of_ble_eq_true rfl)
  rw [lg_entry_eq]
  generalize (lg_sl ([.int x1]) ++ List.replicate (1 - (lg_sl ([.int x1])).length) Slot.unset).toArray = ls at hl ⊢
  have hl : lv_has ls 1 [(0, .int x1)] := hl
  refine lv_iload_n hx hb dX2_isPrimitive_0 rfl (lv_at hl 0 rfl) ?_
  refine lv_if_lt (tgt := 14) hx hb dX2_isPrimitive_1 (by decide) (fun c_1 => ?_) (fun c_1 => ?_)
  · refine lv_iconst (v := (0 : Int32)) hx hb dX2_isPrimitive_14 (by decide) ?_
    exact W.zret (v := (0 : Int32)) hx hb hr rfl (fun t ht hW => ⟨(0 : Int32), rfl, Eq.symm ((if_pos c_1).trans (rfl)), ht⟩) (fun q h => by cases h) dX2_isPrimitive_15
  · refine lv_iload_n hx hb dX2_isPrimitive_4 rfl (lv_at hl 0 rfl) ?_
    refine lv_bipush (v := (7 : Int32)) hx hb dX2_isPrimitive_5 (by decide) ?_
    refine lv_icmp_gt (tgt := 14) hx hb dX2_isPrimitive_7 (by decide) (fun c_2 => ?_) (fun c_2 => ?_)
    · refine lv_iconst (v := (0 : Int32)) hx hb dX2_isPrimitive_14 (by decide) ?_
      exact W.zret (v := (0 : Int32)) hx hb hr rfl (fun t ht hW => ⟨(0 : Int32), rfl, Eq.symm ((if_neg c_1).trans ((if_pos c_2).trans (rfl))), ht⟩) (fun q h => by cases h) dX2_isPrimitive_15
    · refine lv_iconst (v := (1 : Int32)) hx hb dX2_isPrimitive_10 (by decide) ?_
      refine lv_goto (tgt := 15) hx hb dX2_isPrimitive_11 (by decide) ?_
      exact W.zret (v := (1 : Int32)) hx hb hr rfl (fun t ht hW => ⟨(1 : Int32), rfl, Eq.symm ((if_neg c_1).trans ((if_neg c_2).trans (rfl))), ht⟩) (fun q h => by cases h) dX2_isPrimitive_15
def f_X2_isNumber (x1 : Int32) : Int32 := if x1 < (1 : Int32) then (0 : Int32)
  else if (7 : Int32) < x1 then (0 : Int32)
  else (1 : Int32)
theorem nb_X2_isNumber (x1 : Int32) : mb_B (f_X2_isNumber x1) := by
  unfold f_X2_isNumber
  exact mb_B_ite (rfl) (mb_B_ite (rfl) (rfl))
set_option maxHeartbeats 4000000 in
set_option maxRecDepth 100000 in
theorem c_X2_isNumber (l : Launch) (x1 : Int32) : Met l yX2_isNumber wsX2_isNumber ({ frames := 0, cells := 0, slots := 0, locals := 0 }) (va_Pc [.int x1] (fun _ => True)) (vp_Si (fun r => r = f_X2_isNumber x1)) 0 0 (fun _ => False) := by
  refine Met.ofW (cc := cX2_isNumber) (maxL := 1) (ret := (some .boolean)) (by decide) rfl ?_
  intro p e s m args below meth c s₁ B hml hv
  obtain ⟨rfl, -⟩ := hv
  have hx := B.exec
  have hb := B.bytes
  have hr := B.returns
  have hts := atoms_spec (ws := wsX2_isNumber) B.pre
  have hown : s.vm.findClass RX2 = some m.cls := findClass_of_methodNamed B.named
  have hlocks := B.notSynchronized
  have hl := lv_entry ([.int x1]) (n := 1) (Nat.le_of_ble_eq_true rfl)
  rw [lg_entry_eq]
  generalize (lg_sl ([.int x1]) ++ List.replicate (1 - (lg_sl ([.int x1])).length) Slot.unset).toArray = ls at hl ⊢
  have hl : lv_has ls 1 [(0, .int x1)] := hl
  refine lv_iload_n hx hb dX2_isNumber_0 rfl (lv_at hl 0 rfl) ?_
  refine lv_iconst (v := (1 : Int32)) hx hb dX2_isNumber_1 (by decide) ?_
  refine lv_icmp_lt (tgt := 15) hx hb dX2_isNumber_2 (by decide) (fun c_1 => ?_) (fun c_1 => ?_)
  · refine lv_iconst (v := (0 : Int32)) hx hb dX2_isNumber_15 (by decide) ?_
    exact W.zret (v := (0 : Int32)) hx hb hr rfl (fun t ht hW => ⟨(0 : Int32), rfl, Eq.symm ((if_pos c_1).trans (rfl)), ht⟩) (fun q h => by cases h) dX2_isNumber_16
  · refine lv_iload_n hx hb dX2_isNumber_5 rfl (lv_at hl 0 rfl) ?_
    refine lv_bipush (v := (7 : Int32)) hx hb dX2_isNumber_6 (by decide) ?_
    refine lv_icmp_gt (tgt := 15) hx hb dX2_isNumber_8 (by decide) (fun c_2 => ?_) (fun c_2 => ?_)
    · refine lv_iconst (v := (0 : Int32)) hx hb dX2_isNumber_15 (by decide) ?_
      exact W.zret (v := (0 : Int32)) hx hb hr rfl (fun t ht hW => ⟨(0 : Int32), rfl, Eq.symm ((if_neg c_1).trans ((if_pos c_2).trans (rfl))), ht⟩) (fun q h => by cases h) dX2_isNumber_16
    · refine lv_iconst (v := (1 : Int32)) hx hb dX2_isNumber_11 (by decide) ?_
      refine lv_goto (tgt := 16) hx hb dX2_isNumber_12 (by decide) ?_
      exact W.zret (v := (1 : Int32)) hx hb hr rfl (fun t ht hW => ⟨(1 : Int32), rfl, Eq.symm ((if_neg c_1).trans ((if_neg c_2).trans (rfl))), ht⟩) (fun q h => by cases h) dX2_isNumber_16
def f_X2_isWhole (x1 : Int32) : Int32 := if x1 < (1 : Int32) then (0 : Int32)
  else if (5 : Int32) < x1 then (0 : Int32)
  else (1 : Int32)
theorem nb_X2_isWhole (x1 : Int32) : mb_B (f_X2_isWhole x1) := by
  unfold f_X2_isWhole
  exact mb_B_ite (rfl) (mb_B_ite (rfl) (rfl))
set_option maxHeartbeats 4000000 in
set_option maxRecDepth 100000 in
theorem c_X2_isWhole (l : Launch) (x1 : Int32) : Met l yX2_isWhole wsX2_isWhole ({ frames := 0, cells := 0, slots := 0, locals := 0 }) (va_Pc [.int x1] (fun _ => True)) (vp_Si (fun r => r = f_X2_isWhole x1)) 0 0 (fun _ => False) := by
  refine Met.ofW (cc := cX2_isWhole) (maxL := 1) (ret := (some .boolean)) (by decide) rfl ?_
  intro p e s m args below meth c s₁ B hml hv
  obtain ⟨rfl, -⟩ := hv
  have hx := B.exec
  have hb := B.bytes
  have hr := B.returns
  have hts := atoms_spec (ws := wsX2_isWhole) B.pre
  have hown : s.vm.findClass RX2 = some m.cls := findClass_of_methodNamed B.named
  have hlocks := B.notSynchronized
  have hl := lv_entry ([.int x1]) (n := 1) (Nat.le_of_ble_eq_true rfl)
  rw [lg_entry_eq]
  generalize (lg_sl ([.int x1]) ++ List.replicate (1 - (lg_sl ([.int x1])).length) Slot.unset).toArray = ls at hl ⊢
  have hl : lv_has ls 1 [(0, .int x1)] := hl
  refine lv_iload_n hx hb dX2_isWhole_0 rfl (lv_at hl 0 rfl) ?_
  refine lv_iconst (v := (1 : Int32)) hx hb dX2_isWhole_1 (by decide) ?_
  refine lv_icmp_lt (tgt := 14) hx hb dX2_isWhole_2 (by decide) (fun c_1 => ?_) (fun c_1 => ?_)
  · refine lv_iconst (v := (0 : Int32)) hx hb dX2_isWhole_14 (by decide) ?_
    exact W.zret (v := (0 : Int32)) hx hb hr rfl (fun t ht hW => ⟨(0 : Int32), rfl, Eq.symm ((if_pos c_1).trans (rfl)), ht⟩) (fun q h => by cases h) dX2_isWhole_15
  · refine lv_iload_n hx hb dX2_isWhole_5 rfl (lv_at hl 0 rfl) ?_
    refine lv_iconst (v := (5 : Int32)) hx hb dX2_isWhole_6 (by decide) ?_
    refine lv_icmp_gt (tgt := 14) hx hb dX2_isWhole_7 (by decide) (fun c_2 => ?_) (fun c_2 => ?_)
    · refine lv_iconst (v := (0 : Int32)) hx hb dX2_isWhole_14 (by decide) ?_
      exact W.zret (v := (0 : Int32)) hx hb hr rfl (fun t ht hW => ⟨(0 : Int32), rfl, Eq.symm ((if_neg c_1).trans ((if_pos c_2).trans (rfl))), ht⟩) (fun q h => by cases h) dX2_isWhole_15
    · refine lv_iconst (v := (1 : Int32)) hx hb dX2_isWhole_10 (by decide) ?_
      refine lv_goto (tgt := 15) hx hb dX2_isWhole_11 (by decide) ?_
      exact W.zret (v := (1 : Int32)) hx hb hr rfl (fun t ht hW => ⟨(1 : Int32), rfl, Eq.symm ((if_neg c_1).trans ((if_neg c_2).trans (rfl))), ht⟩) (fun q h => by cases h) dX2_isWhole_15
def f_X2_isBox (x1 : Int32) : Int32 := if x1 < (8 : Int32) then (0 : Int32)
  else if (15 : Int32) < x1 then (0 : Int32)
  else (1 : Int32)
theorem nb_X2_isBox (x1 : Int32) : mb_B (f_X2_isBox x1) := by
  unfold f_X2_isBox
  exact mb_B_ite (rfl) (mb_B_ite (rfl) (rfl))
set_option maxHeartbeats 4000000 in
set_option maxRecDepth 100000 in
theorem c_X2_isBox (l : Launch) (x1 : Int32) : Met l yX2_isBox wsX2_isBox ({ frames := 0, cells := 0, slots := 0, locals := 0 }) (va_Pc [.int x1] (fun _ => True)) (vp_Si (fun r => r = f_X2_isBox x1)) 0 0 (fun _ => False) := by
  refine Met.ofW (cc := cX2_isBox) (maxL := 1) (ret := (some .boolean)) (by decide) rfl ?_
  intro p e s m args below meth c s₁ B hml hv
  obtain ⟨rfl, -⟩ := hv
  have hx := B.exec
  have hb := B.bytes
  have hr := B.returns
  have hts := atoms_spec (ws := wsX2_isBox) B.pre
  have hown : s.vm.findClass RX2 = some m.cls := findClass_of_methodNamed B.named
  have hlocks := B.notSynchronized
  have hl := lv_entry ([.int x1]) (n := 1) (Nat.le_of_ble_eq_true rfl)
  rw [lg_entry_eq]
  generalize (lg_sl ([.int x1]) ++ List.replicate (1 - (lg_sl ([.int x1])).length) Slot.unset).toArray = ls at hl ⊢
  have hl : lv_has ls 1 [(0, .int x1)] := hl
  refine lv_iload_n hx hb dX2_isBox_0 rfl (lv_at hl 0 rfl) ?_
  refine lv_bipush (v := (8 : Int32)) hx hb dX2_isBox_1 (by decide) ?_
  refine lv_icmp_lt (tgt := 16) hx hb dX2_isBox_3 (by decide) (fun c_1 => ?_) (fun c_1 => ?_)
  · refine lv_iconst (v := (0 : Int32)) hx hb dX2_isBox_16 (by decide) ?_
    exact W.zret (v := (0 : Int32)) hx hb hr rfl (fun t ht hW => ⟨(0 : Int32), rfl, Eq.symm ((if_pos c_1).trans (rfl)), ht⟩) (fun q h => by cases h) dX2_isBox_17
  · refine lv_iload_n hx hb dX2_isBox_6 rfl (lv_at hl 0 rfl) ?_
    refine lv_bipush (v := (15 : Int32)) hx hb dX2_isBox_7 (by decide) ?_
    refine lv_icmp_gt (tgt := 16) hx hb dX2_isBox_9 (by decide) (fun c_2 => ?_) (fun c_2 => ?_)
    · refine lv_iconst (v := (0 : Int32)) hx hb dX2_isBox_16 (by decide) ?_
      exact W.zret (v := (0 : Int32)) hx hb hr rfl (fun t ht hW => ⟨(0 : Int32), rfl, Eq.symm ((if_neg c_1).trans ((if_pos c_2).trans (rfl))), ht⟩) (fun q h => by cases h) dX2_isBox_17
    · refine lv_iconst (v := (1 : Int32)) hx hb dX2_isBox_12 (by decide) ?_
      refine lv_goto (tgt := 17) hx hb dX2_isBox_13 (by decide) ?_
      exact W.zret (v := (1 : Int32)) hx hb hr rfl (fun t ht hW => ⟨(1 : Int32), rfl, Eq.symm ((if_neg c_1).trans ((if_neg c_2).trans (rfl))), ht⟩) (fun q h => by cases h) dX2_isBox_17
def f_X2_boxed (x1 : Int32) : Int32 := if (f_X2_isPrimitive x1) = 0 then x1
  else (x1 + (8 : Int32))
set_option maxHeartbeats 4000000 in
set_option maxRecDepth 100000 in
theorem c_X2_boxed (l : Launch) (x1 : Int32) : Met l yX2_boxed wsX2_boxed ({ frames := 1, cells := 0, slots := 0, locals := 20 }) (va_Pc [.int x1] (fun _ => True)) (vp_Si (fun r => r = f_X2_boxed x1)) 0 0 (fun _ => False) := by
  refine Met.ofW (cc := cX2_boxed) (maxL := 1) (ret := (some .int)) (by decide) rfl ?_
  intro p e s m args below meth c s₁ B hml hv
  obtain ⟨rfl, -⟩ := hv
  have hx := B.exec
  have hb := B.bytes
  have hr := B.returns
  have hts := atoms_spec (ws := wsX2_boxed) B.pre
  have hown : s.vm.findClass RX2 = some m.cls := findClass_of_methodNamed B.named
  have hlocks := B.notSynchronized
  have hl := lv_entry ([.int x1]) (n := 1) (Nat.le_of_ble_eq_true rfl)
  rw [lg_entry_eq]
  generalize (lg_sl ([.int x1]) ++ List.replicate (1 - (lg_sl ([.int x1])).length) Slot.unset).toArray = ls at hl ⊢
  have hl : lv_has ls 1 [(0, .int x1)] := hl
  refine lv_iload_n hx hb dX2_boxed_0 rfl (lv_at hl 0 rfl) ?_
  refine mb_callSi (W.runS (As := [.int x1]) (rest := []) ⟨hx, hb, hml, hown, hts⟩ (c_X2_isPrimitive l x1) (va_cwS 1 hts gX2_boxed_X2_isPrimitive rfl rfl rfl (by decide +kernel) ⟨Nat.le_of_ble_eq_true rfl, Nat.le_of_ble_eq_true rfl⟩) mb_preT rfl rfl hl.1 rfl (lv_room (Nat.le_of_ble_eq_true rfl)) dX2_boxed_1 ⟨Nat.zero_le _, Nat.zero_le _⟩) ?_
  refine lv_if_eq (tgt := 14) hx hb dX2_boxed_4 (by decide) (fun c_1 => ?_) (fun c_1 => ?_)
  · refine lv_iload_n hx hb dX2_boxed_14 rfl (lv_at hl 0 rfl) ?_
    exact W.iret (v := x1) hx hb hr (fun t ht hW => ⟨x1, rfl, Eq.symm ((if_pos c_1).trans (rfl)), ht⟩) (fun q h => by cases h) dX2_boxed_15
  · refine lv_iload_n hx hb dX2_boxed_7 rfl (lv_at hl 0 rfl) ?_
    refine lv_bipush (v := (8 : Int32)) hx hb dX2_boxed_8 (by decide) ?_
    refine lv_iadd hx hb dX2_boxed_10 ?_
    refine lv_goto (tgt := 15) hx hb dX2_boxed_11 (by decide) ?_
    exact W.iret (v := (x1 + (8 : Int32))) hx hb hr (fun t ht hW => ⟨(x1 + (8 : Int32)), rfl, Eq.symm ((if_neg c_1).trans (rfl)), ht⟩) (fun q h => by cases h) dX2_boxed_15
def f_X2_withoutBox (x1 : Int32) : Int32 := if (f_X2_isBox x1) = 0 then x1
  else (x1 - (8 : Int32))
set_option maxHeartbeats 4000000 in
set_option maxRecDepth 100000 in
theorem c_X2_withoutBox (l : Launch) (x1 : Int32) : Met l yX2_withoutBox wsX2_withoutBox ({ frames := 1, cells := 0, slots := 0, locals := 20 }) (va_Pc [.int x1] (fun _ => True)) (vp_Si (fun r => r = f_X2_withoutBox x1)) 0 0 (fun _ => False) := by
  refine Met.ofW (cc := cX2_withoutBox) (maxL := 1) (ret := (some .int)) (by decide) rfl ?_
  intro p e s m args below meth c s₁ B hml hv
  obtain ⟨rfl, -⟩ := hv
  have hx := B.exec
  have hb := B.bytes
  have hr := B.returns
  have hts := atoms_spec (ws := wsX2_withoutBox) B.pre
  have hown : s.vm.findClass RX2 = some m.cls := findClass_of_methodNamed B.named
  have hlocks := B.notSynchronized
  have hl := lv_entry ([.int x1]) (n := 1) (Nat.le_of_ble_eq_true rfl)
  rw [lg_entry_eq]
  generalize (lg_sl ([.int x1]) ++ List.replicate (1 - (lg_sl ([.int x1])).length) Slot.unset).toArray = ls at hl ⊢
  have hl : lv_has ls 1 [(0, .int x1)] := hl
  refine lv_iload_n hx hb dX2_withoutBox_0 rfl (lv_at hl 0 rfl) ?_
  refine mb_callSi (W.runS (As := [.int x1]) (rest := []) ⟨hx, hb, hml, hown, hts⟩ (c_X2_isBox l x1) (va_cwS 1 hts gX2_withoutBox_X2_isBox rfl rfl rfl (by decide +kernel) ⟨Nat.le_of_ble_eq_true rfl, Nat.le_of_ble_eq_true rfl⟩) mb_preT rfl rfl hl.1 rfl (lv_room (Nat.le_of_ble_eq_true rfl)) dX2_withoutBox_1 ⟨Nat.zero_le _, Nat.zero_le _⟩) ?_
  refine lv_if_eq (tgt := 14) hx hb dX2_withoutBox_4 (by decide) (fun c_1 => ?_) (fun c_1 => ?_)
  · refine lv_iload_n hx hb dX2_withoutBox_14 rfl (lv_at hl 0 rfl) ?_
    exact W.iret (v := x1) hx hb hr (fun t ht hW => ⟨x1, rfl, Eq.symm ((if_pos c_1).trans (rfl)), ht⟩) (fun q h => by cases h) dX2_withoutBox_15
  · refine lv_iload_n hx hb dX2_withoutBox_7 rfl (lv_at hl 0 rfl) ?_
    refine lv_bipush (v := (8 : Int32)) hx hb dX2_withoutBox_8 (by decide) ?_
    refine lv_isub hx hb dX2_withoutBox_10 ?_
    refine lv_goto (tgt := 15) hx hb dX2_withoutBox_11 (by decide) ?_
    exact W.iret (v := (x1 - (8 : Int32))) hx hb hr (fun t ht hW => ⟨(x1 - (8 : Int32)), rfl, Eq.symm ((if_neg c_1).trans (rfl)), ht⟩) (fun q h => by cases h) dX2_withoutBox_15
def f_X2_isContext (x1 : Int32) : Int32 := if x1 < 0 then (0 : Int32)
  else if (5 : Int32) < x1 then (0 : Int32)
  else (1 : Int32)
theorem nb_X2_isContext (x1 : Int32) : mb_B (f_X2_isContext x1) := by
  unfold f_X2_isContext
  exact mb_B_ite (rfl) (mb_B_ite (rfl) (rfl))
set_option maxHeartbeats 4000000 in
set_option maxRecDepth 100000 in
theorem c_X2_isContext (l : Launch) (x1 : Int32) : Met l yX2_isContext wsX2_isContext ({ frames := 0, cells := 0, slots := 0, locals := 0 }) (va_Pc [.int x1] (fun _ => True)) (vp_Si (fun r => r = f_X2_isContext x1)) 0 0 (fun _ => False) := by
  refine Met.ofW (cc := cX2_isContext) (maxL := 1) (ret := (some .boolean)) (by decide) rfl ?_
  intro p e s m args below meth c s₁ B hml hv
  obtain ⟨rfl, -⟩ := hv
  have hx := B.exec
  have hb := B.bytes
  have hr := B.returns
  have hts := atoms_spec (ws := wsX2_isContext) B.pre
  have hown : s.vm.findClass RX2 = some m.cls := findClass_of_methodNamed B.named
  have hlocks := B.notSynchronized
  have hl := lv_entry ([.int x1]) (n := 1) (Nat.le_of_ble_eq_true rfl)
  rw [lg_entry_eq]
  generalize (lg_sl ([.int x1]) ++ List.replicate (1 - (lg_sl ([.int x1])).length) Slot.unset).toArray = ls at hl ⊢
  have hl : lv_has ls 1 [(0, .int x1)] := hl
  refine lv_iload_n hx hb dX2_isContext_0 rfl (lv_at hl 0 rfl) ?_
  refine lv_if_lt (tgt := 13) hx hb dX2_isContext_1 (by decide) (fun c_1 => ?_) (fun c_1 => ?_)
  · refine lv_iconst (v := (0 : Int32)) hx hb dX2_isContext_13 (by decide) ?_
    exact W.zret (v := (0 : Int32)) hx hb hr rfl (fun t ht hW => ⟨(0 : Int32), rfl, Eq.symm ((if_pos c_1).trans (rfl)), ht⟩) (fun q h => by cases h) dX2_isContext_14
  · refine lv_iload_n hx hb dX2_isContext_4 rfl (lv_at hl 0 rfl) ?_
    refine lv_iconst (v := (5 : Int32)) hx hb dX2_isContext_5 (by decide) ?_
    refine lv_icmp_gt (tgt := 13) hx hb dX2_isContext_6 (by decide) (fun c_2 => ?_) (fun c_2 => ?_)
    · refine lv_iconst (v := (0 : Int32)) hx hb dX2_isContext_13 (by decide) ?_
      exact W.zret (v := (0 : Int32)) hx hb hr rfl (fun t ht hW => ⟨(0 : Int32), rfl, Eq.symm ((if_neg c_1).trans ((if_pos c_2).trans (rfl))), ht⟩) (fun q h => by cases h) dX2_isContext_14
    · refine lv_iconst (v := (1 : Int32)) hx hb dX2_isContext_9 (by decide) ?_
      refine lv_goto (tgt := 14) hx hb dX2_isContext_10 (by decide) ?_
      exact W.zret (v := (1 : Int32)) hx hb hr rfl (fun t ht hW => ⟨(1 : Int32), rfl, Eq.symm ((if_neg c_1).trans ((if_neg c_2).trans (rfl))), ht⟩) (fun q h => by cases h) dX2_isContext_14
def f_X2_isWider (x1 : Int32) (x2 : Int32) : Int32 := if (f_X2_isNumber x1) = 0 then (if (0 : Int32) = 0 then (0 : Int32)
    else if x1 = (1 : Int32) then (if x2 < (4 : Int32) then (0 : Int32)
      else (1 : Int32))
    else (1 : Int32))
  else if (f_X2_isNumber x2) = 0 then (if (0 : Int32) = 0 then (0 : Int32)
    else if x1 = (1 : Int32) then (if x2 < (4 : Int32) then (0 : Int32)
      else (1 : Int32))
    else (1 : Int32))
  else if x2 ≤ x1 then (if (0 : Int32) = 0 then (0 : Int32)
    else if x1 = (1 : Int32) then (if x2 < (4 : Int32) then (0 : Int32)
      else (1 : Int32))
    else (1 : Int32))
  else if (1 : Int32) = 0 then (0 : Int32)
  else if x1 = (1 : Int32) then (if x2 < (4 : Int32) then (0 : Int32)
    else (1 : Int32))
  else (1 : Int32)
theorem nb_X2_isWider (x1 : Int32) (x2 : Int32) : mb_B (f_X2_isWider x1 x2) := by
  unfold f_X2_isWider
  exact mb_B_ite (mb_B_ite (rfl) (mb_B_ite (mb_B_ite (rfl) (rfl)) (rfl))) (mb_B_ite (mb_B_ite (rfl) (mb_B_ite (mb_B_ite (rfl) (rfl)) (rfl))) (mb_B_ite (mb_B_ite (rfl) (mb_B_ite (mb_B_ite (rfl) (rfl)) (rfl))) (mb_B_ite (rfl) (mb_B_ite (mb_B_ite (rfl) (rfl)) (rfl)))))
set_option maxHeartbeats 4000000 in
set_option maxRecDepth 100000 in
theorem c_X2_isWider (l : Launch) (x1 : Int32) (x2 : Int32) : Met l yX2_isWider wsX2_isWider ({ frames := 1, cells := 0, slots := 0, locals := 20 }) (va_Pc [.int x1, .int x2] (fun _ => True)) (vp_Si (fun r => r = f_X2_isWider x1 x2)) 0 0 (fun _ => False) := by
  refine Met.ofW (cc := cX2_isWider) (maxL := 3) (ret := (some .boolean)) (by decide) rfl ?_
  intro p e s m args below meth c s₁ B hml hv
  obtain ⟨rfl, -⟩ := hv
  have hx := B.exec
  have hb := B.bytes
  have hr := B.returns
  have hts := atoms_spec (ws := wsX2_isWider) B.pre
  have hown : s.vm.findClass RX2 = some m.cls := findClass_of_methodNamed B.named
  have hlocks := B.notSynchronized
  have hl := lv_entry ([.int x1, .int x2]) (n := 3) (Nat.le_of_ble_eq_true rfl)
  rw [lg_entry_eq]
  generalize (lg_sl ([.int x1, .int x2]) ++ List.replicate (3 - (lg_sl ([.int x1, .int x2])).length) Slot.unset).toArray = ls at hl ⊢
  have hl : lv_has ls 3 [(0, .int x1), (1, .int x2)] := hl
  refine lv_iload_n hx hb dX2_isWider_0 rfl (lv_at hl 0 rfl) ?_
  refine mb_callSi (W.runS (As := [.int x1]) (rest := []) ⟨hx, hb, hml, hown, hts⟩ (c_X2_isNumber l x1) (va_cwS 1 hts gX2_isWider_X2_isNumber rfl rfl rfl (by decide +kernel) ⟨Nat.le_of_ble_eq_true rfl, Nat.le_of_ble_eq_true rfl⟩) mb_preT rfl rfl hl.1 rfl (lv_room (Nat.le_of_ble_eq_true rfl)) dX2_isWider_1 ⟨Nat.zero_le _, Nat.zero_le _⟩) ?_
  refine lv_if_eq (tgt := 23) hx hb dX2_isWider_4 (by decide) (fun c_1 => ?_) (fun c_1 => ?_)
  · refine lv_iconst (v := (0 : Int32)) hx hb dX2_isWider_23 (by decide) ?_
    refine lv_istore_n (lv' := [(2, .int (0 : Int32)), (0, .int x1), (1, .int x2)]) hx hb dX2_isWider_24 rfl hl (by decide) rfl (fun ls hl => ?_)
    refine lv_iload_n hx hb dX2_isWider_25 rfl (lv_at hl 0 rfl) ?_
    refine lv_if_eq (tgt := 43) hx hb dX2_isWider_26 (by decide) (fun c_2 => ?_) (fun c_2 => ?_)
    · refine lv_iconst (v := (0 : Int32)) hx hb dX2_isWider_43 (by decide) ?_
      exact W.zret (v := (0 : Int32)) hx hb hr rfl (fun t ht hW => ⟨(0 : Int32), rfl, Eq.symm ((if_pos c_1).trans ((if_pos c_2).trans (rfl))), ht⟩) (fun q h => by cases h) dX2_isWider_44
    · refine lv_iload_n hx hb dX2_isWider_29 rfl (lv_at hl 1 rfl) ?_
      refine lv_iconst (v := (1 : Int32)) hx hb dX2_isWider_30 (by decide) ?_
      refine lv_icmp_ne (tgt := 39) hx hb dX2_isWider_31 (by decide) (fun c_3 => ?_) (fun c_3 => ?_)
      · refine lv_iconst (v := (1 : Int32)) hx hb dX2_isWider_39 (by decide) ?_
        refine lv_goto (tgt := 44) hx hb dX2_isWider_40 (by decide) ?_
        exact W.zret (v := (1 : Int32)) hx hb hr rfl (fun t ht hW => ⟨(1 : Int32), rfl, Eq.symm ((if_pos c_1).trans ((if_neg c_2).trans ((if_neg c_3).trans (rfl)))), ht⟩) (fun q h => by cases h) dX2_isWider_44
      · refine lv_iload_n hx hb dX2_isWider_34 rfl (lv_at hl 2 rfl) ?_
        refine lv_iconst (v := (4 : Int32)) hx hb dX2_isWider_35 (by decide) ?_
        refine lv_icmp_lt (tgt := 43) hx hb dX2_isWider_36 (by decide) (fun c_4 => ?_) (fun c_4 => ?_)
        · refine lv_iconst (v := (0 : Int32)) hx hb dX2_isWider_43 (by decide) ?_
          exact W.zret (v := (0 : Int32)) hx hb hr rfl (fun t ht hW => ⟨(0 : Int32), rfl, Eq.symm ((if_pos c_1).trans ((if_neg c_2).trans ((if_pos c_3).trans ((if_pos c_4).trans (rfl))))), ht⟩) (fun q h => by cases h) dX2_isWider_44
        · refine lv_iconst (v := (1 : Int32)) hx hb dX2_isWider_39 (by decide) ?_
          refine lv_goto (tgt := 44) hx hb dX2_isWider_40 (by decide) ?_
          exact W.zret (v := (1 : Int32)) hx hb hr rfl (fun t ht hW => ⟨(1 : Int32), rfl, Eq.symm ((if_pos c_1).trans ((if_neg c_2).trans ((if_pos c_3).trans ((if_neg c_4).trans (rfl))))), ht⟩) (fun q h => by cases h) dX2_isWider_44
  · refine lv_iload_n hx hb dX2_isWider_7 rfl (lv_at hl 1 rfl) ?_
    refine mb_callSi (W.runS (As := [.int x2]) (rest := []) ⟨hx, hb, hml, hown, hts⟩ (c_X2_isNumber l x2) (va_cwS 1 hts gX2_isWider_X2_isNumber rfl rfl rfl (by decide +kernel) ⟨Nat.le_of_ble_eq_true rfl, Nat.le_of_ble_eq_true rfl⟩) mb_preT rfl rfl hl.1 rfl (lv_room (Nat.le_of_ble_eq_true rfl)) dX2_isWider_8 ⟨Nat.zero_le _, Nat.zero_le _⟩) ?_
    refine lv_if_eq (tgt := 23) hx hb dX2_isWider_11 (by decide) (fun c_5 => ?_) (fun c_5 => ?_)
    · refine lv_iconst (v := (0 : Int32)) hx hb dX2_isWider_23 (by decide) ?_
      refine lv_istore_n (lv' := [(2, .int (0 : Int32)), (0, .int x1), (1, .int x2)]) hx hb dX2_isWider_24 rfl hl (by decide) rfl (fun ls hl => ?_)
      refine lv_iload_n hx hb dX2_isWider_25 rfl (lv_at hl 0 rfl) ?_
      refine lv_if_eq (tgt := 43) hx hb dX2_isWider_26 (by decide) (fun c_6 => ?_) (fun c_6 => ?_)
      · refine lv_iconst (v := (0 : Int32)) hx hb dX2_isWider_43 (by decide) ?_
        exact W.zret (v := (0 : Int32)) hx hb hr rfl (fun t ht hW => ⟨(0 : Int32), rfl, Eq.symm ((if_neg c_1).trans ((if_pos c_5).trans ((if_pos c_6).trans (rfl)))), ht⟩) (fun q h => by cases h) dX2_isWider_44
      · refine lv_iload_n hx hb dX2_isWider_29 rfl (lv_at hl 1 rfl) ?_
        refine lv_iconst (v := (1 : Int32)) hx hb dX2_isWider_30 (by decide) ?_
        refine lv_icmp_ne (tgt := 39) hx hb dX2_isWider_31 (by decide) (fun c_7 => ?_) (fun c_7 => ?_)
        · refine lv_iconst (v := (1 : Int32)) hx hb dX2_isWider_39 (by decide) ?_
          refine lv_goto (tgt := 44) hx hb dX2_isWider_40 (by decide) ?_
          exact W.zret (v := (1 : Int32)) hx hb hr rfl (fun t ht hW => ⟨(1 : Int32), rfl, Eq.symm ((if_neg c_1).trans ((if_pos c_5).trans ((if_neg c_6).trans ((if_neg c_7).trans (rfl))))), ht⟩) (fun q h => by cases h) dX2_isWider_44
        · refine lv_iload_n hx hb dX2_isWider_34 rfl (lv_at hl 2 rfl) ?_
          refine lv_iconst (v := (4 : Int32)) hx hb dX2_isWider_35 (by decide) ?_
          refine lv_icmp_lt (tgt := 43) hx hb dX2_isWider_36 (by decide) (fun c_8 => ?_) (fun c_8 => ?_)
          · refine lv_iconst (v := (0 : Int32)) hx hb dX2_isWider_43 (by decide) ?_
            exact W.zret (v := (0 : Int32)) hx hb hr rfl (fun t ht hW => ⟨(0 : Int32), rfl, Eq.symm ((if_neg c_1).trans ((if_pos c_5).trans ((if_neg c_6).trans ((if_pos c_7).trans ((if_pos c_8).trans (rfl)))))), ht⟩) (fun q h => by cases h) dX2_isWider_44
          · refine lv_iconst (v := (1 : Int32)) hx hb dX2_isWider_39 (by decide) ?_
            refine lv_goto (tgt := 44) hx hb dX2_isWider_40 (by decide) ?_
            exact W.zret (v := (1 : Int32)) hx hb hr rfl (fun t ht hW => ⟨(1 : Int32), rfl, Eq.symm ((if_neg c_1).trans ((if_pos c_5).trans ((if_neg c_6).trans ((if_pos c_7).trans ((if_neg c_8).trans (rfl)))))), ht⟩) (fun q h => by cases h) dX2_isWider_44
    · refine lv_iload_n hx hb dX2_isWider_14 rfl (lv_at hl 1 rfl) ?_
      refine lv_iload_n hx hb dX2_isWider_15 rfl (lv_at hl 0 rfl) ?_
      refine lv_icmp_le (tgt := 23) hx hb dX2_isWider_16 (by decide) (fun c_9 => ?_) (fun c_9 => ?_)
      · refine lv_iconst (v := (0 : Int32)) hx hb dX2_isWider_23 (by decide) ?_
        refine lv_istore_n (lv' := [(2, .int (0 : Int32)), (0, .int x1), (1, .int x2)]) hx hb dX2_isWider_24 rfl hl (by decide) rfl (fun ls hl => ?_)
        refine lv_iload_n hx hb dX2_isWider_25 rfl (lv_at hl 0 rfl) ?_
        refine lv_if_eq (tgt := 43) hx hb dX2_isWider_26 (by decide) (fun c_10 => ?_) (fun c_10 => ?_)
        · refine lv_iconst (v := (0 : Int32)) hx hb dX2_isWider_43 (by decide) ?_
          exact W.zret (v := (0 : Int32)) hx hb hr rfl (fun t ht hW => ⟨(0 : Int32), rfl, Eq.symm ((if_neg c_1).trans ((if_neg c_5).trans ((if_pos c_9).trans ((if_pos c_10).trans (rfl))))), ht⟩) (fun q h => by cases h) dX2_isWider_44
        · refine lv_iload_n hx hb dX2_isWider_29 rfl (lv_at hl 1 rfl) ?_
          refine lv_iconst (v := (1 : Int32)) hx hb dX2_isWider_30 (by decide) ?_
          refine lv_icmp_ne (tgt := 39) hx hb dX2_isWider_31 (by decide) (fun c_11 => ?_) (fun c_11 => ?_)
          · refine lv_iconst (v := (1 : Int32)) hx hb dX2_isWider_39 (by decide) ?_
            refine lv_goto (tgt := 44) hx hb dX2_isWider_40 (by decide) ?_
            exact W.zret (v := (1 : Int32)) hx hb hr rfl (fun t ht hW => ⟨(1 : Int32), rfl, Eq.symm ((if_neg c_1).trans ((if_neg c_5).trans ((if_pos c_9).trans ((if_neg c_10).trans ((if_neg c_11).trans (rfl)))))), ht⟩) (fun q h => by cases h) dX2_isWider_44
          · refine lv_iload_n hx hb dX2_isWider_34 rfl (lv_at hl 2 rfl) ?_
            refine lv_iconst (v := (4 : Int32)) hx hb dX2_isWider_35 (by decide) ?_
            refine lv_icmp_lt (tgt := 43) hx hb dX2_isWider_36 (by decide) (fun c_12 => ?_) (fun c_12 => ?_)
            · refine lv_iconst (v := (0 : Int32)) hx hb dX2_isWider_43 (by decide) ?_
              exact W.zret (v := (0 : Int32)) hx hb hr rfl (fun t ht hW => ⟨(0 : Int32), rfl, Eq.symm ((if_neg c_1).trans ((if_neg c_5).trans ((if_pos c_9).trans ((if_neg c_10).trans ((if_pos c_11).trans ((if_pos c_12).trans (rfl))))))), ht⟩) (fun q h => by cases h) dX2_isWider_44
            · refine lv_iconst (v := (1 : Int32)) hx hb dX2_isWider_39 (by decide) ?_
              refine lv_goto (tgt := 44) hx hb dX2_isWider_40 (by decide) ?_
              exact W.zret (v := (1 : Int32)) hx hb hr rfl (fun t ht hW => ⟨(1 : Int32), rfl, Eq.symm ((if_neg c_1).trans ((if_neg c_5).trans ((if_pos c_9).trans ((if_neg c_10).trans ((if_pos c_11).trans ((if_neg c_12).trans (rfl))))))), ht⟩) (fun q h => by cases h) dX2_isWider_44
      · refine lv_iconst (v := (1 : Int32)) hx hb dX2_isWider_19 (by decide) ?_
        refine lv_goto (tgt := 24) hx hb dX2_isWider_20 (by decide) ?_
        refine lv_istore_n (lv' := [(2, .int (1 : Int32)), (0, .int x1), (1, .int x2)]) hx hb dX2_isWider_24 rfl hl (by decide) rfl (fun ls hl => ?_)
        refine lv_iload_n hx hb dX2_isWider_25 rfl (lv_at hl 0 rfl) ?_
        refine lv_if_eq (tgt := 43) hx hb dX2_isWider_26 (by decide) (fun c_13 => ?_) (fun c_13 => ?_)
        · refine lv_iconst (v := (0 : Int32)) hx hb dX2_isWider_43 (by decide) ?_
          exact W.zret (v := (0 : Int32)) hx hb hr rfl (fun t ht hW => ⟨(0 : Int32), rfl, Eq.symm ((if_neg c_1).trans ((if_neg c_5).trans ((if_neg c_9).trans ((if_pos c_13).trans (rfl))))), ht⟩) (fun q h => by cases h) dX2_isWider_44
        · refine lv_iload_n hx hb dX2_isWider_29 rfl (lv_at hl 1 rfl) ?_
          refine lv_iconst (v := (1 : Int32)) hx hb dX2_isWider_30 (by decide) ?_
          refine lv_icmp_ne (tgt := 39) hx hb dX2_isWider_31 (by decide) (fun c_14 => ?_) (fun c_14 => ?_)
          · refine lv_iconst (v := (1 : Int32)) hx hb dX2_isWider_39 (by decide) ?_
            refine lv_goto (tgt := 44) hx hb dX2_isWider_40 (by decide) ?_
            exact W.zret (v := (1 : Int32)) hx hb hr rfl (fun t ht hW => ⟨(1 : Int32), rfl, Eq.symm ((if_neg c_1).trans ((if_neg c_5).trans ((if_neg c_9).trans ((if_neg c_13).trans ((if_neg c_14).trans (rfl)))))), ht⟩) (fun q h => by cases h) dX2_isWider_44
          · refine lv_iload_n hx hb dX2_isWider_34 rfl (lv_at hl 2 rfl) ?_
            refine lv_iconst (v := (4 : Int32)) hx hb dX2_isWider_35 (by decide) ?_
            refine lv_icmp_lt (tgt := 43) hx hb dX2_isWider_36 (by decide) (fun c_15 => ?_) (fun c_15 => ?_)
            · refine lv_iconst (v := (0 : Int32)) hx hb dX2_isWider_43 (by decide) ?_
              exact W.zret (v := (0 : Int32)) hx hb hr rfl (fun t ht hW => ⟨(0 : Int32), rfl, Eq.symm ((if_neg c_1).trans ((if_neg c_5).trans ((if_neg c_9).trans ((if_neg c_13).trans ((if_pos c_14).trans ((if_pos c_15).trans (rfl))))))), ht⟩) (fun q h => by cases h) dX2_isWider_44
            · refine lv_iconst (v := (1 : Int32)) hx hb dX2_isWider_39 (by decide) ?_
              refine lv_goto (tgt := 44) hx hb dX2_isWider_40 (by decide) ?_
              exact W.zret (v := (1 : Int32)) hx hb hr rfl (fun t ht hW => ⟨(1 : Int32), rfl, Eq.symm ((if_neg c_1).trans ((if_neg c_5).trans ((if_neg c_9).trans ((if_neg c_13).trans ((if_pos c_14).trans ((if_neg c_15).trans (rfl))))))), ht⟩) (fun q h => by cases h) dX2_isWider_44
def f_X2_stepBetweenPrimitives (x1 : Int32) (x2 : Int32) : Int32 := if x1 = 0 then (0 : Int32)
  else if x2 = 0 then (0 : Int32)
  else if (f_X2_isWider x1 x2) = 0 then (if x1 = (2 : Int32) then (if x2 = (1 : Int32) then (4 : Int32)
      else (3 : Int32))
    else (3 : Int32))
  else (2 : Int32)
set_option maxHeartbeats 4000000 in
set_option maxRecDepth 100000 in
theorem c_X2_stepBetweenPrimitives (l : Launch) (x1 : Int32) (x2 : Int32) : Met l yX2_stepBetweenPrimitives wsX2_stepBetweenPrimitives ({ frames := 2, cells := 0, slots := 0, locals := 42 }) (va_Pc [.int x1, .int x2] (fun _ => True)) (vp_Si (fun r => r = f_X2_stepBetweenPrimitives x1 x2)) 0 0 (fun _ => False) := by
  refine Met.ofW (cc := cX2_stepBetweenPrimitives) (maxL := 2) (ret := (some .int)) (by decide) rfl ?_
  intro p e s m args below meth c s₁ B hml hv
  obtain ⟨rfl, -⟩ := hv
  have hx := B.exec
  have hb := B.bytes
  have hr := B.returns
  have hts := atoms_spec (ws := wsX2_stepBetweenPrimitives) B.pre
  have hown : s.vm.findClass RX2 = some m.cls := findClass_of_methodNamed B.named
  have hlocks := B.notSynchronized
  have hl := lv_entry ([.int x1, .int x2]) (n := 2) (Nat.le_of_ble_eq_true rfl)
  rw [lg_entry_eq]
  generalize (lg_sl ([.int x1, .int x2]) ++ List.replicate (2 - (lg_sl ([.int x1, .int x2])).length) Slot.unset).toArray = ls at hl ⊢
  have hl : lv_has ls 2 [(0, .int x1), (1, .int x2)] := hl
  refine lv_iload_n hx hb dX2_stepBetweenPrimitives_0 rfl (lv_at hl 0 rfl) ?_
  refine lv_if_eq (tgt := 8) hx hb dX2_stepBetweenPrimitives_1 (by decide) (fun c_1 => ?_) (fun c_1 => ?_)
  · refine lv_iconst (v := (0 : Int32)) hx hb dX2_stepBetweenPrimitives_8 (by decide) ?_
    exact W.iret (v := (0 : Int32)) hx hb hr (fun t ht hW => ⟨(0 : Int32), rfl, Eq.symm ((if_pos c_1).trans (rfl)), ht⟩) (fun q h => by cases h) dX2_stepBetweenPrimitives_9
  · refine lv_iload_n hx hb dX2_stepBetweenPrimitives_4 rfl (lv_at hl 1 rfl) ?_
    refine lv_if_ne (tgt := 10) hx hb dX2_stepBetweenPrimitives_5 (by decide) (fun c_2 => ?_) (fun c_2 => ?_)
    · refine lv_iload_n hx hb dX2_stepBetweenPrimitives_10 rfl (lv_at hl 0 rfl) ?_
      refine lv_iload_n hx hb dX2_stepBetweenPrimitives_11 rfl (lv_at hl 1 rfl) ?_
      refine mb_callSi (W.runS (As := [.int x1, .int x2]) (rest := []) ⟨hx, hb, hml, hown, hts⟩ (c_X2_isWider l x1 x2) (va_cwS 2 hts gX2_stepBetweenPrimitives_X2_isWider rfl rfl rfl (by decide +kernel) ⟨Nat.le_of_ble_eq_true rfl, Nat.le_of_ble_eq_true rfl⟩) mb_preT rfl rfl hl.1 rfl (lv_room (Nat.le_of_ble_eq_true rfl)) dX2_stepBetweenPrimitives_12 ⟨Nat.zero_le _, Nat.zero_le _⟩) ?_
      refine lv_if_eq (tgt := 20) hx hb dX2_stepBetweenPrimitives_15 (by decide) (fun c_3 => ?_) (fun c_3 => ?_)
      · refine lv_iload_n hx hb dX2_stepBetweenPrimitives_20 rfl (lv_at hl 0 rfl) ?_
        refine lv_iconst (v := (2 : Int32)) hx hb dX2_stepBetweenPrimitives_21 (by decide) ?_
        refine lv_icmp_ne (tgt := 34) hx hb dX2_stepBetweenPrimitives_22 (by decide) (fun c_4 => ?_) (fun c_4 => ?_)
        · refine lv_iconst (v := (3 : Int32)) hx hb dX2_stepBetweenPrimitives_34 (by decide) ?_
          exact W.iret (v := (3 : Int32)) hx hb hr (fun t ht hW => ⟨(3 : Int32), rfl, Eq.symm ((if_neg c_1).trans ((if_neg c_2).trans ((if_pos c_3).trans ((if_neg c_4).trans (rfl))))), ht⟩) (fun q h => by cases h) dX2_stepBetweenPrimitives_35
        · refine lv_iload_n hx hb dX2_stepBetweenPrimitives_25 rfl (lv_at hl 1 rfl) ?_
          refine lv_iconst (v := (1 : Int32)) hx hb dX2_stepBetweenPrimitives_26 (by decide) ?_
          refine lv_icmp_ne (tgt := 34) hx hb dX2_stepBetweenPrimitives_27 (by decide) (fun c_5 => ?_) (fun c_5 => ?_)
          · refine lv_iconst (v := (3 : Int32)) hx hb dX2_stepBetweenPrimitives_34 (by decide) ?_
            exact W.iret (v := (3 : Int32)) hx hb hr (fun t ht hW => ⟨(3 : Int32), rfl, Eq.symm ((if_neg c_1).trans ((if_neg c_2).trans ((if_pos c_3).trans ((if_pos c_4).trans ((if_neg c_5).trans (rfl)))))), ht⟩) (fun q h => by cases h) dX2_stepBetweenPrimitives_35
          · refine lv_iconst (v := (4 : Int32)) hx hb dX2_stepBetweenPrimitives_30 (by decide) ?_
            refine lv_goto (tgt := 35) hx hb dX2_stepBetweenPrimitives_31 (by decide) ?_
            exact W.iret (v := (4 : Int32)) hx hb hr (fun t ht hW => ⟨(4 : Int32), rfl, Eq.symm ((if_neg c_1).trans ((if_neg c_2).trans ((if_pos c_3).trans ((if_pos c_4).trans ((if_pos c_5).trans (rfl)))))), ht⟩) (fun q h => by cases h) dX2_stepBetweenPrimitives_35
      · refine lv_iconst (v := (2 : Int32)) hx hb dX2_stepBetweenPrimitives_18 (by decide) ?_
        exact W.iret (v := (2 : Int32)) hx hb hr (fun t ht hW => ⟨(2 : Int32), rfl, Eq.symm ((if_neg c_1).trans ((if_neg c_2).trans ((if_neg c_3).trans (rfl)))), ht⟩) (fun q h => by cases h) dX2_stepBetweenPrimitives_19
    · refine lv_iconst (v := (0 : Int32)) hx hb dX2_stepBetweenPrimitives_8 (by decide) ?_
      exact W.iret (v := (0 : Int32)) hx hb hr (fun t ht hW => ⟨(0 : Int32), rfl, Eq.symm ((if_neg c_1).trans ((if_pos c_2).trans (rfl))), ht⟩) (fun q h => by cases h) dX2_stepBetweenPrimitives_9
def f_X2_lowestBits (x1 : Int64) (x2 : Int32) : Int64 := if x2 = (1 : Int32) then ((x1.toInt32.toUInt32 % 65536).toInt32).toInt64
  else if x2 = (2 : Int32) then x1.toInt32.toInt8.toInt32.toInt64
  else if x2 = (3 : Int32) then x1.toInt32.toInt16.toInt32.toInt64
  else if x2 = (4 : Int32) then x1.toInt32.toInt64
  else x1
set_option maxHeartbeats 4000000 in
set_option maxRecDepth 100000 in
theorem c_X2_lowestBits (l : Launch) (x1 : Int64) (x2 : Int32) : Met l yX2_lowestBits wsX2_lowestBits ({ frames := 0, cells := 0, slots := 0, locals := 0 }) (va_Pc [.long x1, .int x2] (fun _ => True)) (vp_Sl (fun r => r = f_X2_lowestBits x1 x2)) 0 0 (fun _ => False) := by
  refine Met.ofW (cc := cX2_lowestBits) (maxL := 3) (ret := (some .long)) (by decide) rfl ?_
  intro p e s m args below meth c s₁ B hml hv
  obtain ⟨rfl, -⟩ := hv
  have hx := B.exec
  have hb := B.bytes
  have hr := B.returns
  have hts := atoms_spec (ws := wsX2_lowestBits) B.pre
  have hown : s.vm.findClass RX2 = some m.cls := findClass_of_methodNamed B.named
  have hlocks := B.notSynchronized
  have hl := lv_entry ([.long x1, .int x2]) (n := 3) (Nat.le_of_ble_eq_true rfl)
  rw [lg_entry_eq]
  generalize (lg_sl ([.long x1, .int x2]) ++ List.replicate (3 - (lg_sl ([.long x1, .int x2])).length) Slot.unset).toArray = ls at hl ⊢
  have hl : lv_has ls 3 [(0, .long x1), (2, .int x2)] := hl
  refine lv_iload_n hx hb dX2_lowestBits_0 rfl (lv_at hl 1 rfl) ?_
  by_cases c_1 : x2 = (1 : Int32)
  · refine lv_tableIn (tgt := 32) hx hb dX2_lowestBits_1 (by rw [c_1]; decide) (by rw [c_1]; decide) (off := 31) (by rw [c_1]; decide) (by decide) ?_
    refine lv_lload_n hx hb dX2_lowestBits_32 rfl (lv_at hl 0 rfl) ?_
    refine lv_l2i hx hb dX2_lowestBits_33 rfl ?_
    refine lv_i2c hx hb dX2_lowestBits_34 rfl ?_
    refine lv_i2l hx hb dX2_lowestBits_35 rfl ?_
    exact W.lret (v := ((x1.toInt32.toUInt32 % 65536).toInt32).toInt64) hx hb hr (fun t ht hW => ⟨((x1.toInt32.toUInt32 % 65536).toInt32).toInt64, rfl, Eq.symm ((if_pos c_1).trans (rfl)), ht⟩) (fun q h => by cases h) dX2_lowestBits_36
  · by_cases c_2 : x2 = (2 : Int32)
    · refine lv_tableIn (tgt := 37) hx hb dX2_lowestBits_1 (by rw [c_2]; decide) (by rw [c_2]; decide) (off := 36) (by rw [c_2]; decide) (by decide) ?_
      refine lv_lload_n hx hb dX2_lowestBits_37 rfl (lv_at hl 0 rfl) ?_
      refine lv_l2i hx hb dX2_lowestBits_38 rfl ?_
      refine lv_i2b hx hb dX2_lowestBits_39 rfl ?_
      refine lv_i2l hx hb dX2_lowestBits_40 rfl ?_
      exact W.lret (v := x1.toInt32.toInt8.toInt32.toInt64) hx hb hr (fun t ht hW => ⟨x1.toInt32.toInt8.toInt32.toInt64, rfl, Eq.symm ((if_neg c_1).trans ((if_pos c_2).trans (rfl))), ht⟩) (fun q h => by cases h) dX2_lowestBits_41
    · by_cases c_3 : x2 = (3 : Int32)
      · refine lv_tableIn (tgt := 42) hx hb dX2_lowestBits_1 (by rw [c_3]; decide) (by rw [c_3]; decide) (off := 41) (by rw [c_3]; decide) (by decide) ?_
        refine lv_lload_n hx hb dX2_lowestBits_42 rfl (lv_at hl 0 rfl) ?_
        refine lv_l2i hx hb dX2_lowestBits_43 rfl ?_
        refine lv_i2s hx hb dX2_lowestBits_44 rfl ?_
        refine lv_i2l hx hb dX2_lowestBits_45 rfl ?_
        exact W.lret (v := x1.toInt32.toInt16.toInt32.toInt64) hx hb hr (fun t ht hW => ⟨x1.toInt32.toInt16.toInt32.toInt64, rfl, Eq.symm ((if_neg c_1).trans ((if_neg c_2).trans ((if_pos c_3).trans (rfl)))), ht⟩) (fun q h => by cases h) dX2_lowestBits_46
      · by_cases c_4 : x2 = (4 : Int32)
        · refine lv_tableIn (tgt := 47) hx hb dX2_lowestBits_1 (by rw [c_4]; decide) (by rw [c_4]; decide) (off := 46) (by rw [c_4]; decide) (by decide) ?_
          refine lv_lload_n hx hb dX2_lowestBits_47 rfl (lv_at hl 0 rfl) ?_
          refine lv_l2i hx hb dX2_lowestBits_48 rfl ?_
          refine lv_i2l hx hb dX2_lowestBits_49 rfl ?_
          exact W.lret (v := x1.toInt32.toInt64) hx hb hr (fun t ht hW => ⟨x1.toInt32.toInt64, rfl, Eq.symm ((if_neg c_1).trans ((if_neg c_2).trans ((if_neg c_3).trans ((if_pos c_4).trans (rfl))))), ht⟩) (fun q h => by cases h) dX2_lowestBits_50
        · refine lv_tableOut (tgt := 51) hx hb dX2_lowestBits_1 (by have nc_1 := lv_neT c_1 (a := 1) (by decide); have nc_2 := lv_neT c_2 (a := 2) (by decide); have nc_3 := lv_neT c_3 (a := 3) (by decide); have nc_4 := lv_neT c_4 (a := 4) (by decide); omega) (by decide) ?_
          refine lv_lload_n hx hb dX2_lowestBits_51 rfl (lv_at hl 0 rfl) ?_
          exact W.lret (v := x1) hx hb hr (fun t ht hW => ⟨x1, rfl, Eq.symm ((if_neg c_1).trans ((if_neg c_2).trans ((if_neg c_3).trans ((if_neg c_4).trans (rfl))))), ht⟩) (fun q h => by cases h) dX2_lowestBits_52
def f_X2_promotedOfTwo (x1 : Int32) (x2 : Int32) : Int32 := (if (4 : Int32) < (if x1 < x2 then x2 else x1) then (if x1 < x2 then x2 else x1) else (4 : Int32))
set_option maxHeartbeats 4000000 in
set_option maxRecDepth 100000 in
theorem c_X2_promotedOfTwo (l : Launch) (x1 : Int32) (x2 : Int32) : Met l yX2_promotedOfTwo wsX2_promotedOfTwo ({ frames := 1, cells := 0, slots := 0, locals := 23 }) (va_Pc [.int x1, .int x2] (fun _ => True)) (vp_Si (fun r => r = f_X2_promotedOfTwo x1 x2)) 0 0 (fun _ => False) := by
  refine Met.ofW (cc := cX2_promotedOfTwo) (maxL := 2) (ret := (some .int)) (by decide) rfl ?_
  intro p e s m args below meth c s₁ B hml hv
  obtain ⟨rfl, -⟩ := hv
  have hx := B.exec
  have hb := B.bytes
  have hr := B.returns
  have hts := atoms_spec (ws := wsX2_promotedOfTwo) B.pre
  have hown : s.vm.findClass RX2 = some m.cls := findClass_of_methodNamed B.named
  have hlocks := B.notSynchronized
  have hl := lv_entry ([.int x1, .int x2]) (n := 2) (Nat.le_of_ble_eq_true rfl)
  rw [lg_entry_eq]
  generalize (lg_sl ([.int x1, .int x2]) ++ List.replicate (2 - (lg_sl ([.int x1, .int x2])).length) Slot.unset).toArray = ls at hl ⊢
  have hl : lv_has ls 2 [(0, .int x1), (1, .int x2)] := hl
  refine lv_iconst (v := (4 : Int32)) hx hb dX2_promotedOfTwo_0 (by decide) ?_
  refine lv_iload_n hx hb dX2_promotedOfTwo_1 rfl (lv_at hl 0 rfl) ?_
  refine lv_iload_n hx hb dX2_promotedOfTwo_2 rfl (lv_at hl 1 rfl) ?_
  refine va_mmax hx hb (by rw [hml]; exact hl.1.symm) hown (hts (.methodLink RX2 118 Lib.Math.max.name) (by decide +kernel)) (hts (.static Lib.Math.max.name) (by decide +kernel)) (hts (.initialized "java/lang/Math") (by decide +kernel)) (hts (.code Lib.Math.max.name Lib.Math.max.code 2 (some .int)) (by decide +kernel)) (Nat.le_of_ble_eq_true rfl) (Nat.le_of_ble_eq_true rfl) (Nat.le_of_ble_eq_true rfl) (Nat.le_of_ble_eq_true rfl) dX2_promotedOfTwo_3 ?_
  refine va_mmax hx hb (by rw [hml]; exact hl.1.symm) hown (hts (.methodLink RX2 118 Lib.Math.max.name) (by decide +kernel)) (hts (.static Lib.Math.max.name) (by decide +kernel)) (hts (.initialized "java/lang/Math") (by decide +kernel)) (hts (.code Lib.Math.max.name Lib.Math.max.code 2 (some .int)) (by decide +kernel)) (Nat.le_of_ble_eq_true rfl) (Nat.le_of_ble_eq_true rfl) (Nat.le_of_ble_eq_true rfl) (Nat.le_of_ble_eq_true rfl) dX2_promotedOfTwo_6 ?_
  exact W.iret (v := (if (4 : Int32) < (if x1 < x2 then x2 else x1) then (if x1 < x2 then x2 else x1) else (4 : Int32))) hx hb hr (fun t ht hW => ⟨(if (4 : Int32) < (if x1 < x2 then x2 else x1) then (if x1 < x2 then x2 else x1) else (4 : Int32)), rfl, Eq.symm (rfl), ht⟩) (fun q h => by cases h) dX2_promotedOfTwo_9
def f_X2_isByteAndShort (x1 : Int32) (x2 : Int32) : Int32 := if x1 = (2 : Int32) then (if x2 = (3 : Int32) then (1 : Int32)
    else if x1 = (3 : Int32) then (if x2 = (2 : Int32) then (1 : Int32)
      else (0 : Int32))
    else (0 : Int32))
  else if x1 = (3 : Int32) then (if x2 = (2 : Int32) then (1 : Int32)
    else (0 : Int32))
  else (0 : Int32)
theorem nb_X2_isByteAndShort (x1 : Int32) (x2 : Int32) : mb_B (f_X2_isByteAndShort x1 x2) := by
  unfold f_X2_isByteAndShort
  exact mb_B_ite (mb_B_ite (rfl) (mb_B_ite (mb_B_ite (rfl) (rfl)) (rfl))) (mb_B_ite (mb_B_ite (rfl) (rfl)) (rfl))
set_option maxHeartbeats 4000000 in
set_option maxRecDepth 100000 in
theorem c_X2_isByteAndShort (l : Launch) (x1 : Int32) (x2 : Int32) : Met l yX2_isByteAndShort wsX2_isByteAndShort ({ frames := 0, cells := 0, slots := 0, locals := 0 }) (va_Pc [.int x1, .int x2] (fun _ => True)) (vp_Si (fun r => r = f_X2_isByteAndShort x1 x2)) 0 0 (fun _ => False) := by
  refine Met.ofW (cc := cX2_isByteAndShort) (maxL := 2) (ret := (some .boolean)) (by decide) rfl ?_
  intro p e s m args below meth c s₁ B hml hv
  obtain ⟨rfl, -⟩ := hv
  have hx := B.exec
  have hb := B.bytes
  have hr := B.returns
  have hts := atoms_spec (ws := wsX2_isByteAndShort) B.pre
  have hown : s.vm.findClass RX2 = some m.cls := findClass_of_methodNamed B.named
  have hlocks := B.notSynchronized
  have hl := lv_entry ([.int x1, .int x2]) (n := 2) (Nat.le_of_ble_eq_true rfl)
  rw [lg_entry_eq]
  generalize (lg_sl ([.int x1, .int x2]) ++ List.replicate (2 - (lg_sl ([.int x1, .int x2])).length) Slot.unset).toArray = ls at hl ⊢
  have hl : lv_has ls 2 [(0, .int x1), (1, .int x2)] := hl
  refine lv_iload_n hx hb dX2_isByteAndShort_0 rfl (lv_at hl 0 rfl) ?_
  refine lv_iconst (v := (2 : Int32)) hx hb dX2_isByteAndShort_1 (by decide) ?_
  refine lv_icmp_ne (tgt := 10) hx hb dX2_isByteAndShort_2 (by decide) (fun c_1 => ?_) (fun c_1 => ?_)
  · refine lv_iload_n hx hb dX2_isByteAndShort_10 rfl (lv_at hl 0 rfl) ?_
    refine lv_iconst (v := (3 : Int32)) hx hb dX2_isByteAndShort_11 (by decide) ?_
    refine lv_icmp_ne (tgt := 24) hx hb dX2_isByteAndShort_12 (by decide) (fun c_2 => ?_) (fun c_2 => ?_)
    · refine lv_iconst (v := (0 : Int32)) hx hb dX2_isByteAndShort_24 (by decide) ?_
      exact W.zret (v := (0 : Int32)) hx hb hr rfl (fun t ht hW => ⟨(0 : Int32), rfl, Eq.symm ((if_neg c_1).trans ((if_neg c_2).trans (rfl))), ht⟩) (fun q h => by cases h) dX2_isByteAndShort_25
    · refine lv_iload_n hx hb dX2_isByteAndShort_15 rfl (lv_at hl 1 rfl) ?_
      refine lv_iconst (v := (2 : Int32)) hx hb dX2_isByteAndShort_16 (by decide) ?_
      refine lv_icmp_ne (tgt := 24) hx hb dX2_isByteAndShort_17 (by decide) (fun c_3 => ?_) (fun c_3 => ?_)
      · refine lv_iconst (v := (0 : Int32)) hx hb dX2_isByteAndShort_24 (by decide) ?_
        exact W.zret (v := (0 : Int32)) hx hb hr rfl (fun t ht hW => ⟨(0 : Int32), rfl, Eq.symm ((if_neg c_1).trans ((if_pos c_2).trans ((if_neg c_3).trans (rfl)))), ht⟩) (fun q h => by cases h) dX2_isByteAndShort_25
      · refine lv_iconst (v := (1 : Int32)) hx hb dX2_isByteAndShort_20 (by decide) ?_
        refine lv_goto (tgt := 25) hx hb dX2_isByteAndShort_21 (by decide) ?_
        exact W.zret (v := (1 : Int32)) hx hb hr rfl (fun t ht hW => ⟨(1 : Int32), rfl, Eq.symm ((if_neg c_1).trans ((if_pos c_2).trans ((if_pos c_3).trans (rfl)))), ht⟩) (fun q h => by cases h) dX2_isByteAndShort_25
  · refine lv_iload_n hx hb dX2_isByteAndShort_5 rfl (lv_at hl 1 rfl) ?_
    refine lv_iconst (v := (3 : Int32)) hx hb dX2_isByteAndShort_6 (by decide) ?_
    refine lv_icmp_eq (tgt := 20) hx hb dX2_isByteAndShort_7 (by decide) (fun c_4 => ?_) (fun c_4 => ?_)
    · refine lv_iconst (v := (1 : Int32)) hx hb dX2_isByteAndShort_20 (by decide) ?_
      refine lv_goto (tgt := 25) hx hb dX2_isByteAndShort_21 (by decide) ?_
      exact W.zret (v := (1 : Int32)) hx hb hr rfl (fun t ht hW => ⟨(1 : Int32), rfl, Eq.symm ((if_pos c_1).trans ((if_pos c_4).trans (rfl))), ht⟩) (fun q h => by cases h) dX2_isByteAndShort_25
    · refine lv_iload_n hx hb dX2_isByteAndShort_10 rfl (lv_at hl 0 rfl) ?_
      refine lv_iconst (v := (3 : Int32)) hx hb dX2_isByteAndShort_11 (by decide) ?_
      refine lv_icmp_ne (tgt := 24) hx hb dX2_isByteAndShort_12 (by decide) (fun c_5 => ?_) (fun c_5 => ?_)
      · refine lv_iconst (v := (0 : Int32)) hx hb dX2_isByteAndShort_24 (by decide) ?_
        exact W.zret (v := (0 : Int32)) hx hb hr rfl (fun t ht hW => ⟨(0 : Int32), rfl, Eq.symm ((if_pos c_1).trans ((if_neg c_4).trans ((if_neg c_5).trans (rfl)))), ht⟩) (fun q h => by cases h) dX2_isByteAndShort_25
      · refine lv_iload_n hx hb dX2_isByteAndShort_15 rfl (lv_at hl 1 rfl) ?_
        refine lv_iconst (v := (2 : Int32)) hx hb dX2_isByteAndShort_16 (by decide) ?_
        refine lv_icmp_ne (tgt := 24) hx hb dX2_isByteAndShort_17 (by decide) (fun c_6 => ?_) (fun c_6 => ?_)
        · refine lv_iconst (v := (0 : Int32)) hx hb dX2_isByteAndShort_24 (by decide) ?_
          exact W.zret (v := (0 : Int32)) hx hb hr rfl (fun t ht hW => ⟨(0 : Int32), rfl, Eq.symm ((if_pos c_1).trans ((if_neg c_4).trans ((if_pos c_5).trans ((if_neg c_6).trans (rfl))))), ht⟩) (fun q h => by cases h) dX2_isByteAndShort_25
        · refine lv_iconst (v := (1 : Int32)) hx hb dX2_isByteAndShort_20 (by decide) ?_
          refine lv_goto (tgt := 25) hx hb dX2_isByteAndShort_21 (by decide) ?_
          exact W.zret (v := (1 : Int32)) hx hb hr rfl (fun t ht hW => ⟨(1 : Int32), rfl, Eq.symm ((if_pos c_1).trans ((if_neg c_4).trans ((if_pos c_5).trans ((if_pos c_6).trans (rfl))))), ht⟩) (fun q h => by cases h) dX2_isByteAndShort_25
def f_X1_bit (x1 : Int32) : Int64 := ((1 : Int64) <<< (x1.toInt64 &&& 63))
set_option maxHeartbeats 4000000 in
set_option maxRecDepth 100000 in
theorem c_X1_bit (l : Launch) (x1 : Int32) : Met l yX1_bit wsX1_bit ({ frames := 0, cells := 0, slots := 0, locals := 0 }) (va_Pc [.int x1] (fun _ => True)) (vp_Sl (fun r => r = f_X1_bit x1)) 0 0 (fun _ => False) := by
  refine Met.ofW (cc := cX1_bit) (maxL := 1) (ret := (some .long)) (by decide) rfl ?_
  intro p e s m args below meth c s₁ B hml hv
  obtain ⟨rfl, -⟩ := hv
  have hx := B.exec
  have hb := B.bytes
  have hr := B.returns
  have hts := atoms_spec (ws := wsX1_bit) B.pre
  have hown : s.vm.findClass RX1 = some m.cls := findClass_of_methodNamed B.named
  have hlocks := B.notSynchronized
  have hl := lv_entry ([.int x1]) (n := 1) (Nat.le_of_ble_eq_true rfl)
  rw [lg_entry_eq]
  generalize (lg_sl ([.int x1]) ++ List.replicate (1 - (lg_sl ([.int x1])).length) Slot.unset).toArray = ls at hl ⊢
  have hl : lv_has ls 1 [(0, .int x1)] := hl
  refine lv_lconst (v := (1 : Int64)) hx hb dX1_bit_0 (by decide) ?_
  refine lv_iload_n hx hb dX1_bit_1 rfl (lv_at hl 0 rfl) ?_
  refine lv_lshl hx hb dX1_bit_2 rfl ?_
  exact W.lret (v := ((1 : Int64) <<< (x1.toInt64 &&& 63))) hx hb hr (fun t ht hW => ⟨((1 : Int64) <<< (x1.toInt64 &&& 63)), rfl, Eq.symm (rfl), ht⟩) (fun q h => by cases h) dX1_bit_3

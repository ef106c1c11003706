def f_X3_in (x1 : Int32) (x2 : Int32) (x3 : Int32) : Int32 := if x1 < x2 then (0 : Int32)
  else if x3 < x1 then (0 : Int32)
  else (1 : Int32)
theorem nb_X3_in (x1 : Int32) (x2 : Int32) (x3 : Int32) : mb_B (f_X3_in x1 x2 x3) := by
  unfold f_X3_in
  exact mb_B_ite (rfl) (mb_B_ite (rfl) (rfl))
set_option maxHeartbeats 4000000 in
set_option maxRecDepth 100000 in
theorem c_X3_in (l : Launch) (x1 : Int32) (x2 : Int32) (x3 : Int32) : Met l yX3_in wsX3_in ({ frames := 0, cells := 0, slots := 0, locals := 0 }) (va_Pc [.int x1, .int x2, .int x3] (fun _ => True)) (vp_Si (fun r => r = f_X3_in x1 x2 x3)) 0 0 (fun _ => False) := by
  refine Met.ofW (cc := cX3_in) (maxL := 3) (ret := (some .boolean)) (by decide) rfl ?_
  intro p e s m args below meth c s₁ B hml hv
  obtain ⟨rfl, -⟩ := hv
  have hx := B.exec
  have hb := B.bytes
  have hr := B.returns
  have hts := atoms_spec (ws := wsX3_in) B.pre
  have hown : s.vm.findClass RX3 = some m.cls := findClass_of_methodNamed B.named
  have hlocks := B.notSynchronized
  have hl := lv_entry ([.int x1, .int x2, .int x3]) (n := 3) (Nat.le_of_ble_eq_true rfl)
  rw [lg_entry_eq]
  generalize (lg_sl ([.int x1, .int x2, .int x3]) ++ List.replicate (3 - (lg_sl ([.int x1, .int x2, .int x3])).length) Slot.unset).toArray = ls at hl ⊢
  have hl : lv_has ls 3 [(0, .int x1), (1, .int x2), (2, .int x3)] := hl
  refine lv_iload_n hx hb dX3_in_0 rfl (lv_at hl 0 rfl) ?_
  refine lv_iload_n hx hb dX3_in_1 rfl (lv_at hl 1 rfl) ?_
  refine lv_icmp_lt (tgt := 14) hx hb dX3_in_2 (by decide) (fun c_1 => ?_) (fun c_1 => ?_)
  · refine lv_iconst (v := (0 : Int32)) hx hb dX3_in_14 (by decide) ?_
    exact W.zret (v := (0 : Int32)) hx hb hr rfl (fun t ht hW => ⟨(0 : Int32), rfl, Eq.symm ((if_pos c_1).trans (rfl)), ht⟩) (fun q h => by cases h) dX3_in_15
  · refine lv_iload_n hx hb dX3_in_5 rfl (lv_at hl 0 rfl) ?_
    refine lv_iload_n hx hb dX3_in_6 rfl (lv_at hl 2 rfl) ?_
    refine lv_icmp_gt (tgt := 14) hx hb dX3_in_7 (by decide) (fun c_2 => ?_) (fun c_2 => ?_)
    · refine lv_iconst (v := (0 : Int32)) hx hb dX3_in_14 (by decide) ?_
      exact W.zret (v := (0 : Int32)) hx hb hr rfl (fun t ht hW => ⟨(0 : Int32), rfl, Eq.symm ((if_neg c_1).trans ((if_pos c_2).trans (rfl))), ht⟩) (fun q h => by cases h) dX3_in_15
    · refine lv_iconst (v := (1 : Int32)) hx hb dX3_in_10 (by decide) ?_
      refine lv_goto (tgt := 15) hx hb dX3_in_11 (by decide) ?_
      exact W.zret (v := (1 : Int32)) hx hb hr rfl (fun t ht hW => ⟨(1 : Int32), rfl, Eq.symm ((if_neg c_1).trans ((if_neg c_2).trans (rfl))), ht⟩) (fun q h => by cases h) dX3_in_15
def f_X3_isNumber (x1 : Int32) : Int32 := (f_X3_in x1 (1 : Int32) (7 : Int32))
theorem nb_X3_isNumber (x1 : Int32) : mb_B (f_X3_isNumber x1) := by
  unfold f_X3_isNumber
  exact (nb_X3_in x1 (1 : Int32) (7 : Int32))
set_option maxHeartbeats 4000000 in
set_option maxRecDepth 100000 in
theorem c_X3_isNumber (l : Launch) (x1 : Int32) : Met l yX3_isNumber wsX3_isNumber ({ frames := 1, cells := 0, slots := 0, locals := 22 }) (va_Pc [.int x1] (fun _ => True)) (vp_Si (fun r => r = f_X3_isNumber x1)) 0 0 (fun _ => False) := by
  refine Met.ofW (cc := cX3_isNumber) (maxL := 1) (ret := (some .boolean)) (by decide) rfl ?_
  intro p e s m args below meth c s₁ B hml hv
  obtain ⟨rfl, -⟩ := hv
  have hx := B.exec
  have hb := B.bytes
  have hr := B.returns
  have hts := atoms_spec (ws := wsX3_isNumber) B.pre
  have hown : s.vm.findClass RX3 = some m.cls := findClass_of_methodNamed B.named
  have hlocks := B.notSynchronized
  have hl := lv_entry ([.int x1]) (n := 1) (Nat.le_of_ble_eq_true rfl)
  rw [lg_entry_eq]
  generalize (lg_sl ([.int x1]) ++ List.replicate (1 - (lg_sl ([.int x1])).length) Slot.unset).toArray = ls at hl ⊢
  have hl : lv_has ls 1 [(0, .int x1)] := hl
  refine lv_iload_n hx hb dX3_isNumber_0 rfl (lv_at hl 0 rfl) ?_
  refine lv_iconst (v := (1 : Int32)) hx hb dX3_isNumber_1 (by decide) ?_
  refine lv_bipush (v := (7 : Int32)) hx hb dX3_isNumber_2 (by decide) ?_
  refine mb_callSi (W.runS (As := [.int x1, .int (1 : Int32), .int (7 : Int32)]) (rest := []) ⟨hx, hb, hml, hown, hts⟩ (c_X3_in l x1 (1 : Int32) (7 : Int32)) (va_cwS 3 hts gX3_isNumber_X3_in rfl rfl rfl (by decide +kernel) ⟨Nat.le_of_ble_eq_true rfl, Nat.le_of_ble_eq_true rfl⟩) mb_preT rfl rfl hl.1 rfl (lv_room (Nat.le_of_ble_eq_true rfl)) dX3_isNumber_4 ⟨Nat.zero_le _, Nat.zero_le _⟩) ?_
  exact W.zret (v := (f_X3_in x1 (1 : Int32) (7 : Int32))) hx hb hr (nb_X3_in x1 (1 : Int32) (7 : Int32)) (fun t ht hW => ⟨(f_X3_in x1 (1 : Int32) (7 : Int32)), rfl, Eq.symm (rfl), ht⟩) (fun q h => by cases h) dX3_isNumber_7
def f_X3_isBox (x1 : Int32) : Int32 := (f_X3_in x1 (8 : Int32) (15 : Int32))
theorem nb_X3_isBox (x1 : Int32) : mb_B (f_X3_isBox x1) := by
  unfold f_X3_isBox
  exact (nb_X3_in x1 (8 : Int32) (15 : Int32))
set_option maxHeartbeats 4000000 in
set_option maxRecDepth 100000 in
theorem c_X3_isBox (l : Launch) (x1 : Int32) : Met l yX3_isBox wsX3_isBox ({ frames := 1, cells := 0, slots := 0, locals := 22 }) (va_Pc [.int x1] (fun _ => True)) (vp_Si (fun r => r = f_X3_isBox x1)) 0 0 (fun _ => False) := by
  refine Met.ofW (cc := cX3_isBox) (maxL := 1) (ret := (some .boolean)) (by decide) rfl ?_
  intro p e s m args below meth c s₁ B hml hv
  obtain ⟨rfl, -⟩ := hv
  have hx := B.exec
  have hb := B.bytes
  have hr := B.returns
  have hts := atoms_spec (ws := wsX3_isBox) B.pre
  have hown : s.vm.findClass RX3 = some m.cls := findClass_of_methodNamed B.named
  have hlocks := B.notSynchronized
  have hl := lv_entry ([.int x1]) (n := 1) (Nat.le_of_ble_eq_true rfl)
  rw [lg_entry_eq]
  generalize (lg_sl ([.int x1]) ++ List.replicate (1 - (lg_sl ([.int x1])).length) Slot.unset).toArray = ls at hl ⊢
  have hl : lv_has ls 1 [(0, .int x1)] := hl
  refine lv_iload_n hx hb dX3_isBox_0 rfl (lv_at hl 0 rfl) ?_
  refine lv_bipush (v := (8 : Int32)) hx hb dX3_isBox_1 (by decide) ?_
  refine lv_bipush (v := (15 : Int32)) hx hb dX3_isBox_3 (by decide) ?_
  refine mb_callSi (W.runS (As := [.int x1, .int (8 : Int32), .int (15 : Int32)]) (rest := []) ⟨hx, hb, hml, hown, hts⟩ (c_X3_in l x1 (8 : Int32) (15 : Int32)) (va_cwS 3 hts gX3_isBox_X3_in rfl rfl rfl (by decide +kernel) ⟨Nat.le_of_ble_eq_true rfl, Nat.le_of_ble_eq_true rfl⟩) mb_preT rfl rfl hl.1 rfl (lv_room (Nat.le_of_ble_eq_true rfl)) dX3_isBox_5 ⟨Nat.zero_le _, Nat.zero_le _⟩) ?_
  exact W.zret (v := (f_X3_in x1 (8 : Int32) (15 : Int32))) hx hb hr (nb_X3_in x1 (8 : Int32) (15 : Int32)) (fun t ht hW => ⟨(f_X3_in x1 (8 : Int32) (15 : Int32)), rfl, Eq.symm (rfl), ht⟩) (fun q h => by cases h) dX3_isBox_8
def f_X3_isWider (x1 : Int32) (x2 : Int32) : Int32 := if x1 = (1 : Int32) then (f_X3_in x2 (4 : Int32) (7 : Int32))
  else if x1 = (2 : Int32) then (f_X3_in x2 (3 : Int32) (7 : Int32))
  else if x1 = (3 : Int32) then (f_X3_in x2 (4 : Int32) (7 : Int32))
  else if x1 = (4 : Int32) then (f_X3_in x2 (5 : Int32) (7 : Int32))
  else if x1 = (5 : Int32) then (f_X3_in x2 (6 : Int32) (7 : Int32))
  else if x1 = (6 : Int32) then (if x2 = (7 : Int32) then (1 : Int32)
    else (0 : Int32))
  else (0 : Int32)
theorem nb_X3_isWider (x1 : Int32) (x2 : Int32) : mb_B (f_X3_isWider x1 x2) := by
  unfold f_X3_isWider
  exact mb_B_ite ((nb_X3_in x2 (4 : Int32) (7 : Int32))) (mb_B_ite ((nb_X3_in x2 (3 : Int32) (7 : Int32))) (mb_B_ite ((nb_X3_in x2 (4 : Int32) (7 : Int32))) (mb_B_ite ((nb_X3_in x2 (5 : Int32) (7 : Int32))) (mb_B_ite ((nb_X3_in x2 (6 : Int32) (7 : Int32))) (mb_B_ite (mb_B_ite (rfl) (rfl)) (rfl))))))
set_option maxHeartbeats 4000000 in
set_option maxRecDepth 100000 in
theorem c_X3_isWider (l : Launch) (x1 : Int32) (x2 : Int32) : Met l yX3_isWider wsX3_isWider ({ frames := 1, cells := 0, slots := 0, locals := 22 }) (va_Pc [.int x1, .int x2] (fun _ => True)) (vp_Si (fun r => r = f_X3_isWider x1 x2)) 0 0 (fun _ => False) := by
  refine Met.ofW (cc := cX3_isWider) (maxL := 2) (ret := (some .boolean)) (by decide) rfl ?_
  intro p e s m args below meth c s₁ B hml hv
  obtain ⟨rfl, -⟩ := hv
  have hx := B.exec
  have hb := B.bytes
  have hr := B.returns
  have hts := atoms_spec (ws := wsX3_isWider) B.pre
  have hown : s.vm.findClass RX3 = some m.cls := findClass_of_methodNamed B.named
  have hlocks := B.notSynchronized
  have hl := lv_entry ([.int x1, .int x2]) (n := 2) (Nat.le_of_ble_eq_true rfl)
  rw [lg_entry_eq]
  generalize (lg_sl ([.int x1, .int x2]) ++ List.replicate (2 - (lg_sl ([.int x1, .int x2])).length) Slot.unset).toArray = ls at hl ⊢
  have hl : lv_has ls 2 [(0, .int x1), (1, .int x2)] := hl
  refine lv_iload_n hx hb dX3_isWider_0 rfl (lv_at hl 0 rfl) ?_
  by_cases c_1 : x1 = (1 : Int32)
  · refine lv_tableIn (tgt := 40) hx hb dX3_isWider_1 (by rw [c_1]; decide) (by rw [c_1]; decide) (off := 39) (by rw [c_1]; decide) (by decide) ?_
    refine lv_iload_n hx hb dX3_isWider_40 rfl (lv_at hl 1 rfl) ?_
    refine lv_iconst (v := (4 : Int32)) hx hb dX3_isWider_41 (by decide) ?_
    refine lv_bipush (v := (7 : Int32)) hx hb dX3_isWider_42 (by decide) ?_
    refine mb_callSi (W.runS (As := [.int x2, .int (4 : Int32), .int (7 : Int32)]) (rest := []) ⟨hx, hb, hml, hown, hts⟩ (c_X3_in l x2 (4 : Int32) (7 : Int32)) (va_cwS 3 hts gX3_isWider_X3_in rfl rfl rfl (by decide +kernel) ⟨Nat.le_of_ble_eq_true rfl, Nat.le_of_ble_eq_true rfl⟩) mb_preT rfl rfl hl.1 rfl (lv_room (Nat.le_of_ble_eq_true rfl)) dX3_isWider_44 ⟨Nat.zero_le _, Nat.zero_le _⟩) ?_
    exact W.zret (v := (f_X3_in x2 (4 : Int32) (7 : Int32))) hx hb hr (nb_X3_in x2 (4 : Int32) (7 : Int32)) (fun t ht hW => ⟨(f_X3_in x2 (4 : Int32) (7 : Int32)), rfl, Eq.symm ((if_pos c_1).trans (rfl)), ht⟩) (fun q h => by cases h) dX3_isWider_47
  · by_cases c_2 : x1 = (2 : Int32)
    · refine lv_tableIn (tgt := 48) hx hb dX3_isWider_1 (by rw [c_2]; decide) (by rw [c_2]; decide) (off := 47) (by rw [c_2]; decide) (by decide) ?_
      refine lv_iload_n hx hb dX3_isWider_48 rfl (lv_at hl 1 rfl) ?_
      refine lv_iconst (v := (3 : Int32)) hx hb dX3_isWider_49 (by decide) ?_
      refine lv_bipush (v := (7 : Int32)) hx hb dX3_isWider_50 (by decide) ?_
      refine mb_callSi (W.runS (As := [.int x2, .int (3 : Int32), .int (7 : Int32)]) (rest := []) ⟨hx, hb, hml, hown, hts⟩ (c_X3_in l x2 (3 : Int32) (7 : Int32)) (va_cwS 3 hts gX3_isWider_X3_in rfl rfl rfl (by decide +kernel) ⟨Nat.le_of_ble_eq_true rfl, Nat.le_of_ble_eq_true rfl⟩) mb_preT rfl rfl hl.1 rfl (lv_room (Nat.le_of_ble_eq_true rfl)) dX3_isWider_52 ⟨Nat.zero_le _, Nat.zero_le _⟩) ?_
      exact W.zret (v := (f_X3_in x2 (3 : Int32) (7 : Int32))) hx hb hr (nb_X3_in x2 (3 : Int32) (7 : Int32)) (fun t ht hW => ⟨(f_X3_in x2 (3 : Int32) (7 : Int32)), rfl, Eq.symm ((if_neg c_1).trans ((if_pos c_2).trans (rfl))), ht⟩) (fun q h => by cases h) dX3_isWider_55
    · by_cases c_3 : x1 = (3 : Int32)
      · refine lv_tableIn (tgt := 56) hx hb dX3_isWider_1 (by rw [c_3]; decide) (by rw [c_3]; decide) (off := 55) (by rw [c_3]; decide) (by decide) ?_
        refine lv_iload_n hx hb dX3_isWider_56 rfl (lv_at hl 1 rfl) ?_
        refine lv_iconst (v := (4 : Int32)) hx hb dX3_isWider_57 (by decide) ?_
        refine lv_bipush (v := (7 : Int32)) hx hb dX3_isWider_58 (by decide) ?_
        refine mb_callSi (W.runS (As := [.int x2, .int (4 : Int32), .int (7 : Int32)]) (rest := []) ⟨hx, hb, hml, hown, hts⟩ (c_X3_in l x2 (4 : Int32) (7 : Int32)) (va_cwS 3 hts gX3_isWider_X3_in rfl rfl rfl (by decide +kernel) ⟨Nat.le_of_ble_eq_true rfl, Nat.le_of_ble_eq_true rfl⟩) mb_preT rfl rfl hl.1 rfl (lv_room (Nat.le_of_ble_eq_true rfl)) dX3_isWider_60 ⟨Nat.zero_le _, Nat.zero_le _⟩) ?_
        exact W.zret (v := (f_X3_in x2 (4 : Int32) (7 : Int32))) hx hb hr (nb_X3_in x2 (4 : Int32) (7 : Int32)) (fun t ht hW => ⟨(f_X3_in x2 (4 : Int32) (7 : Int32)), rfl, Eq.symm ((if_neg c_1).trans ((if_neg c_2).trans ((if_pos c_3).trans (rfl)))), ht⟩) (fun q h => by cases h) dX3_isWider_63
      · by_cases c_4 : x1 = (4 : Int32)
        · refine lv_tableIn (tgt := 64) hx hb dX3_isWider_1 (by rw [c_4]; decide) (by rw [c_4]; decide) (off := 63) (by rw [c_4]; decide) (by decide) ?_
          refine lv_iload_n hx hb dX3_isWider_64 rfl (lv_at hl 1 rfl) ?_
          refine lv_iconst (v := (5 : Int32)) hx hb dX3_isWider_65 (by decide) ?_
          refine lv_bipush (v := (7 : Int32)) hx hb dX3_isWider_66 (by decide) ?_
          refine mb_callSi (W.runS (As := [.int x2, .int (5 : Int32), .int (7 : Int32)]) (rest := []) ⟨hx, hb, hml, hown, hts⟩ (c_X3_in l x2 (5 : Int32) (7 : Int32)) (va_cwS 3 hts gX3_isWider_X3_in rfl rfl rfl (by decide +kernel) ⟨Nat.le_of_ble_eq_true rfl, Nat.le_of_ble_eq_true rfl⟩) mb_preT rfl rfl hl.1 rfl (lv_room (Nat.le_of_ble_eq_true rfl)) dX3_isWider_68 ⟨Nat.zero_le _, Nat.zero_le _⟩) ?_
          exact W.zret (v := (f_X3_in x2 (5 : Int32) (7 : Int32))) hx hb hr (nb_X3_in x2 (5 : Int32) (7 : Int32)) (fun t ht hW => ⟨(f_X3_in x2 (5 : Int32) (7 : Int32)), rfl, Eq.symm ((if_neg c_1).trans ((if_neg c_2).trans ((if_neg c_3).trans ((if_pos c_4).trans (rfl))))), ht⟩) (fun q h => by cases h) dX3_isWider_71
        · by_cases c_5 : x1 = (5 : Int32)
          · refine lv_tableIn (tgt := 72) hx hb dX3_isWider_1 (by rw [c_5]; decide) (by rw [c_5]; decide) (off := 71) (by rw [c_5]; decide) (by decide) ?_
            refine lv_iload_n hx hb dX3_isWider_72 rfl (lv_at hl 1 rfl) ?_
            refine lv_bipush (v := (6 : Int32)) hx hb dX3_isWider_73 (by decide) ?_
            refine lv_bipush (v := (7 : Int32)) hx hb dX3_isWider_75 (by decide) ?_
            refine mb_callSi (W.runS (As := [.int x2, .int (6 : Int32), .int (7 : Int32)]) (rest := []) ⟨hx, hb, hml, hown, hts⟩ (c_X3_in l x2 (6 : Int32) (7 : Int32)) (va_cwS 3 hts gX3_isWider_X3_in rfl rfl rfl (by decide +kernel) ⟨Nat.le_of_ble_eq_true rfl, Nat.le_of_ble_eq_true rfl⟩) mb_preT rfl rfl hl.1 rfl (lv_room (Nat.le_of_ble_eq_true rfl)) dX3_isWider_77 ⟨Nat.zero_le _, Nat.zero_le _⟩) ?_
            exact W.zret (v := (f_X3_in x2 (6 : Int32) (7 : Int32))) hx hb hr (nb_X3_in x2 (6 : Int32) (7 : Int32)) (fun t ht hW => ⟨(f_X3_in x2 (6 : Int32) (7 : Int32)), rfl, Eq.symm ((if_neg c_1).trans ((if_neg c_2).trans ((if_neg c_3).trans ((if_neg c_4).trans ((if_pos c_5).trans (rfl)))))), ht⟩) (fun q h => by cases h) dX3_isWider_80
          · by_cases c_6 : x1 = (6 : Int32)
            · refine lv_tableIn (tgt := 81) hx hb dX3_isWider_1 (by rw [c_6]; decide) (by rw [c_6]; decide) (off := 80) (by rw [c_6]; decide) (by decide) ?_
              refine lv_iload_n hx hb dX3_isWider_81 rfl (lv_at hl 1 rfl) ?_
              refine lv_bipush (v := (7 : Int32)) hx hb dX3_isWider_82 (by decide) ?_
              refine lv_icmp_ne (tgt := 91) hx hb dX3_isWider_84 (by decide) (fun c_7 => ?_) (fun c_7 => ?_)
              · refine lv_iconst (v := (0 : Int32)) hx hb dX3_isWider_91 (by decide) ?_
                exact W.zret (v := (0 : Int32)) hx hb hr rfl (fun t ht hW => ⟨(0 : Int32), rfl, Eq.symm ((if_neg c_1).trans ((if_neg c_2).trans ((if_neg c_3).trans ((if_neg c_4).trans ((if_neg c_5).trans ((if_pos c_6).trans ((if_neg c_7).trans (rfl)))))))), ht⟩) (fun q h => by cases h) dX3_isWider_92
              · refine lv_iconst (v := (1 : Int32)) hx hb dX3_isWider_87 (by decide) ?_
                refine lv_goto (tgt := 92) hx hb dX3_isWider_88 (by decide) ?_
                exact W.zret (v := (1 : Int32)) hx hb hr rfl (fun t ht hW => ⟨(1 : Int32), rfl, Eq.symm ((if_neg c_1).trans ((if_neg c_2).trans ((if_neg c_3).trans ((if_neg c_4).trans ((if_neg c_5).trans ((if_pos c_6).trans ((if_pos c_7).trans (rfl)))))))), ht⟩) (fun q h => by cases h) dX3_isWider_92
            · refine lv_tableOut (tgt := 93) hx hb dX3_isWider_1 (by have nc_1 := lv_neT c_1 (a := 1) (by decide); have nc_2 := lv_neT c_2 (a := 2) (by decide); have nc_3 := lv_neT c_3 (a := 3) (by decide); have nc_4 := lv_neT c_4 (a := 4) (by decide); have nc_5 := lv_neT c_5 (a := 5) (by decide); have nc_6 := lv_neT c_6 (a := 6) (by decide); omega) (by decide) ?_
              refine lv_iconst (v := (0 : Int32)) hx hb dX3_isWider_93 (by decide) ?_
              exact W.zret (v := (0 : Int32)) hx hb hr rfl (fun t ht hW => ⟨(0 : Int32), rfl, Eq.symm ((if_neg c_1).trans ((if_neg c_2).trans ((if_neg c_3).trans ((if_neg c_4).trans ((if_neg c_5).trans ((if_neg c_6).trans (rfl))))))), ht⟩) (fun q h => by cases h) dX3_isWider_94
def f_X3_isAllowed (x1 : Int32) (x2 : Int32) (x3 : Int32) : Int32 := if x2 = (0 : Int32) then (if x1 < (3 : Int32) then (1 : Int32)
    else if x1 = (9 : Int32) then (1 : Int32)
    else (0 : Int32))
  else if x2 = (1 : Int32) then (if x1 < (3 : Int32) then (1 : Int32)
    else if (f_X3_in x1 (5 : Int32) (9 : Int32)) = 0 then (0 : Int32)
    else (1 : Int32))
  else if x2 = (2 : Int32) then (if x1 < (3 : Int32) then (1 : Int32)
    else if (f_X3_in x1 (5 : Int32) (9 : Int32)) = 0 then (0 : Int32)
    else (1 : Int32))
  else if x2 = (3 : Int32) then (if (12 : Int32) ≤ x1 then (0 : Int32)
    else (1 : Int32))
  else if x2 = (4 : Int32) then (if x3 = (21 : Int32) then (if x1 = (1 : Int32) then (1 : Int32)
      else if x1 = (12 : Int32) then (1 : Int32)
      else (0 : Int32))
    else (0 : Int32))
  else if (f_X3_isNumber x3) = 0 then (0 : Int32)
  else if x1 < (3 : Int32) then (1 : Int32)
  else if x1 = (7 : Int32) then (1 : Int32)
  else if x1 = (8 : Int32) then (1 : Int32)
  else (0 : Int32)
theorem nb_X3_isAllowed (x1 : Int32) (x2 : Int32) (x3 : Int32) : mb_B (f_X3_isAllowed x1 x2 x3) := by
  unfold f_X3_isAllowed
  exact mb_B_ite (mb_B_ite (rfl) (mb_B_ite (rfl) (rfl))) (mb_B_ite (mb_B_ite (rfl) (mb_B_ite (rfl) (rfl))) (mb_B_ite (mb_B_ite (rfl) (mb_B_ite (rfl) (rfl))) (mb_B_ite (mb_B_ite (rfl) (rfl)) (mb_B_ite (mb_B_ite (mb_B_ite (rfl) (mb_B_ite (rfl) (rfl))) (rfl)) (mb_B_ite (rfl) (mb_B_ite (rfl) (mb_B_ite (rfl) (mb_B_ite (rfl) (rfl)))))))))
set_option maxHeartbeats 4000000 in
set_option maxRecDepth 100000 in
theorem c_X3_isAllowed (l : Launch) (x1 : Int32) (x2 : Int32) (x3 : Int32) : Met l yX3_isAllowed wsX3_isAllowed ({ frames := 2, cells := 0, slots := 0, locals := 42 }) (va_Pc [.int x1, .int x2, .int x3] (fun _ => True)) (vp_Si (fun r => r = f_X3_isAllowed x1 x2 x3)) 0 0 (fun _ => False) := by
  refine Met.ofW (cc := cX3_isAllowed) (maxL := 3) (ret := (some .boolean)) (by decide) rfl ?_
  intro p e s m args below meth c s₁ B hml hv
  obtain ⟨rfl, -⟩ := hv
  have hx := B.exec
  have hb := B.bytes
  have hr := B.returns
  have hts := atoms_spec (ws := wsX3_isAllowed) B.pre
  have hown : s.vm.findClass RX3 = some m.cls := findClass_of_methodNamed B.named
  have hlocks := B.notSynchronized
  have hl := lv_entry ([.int x1, .int x2, .int x3]) (n := 3) (Nat.le_of_ble_eq_true rfl)
  rw [lg_entry_eq]
  generalize (lg_sl ([.int x1, .int x2, .int x3]) ++ List.replicate (3 - (lg_sl ([.int x1, .int x2, .int x3])).length) Slot.unset).toArray = ls at hl ⊢
  have hl : lv_has ls 3 [(0, .int x1), (1, .int x2), (2, .int x3)] := hl
  refine lv_iload_n hx hb dX3_isAllowed_0 rfl (lv_at hl 1 rfl) ?_
  by_cases c_1 : x2 = (0 : Int32)
  · refine lv_tableIn (tgt := 36) hx hb dX3_isAllowed_1 (by rw [c_1]; decide) (by rw [c_1]; decide) (off := 35) (by rw [c_1]; decide) (by decide) ?_
    refine lv_iload_n hx hb dX3_isAllowed_36 rfl (lv_at hl 0 rfl) ?_
    refine lv_iconst (v := (3 : Int32)) hx hb dX3_isAllowed_37 (by decide) ?_
    refine lv_icmp_lt (tgt := 47) hx hb dX3_isAllowed_38 (by decide) (fun c_2 => ?_) (fun c_2 => ?_)
    · refine lv_iconst (v := (1 : Int32)) hx hb dX3_isAllowed_47 (by decide) ?_
      refine lv_goto (tgt := 52) hx hb dX3_isAllowed_48 (by decide) ?_
      exact W.zret (v := (1 : Int32)) hx hb hr rfl (fun t ht hW => ⟨(1 : Int32), rfl, Eq.symm ((if_pos c_1).trans ((if_pos c_2).trans (rfl))), ht⟩) (fun q h => by cases h) dX3_isAllowed_52
    · refine lv_iload_n hx hb dX3_isAllowed_41 rfl (lv_at hl 0 rfl) ?_
      refine lv_bipush (v := (9 : Int32)) hx hb dX3_isAllowed_42 (by decide) ?_
      refine lv_icmp_ne (tgt := 51) hx hb dX3_isAllowed_44 (by decide) (fun c_3 => ?_) (fun c_3 => ?_)
      · refine lv_iconst (v := (0 : Int32)) hx hb dX3_isAllowed_51 (by decide) ?_
        exact W.zret (v := (0 : Int32)) hx hb hr rfl (fun t ht hW => ⟨(0 : Int32), rfl, Eq.symm ((if_pos c_1).trans ((if_neg c_2).trans ((if_neg c_3).trans (rfl)))), ht⟩) (fun q h => by cases h) dX3_isAllowed_52
      · refine lv_iconst (v := (1 : Int32)) hx hb dX3_isAllowed_47 (by decide) ?_
        refine lv_goto (tgt := 52) hx hb dX3_isAllowed_48 (by decide) ?_
        exact W.zret (v := (1 : Int32)) hx hb hr rfl (fun t ht hW => ⟨(1 : Int32), rfl, Eq.symm ((if_pos c_1).trans ((if_neg c_2).trans ((if_pos c_3).trans (rfl)))), ht⟩) (fun q h => by cases h) dX3_isAllowed_52
  · by_cases c_4 : x2 = (1 : Int32)
    · refine lv_tableIn (tgt := 53) hx hb dX3_isAllowed_1 (by rw [c_4]; decide) (by rw [c_4]; decide) (off := 52) (by rw [c_4]; decide) (by decide) ?_
      refine lv_iload_n hx hb dX3_isAllowed_53 rfl (lv_at hl 0 rfl) ?_
      refine lv_iconst (v := (3 : Int32)) hx hb dX3_isAllowed_54 (by decide) ?_
      refine lv_icmp_lt (tgt := 68) hx hb dX3_isAllowed_55 (by decide) (fun c_5 => ?_) (fun c_5 => ?_)
      · refine lv_iconst (v := (1 : Int32)) hx hb dX3_isAllowed_68 (by decide) ?_
        refine lv_goto (tgt := 73) hx hb dX3_isAllowed_69 (by decide) ?_
        exact W.zret (v := (1 : Int32)) hx hb hr rfl (fun t ht hW => ⟨(1 : Int32), rfl, Eq.symm ((if_neg c_1).trans ((if_pos c_4).trans ((if_pos c_5).trans (rfl)))), ht⟩) (fun q h => by cases h) dX3_isAllowed_73
      · refine lv_iload_n hx hb dX3_isAllowed_58 rfl (lv_at hl 0 rfl) ?_
        refine lv_iconst (v := (5 : Int32)) hx hb dX3_isAllowed_59 (by decide) ?_
        refine lv_bipush (v := (9 : Int32)) hx hb dX3_isAllowed_60 (by decide) ?_
        refine mb_callSi (W.runS (As := [.int x1, .int (5 : Int32), .int (9 : Int32)]) (rest := []) ⟨hx, hb, hml, hown, hts⟩ (c_X3_in l x1 (5 : Int32) (9 : Int32)) (va_cwS 3 hts gX3_isAllowed_X3_in rfl rfl rfl (by decide +kernel) ⟨Nat.le_of_ble_eq_true rfl, Nat.le_of_ble_eq_true rfl⟩) mb_preT rfl rfl hl.1 rfl (lv_room (Nat.le_of_ble_eq_true rfl)) dX3_isAllowed_62 ⟨Nat.zero_le _, Nat.zero_le _⟩) ?_
        refine lv_if_eq (tgt := 72) hx hb dX3_isAllowed_65 (by decide) (fun c_6 => ?_) (fun c_6 => ?_)
        · refine lv_iconst (v := (0 : Int32)) hx hb dX3_isAllowed_72 (by decide) ?_
          exact W.zret (v := (0 : Int32)) hx hb hr rfl (fun t ht hW => ⟨(0 : Int32), rfl, Eq.symm ((if_neg c_1).trans ((if_pos c_4).trans ((if_neg c_5).trans ((if_pos c_6).trans (rfl))))), ht⟩) (fun q h => by cases h) dX3_isAllowed_73
        · refine lv_iconst (v := (1 : Int32)) hx hb dX3_isAllowed_68 (by decide) ?_
          refine lv_goto (tgt := 73) hx hb dX3_isAllowed_69 (by decide) ?_
          exact W.zret (v := (1 : Int32)) hx hb hr rfl (fun t ht hW => ⟨(1 : Int32), rfl, Eq.symm ((if_neg c_1).trans ((if_pos c_4).trans ((if_neg c_5).trans ((if_neg c_6).trans (rfl))))), ht⟩) (fun q h => by cases h) dX3_isAllowed_73
    · by_cases c_7 : x2 = (2 : Int32)
      · refine lv_tableIn (tgt := 53) hx hb dX3_isAllowed_1 (by rw [c_7]; decide) (by rw [c_7]; decide) (off := 52) (by rw [c_7]; decide) (by decide) ?_
        refine lv_iload_n hx hb dX3_isAllowed_53 rfl (lv_at hl 0 rfl) ?_
        refine lv_iconst (v := (3 : Int32)) hx hb dX3_isAllowed_54 (by decide) ?_
        refine lv_icmp_lt (tgt := 68) hx hb dX3_isAllowed_55 (by decide) (fun c_8 => ?_) (fun c_8 => ?_)
        · refine lv_iconst (v := (1 : Int32)) hx hb dX3_isAllowed_68 (by decide) ?_
          refine lv_goto (tgt := 73) hx hb dX3_isAllowed_69 (by decide) ?_
          exact W.zret (v := (1 : Int32)) hx hb hr rfl (fun t ht hW => ⟨(1 : Int32), rfl, Eq.symm ((if_neg c_1).trans ((if_neg c_4).trans ((if_pos c_7).trans ((if_pos c_8).trans (rfl))))), ht⟩) (fun q h => by cases h) dX3_isAllowed_73
        · refine lv_iload_n hx hb dX3_isAllowed_58 rfl (lv_at hl 0 rfl) ?_
          refine lv_iconst (v := (5 : Int32)) hx hb dX3_isAllowed_59 (by decide) ?_
          refine lv_bipush (v := (9 : Int32)) hx hb dX3_isAllowed_60 (by decide) ?_
          refine mb_callSi (W.runS (As := [.int x1, .int (5 : Int32), .int (9 : Int32)]) (rest := []) ⟨hx, hb, hml, hown, hts⟩ (c_X3_in l x1 (5 : Int32) (9 : Int32)) (va_cwS 3 hts gX3_isAllowed_X3_in rfl rfl rfl (by decide +kernel) ⟨Nat.le_of_ble_eq_true rfl, Nat.le_of_ble_eq_true rfl⟩) mb_preT rfl rfl hl.1 rfl (lv_room (Nat.le_of_ble_eq_true rfl)) dX3_isAllowed_62 ⟨Nat.zero_le _, Nat.zero_le _⟩) ?_
          refine lv_if_eq (tgt := 72) hx hb dX3_isAllowed_65 (by decide) (fun c_9 => ?_) (fun c_9 => ?_)
          · refine lv_iconst (v := (0 : Int32)) hx hb dX3_isAllowed_72 (by decide) ?_
            exact W.zret (v := (0 : Int32)) hx hb hr rfl (fun t ht hW => ⟨(0 : Int32), rfl, Eq.symm ((if_neg c_1).trans ((if_neg c_4).trans ((if_pos c_7).trans ((if_neg c_8).trans ((if_pos c_9).trans (rfl)))))), ht⟩) (fun q h => by cases h) dX3_isAllowed_73
          · refine lv_iconst (v := (1 : Int32)) hx hb dX3_isAllowed_68 (by decide) ?_
            refine lv_goto (tgt := 73) hx hb dX3_isAllowed_69 (by decide) ?_
            exact W.zret (v := (1 : Int32)) hx hb hr rfl (fun t ht hW => ⟨(1 : Int32), rfl, Eq.symm ((if_neg c_1).trans ((if_neg c_4).trans ((if_pos c_7).trans ((if_neg c_8).trans ((if_neg c_9).trans (rfl)))))), ht⟩) (fun q h => by cases h) dX3_isAllowed_73
      · by_cases c_10 : x2 = (3 : Int32)
        · refine lv_tableIn (tgt := 74) hx hb dX3_isAllowed_1 (by rw [c_10]; decide) (by rw [c_10]; decide) (off := 73) (by rw [c_10]; decide) (by decide) ?_
          refine lv_iload_n hx hb dX3_isAllowed_74 rfl (lv_at hl 0 rfl) ?_
          refine lv_bipush (v := (12 : Int32)) hx hb dX3_isAllowed_75 (by decide) ?_
          refine lv_icmp_ge (tgt := 84) hx hb dX3_isAllowed_77 (by decide) (fun c_11 => ?_) (fun c_11 => ?_)
          · refine lv_iconst (v := (0 : Int32)) hx hb dX3_isAllowed_84 (by decide) ?_
            exact W.zret (v := (0 : Int32)) hx hb hr rfl (fun t ht hW => ⟨(0 : Int32), rfl, Eq.symm ((if_neg c_1).trans ((if_neg c_4).trans ((if_neg c_7).trans ((if_pos c_10).trans ((if_pos c_11).trans (rfl)))))), ht⟩) (fun q h => by cases h) dX3_isAllowed_85
          · refine lv_iconst (v := (1 : Int32)) hx hb dX3_isAllowed_80 (by decide) ?_
            refine lv_goto (tgt := 85) hx hb dX3_isAllowed_81 (by decide) ?_
            exact W.zret (v := (1 : Int32)) hx hb hr rfl (fun t ht hW => ⟨(1 : Int32), rfl, Eq.symm ((if_neg c_1).trans ((if_neg c_4).trans ((if_neg c_7).trans ((if_pos c_10).trans ((if_neg c_11).trans (rfl)))))), ht⟩) (fun q h => by cases h) dX3_isAllowed_85
        · by_cases c_12 : x2 = (4 : Int32)
          · refine lv_tableIn (tgt := 86) hx hb dX3_isAllowed_1 (by rw [c_12]; decide) (by rw [c_12]; decide) (off := 85) (by rw [c_12]; decide) (by decide) ?_
            refine lv_iload_n hx hb dX3_isAllowed_86 rfl (lv_at hl 2 rfl) ?_
            refine lv_bipush (v := (21 : Int32)) hx hb dX3_isAllowed_87 (by decide) ?_
            refine lv_icmp_ne (tgt := 107) hx hb dX3_isAllowed_89 (by decide) (fun c_13 => ?_) (fun c_13 => ?_)
            · refine lv_iconst (v := (0 : Int32)) hx hb dX3_isAllowed_107 (by decide) ?_
              exact W.zret (v := (0 : Int32)) hx hb hr rfl (fun t ht hW => ⟨(0 : Int32), rfl, Eq.symm ((if_neg c_1).trans ((if_neg c_4).trans ((if_neg c_7).trans ((if_neg c_10).trans ((if_pos c_12).trans ((if_neg c_13).trans (rfl))))))), ht⟩) (fun q h => by cases h) dX3_isAllowed_108
            · refine lv_iload_n hx hb dX3_isAllowed_92 rfl (lv_at hl 0 rfl) ?_
              refine lv_iconst (v := (1 : Int32)) hx hb dX3_isAllowed_93 (by decide) ?_
              refine lv_icmp_eq (tgt := 103) hx hb dX3_isAllowed_94 (by decide) (fun c_14 => ?_) (fun c_14 => ?_)
              · refine lv_iconst (v := (1 : Int32)) hx hb dX3_isAllowed_103 (by decide) ?_
                refine lv_goto (tgt := 108) hx hb dX3_isAllowed_104 (by decide) ?_
                exact W.zret (v := (1 : Int32)) hx hb hr rfl (fun t ht hW => ⟨(1 : Int32), rfl, Eq.symm ((if_neg c_1).trans ((if_neg c_4).trans ((if_neg c_7).trans ((if_neg c_10).trans ((if_pos c_12).trans ((if_pos c_13).trans ((if_pos c_14).trans (rfl)))))))), ht⟩) (fun q h => by cases h) dX3_isAllowed_108
              · refine lv_iload_n hx hb dX3_isAllowed_97 rfl (lv_at hl 0 rfl) ?_
                refine lv_bipush (v := (12 : Int32)) hx hb dX3_isAllowed_98 (by decide) ?_
                refine lv_icmp_ne (tgt := 107) hx hb dX3_isAllowed_100 (by decide) (fun c_15 => ?_) (fun c_15 => ?_)
                · refine lv_iconst (v := (0 : Int32)) hx hb dX3_isAllowed_107 (by decide) ?_
                  exact W.zret (v := (0 : Int32)) hx hb hr rfl (fun t ht hW => ⟨(0 : Int32), rfl, Eq.symm ((if_neg c_1).trans ((if_neg c_4).trans ((if_neg c_7).trans ((if_neg c_10).trans ((if_pos c_12).trans ((if_pos c_13).trans ((if_neg c_14).trans ((if_neg c_15).trans (rfl))))))))), ht⟩) (fun q h => by cases h) dX3_isAllowed_108
                · refine lv_iconst (v := (1 : Int32)) hx hb dX3_isAllowed_103 (by decide) ?_
                  refine lv_goto (tgt := 108) hx hb dX3_isAllowed_104 (by decide) ?_
                  exact W.zret (v := (1 : Int32)) hx hb hr rfl (fun t ht hW => ⟨(1 : Int32), rfl, Eq.symm ((if_neg c_1).trans ((if_neg c_4).trans ((if_neg c_7).trans ((if_neg c_10).trans ((if_pos c_12).trans ((if_pos c_13).trans ((if_neg c_14).trans ((if_pos c_15).trans (rfl))))))))), ht⟩) (fun q h => by cases h) dX3_isAllowed_108
          · refine lv_tableOut (tgt := 109) hx hb dX3_isAllowed_1 (by have nc_1 := lv_neT c_1 (a := 0) (by decide); have nc_4 := lv_neT c_4 (a := 1) (by decide); have nc_7 := lv_neT c_7 (a := 2) (by decide); have nc_10 := lv_neT c_10 (a := 3) (by decide); have nc_12 := lv_neT c_12 (a := 4) (by decide); omega) (by decide) ?_
            refine lv_iload_n hx hb dX3_isAllowed_109 rfl (lv_at hl 2 rfl) ?_
            refine mb_callSi (W.runS (As := [.int x3]) (rest := []) ⟨hx, hb, hml, hown, hts⟩ (c_X3_isNumber l x3) (va_cwS 1 hts gX3_isAllowed_X3_isNumber rfl rfl rfl (by decide +kernel) ⟨Nat.le_of_ble_eq_true rfl, Nat.le_of_ble_eq_true rfl⟩) mb_preT rfl rfl hl.1 rfl (lv_room (Nat.le_of_ble_eq_true rfl)) dX3_isAllowed_110 ⟨Nat.zero_le _, Nat.zero_le _⟩) ?_
            refine lv_if_eq (tgt := 137) hx hb dX3_isAllowed_113 (by decide) (fun c_16 => ?_) (fun c_16 => ?_)
            · refine lv_iconst (v := (0 : Int32)) hx hb dX3_isAllowed_137 (by decide) ?_
              exact W.zret (v := (0 : Int32)) hx hb hr rfl (fun t ht hW => ⟨(0 : Int32), rfl, Eq.symm ((if_neg c_1).trans ((if_neg c_4).trans ((if_neg c_7).trans ((if_neg c_10).trans ((if_neg c_12).trans ((if_pos c_16).trans (rfl))))))), ht⟩) (fun q h => by cases h) dX3_isAllowed_138
            · refine lv_iload_n hx hb dX3_isAllowed_116 rfl (lv_at hl 0 rfl) ?_
              refine lv_iconst (v := (3 : Int32)) hx hb dX3_isAllowed_117 (by decide) ?_
              refine lv_icmp_lt (tgt := 133) hx hb dX3_isAllowed_118 (by decide) (fun c_17 => ?_) (fun c_17 => ?_)
              · refine lv_iconst (v := (1 : Int32)) hx hb dX3_isAllowed_133 (by decide) ?_
                refine lv_goto (tgt := 138) hx hb dX3_isAllowed_134 (by decide) ?_
                exact W.zret (v := (1 : Int32)) hx hb hr rfl (fun t ht hW => ⟨(1 : Int32), rfl, Eq.symm ((if_neg c_1).trans ((if_neg c_4).trans ((if_neg c_7).trans ((if_neg c_10).trans ((if_neg c_12).trans ((if_neg c_16).trans ((if_pos c_17).trans (rfl)))))))), ht⟩) (fun q h => by cases h) dX3_isAllowed_138
              · refine lv_iload_n hx hb dX3_isAllowed_121 rfl (lv_at hl 0 rfl) ?_
                refine lv_bipush (v := (7 : Int32)) hx hb dX3_isAllowed_122 (by decide) ?_
                refine lv_icmp_eq (tgt := 133) hx hb dX3_isAllowed_124 (by decide) (fun c_18 => ?_) (fun c_18 => ?_)
                · refine lv_iconst (v := (1 : Int32)) hx hb dX3_isAllowed_133 (by decide) ?_
                  refine lv_goto (tgt := 138) hx hb dX3_isAllowed_134 (by decide) ?_
                  exact W.zret (v := (1 : Int32)) hx hb hr rfl (fun t ht hW => ⟨(1 : Int32), rfl, Eq.symm ((if_neg c_1).trans ((if_neg c_4).trans ((if_neg c_7).trans ((if_neg c_10).trans ((if_neg c_12).trans ((if_neg c_16).trans ((if_neg c_17).trans ((if_pos c_18).trans (rfl))))))))), ht⟩) (fun q h => by cases h) dX3_isAllowed_138
                · refine lv_iload_n hx hb dX3_isAllowed_127 rfl (lv_at hl 0 rfl) ?_
                  refine lv_bipush (v := (8 : Int32)) hx hb dX3_isAllowed_128 (by decide) ?_
                  refine lv_icmp_ne (tgt := 137) hx hb dX3_isAllowed_130 (by decide) (fun c_19 => ?_) (fun c_19 => ?_)
                  · refine lv_iconst (v := (0 : Int32)) hx hb dX3_isAllowed_137 (by decide) ?_
                    exact W.zret (v := (0 : Int32)) hx hb hr rfl (fun t ht hW => ⟨(0 : Int32), rfl, Eq.symm ((if_neg c_1).trans ((if_neg c_4).trans ((if_neg c_7).trans ((if_neg c_10).trans ((if_neg c_12).trans ((if_neg c_16).trans ((if_neg c_17).trans ((if_neg c_18).trans ((if_neg c_19).trans (rfl)))))))))), ht⟩) (fun q h => by cases h) dX3_isAllowed_138
                  · refine lv_iconst (v := (1 : Int32)) hx hb dX3_isAllowed_133 (by decide) ?_
                    refine lv_goto (tgt := 138) hx hb dX3_isAllowed_134 (by decide) ?_
                    exact W.zret (v := (1 : Int32)) hx hb hr rfl (fun t ht hW => ⟨(1 : Int32), rfl, Eq.symm ((if_neg c_1).trans ((if_neg c_4).trans ((if_neg c_7).trans ((if_neg c_10).trans ((if_neg c_12).trans ((if_neg c_16).trans ((if_neg c_17).trans ((if_neg c_18).trans ((if_pos c_19).trans (rfl)))))))))), ht⟩) (fun q h => by cases h) dX3_isAllowed_138
def f_X3_has (x1 : Int32) (x2 : Int64) : Int32 := if x1 = (1 : Int32) then (if x2 < (0 : Int64) then (0 : Int32)
    else if (65535 : Int64) < x2 then (0 : Int32)
    else (1 : Int32))
  else if x1 = (2 : Int32) then (if x2 < (-128 : Int64) then (0 : Int32)
    else if (127 : Int64) < x2 then (0 : Int32)
    else (1 : Int32))
  else if x1 = (3 : Int32) then (if x2 < (-32768 : Int64) then (0 : Int32)
    else if (32767 : Int64) < x2 then (0 : Int32)
    else (1 : Int32))
  else if x1 = (4 : Int32) then (if x2 < (-2147483648 : Int64) then (0 : Int32)
    else if (2147483647 : Int64) < x2 then (0 : Int32)
    else (1 : Int32))
  else (1 : Int32)
theorem nb_X3_has (x1 : Int32) (x2 : Int64) : mb_B (f_X3_has x1 x2) := by
  unfold f_X3_has
  exact mb_B_ite (mb_B_ite (rfl) (mb_B_ite (rfl) (rfl))) (mb_B_ite (mb_B_ite (rfl) (mb_B_ite (rfl) (rfl))) (mb_B_ite (mb_B_ite (rfl) (mb_B_ite (rfl) (rfl))) (mb_B_ite (mb_B_ite (rfl) (mb_B_ite (rfl) (rfl))) (rfl))))
set_option maxHeartbeats 4000000 in
set_option maxRecDepth 100000 in
theorem c_X3_has (l : Launch) (x1 : Int32) (x2 : Int64) : Met l yX3_has wsX3_has ({ frames := 0, cells := 0, slots := 0, locals := 0 }) (va_Pc [.int x1, .long x2] (fun _ => True)) (vp_Si (fun r => r = f_X3_has x1 x2)) 0 0 (fun _ => False) := by
  refine Met.ofW (cc := cX3_has) (maxL := 3) (ret := (some .boolean)) (by decide) rfl ?_
  intro p e s m args below meth c s₁ B hml hv
  obtain ⟨rfl, -⟩ := hv
  have hx := B.exec
  have hb := B.bytes
  have hr := B.returns
  have hts := atoms_spec (ws := wsX3_has) B.pre
  have hown : s.vm.findClass RX3 = some m.cls := findClass_of_methodNamed B.named
  have hlocks := B.notSynchronized
  have hl := lv_entry ([.int x1, .long x2]) (n := 3) (Nat.le_of_ble_eq_true rfl)
  rw [lg_entry_eq]
  generalize (lg_sl ([.int x1, .long x2]) ++ List.replicate (3 - (lg_sl ([.int x1, .long x2])).length) Slot.unset).toArray = ls at hl ⊢
  have hl : lv_has ls 3 [(0, .int x1), (1, .long x2)] := hl
  refine lv_iload_n hx hb dX3_has_0 rfl (lv_at hl 0 rfl) ?_
  by_cases c_1 : x1 = (1 : Int32)
  · refine lv_tableIn (tgt := 32) hx hb dX3_has_1 (by rw [c_1]; decide) (by rw [c_1]; decide) (off := 31) (by rw [c_1]; decide) (by decide) ?_
    refine lv_lload_n hx hb dX3_has_32 rfl (lv_at hl 1 rfl) ?_
    refine lv_lconst (v := (0 : Int64)) hx hb dX3_has_33 (by decide) ?_
    refine mb_lc_lt (tgt := 50) hx hb dX3_has_34 dX3_has_35 (by decide) (fun c_2 => ?_) (fun c_2 => ?_)
    · refine lv_iconst (v := (0 : Int32)) hx hb dX3_has_50 (by decide) ?_
      exact W.zret (v := (0 : Int32)) hx hb hr rfl (fun t ht hW => ⟨(0 : Int32), rfl, Eq.symm ((if_pos c_1).trans ((if_pos c_2).trans (rfl))), ht⟩) (fun q h => by cases h) dX3_has_51
    · refine lv_lload_n hx hb dX3_has_38 rfl (lv_at hl 1 rfl) ?_
      refine lv_ldc2 (v := (65535 : Int64)) hx hb hown (hts (.constantLong RX3 90 (65535)) (by decide +kernel)) dX3_has_39 ?_
      refine mb_lc_gt (tgt := 50) hx hb dX3_has_42 dX3_has_43 (by decide) (fun c_3 => ?_) (fun c_3 => ?_)
      · refine lv_iconst (v := (0 : Int32)) hx hb dX3_has_50 (by decide) ?_
        exact W.zret (v := (0 : Int32)) hx hb hr rfl (fun t ht hW => ⟨(0 : Int32), rfl, Eq.symm ((if_pos c_1).trans ((if_neg c_2).trans ((if_pos c_3).trans (rfl)))), ht⟩) (fun q h => by cases h) dX3_has_51
      · refine lv_iconst (v := (1 : Int32)) hx hb dX3_has_46 (by decide) ?_
        refine lv_goto (tgt := 51) hx hb dX3_has_47 (by decide) ?_
        exact W.zret (v := (1 : Int32)) hx hb hr rfl (fun t ht hW => ⟨(1 : Int32), rfl, Eq.symm ((if_pos c_1).trans ((if_neg c_2).trans ((if_neg c_3).trans (rfl)))), ht⟩) (fun q h => by cases h) dX3_has_51
  · by_cases c_4 : x1 = (2 : Int32)
    · refine lv_tableIn (tgt := 52) hx hb dX3_has_1 (by rw [c_4]; decide) (by rw [c_4]; decide) (off := 51) (by rw [c_4]; decide) (by decide) ?_
      refine lv_lload_n hx hb dX3_has_52 rfl (lv_at hl 1 rfl) ?_
      refine lv_ldc2 (v := (-128 : Int64)) hx hb hown (hts (.constantLong RX3 92 (-128)) (by decide +kernel)) dX3_has_53 ?_
      refine mb_lc_lt (tgt := 72) hx hb dX3_has_56 dX3_has_57 (by decide) (fun c_5 => ?_) (fun c_5 => ?_)
      · refine lv_iconst (v := (0 : Int32)) hx hb dX3_has_72 (by decide) ?_
        exact W.zret (v := (0 : Int32)) hx hb hr rfl (fun t ht hW => ⟨(0 : Int32), rfl, Eq.symm ((if_neg c_1).trans ((if_pos c_4).trans ((if_pos c_5).trans (rfl)))), ht⟩) (fun q h => by cases h) dX3_has_73
      · refine lv_lload_n hx hb dX3_has_60 rfl (lv_at hl 1 rfl) ?_
        refine lv_ldc2 (v := (127 : Int64)) hx hb hown (hts (.constantLong RX3 94 (127)) (by decide +kernel)) dX3_has_61 ?_
        refine mb_lc_gt (tgt := 72) hx hb dX3_has_64 dX3_has_65 (by decide) (fun c_6 => ?_) (fun c_6 => ?_)
        · refine lv_iconst (v := (0 : Int32)) hx hb dX3_has_72 (by decide) ?_
          exact W.zret (v := (0 : Int32)) hx hb hr rfl (fun t ht hW => ⟨(0 : Int32), rfl, Eq.symm ((if_neg c_1).trans ((if_pos c_4).trans ((if_neg c_5).trans ((if_pos c_6).trans (rfl))))), ht⟩) (fun q h => by cases h) dX3_has_73
        · refine lv_iconst (v := (1 : Int32)) hx hb dX3_has_68 (by decide) ?_
          refine lv_goto (tgt := 73) hx hb dX3_has_69 (by decide) ?_
          exact W.zret (v := (1 : Int32)) hx hb hr rfl (fun t ht hW => ⟨(1 : Int32), rfl, Eq.symm ((if_neg c_1).trans ((if_pos c_4).trans ((if_neg c_5).trans ((if_neg c_6).trans (rfl))))), ht⟩) (fun q h => by cases h) dX3_has_73
    · by_cases c_7 : x1 = (3 : Int32)
      · refine lv_tableIn (tgt := 74) hx hb dX3_has_1 (by rw [c_7]; decide) (by rw [c_7]; decide) (off := 73) (by rw [c_7]; decide) (by decide) ?_
        refine lv_lload_n hx hb dX3_has_74 rfl (lv_at hl 1 rfl) ?_
        refine lv_ldc2 (v := (-32768 : Int64)) hx hb hown (hts (.constantLong RX3 96 (-32768)) (by decide +kernel)) dX3_has_75 ?_
        refine mb_lc_lt (tgt := 94) hx hb dX3_has_78 dX3_has_79 (by decide) (fun c_8 => ?_) (fun c_8 => ?_)
        · refine lv_iconst (v := (0 : Int32)) hx hb dX3_has_94 (by decide) ?_
          exact W.zret (v := (0 : Int32)) hx hb hr rfl (fun t ht hW => ⟨(0 : Int32), rfl, Eq.symm ((if_neg c_1).trans ((if_neg c_4).trans ((if_pos c_7).trans ((if_pos c_8).trans (rfl))))), ht⟩) (fun q h => by cases h) dX3_has_95
        · refine lv_lload_n hx hb dX3_has_82 rfl (lv_at hl 1 rfl) ?_
          refine lv_ldc2 (v := (32767 : Int64)) hx hb hown (hts (.constantLong RX3 98 (32767)) (by decide +kernel)) dX3_has_83 ?_
          refine mb_lc_gt (tgt := 94) hx hb dX3_has_86 dX3_has_87 (by decide) (fun c_9 => ?_) (fun c_9 => ?_)
          · refine lv_iconst (v := (0 : Int32)) hx hb dX3_has_94 (by decide) ?_
            exact W.zret (v := (0 : Int32)) hx hb hr rfl (fun t ht hW => ⟨(0 : Int32), rfl, Eq.symm ((if_neg c_1).trans ((if_neg c_4).trans ((if_pos c_7).trans ((if_neg c_8).trans ((if_pos c_9).trans (rfl)))))), ht⟩) (fun q h => by cases h) dX3_has_95
          · refine lv_iconst (v := (1 : Int32)) hx hb dX3_has_90 (by decide) ?_
            refine lv_goto (tgt := 95) hx hb dX3_has_91 (by decide) ?_
            exact W.zret (v := (1 : Int32)) hx hb hr rfl (fun t ht hW => ⟨(1 : Int32), rfl, Eq.symm ((if_neg c_1).trans ((if_neg c_4).trans ((if_pos c_7).trans ((if_neg c_8).trans ((if_neg c_9).trans (rfl)))))), ht⟩) (fun q h => by cases h) dX3_has_95
      · by_cases c_10 : x1 = (4 : Int32)
        · refine lv_tableIn (tgt := 96) hx hb dX3_has_1 (by rw [c_10]; decide) (by rw [c_10]; decide) (off := 95) (by rw [c_10]; decide) (by decide) ?_
          refine lv_lload_n hx hb dX3_has_96 rfl (lv_at hl 1 rfl) ?_
          refine lv_ldc2 (v := (-2147483648 : Int64)) hx hb hown (hts (.constantLong RX3 100 (-2147483648)) (by decide +kernel)) dX3_has_97 ?_
          refine mb_lc_lt (tgt := 116) hx hb dX3_has_100 dX3_has_101 (by decide) (fun c_11 => ?_) (fun c_11 => ?_)
          · refine lv_iconst (v := (0 : Int32)) hx hb dX3_has_116 (by decide) ?_
            exact W.zret (v := (0 : Int32)) hx hb hr rfl (fun t ht hW => ⟨(0 : Int32), rfl, Eq.symm ((if_neg c_1).trans ((if_neg c_4).trans ((if_neg c_7).trans ((if_pos c_10).trans ((if_pos c_11).trans (rfl)))))), ht⟩) (fun q h => by cases h) dX3_has_117
          · refine lv_lload_n hx hb dX3_has_104 rfl (lv_at hl 1 rfl) ?_
            refine lv_ldc2 (v := (2147483647 : Int64)) hx hb hown (hts (.constantLong RX3 102 (2147483647)) (by decide +kernel)) dX3_has_105 ?_
            refine mb_lc_gt (tgt := 116) hx hb dX3_has_108 dX3_has_109 (by decide) (fun c_12 => ?_) (fun c_12 => ?_)
            · refine lv_iconst (v := (0 : Int32)) hx hb dX3_has_116 (by decide) ?_
              exact W.zret (v := (0 : Int32)) hx hb hr rfl (fun t ht hW => ⟨(0 : Int32), rfl, Eq.symm ((if_neg c_1).trans ((if_neg c_4).trans ((if_neg c_7).trans ((if_pos c_10).trans ((if_neg c_11).trans ((if_pos c_12).trans (rfl))))))), ht⟩) (fun q h => by cases h) dX3_has_117
            · refine lv_iconst (v := (1 : Int32)) hx hb dX3_has_112 (by decide) ?_
              refine lv_goto (tgt := 117) hx hb dX3_has_113 (by decide) ?_
              exact W.zret (v := (1 : Int32)) hx hb hr rfl (fun t ht hW => ⟨(1 : Int32), rfl, Eq.symm ((if_neg c_1).trans ((if_neg c_4).trans ((if_neg c_7).trans ((if_pos c_10).trans ((if_neg c_11).trans ((if_neg c_12).trans (rfl))))))), ht⟩) (fun q h => by cases h) dX3_has_117
        · refine lv_tableOut (tgt := 118) hx hb dX3_has_1 (by have nc_1 := lv_neT c_1 (a := 1) (by decide); have nc_4 := lv_neT c_4 (a := 2) (by decide); have nc_7 := lv_neT c_7 (a := 3) (by decide); have nc_10 := lv_neT c_10 (a := 4) (by decide); omega) (by decide) ?_
          refine lv_iconst (v := (1 : Int32)) hx hb dX3_has_118 (by decide) ?_
          exact W.zret (v := (1 : Int32)) hx hb hr rfl (fun t ht hW => ⟨(1 : Int32), rfl, Eq.symm ((if_neg c_1).trans ((if_neg c_4).trans ((if_neg c_7).trans ((if_neg c_10).trans (rfl))))), ht⟩) (fun q h => by cases h) dX3_has_119
def f_X3_isBits (x1 : Int32) (x2 : Int64) : Int32 := if x1 = (0 : Int32) then (if x2 = (0 : Int64) then (1 : Int32)
    else if x2 = (1 : Int64) then (1 : Int32)
    else (0 : Int32))
  else if x1 = (6 : Int32) then (f_X3_has (4 : Int32) x2)
  else if x1 = (7 : Int32) then (1 : Int32)
  else (f_X3_has x1 x2)
theorem nb_X3_isBits (x1 : Int32) (x2 : Int64) : mb_B (f_X3_isBits x1 x2) := by
  unfold f_X3_isBits
  exact mb_B_ite (mb_B_ite (rfl) (mb_B_ite (rfl) (rfl))) (mb_B_ite ((nb_X3_has (4 : Int32) x2)) (mb_B_ite (rfl) ((nb_X3_has x1 x2))))
set_option maxHeartbeats 4000000 in
set_option maxRecDepth 100000 in
theorem c_X3_isBits (l : Launch) (x1 : Int32) (x2 : Int64) : Met l yX3_isBits wsX3_isBits ({ frames := 1, cells := 0, slots := 0, locals := 22 }) (va_Pc [.int x1, .long x2] (fun _ => True)) (vp_Si (fun r => r = f_X3_isBits x1 x2)) 0 0 (fun _ => False) := by
  refine Met.ofW (cc := cX3_isBits) (maxL := 3) (ret := (some .boolean)) (by decide) rfl ?_
  intro p e s m args below meth c s₁ B hml hv
  obtain ⟨rfl, -⟩ := hv
  have hx := B.exec
  have hb := B.bytes
  have hr := B.returns
  have hts := atoms_spec (ws := wsX3_isBits) B.pre
  have hown : s.vm.findClass RX3 = some m.cls := findClass_of_methodNamed B.named
  have hlocks := B.notSynchronized
  have hl := lv_entry ([.int x1, .long x2]) (n := 3) (Nat.le_of_ble_eq_true rfl)
  rw [lg_entry_eq]
  generalize (lg_sl ([.int x1, .long x2]) ++ List.replicate (3 - (lg_sl ([.int x1, .long x2])).length) Slot.unset).toArray = ls at hl ⊢
  have hl : lv_has ls 3 [(0, .int x1), (1, .long x2)] := hl
  refine lv_iload_n hx hb dX3_isBits_0 rfl (lv_at hl 0 rfl) ?_
  by_cases c_1 : x1 = (0 : Int32)
  · refine lv_lookup (tgt := 36) hx hb dX3_isBits_1 (by decide) (off := 35) (by rw [c_1]; decide) (by decide) ?_
    refine lv_lload_n hx hb dX3_isBits_36 rfl (lv_at hl 1 rfl) ?_
    refine lv_lconst (v := (0 : Int64)) hx hb dX3_isBits_37 (by decide) ?_
    refine mb_lc_eq (tgt := 48) hx hb dX3_isBits_38 dX3_isBits_39 (by decide) (fun c_2 => ?_) (fun c_2 => ?_)
    · refine lv_iconst (v := (1 : Int32)) hx hb dX3_isBits_48 (by decide) ?_
      refine lv_goto (tgt := 53) hx hb dX3_isBits_49 (by decide) ?_
      exact W.zret (v := (1 : Int32)) hx hb hr rfl (fun t ht hW => ⟨(1 : Int32), rfl, Eq.symm ((if_pos c_1).trans ((if_pos c_2).trans (rfl))), ht⟩) (fun q h => by cases h) dX3_isBits_53
    · refine lv_lload_n hx hb dX3_isBits_42 rfl (lv_at hl 1 rfl) ?_
      refine lv_lconst (v := (1 : Int64)) hx hb dX3_isBits_43 (by decide) ?_
      refine mb_lc_ne (tgt := 52) hx hb dX3_isBits_44 dX3_isBits_45 (by decide) (fun c_3 => ?_) (fun c_3 => ?_)
      · refine lv_iconst (v := (0 : Int32)) hx hb dX3_isBits_52 (by decide) ?_
        exact W.zret (v := (0 : Int32)) hx hb hr rfl (fun t ht hW => ⟨(0 : Int32), rfl, Eq.symm ((if_pos c_1).trans ((if_neg c_2).trans ((if_neg c_3).trans (rfl)))), ht⟩) (fun q h => by cases h) dX3_isBits_53
      · refine lv_iconst (v := (1 : Int32)) hx hb dX3_isBits_48 (by decide) ?_
        refine lv_goto (tgt := 53) hx hb dX3_isBits_49 (by decide) ?_
        exact W.zret (v := (1 : Int32)) hx hb hr rfl (fun t ht hW => ⟨(1 : Int32), rfl, Eq.symm ((if_pos c_1).trans ((if_neg c_2).trans ((if_pos c_3).trans (rfl)))), ht⟩) (fun q h => by cases h) dX3_isBits_53
  · by_cases c_4 : x1 = (6 : Int32)
    · refine lv_lookup (tgt := 54) hx hb dX3_isBits_1 (by decide) (off := 53) (by rw [c_4]; decide) (by decide) ?_
      refine lv_iconst (v := (4 : Int32)) hx hb dX3_isBits_54 (by decide) ?_
      refine lv_lload_n hx hb dX3_isBits_55 rfl (lv_at hl 1 rfl) ?_
      refine mb_callSi (W.runS (As := [.int (4 : Int32), .long x2]) (rest := []) ⟨hx, hb, hml, hown, hts⟩ (c_X3_has l (4 : Int32) x2) (va_cwS 2 hts gX3_isBits_X3_has rfl rfl rfl (by decide +kernel) ⟨Nat.le_of_ble_eq_true rfl, Nat.le_of_ble_eq_true rfl⟩) mb_preT rfl rfl hl.1 rfl (lv_room (Nat.le_of_ble_eq_true rfl)) dX3_isBits_56 ⟨Nat.zero_le _, Nat.zero_le _⟩) ?_
      exact W.zret (v := (f_X3_has (4 : Int32) x2)) hx hb hr (nb_X3_has (4 : Int32) x2) (fun t ht hW => ⟨(f_X3_has (4 : Int32) x2), rfl, Eq.symm ((if_neg c_1).trans ((if_pos c_4).trans (rfl))), ht⟩) (fun q h => by cases h) dX3_isBits_59
    · by_cases c_5 : x1 = (7 : Int32)
      · refine lv_lookup (tgt := 60) hx hb dX3_isBits_1 (by decide) (off := 59) (by rw [c_5]; decide) (by decide) ?_
        refine lv_iconst (v := (1 : Int32)) hx hb dX3_isBits_60 (by decide) ?_
        exact W.zret (v := (1 : Int32)) hx hb hr rfl (fun t ht hW => ⟨(1 : Int32), rfl, Eq.symm ((if_neg c_1).trans ((if_neg c_4).trans ((if_pos c_5).trans (rfl)))), ht⟩) (fun q h => by cases h) dX3_isBits_61
      · refine lv_lookup (tgt := 62) (off := 61) hx hb dX3_isBits_1 (by decide) ((lv_osw c_1 (by decide)).trans ( (lv_osw c_4 (by decide)).trans ( (lv_osw c_5 (by decide)).trans (rfl)))) (by decide) ?_
        refine lv_iload_n hx hb dX3_isBits_62 rfl (lv_at hl 0 rfl) ?_
        refine lv_lload_n hx hb dX3_isBits_63 rfl (lv_at hl 1 rfl) ?_
        refine mb_callSi (W.runS (As := [.int x1, .long x2]) (rest := []) ⟨hx, hb, hml, hown, hts⟩ (c_X3_has l x1 x2) (va_cwS 2 hts gX3_isBits_X3_has rfl rfl rfl (by decide +kernel) ⟨Nat.le_of_ble_eq_true rfl, Nat.le_of_ble_eq_true rfl⟩) mb_preT rfl rfl hl.1 rfl (lv_room (Nat.le_of_ble_eq_true rfl)) dX3_isBits_64 ⟨Nat.zero_le _, Nat.zero_le _⟩) ?_
        exact W.zret (v := (f_X3_has x1 x2)) hx hb hr (nb_X3_has x1 x2) (fun t ht hW => ⟨(f_X3_has x1 x2), rfl, Eq.symm ((if_neg c_1).trans ((if_neg c_4).trans ((if_neg c_5).trans (rfl)))), ht⟩) (fun q h => by cases h) dX3_isBits_67
def f_X3_one (x1 : Int32) (x2 : Int64) : Int64 := if x1 = (6 : Int32) then (if (x2 &&& (2147483647 : Int64)) ≤ (2139095040 : Int64) then (if x1 = (7 : Int32) then (if (x2 &&& (9223372036854775807 : Int64)) ≤ (9218868437227405312 : Int64) then x2
        else (9221120237041090560 : Int64))
      else x2)
    else (2143289344 : Int64))
  else if x1 = (7 : Int32) then (if (x2 &&& (9223372036854775807 : Int64)) ≤ (9218868437227405312 : Int64) then x2
    else (9221120237041090560 : Int64))
  else x2
set_option maxHeartbeats 4000000 in
set_option maxRecDepth 100000 in
theorem c_X3_one (l : Launch) (x1 : Int32) (x2 : Int64) : Met l yX3_one wsX3_one ({ frames := 0, cells := 0, slots := 0, locals := 0 }) (va_Pc [.int x1, .long x2] (fun _ => True)) (vp_Sl (fun r => r = f_X3_one x1 x2)) 0 0 (fun _ => False) := by
  refine Met.ofW (cc := cX3_one) (maxL := 3) (ret := (some .long)) (by decide) rfl ?_
  intro p e s m args below meth c s₁ B hml hv
  obtain ⟨rfl, -⟩ := hv
  have hx := B.exec
  have hb := B.bytes
  have hr := B.returns
  have hts := atoms_spec (ws := wsX3_one) B.pre
  have hown : s.vm.findClass RX3 = some m.cls := findClass_of_methodNamed B.named
  have hlocks := B.notSynchronized
  have hl := lv_entry ([.int x1, .long x2]) (n := 3) (Nat.le_of_ble_eq_true rfl)
  rw [lg_entry_eq]
  generalize (lg_sl ([.int x1, .long x2]) ++ List.replicate (3 - (lg_sl ([.int x1, .long x2])).length) Slot.unset).toArray = ls at hl ⊢
  have hl : lv_has ls 3 [(0, .int x1), (1, .long x2)] := hl
  refine lv_iload_n hx hb dX3_one_0 rfl (lv_at hl 0 rfl) ?_
  refine lv_bipush (v := (6 : Int32)) hx hb dX3_one_1 (by decide) ?_
  refine lv_icmp_ne (tgt := 22) hx hb dX3_one_3 (by decide) (fun c_1 => ?_) (fun c_1 => ?_)
  · refine lv_iload_n hx hb dX3_one_22 rfl (lv_at hl 0 rfl) ?_
    refine lv_bipush (v := (7 : Int32)) hx hb dX3_one_23 (by decide) ?_
    refine lv_icmp_ne (tgt := 46) hx hb dX3_one_25 (by decide) (fun c_2 => ?_) (fun c_2 => ?_)
    · refine lv_lload_n hx hb dX3_one_46 rfl (lv_at hl 1 rfl) ?_
      exact W.lret (v := x2) hx hb hr (fun t ht hW => ⟨x2, rfl, Eq.symm ((if_neg c_1).trans ((if_neg c_2).trans (rfl))), ht⟩) (fun q h => by cases h) dX3_one_47
    · refine lv_lload_n hx hb dX3_one_28 rfl (lv_at hl 1 rfl) ?_
      refine lv_ldc2 (v := (9223372036854775807 : Int64)) hx hb hown (hts (.constantLong RX3 112 (9223372036854775807)) (by decide +kernel)) dX3_one_29 ?_
      refine lv_land hx hb dX3_one_32 ?_
      refine lv_ldc2 (v := (9218868437227405312 : Int64)) hx hb hown (hts (.constantLong RX3 114 (9218868437227405312)) (by decide +kernel)) dX3_one_33 ?_
      refine mb_lc_le (tgt := 46) hx hb dX3_one_36 dX3_one_37 (by decide) (fun c_3 => ?_) (fun c_3 => ?_)
      · refine lv_lload_n hx hb dX3_one_46 rfl (lv_at hl 1 rfl) ?_
        exact W.lret (v := x2) hx hb hr (fun t ht hW => ⟨x2, rfl, Eq.symm ((if_neg c_1).trans ((if_pos c_2).trans ((if_pos c_3).trans (rfl)))), ht⟩) (fun q h => by cases h) dX3_one_47
      · refine lv_ldc2 (v := (9221120237041090560 : Int64)) hx hb hown (hts (.constantLong RX3 116 (9221120237041090560)) (by decide +kernel)) dX3_one_40 ?_
        refine lv_goto (tgt := 47) hx hb dX3_one_43 (by decide) ?_
        exact W.lret (v := (9221120237041090560 : Int64)) hx hb hr (fun t ht hW => ⟨(9221120237041090560 : Int64), rfl, Eq.symm ((if_neg c_1).trans ((if_pos c_2).trans ((if_neg c_3).trans (rfl)))), ht⟩) (fun q h => by cases h) dX3_one_47
  · refine lv_lload_n hx hb dX3_one_6 rfl (lv_at hl 1 rfl) ?_
    refine lv_ldc2 (v := (2147483647 : Int64)) hx hb hown (hts (.constantLong RX3 102 (2147483647)) (by decide +kernel)) dX3_one_7 ?_
    refine lv_land hx hb dX3_one_10 ?_
    refine lv_ldc2 (v := (2139095040 : Int64)) hx hb hown (hts (.constantLong RX3 108 (2139095040)) (by decide +kernel)) dX3_one_11 ?_
    refine mb_lc_le (tgt := 22) hx hb dX3_one_14 dX3_one_15 (by decide) (fun c_4 => ?_) (fun c_4 => ?_)
    · refine lv_iload_n hx hb dX3_one_22 rfl (lv_at hl 0 rfl) ?_
      refine lv_bipush (v := (7 : Int32)) hx hb dX3_one_23 (by decide) ?_
      refine lv_icmp_ne (tgt := 46) hx hb dX3_one_25 (by decide) (fun c_5 => ?_) (fun c_5 => ?_)
      · refine lv_lload_n hx hb dX3_one_46 rfl (lv_at hl 1 rfl) ?_
        exact W.lret (v := x2) hx hb hr (fun t ht hW => ⟨x2, rfl, Eq.symm ((if_pos c_1).trans ((if_pos c_4).trans ((if_neg c_5).trans (rfl)))), ht⟩) (fun q h => by cases h) dX3_one_47
      · refine lv_lload_n hx hb dX3_one_28 rfl (lv_at hl 1 rfl) ?_
        refine lv_ldc2 (v := (9223372036854775807 : Int64)) hx hb hown (hts (.constantLong RX3 112 (9223372036854775807)) (by decide +kernel)) dX3_one_29 ?_
        refine lv_land hx hb dX3_one_32 ?_
        refine lv_ldc2 (v := (9218868437227405312 : Int64)) hx hb hown (hts (.constantLong RX3 114 (9218868437227405312)) (by decide +kernel)) dX3_one_33 ?_
        refine mb_lc_le (tgt := 46) hx hb dX3_one_36 dX3_one_37 (by decide) (fun c_6 => ?_) (fun c_6 => ?_)
        · refine lv_lload_n hx hb dX3_one_46 rfl (lv_at hl 1 rfl) ?_
          exact W.lret (v := x2) hx hb hr (fun t ht hW => ⟨x2, rfl, Eq.symm ((if_pos c_1).trans ((if_pos c_4).trans ((if_pos c_5).trans ((if_pos c_6).trans (rfl))))), ht⟩) (fun q h => by cases h) dX3_one_47
        · refine lv_ldc2 (v := (9221120237041090560 : Int64)) hx hb hown (hts (.constantLong RX3 116 (9221120237041090560)) (by decide +kernel)) dX3_one_40 ?_
          refine lv_goto (tgt := 47) hx hb dX3_one_43 (by decide) ?_
          exact W.lret (v := (9221120237041090560 : Int64)) hx hb hr (fun t ht hW => ⟨(9221120237041090560 : Int64), rfl, Eq.symm ((if_pos c_1).trans ((if_pos c_4).trans ((if_pos c_5).trans ((if_neg c_6).trans (rfl))))), ht⟩) (fun q h => by cases h) dX3_one_47
    · refine lv_ldc2 (v := (2143289344 : Int64)) hx hb hown (hts (.constantLong RX3 110 (2143289344)) (by decide +kernel)) dX3_one_18 ?_
      exact W.lret (v := (2143289344 : Int64)) hx hb hr (fun t ht hW => ⟨(2143289344 : Int64), rfl, Eq.symm ((if_pos c_1).trans ((if_neg c_4).trans (rfl))), ht⟩) (fun q h => by cases h) dX3_one_21
def f_X3_cutTo (x1 : Int32) (x2 : Int64) : Int64 := if x1 = (1 : Int32) then (x2 &&& (65535 : Int64))
  else if x1 = (2 : Int32) then x2.toInt32.toInt8.toInt32.toInt64
  else if x1 = (3 : Int32) then x2.toInt32.toInt16.toInt32.toInt64
  else if x1 = (4 : Int32) then x2.toInt32.toInt64
  else x2
set_option maxHeartbeats 4000000 in
set_option maxRecDepth 100000 in
theorem c_X3_cutTo (l : Launch) (x1 : Int32) (x2 : Int64) : Met l yX3_cutTo wsX3_cutTo ({ frames := 0, cells := 0, slots := 0, locals := 0 }) (va_Pc [.int x1, .long x2] (fun _ => True)) (vp_Sl (fun r => r = f_X3_cutTo x1 x2)) 0 0 (fun _ => False) := by
  refine Met.ofW (cc := cX3_cutTo) (maxL := 3) (ret := (some .long)) (by decide) rfl ?_
  intro p e s m args below meth c s₁ B hml hv
  obtain ⟨rfl, -⟩ := hv
  have hx := B.exec
  have hb := B.bytes
  have hr := B.returns
  have hts := atoms_spec (ws := wsX3_cutTo) B.pre
  have hown : s.vm.findClass RX3 = some m.cls := findClass_of_methodNamed B.named
  have hlocks := B.notSynchronized
  have hl := lv_entry ([.int x1, .long x2]) (n := 3) (Nat.le_of_ble_eq_true rfl)
  rw [lg_entry_eq]
  generalize (lg_sl ([.int x1, .long x2]) ++ List.replicate (3 - (lg_sl ([.int x1, .long x2])).length) Slot.unset).toArray = ls at hl ⊢
  have hl : lv_has ls 3 [(0, .int x1), (1, .long x2)] := hl
  refine lv_iload_n hx hb dX3_cutTo_0 rfl (lv_at hl 0 rfl) ?_
  by_cases c_1 : x1 = (1 : Int32)
  · refine lv_tableIn (tgt := 32) hx hb dX3_cutTo_1 (by rw [c_1]; decide) (by rw [c_1]; decide) (off := 31) (by rw [c_1]; decide) (by decide) ?_
    refine lv_lload_n hx hb dX3_cutTo_32 rfl (lv_at hl 1 rfl) ?_
    refine lv_ldc2 (v := (65535 : Int64)) hx hb hown (hts (.constantLong RX3 90 (65535)) (by decide +kernel)) dX3_cutTo_33 ?_
    refine lv_land hx hb dX3_cutTo_36 ?_
    exact W.lret (v := (x2 &&& (65535 : Int64))) hx hb hr (fun t ht hW => ⟨(x2 &&& (65535 : Int64)), rfl, Eq.symm ((if_pos c_1).trans (rfl)), ht⟩) (fun q h => by cases h) dX3_cutTo_37
  · by_cases c_2 : x1 = (2 : Int32)
    · refine lv_tableIn (tgt := 38) hx hb dX3_cutTo_1 (by rw [c_2]; decide) (by rw [c_2]; decide) (off := 37) (by rw [c_2]; decide) (by decide) ?_
      refine lv_lload_n hx hb dX3_cutTo_38 rfl (lv_at hl 1 rfl) ?_
      refine lv_l2i hx hb dX3_cutTo_39 rfl ?_
      refine lv_i2b hx hb dX3_cutTo_40 rfl ?_
      refine lv_i2l hx hb dX3_cutTo_41 rfl ?_
      exact W.lret (v := x2.toInt32.toInt8.toInt32.toInt64) hx hb hr (fun t ht hW => ⟨x2.toInt32.toInt8.toInt32.toInt64, rfl, Eq.symm ((if_neg c_1).trans ((if_pos c_2).trans (rfl))), ht⟩) (fun q h => by cases h) dX3_cutTo_42
    · by_cases c_3 : x1 = (3 : Int32)
      · refine lv_tableIn (tgt := 43) hx hb dX3_cutTo_1 (by rw [c_3]; decide) (by rw [c_3]; decide) (off := 42) (by rw [c_3]; decide) (by decide) ?_
        refine lv_lload_n hx hb dX3_cutTo_43 rfl (lv_at hl 1 rfl) ?_
        refine lv_l2i hx hb dX3_cutTo_44 rfl ?_
        refine lv_i2s hx hb dX3_cutTo_45 rfl ?_
        refine lv_i2l hx hb dX3_cutTo_46 rfl ?_
        exact W.lret (v := x2.toInt32.toInt16.toInt32.toInt64) hx hb hr (fun t ht hW => ⟨x2.toInt32.toInt16.toInt32.toInt64, rfl, Eq.symm ((if_neg c_1).trans ((if_neg c_2).trans ((if_pos c_3).trans (rfl)))), ht⟩) (fun q h => by cases h) dX3_cutTo_47
      · by_cases c_4 : x1 = (4 : Int32)
        · refine lv_tableIn (tgt := 48) hx hb dX3_cutTo_1 (by rw [c_4]; decide) (by rw [c_4]; decide) (off := 47) (by rw [c_4]; decide) (by decide) ?_
          refine lv_lload_n hx hb dX3_cutTo_48 rfl (lv_at hl 1 rfl) ?_
          refine lv_l2i hx hb dX3_cutTo_49 rfl ?_
          refine lv_i2l hx hb dX3_cutTo_50 rfl ?_
          exact W.lret (v := x2.toInt32.toInt64) hx hb hr (fun t ht hW => ⟨x2.toInt32.toInt64, rfl, Eq.symm ((if_neg c_1).trans ((if_neg c_2).trans ((if_neg c_3).trans ((if_pos c_4).trans (rfl))))), ht⟩) (fun q h => by cases h) dX3_cutTo_51
        · refine lv_tableOut (tgt := 52) hx hb dX3_cutTo_1 (by have nc_1 := lv_neT c_1 (a := 1) (by decide); have nc_2 := lv_neT c_2 (a := 2) (by decide); have nc_3 := lv_neT c_3 (a := 3) (by decide); have nc_4 := lv_neT c_4 (a := 4) (by decide); omega) (by decide) ?_
          refine lv_lload_n hx hb dX3_cutTo_52 rfl (lv_at hl 1 rfl) ?_
          exact W.lret (v := x2) hx hb hr (fun t ht hW => ⟨x2, rfl, Eq.symm ((if_neg c_1).trans ((if_neg c_2).trans ((if_neg c_3).trans ((if_neg c_4).trans (rfl))))), ht⟩) (fun q h => by cases h) dX3_cutTo_53
def f_X3_numberOf (x1 : Int32) : Int32 := if (f_X3_isBox x1) = 0 then (if (f_X3_isNumber x1) = 0 then (0 : Int32)
    else x1)
  else if (f_X3_isNumber (x1 - (8 : Int32))) = 0 then (0 : Int32)
  else (x1 - (8 : Int32))
set_option maxHeartbeats 4000000 in
set_option maxRecDepth 100000 in
theorem c_X3_numberOf (l : Launch) (x1 : Int32) : Met l yX3_numberOf wsX3_numberOf ({ frames := 2, cells := 0, slots := 0, locals := 42 }) (va_Pc [.int x1] (fun _ => True)) (vp_Si (fun r => r = f_X3_numberOf x1)) 0 0 (fun _ => False) := by
  refine Met.ofW (cc := cX3_numberOf) (maxL := 2) (ret := (some .int)) (by decide) rfl ?_
  intro p e s m args below meth c s₁ B hml hv
  obtain ⟨rfl, -⟩ := hv
  have hx := B.exec
  have hb := B.bytes
  have hr := B.returns
  have hts := atoms_spec (ws := wsX3_numberOf) B.pre
  have hown : s.vm.findClass RX3 = some m.cls := findClass_of_methodNamed B.named
  have hlocks := B.notSynchronized
  have hl := lv_entry ([.int x1]) (n := 2) (Nat.le_of_ble_eq_true rfl)
  rw [lg_entry_eq]
  generalize (lg_sl ([.int x1]) ++ List.replicate (2 - (lg_sl ([.int x1])).length) Slot.unset).toArray = ls at hl ⊢
  have hl : lv_has ls 2 [(0, .int x1)] := hl
  refine lv_iload_n hx hb dX3_numberOf_0 rfl (lv_at hl 0 rfl) ?_
  refine mb_callSi (W.runS (As := [.int x1]) (rest := []) ⟨hx, hb, hml, hown, hts⟩ (c_X3_isBox l x1) (va_cwS 1 hts gX3_numberOf_X3_isBox rfl rfl rfl (by decide +kernel) ⟨Nat.le_of_ble_eq_true rfl, Nat.le_of_ble_eq_true rfl⟩) mb_preT rfl rfl hl.1 rfl (lv_room (Nat.le_of_ble_eq_true rfl)) dX3_numberOf_1 ⟨Nat.zero_le _, Nat.zero_le _⟩) ?_
  refine lv_if_eq (tgt := 14) hx hb dX3_numberOf_4 (by decide) (fun c_1 => ?_) (fun c_1 => ?_)
  · refine lv_iload_n hx hb dX3_numberOf_14 rfl (lv_at hl 0 rfl) ?_
    refine lv_istore_n (lv' := [(1, .int x1), (0, .int x1)]) hx hb dX3_numberOf_15 rfl hl (by decide) rfl (fun ls hl => ?_)
    refine lv_iload_n hx hb dX3_numberOf_16 rfl (lv_at hl 0 rfl) ?_
    refine mb_callSi (W.runS (As := [.int x1]) (rest := []) ⟨hx, hb, hml, hown, hts⟩ (c_X3_isNumber l x1) (va_cwS 1 hts gX3_numberOf_X3_isNumber rfl rfl rfl (by decide +kernel) ⟨Nat.le_of_ble_eq_true rfl, Nat.le_of_ble_eq_true rfl⟩) mb_preT rfl rfl hl.1 rfl (lv_room (Nat.le_of_ble_eq_true rfl)) dX3_numberOf_17 ⟨Nat.zero_le _, Nat.zero_le _⟩) ?_
    refine lv_if_eq (tgt := 27) hx hb dX3_numberOf_20 (by decide) (fun c_2 => ?_) (fun c_2 => ?_)
    · refine lv_iconst (v := (0 : Int32)) hx hb dX3_numberOf_27 (by decide) ?_
      exact W.iret (v := (0 : Int32)) hx hb hr (fun t ht hW => ⟨(0 : Int32), rfl, Eq.symm ((if_pos c_1).trans ((if_pos c_2).trans (rfl))), ht⟩) (fun q h => by cases h) dX3_numberOf_28
    · refine lv_iload_n hx hb dX3_numberOf_23 rfl (lv_at hl 0 rfl) ?_
      refine lv_goto (tgt := 28) hx hb dX3_numberOf_24 (by decide) ?_
      exact W.iret (v := x1) hx hb hr (fun t ht hW => ⟨x1, rfl, Eq.symm ((if_pos c_1).trans ((if_neg c_2).trans (rfl))), ht⟩) (fun q h => by cases h) dX3_numberOf_28
  · refine lv_iload_n hx hb dX3_numberOf_7 rfl (lv_at hl 0 rfl) ?_
    refine lv_bipush (v := (8 : Int32)) hx hb dX3_numberOf_8 (by decide) ?_
    refine lv_isub hx hb dX3_numberOf_10 ?_
    refine lv_goto (tgt := 15) hx hb dX3_numberOf_11 (by decide) ?_
    refine lv_istore_n (lv' := [(1, .int (x1 - (8 : Int32))), (0, .int x1)]) hx hb dX3_numberOf_15 rfl hl (by decide) rfl (fun ls hl => ?_)
    refine lv_iload_n hx hb dX3_numberOf_16 rfl (lv_at hl 0 rfl) ?_
    refine mb_callSi (W.runS (As := [.int (x1 - (8 : Int32))]) (rest := []) ⟨hx, hb, hml, hown, hts⟩ (c_X3_isNumber l (x1 - (8 : Int32))) (va_cwS 1 hts gX3_numberOf_X3_isNumber rfl rfl rfl (by decide +kernel) ⟨Nat.le_of_ble_eq_true rfl, Nat.le_of_ble_eq_true rfl⟩) mb_preT rfl rfl hl.1 rfl (lv_room (Nat.le_of_ble_eq_true rfl)) dX3_numberOf_17 ⟨Nat.zero_le _, Nat.zero_le _⟩) ?_
    refine lv_if_eq (tgt := 27) hx hb dX3_numberOf_20 (by decide) (fun c_3 => ?_) (fun c_3 => ?_)
    · refine lv_iconst (v := (0 : Int32)) hx hb dX3_numberOf_27 (by decide) ?_
      exact W.iret (v := (0 : Int32)) hx hb hr (fun t ht hW => ⟨(0 : Int32), rfl, Eq.symm ((if_neg c_1).trans ((if_pos c_3).trans (rfl))), ht⟩) (fun q h => by cases h) dX3_numberOf_28
    · refine lv_iload_n hx hb dX3_numberOf_23 rfl (lv_at hl 0 rfl) ?_
      refine lv_goto (tgt := 28) hx hb dX3_numberOf_24 (by decide) ?_
      exact W.iret (v := (x1 - (8 : Int32))) hx hb hr (fun t ht hW => ⟨(x1 - (8 : Int32)), rfl, Eq.symm ((if_neg c_1).trans ((if_neg c_3).trans (rfl))), ht⟩) (fun q h => by cases h) dX3_numberOf_28
def f_X3_promotedOf (x1 : Int32) : Int32 := if (4 : Int32) ≤ x1 then x1
  else (4 : Int32)
set_option maxHeartbeats 4000000 in
set_option maxRecDepth 100000 in
theorem c_X3_promotedOf (l : Launch) (x1 : Int32) : Met l yX3_promotedOf wsX3_promotedOf ({ frames := 0, cells := 0, slots := 0, locals := 0 }) (va_Pc [.int x1] (fun _ => True)) (vp_Si (fun r => r = f_X3_promotedOf x1)) 0 0 (fun _ => False) := by
  refine Met.ofW (cc := cX3_promotedOf) (maxL := 1) (ret := (some .int)) (by decide) rfl ?_
  intro p e s m args below meth c s₁ B hml hv
  obtain ⟨rfl, -⟩ := hv
  have hx := B.exec
  have hb := B.bytes
  have hr := B.returns
  have hts := atoms_spec (ws := wsX3_promotedOf) B.pre
  have hown : s.vm.findClass RX3 = some m.cls := findClass_of_methodNamed B.named
  have hlocks := B.notSynchronized
  have hl := lv_entry ([.int x1]) (n := 1) (Nat.le_of_ble_eq_true rfl)
  rw [lg_entry_eq]
  generalize (lg_sl ([.int x1]) ++ List.replicate (1 - (lg_sl ([.int x1])).length) Slot.unset).toArray = ls at hl ⊢
  have hl : lv_has ls 1 [(0, .int x1)] := hl
  refine lv_iload_n hx hb dX3_promotedOf_0 rfl (lv_at hl 0 rfl) ?_
  refine lv_iconst (v := (4 : Int32)) hx hb dX3_promotedOf_1 (by decide) ?_
  refine lv_icmp_ge (tgt := 9) hx hb dX3_promotedOf_2 (by decide) (fun c_1 => ?_) (fun c_1 => ?_)
  · refine lv_iload_n hx hb dX3_promotedOf_9 rfl (lv_at hl 0 rfl) ?_
    exact W.iret (v := x1) hx hb hr (fun t ht hW => ⟨x1, rfl, Eq.symm ((if_pos c_1).trans (rfl)), ht⟩) (fun q h => by cases h) dX3_promotedOf_10
  · refine lv_iconst (v := (4 : Int32)) hx hb dX3_promotedOf_5 (by decide) ?_
    refine lv_goto (tgt := 10) hx hb dX3_promotedOf_6 (by decide) ?_
    exact W.iret (v := (4 : Int32)) hx hb hr (fun t ht hW => ⟨(4 : Int32), rfl, Eq.symm ((if_neg c_1).trans (rfl)), ht⟩) (fun q h => by cases h) dX3_promotedOf_10
def f_X3_bothOf (x1 : Int32) (x2 : Int32) : Int32 := if (f_X3_promotedOf x1) ≤ (f_X3_promotedOf x2) then (f_X3_promotedOf x2)
  else (f_X3_promotedOf x1)
set_option maxHeartbeats 4000000 in
set_option maxRecDepth 100000 in
theorem c_X3_bothOf (l : Launch) (x1 : Int32) (x2 : Int32) : Met l yX3_bothOf wsX3_bothOf ({ frames := 1, cells := 0, slots := 0, locals := 20 }) (va_Pc [.int x1, .int x2] (fun _ => True)) (vp_Si (fun r => r = f_X3_bothOf x1 x2)) 0 0 (fun _ => False) := by
  refine Met.ofW (cc := cX3_bothOf) (maxL := 4) (ret := (some .int)) (by decide) rfl ?_
  intro p e s m args below meth c s₁ B hml hv
  obtain ⟨rfl, -⟩ := hv
  have hx := B.exec
  have hb := B.bytes
  have hr := B.returns
  have hts := atoms_spec (ws := wsX3_bothOf) B.pre
  have hown : s.vm.findClass RX3 = some m.cls := findClass_of_methodNamed B.named
  have hlocks := B.notSynchronized
  have hl := lv_entry ([.int x1, .int x2]) (n := 4) (Nat.le_of_ble_eq_true rfl)
  rw [lg_entry_eq]
  generalize (lg_sl ([.int x1, .int x2]) ++ List.replicate (4 - (lg_sl ([.int x1, .int x2])).length) Slot.unset).toArray = ls at hl ⊢
  have hl : lv_has ls 4 [(0, .int x1), (1, .int x2)] := hl
  refine lv_iload_n hx hb dX3_bothOf_0 rfl (lv_at hl 0 rfl) ?_
  refine mb_callSi (W.runS (As := [.int x1]) (rest := []) ⟨hx, hb, hml, hown, hts⟩ (c_X3_promotedOf l x1) (va_cwS 1 hts gX3_bothOf_X3_promotedOf rfl rfl rfl (by decide +kernel) ⟨Nat.le_of_ble_eq_true rfl, Nat.le_of_ble_eq_true rfl⟩) mb_preT rfl rfl hl.1 rfl (lv_room (Nat.le_of_ble_eq_true rfl)) dX3_bothOf_1 ⟨Nat.zero_le _, Nat.zero_le _⟩) ?_
  refine lv_istore_n (lv' := [(2, .int (f_X3_promotedOf x1)), (0, .int x1), (1, .int x2)]) hx hb dX3_bothOf_4 rfl hl (by decide) rfl (fun ls hl => ?_)
  refine lv_iload_n hx hb dX3_bothOf_5 rfl (lv_at hl 2 rfl) ?_
  refine mb_callSi (W.runS (As := [.int x2]) (rest := []) ⟨hx, hb, hml, hown, hts⟩ (c_X3_promotedOf l x2) (va_cwS 1 hts gX3_bothOf_X3_promotedOf rfl rfl rfl (by decide +kernel) ⟨Nat.le_of_ble_eq_true rfl, Nat.le_of_ble_eq_true rfl⟩) mb_preT rfl rfl hl.1 rfl (lv_room (Nat.le_of_ble_eq_true rfl)) dX3_bothOf_6 ⟨Nat.zero_le _, Nat.zero_le _⟩) ?_
  refine lv_istore_n (lv' := [(3, .int (f_X3_promotedOf x2)), (2, .int (f_X3_promotedOf x1)), (0, .int x1), (1, .int x2)]) hx hb dX3_bothOf_9 rfl hl (by decide) rfl (fun ls hl => ?_)
  refine lv_iload_n hx hb dX3_bothOf_10 rfl (lv_at hl 1 rfl) ?_
  refine lv_iload_n hx hb dX3_bothOf_11 rfl (lv_at hl 0 rfl) ?_
  refine lv_icmp_le (tgt := 19) hx hb dX3_bothOf_12 (by decide) (fun c_1 => ?_) (fun c_1 => ?_)
  · refine lv_iload_n hx hb dX3_bothOf_19 rfl (lv_at hl 0 rfl) ?_
    exact W.iret (v := (f_X3_promotedOf x2)) hx hb hr (fun t ht hW => ⟨(f_X3_promotedOf x2), rfl, Eq.symm ((if_pos c_1).trans (rfl)), ht⟩) (fun q h => by cases h) dX3_bothOf_20
  · refine lv_iload_n hx hb dX3_bothOf_15 rfl (lv_at hl 1 rfl) ?_
    refine lv_goto (tgt := 20) hx hb dX3_bothOf_16 (by decide) ?_
    exact W.iret (v := (f_X3_promotedOf x1)) hx hb hr (fun t ht hW => ⟨(f_X3_promotedOf x1), rfl, Eq.symm ((if_neg c_1).trans (rfl)), ht⟩) (fun q h => by cases h) dX3_bothOf_20

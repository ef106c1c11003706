theorem mb_ctr {tt sz : Int32} {k : Nat} (hc : 23 ≤ tt.toInt ∧ tt.toInt ≤ 40 ∧ 40 < tt.toInt + k) (gz : sz.toInt ≤ 40) (h : ¬ sz ≤ tt) : vp_in tt 40 := by
  rw [vp_in_iff]
  rw [Int32.le_iff_toInt_le] at h
  omega
theorem mb_ctr_step {tt sz : Int32} {k : Nat} (hc : 23 ≤ tt.toInt ∧ tt.toInt ≤ 40 ∧ 40 < tt.toInt + (k + 1 : Nat)) (gz : sz.toInt ≤ 40) (h : ¬ sz ≤ tt) : 23 ≤ (tt + 1).toInt ∧ (tt + 1).toInt ≤ 40 ∧ 40 < (tt + 1).toInt + k := by
  rw [Int32.le_iff_toInt_le] at h
  rw [mb_inc (by omega) (by omega)]
  omega
theorem mb_dep_step {dd : Int32} {k : Nat} (hc : 0 ≤ dd.toInt ∧ dd.toInt ≤ 40 ∧ 40 < dd.toInt + (k + 1 : Nat)) (h : ¬ (40 : Int32) ≤ dd) : 0 ≤ (dd + 1).toInt ∧ (dd + 1).toInt ≤ 40 ∧ 40 < (dd + 1).toInt + k := by
  rw [Int32.le_iff_toInt_le] at h
  have e4 : (40 : Int32).toInt = 40 := rfl
  rw [mb_inc (by omega) (by omega)]
  omega
theorem mb_iar {so fi el : Nat → Int32} {ab : Nat → Int64} {sz x : Int32} (h : ¬ f_X1_isArrayOfReferences so fi el ab sz x = 0) : so x.toNatClampNeg = 3 ∧ (7 : Int32) < el x.toNatClampNeg := by
  unfold f_X1_isArrayOfReferences at h
  split at h
  · split at h
    · exact absurd rfl h
    · rename_i h1 h2
      exact ⟨h1, by rw [Int32.lt_iff_toInt_lt]; rw [Int32.le_iff_toInt_le] at h2; omega⟩
  · exact absurd rfl h
theorem mb_iar1 {so fi el : Nat → Int32} {ab : Nat → Int64} {sz x : Int32} (ge : mb_EL so el) (g : vp_in x 40) (h : ¬ f_X1_isArrayOfReferences so fi el ab sz x = 0) : vp_in (el x.toNatClampNeg) 40 := ge.vp g (mb_iar h).1
def f_X1_arrayOf_3 : Nat → (Nat → Int32) → (Nat → Int32) → (Nat → Int32) → (Nat → Int64) → Int32 → Int32 → Int32 → Int32
  | 0, _, _, _, _, _, _, _ => 0
  | k + 1, so, fi, el, ab, sz, x1, tt => if sz ≤ tt then (-1 : Int32)
  else if (so tt.toNatClampNeg) = (3 : Int32) then (if (el tt.toNatClampNeg) = x1 then tt
    else f_X1_arrayOf_3 k so fi el ab sz x1 (tt + (1 : Int32)))
  else f_X1_arrayOf_3 k so fi el ab sz x1 (tt + (1 : Int32))
def f_X1_arrayOf (so : Nat → Int32) (fi : Nat → Int32) (el : Nat → Int32) (ab : Nat → Int64) (sz : Int32) (x1 : Int32) : Int32 := f_X1_arrayOf_3 18 so fi el ab sz x1 (23 : Int32)
set_option maxHeartbeats 4000000 in
set_option maxRecDepth 100000 in
theorem c_X1_arrayOf (l : Launch) (dC : Nat → ClassId) (dI : Nat → Nat → Nat) (cyI cyZ cyJ : ClassId) (h1 a0 a1 a2 a3 : Nat) (so : Nat → Int32) (fi : Nat → Int32) (el : Nat → Int32) (ab : Nat → Int64) (sz : Int32) (x1 : Int32) (gz : sz.toInt ≤ 40) : Met l yX1_arrayOf wsX1_arrayOf ({ frames := 0, cells := 0, slots := 0, locals := 0 }) (va_Pc [.ref h1, .int x1] (mb_R (dC, dI) (mb_tys cyI cyZ cyJ) [(h1, .inr (3, [.ref a0, .ref a1, .ref a2, .ref a3, .int sz])), (a0, .inl (cyI, 40, .inl so)), (a1, .inl (cyZ, 40, .inl fi)), (a2, .inl (cyI, 40, .inl el)), (a3, .inl (cyJ, 40, .inr (.inl ab)))])) (vp_Si (fun r => r = f_X1_arrayOf so fi el ab sz x1)) 0 0 (fun _ => False) := by
  refine Met.ofW (cc := cX1_arrayOf) (maxL := 3) (ret := (some .int)) (by decide) rfl ?_
  intro p e s m args below meth c s₁ B hml hv
  obtain ⟨rfl, hP, hK⟩ := hv
  have hx := B.exec
  have hb := B.bytes
  have hr := B.returns
  have hts := atoms_spec (ws := wsX1_arrayOf) B.pre
  have hown : s.vm.findClass RX1 = some m.cls := findClass_of_methodNamed B.named
  have hlocks := B.notSynchronized
  have hP : va_P (dC, dI) vwCl [(h1, .inr (3, [.ref a0, .ref a1, .ref a2, .ref a3, .int sz])), (a0, .inl (cyI, 40, .inl so)), (a1, .inl (cyZ, 40, .inl fi)), (a2, .inl (cyI, 40, .inl el)), (a3, .inl (cyJ, 40, .inr (.inl ab)))] s.heap := hP
  have hP0 : va_P (dC, dI) vwCl [] s.heap := fun k q h => by simp at h
  have hin_X1 : ∀ w ∈ wsX10, w ∈ wsX1_arrayOf := by decide +kernel
  have hf_26 := hts (.fieldLink RX1 26 "ConversionTables$TypeTable" "size" "I") (by decide +kernel)
  have hf_9 := hts (.fieldLink RX1 9 "ConversionTables$TypeTable" "sorts" "[I") (by decide +kernel)
  have hf_19 := hts (.fieldLink RX1 19 "ConversionTables$TypeTable" "elements" "[I") (by decide +kernel)
  have K_3 : ∀ (k : Nat) (tt : Int32) (ls : Array Slot) (hc : 23 ≤ tt.toInt ∧ tt.toInt ≤ 40 ∧ 40 < tt.toInt + k), lv_has ls 3 [(0, .ref h1), (1, .int x1), (2, .int tt)] → f_X1_arrayOf so fi el ab sz x1 = f_X1_arrayOf_3 k so fi el ab sz x1 tt → W p l e (headSpec wsX1_arrayOf ({ frames := 0, cells := 0, slots := 0, locals := 0 })).room s m ([.ref h1, .int x1] : List Value).toArray below meth c s.heap [] 0 0 (MQ below (vp_Si (fun r => r = f_X1_arrayOf so fi el ab sz x1)) ([.ref h1, .int x1] : List Value).toArray s 0 0 (fun _ => False)) (F0 m 3 ls []) := by
    intro k
    induction k with
    | zero =>
      intro tt ls hc
      exact absurd hc (by omega)
    | succ k ih =>
      intro tt ls hc hl hz
      refine lv_iload_n hx hb dX1_arrayOf_3 rfl (lv_at hl 2 rfl) ?_
      refine lv_aload_n hx hb dX1_arrayOf_4 rfl (lv_at hl 0 rfl) ?_
      refine va_get (D := (dC, dI)) (ci := 3) (v := .int sz) (C := RX1) (T := TX1) (N := 5) hx hb hts hin_X1 hown hK hP 0 rfl rfl 4 (by decide) hf_26 (fun _ h9 => h9) rfl dX1_arrayOf_5 ?_
      refine lv_icmp_ge (tgt := 39) hx hb dX1_arrayOf_8 (by decide) (fun c_1 => ?_) (fun c_1 => ?_)
      · refine lv_iconst (v := (-1 : Int32)) hx hb dX1_arrayOf_39 (by decide) ?_
        exact W.iret (v := (-1 : Int32)) hx hb hr (fun t ht hW => ⟨(-1 : Int32), rfl, Eq.symm (hz.trans ((if_pos c_1).trans (rfl))), ht⟩) (fun q h => by cases h) dX1_arrayOf_40
      · refine lv_aload_n hx hb dX1_arrayOf_11 rfl (lv_at hl 0 rfl) ?_
        refine va_get (D := (dC, dI)) (ci := 3) (v := .ref a0) (C := RX1) (T := TX1) (N := 5) hx hb hts hin_X1 hown hK hP 0 rfl rfl 0 (by decide) hf_9 (fun _ h9 => h9) rfl dX1_arrayOf_12 ?_
        refine lv_iload_n hx hb dX1_arrayOf_15 rfl (lv_at hl 2 rfl) ?_
        refine va_iald hx hb hK hP 1 0 rfl rfl (mb_ctr hc gz c_1) dX1_arrayOf_16 ?_
        refine lv_iconst (v := (3 : Int32)) hx hb dX1_arrayOf_17 (by decide) ?_
        refine lv_icmp_ne (tgt := 33) hx hb dX1_arrayOf_18 (by decide) (fun c_2 => ?_) (fun c_2 => ?_)
        · refine lv_iinc (v := (tt + (1 : Int32))) (lv' := [(2, .int (tt + (1 : Int32))), (0, .ref h1), (1, .int x1)]) hx hb dX1_arrayOf_33 hl (k := 2) rfl rfl (by decide) rfl (fun ls hl => ?_)
          refine lv_goto (tgt := 3) hx hb dX1_arrayOf_36 (by decide) ?_
          exact ih (tt + (1 : Int32)) ls (mb_ctr_step hc gz c_1) (lv_sub hl [1, 2, 0] rfl) (hz.trans ((if_neg c_1).trans ((if_neg c_2).trans (rfl))))
        · refine lv_aload_n hx hb dX1_arrayOf_21 rfl (lv_at hl 0 rfl) ?_
          refine va_get (D := (dC, dI)) (ci := 3) (v := .ref a2) (C := RX1) (T := TX1) (N := 5) hx hb hts hin_X1 hown hK hP 0 rfl rfl 2 (by decide) hf_19 (fun _ h9 => h9) rfl dX1_arrayOf_22 ?_
          refine lv_iload_n hx hb dX1_arrayOf_25 rfl (lv_at hl 2 rfl) ?_
          refine va_iald hx hb hK hP 3 0 rfl rfl (mb_ctr hc gz c_1) dX1_arrayOf_26 ?_
          refine lv_iload_n hx hb dX1_arrayOf_27 rfl (lv_at hl 1 rfl) ?_
          refine lv_icmp_ne (tgt := 33) hx hb dX1_arrayOf_28 (by decide) (fun c_3 => ?_) (fun c_3 => ?_)
          · refine lv_iinc (v := (tt + (1 : Int32))) (lv' := [(2, .int (tt + (1 : Int32))), (0, .ref h1), (1, .int x1)]) hx hb dX1_arrayOf_33 hl (k := 2) rfl rfl (by decide) rfl (fun ls hl => ?_)
            refine lv_goto (tgt := 3) hx hb dX1_arrayOf_36 (by decide) ?_
            exact ih (tt + (1 : Int32)) ls (mb_ctr_step hc gz c_1) (lv_sub hl [1, 2, 0] rfl) (hz.trans ((if_neg c_1).trans ((if_pos c_2).trans ((if_neg c_3).trans (rfl)))))
          · refine lv_iload_n hx hb dX1_arrayOf_31 rfl (lv_at hl 2 rfl) ?_
            exact W.iret (v := tt) hx hb hr (fun t ht hW => ⟨tt, rfl, Eq.symm (hz.trans ((if_neg c_1).trans ((if_pos c_2).trans ((if_pos c_3).trans (rfl))))), ht⟩) (fun q h => by cases h) dX1_arrayOf_32
  have hl := lv_entry ([.ref h1, .int x1]) (n := 3) (Nat.le_of_ble_eq_true rfl)
  rw [lg_entry_eq]
  generalize (lg_sl ([.ref h1, .int x1]) ++ List.replicate (3 - (lg_sl ([.ref h1, .int x1])).length) Slot.unset).toArray = ls at hl ⊢
  have hl : lv_has ls 3 [(0, .ref h1), (1, .int x1)] := hl
  refine lv_bipush (v := (23 : Int32)) hx hb dX1_arrayOf_0 (by decide) ?_
  refine lv_istore_n (lv' := [(2, .int (23 : Int32)), (0, .ref h1), (1, .int x1)]) hx hb dX1_arrayOf_2 rfl hl (by decide) rfl (fun ls hl => ?_)
  exact K_3 18 (23 : Int32) ls (by decide) (lv_sub hl [1, 2, 0] rfl) (rfl)
def f_X1_goesDown_57 (so : Nat → Int32) (fi : Nat → Int32) (el : Nat → Int32) (ab : Nat → Int64) (sz : Int32) (x1 : Int32) (x2 : Int32) (ss : Int32) (tt : Int32) : Int32 := if ss = (22 : Int32) then (0 : Int32)
  else if tt = (22 : Int32) then (0 : Int32)
  else if (f_X1_isUnder so fi el ab sz ss tt) = 0 then (if (f_X1_isUnder so fi el ab sz tt ss) = 0 then (if (f_X1_mayShareObjects so fi el ab sz ss tt) = 0 then (0 : Int32)
      else (1 : Int32))
    else (1 : Int32))
  else (0 : Int32)
theorem nb_X1_goesDown_57 (so : Nat → Int32) (fi : Nat → Int32) (el : Nat → Int32) (ab : Nat → Int64) (sz : Int32) (x1 : Int32) (x2 : Int32) (ss : Int32) (tt : Int32): mb_B (f_X1_goesDown_57 so fi el ab sz x1 x2 ss tt) := by
  unfold f_X1_goesDown_57
  exact mb_B_ite (rfl) (mb_B_ite (rfl) (mb_B_ite (mb_B_ite (mb_B_ite (rfl) (rfl)) (rfl)) (rfl)))
def f_X1_goesDown_8 : Nat → (Nat → Int32) → (Nat → Int32) → (Nat → Int32) → (Nat → Int64) → Int32 → Int32 → Int32 → Int32 → Int32 → Int32 → Int32
  | 0, _, _, _, _, _, _, _, _, _, _ => 0
  | k + 1, so, fi, el, ab, sz, x1, x2, ss, tt, dd => if (40 : Int32) ≤ dd then f_X1_goesDown_57 so fi el ab sz x1 x2 ss tt
  else if (f_X1_isArrayOfReferences so fi el ab sz ss) = 0 then f_X1_goesDown_57 so fi el ab sz x1 x2 ss tt
  else if (f_X1_isArrayOfReferences so fi el ab sz tt) = 0 then f_X1_goesDown_57 so fi el ab sz x1 x2 ss tt
  else f_X1_goesDown_8 k so fi el ab sz x1 x2 (el ss.toNatClampNeg) (el tt.toNatClampNeg) (dd + (1 : Int32))
theorem nb_X1_goesDown_8 : ∀ (k : Nat) (so : Nat → Int32) (fi : Nat → Int32) (el : Nat → Int32) (ab : Nat → Int64) (sz : Int32) (x1 : Int32) (x2 : Int32) (ss : Int32) (tt : Int32) (dd : Int32), mb_B (f_X1_goesDown_8 k so fi el ab sz x1 x2 ss tt dd) := by
  intro k
  induction k with
  | zero =>
    intros
    exact mb_B0
  | succ k ih =>
    intro so fi el ab sz x1 x2 ss tt dd
    unfold f_X1_goesDown_8
    exact mb_B_ite ((nb_X1_goesDown_57 so fi el ab sz x1 x2 ss tt)) (mb_B_ite ((nb_X1_goesDown_57 so fi el ab sz x1 x2 ss tt)) (mb_B_ite ((nb_X1_goesDown_57 so fi el ab sz x1 x2 ss tt)) ((ih so fi el ab sz x1 x2 (el ss.toNatClampNeg) (el tt.toNatClampNeg) (dd + (1 : Int32))))))
def f_X1_goesDown (so : Nat → Int32) (fi : Nat → Int32) (el : Nat → Int32) (ab : Nat → Int64) (sz : Int32) (x1 : Int32) (x2 : Int32) : Int32 := f_X1_goesDown_8 41 so fi el ab sz x1 x2 x1 x2 (0 : Int32)
theorem nb_X1_goesDown (so : Nat → Int32) (fi : Nat → Int32) (el : Nat → Int32) (ab : Nat → Int64) (sz : Int32) (x1 : Int32) (x2 : Int32) : mb_B (f_X1_goesDown so fi el ab sz x1 x2) := by
  unfold f_X1_goesDown
  exact (nb_X1_goesDown_8 41 so fi el ab sz x1 x2 x1 x2 (0 : Int32))
set_option maxHeartbeats 4000000 in
set_option maxRecDepth 100000 in
theorem c_X1_goesDown (l : Launch) (dC : Nat → ClassId) (dI : Nat → Nat → Nat) (cyI cyZ cyJ : ClassId) (h1 a0 a1 a2 a3 : Nat) (so : Nat → Int32) (fi : Nat → Int32) (el : Nat → Int32) (ab : Nat → Int64) (sz : Int32) (x1 : Int32) (x2 : Int32) (g1 : vp_in x1 40) (g2 : vp_in x2 40) (ge : mb_EL so el) : Met l yX1_goesDown wsX1_goesDown ({ frames := 2, cells := 0, slots := 0, locals := 43 }) (va_Pc [.ref h1, .int x1, .int x2] (mb_R (dC, dI) (mb_tys cyI cyZ cyJ) [(h1, .inr (3, [.ref a0, .ref a1, .ref a2, .ref a3, .int sz])), (a0, .inl (cyI, 40, .inl so)), (a1, .inl (cyZ, 40, .inl fi)), (a2, .inl (cyI, 40, .inl el)), (a3, .inl (cyJ, 40, .inr (.inl ab)))])) (vp_Si (fun r => r = f_X1_goesDown so fi el ab sz x1 x2)) 0 0 (fun _ => False) := by
  refine Met.ofW (cc := cX1_goesDown) (maxL := 6) (ret := (some .boolean)) (by decide) rfl ?_
  intro p e s m args below meth c s₁ B hml hv
  obtain ⟨rfl, hP, hK⟩ := hv
  have hx := B.exec
  have hb := B.bytes
  have hr := B.returns
  have hts := atoms_spec (ws := wsX1_goesDown) B.pre
  have hown : s.vm.findClass RX1 = some m.cls := findClass_of_methodNamed B.named
  have hlocks := B.notSynchronized
  have hP : va_P (dC, dI) vwCl [(h1, .inr (3, [.ref a0, .ref a1, .ref a2, .ref a3, .int sz])), (a0, .inl (cyI, 40, .inl so)), (a1, .inl (cyZ, 40, .inl fi)), (a2, .inl (cyI, 40, .inl el)), (a3, .inl (cyJ, 40, .inr (.inl ab)))] s.heap := hP
  have hP0 : va_P (dC, dI) vwCl [] s.heap := fun k q h => by simp at h
  have hin_X1 : ∀ w ∈ wsX10, w ∈ wsX1_goesDown := by decide +kernel
  have hf_19 := hts (.fieldLink RX1 19 "ConversionTables$TypeTable" "elements" "[I") (by decide +kernel)
  have K_57 : ∀ (ss : Int32) (tt : Int32) (ls : Array Slot) (g3 : vp_in ss 40) (g4 : vp_in tt 40), lv_has ls 6 [(0, .ref h1), (3, .int ss), (4, .int tt)] → f_X1_goesDown so fi el ab sz x1 x2 = f_X1_goesDown_57 so fi el ab sz x1 x2 ss tt → W p l e (headSpec wsX1_goesDown ({ frames := 2, cells := 0, slots := 0, locals := 43 })).room s m ([.ref h1, .int x1, .int x2] : List Value).toArray below meth c s.heap [] 0 0 (MQ below (vp_Si (fun r => r = f_X1_goesDown so fi el ab sz x1 x2)) ([.ref h1, .int x1, .int x2] : List Value).toArray s 0 0 (fun _ => False)) (F0 m 57 ls []) := by
    intro ss tt ls g3 g4 hl hz
    refine lv_iload_n hx hb dX1_goesDown_57 rfl (lv_at hl 1 rfl) ?_
    refine lv_bipush (v := (22 : Int32)) hx hb dX1_goesDown_58 (by decide) ?_
    refine lv_icmp_eq (tgt := 80) hx hb dX1_goesDown_60 (by decide) (fun c_1 => ?_) (fun c_1 => ?_)
    · refine lv_iconst (v := (0 : Int32)) hx hb dX1_goesDown_80 (by decide) ?_
      exact W.zret (v := (0 : Int32)) hx hb hr rfl (fun t ht hW => ⟨(0 : Int32), rfl, Eq.symm (hz.trans ((if_pos c_1).trans (rfl))), ht⟩) (fun q h => by cases h) dX1_goesDown_81
    · refine lv_iload hx hb dX1_goesDown_63 (lv_at hl 2 rfl) ?_
      refine lv_bipush (v := (22 : Int32)) hx hb dX1_goesDown_65 (by decide) ?_
      refine lv_icmp_eq (tgt := 80) hx hb dX1_goesDown_67 (by decide) (fun c_2 => ?_) (fun c_2 => ?_)
      · refine lv_iconst (v := (0 : Int32)) hx hb dX1_goesDown_80 (by decide) ?_
        exact W.zret (v := (0 : Int32)) hx hb hr rfl (fun t ht hW => ⟨(0 : Int32), rfl, Eq.symm (hz.trans ((if_neg c_1).trans ((if_pos c_2).trans (rfl)))), ht⟩) (fun q h => by cases h) dX1_goesDown_81
      · refine lv_aload_n hx hb dX1_goesDown_70 rfl (lv_at hl 0 rfl) ?_
        refine lv_iload_n hx hb dX1_goesDown_71 rfl (lv_at hl 1 rfl) ?_
        refine lv_iload hx hb dX1_goesDown_72 (lv_at hl 2 rfl) ?_
        refine mb_callSi (W.runV (As := [.int ss, .int tt]) (rest := []) ⟨hx, hb, hml, hown, hts⟩ (c_X1_isUnder l dC dI cyI cyZ cyJ h1 a0 a1 a2 a3 so fi el ab sz ss tt g3) (cwV 2 hts gX1_goesDown_X1_isUnder rfl rfl rfl (by decide +kernel) ⟨Nat.le_of_ble_eq_true rfl, Nat.le_of_ble_eq_true rfl⟩) (mb_preV hK hP (ci := 3) (q0 := 0) rfl rfl) rfl rfl hl.1 rfl (lv_room (Nat.le_of_ble_eq_true rfl)) dX1_goesDown_74 ⟨Nat.zero_le _, Nat.zero_le _⟩) ?_
        refine lv_if_eq (tgt := 82) hx hb dX1_goesDown_77 (by decide) (fun c_3 => ?_) (fun c_3 => ?_)
        · refine lv_aload_n hx hb dX1_goesDown_82 rfl (lv_at hl 0 rfl) ?_
          refine lv_iload hx hb dX1_goesDown_83 (lv_at hl 2 rfl) ?_
          refine lv_iload_n hx hb dX1_goesDown_85 rfl (lv_at hl 1 rfl) ?_
          refine mb_callSi (W.runV (As := [.int tt, .int ss]) (rest := []) ⟨hx, hb, hml, hown, hts⟩ (c_X1_isUnder l dC dI cyI cyZ cyJ h1 a0 a1 a2 a3 so fi el ab sz tt ss g4) (cwV 2 hts gX1_goesDown_X1_isUnder rfl rfl rfl (by decide +kernel) ⟨Nat.le_of_ble_eq_true rfl, Nat.le_of_ble_eq_true rfl⟩) (mb_preV hK hP (ci := 3) (q0 := 0) rfl rfl) rfl rfl hl.1 rfl (lv_room (Nat.le_of_ble_eq_true rfl)) dX1_goesDown_86 ⟨Nat.zero_le _, Nat.zero_le _⟩) ?_
          refine lv_if_ne (tgt := 102) hx hb dX1_goesDown_89 (by decide) (fun c_4 => ?_) (fun c_4 => ?_)
          · refine lv_iconst (v := (1 : Int32)) hx hb dX1_goesDown_102 (by decide) ?_
            refine lv_goto (tgt := 107) hx hb dX1_goesDown_103 (by decide) ?_
            exact W.zret (v := (1 : Int32)) hx hb hr rfl (fun t ht hW => ⟨(1 : Int32), rfl, Eq.symm (hz.trans ((if_neg c_1).trans ((if_neg c_2).trans ((if_pos c_3).trans ((if_neg c_4).trans (rfl)))))), ht⟩) (fun q h => by cases h) dX1_goesDown_107
          · refine lv_aload_n hx hb dX1_goesDown_92 rfl (lv_at hl 0 rfl) ?_
            refine lv_iload_n hx hb dX1_goesDown_93 rfl (lv_at hl 1 rfl) ?_
            refine lv_iload hx hb dX1_goesDown_94 (lv_at hl 2 rfl) ?_
            refine mb_callSi (W.runV (As := [.int ss, .int tt]) (rest := []) ⟨hx, hb, hml, hown, hts⟩ (c_X1_mayShareObjects l dC dI cyI cyZ cyJ h1 a0 a1 a2 a3 so fi el ab sz ss tt g3 g4) (cwV 2 hts gX1_goesDown_X1_mayShareObjects rfl rfl rfl (by decide +kernel) ⟨Nat.le_of_ble_eq_true rfl, Nat.le_of_ble_eq_true rfl⟩) (mb_preV hK hP (ci := 3) (q0 := 0) rfl rfl) rfl rfl hl.1 rfl (lv_room (Nat.le_of_ble_eq_true rfl)) dX1_goesDown_96 ⟨Nat.zero_le _, Nat.zero_le _⟩) ?_
            refine lv_if_eq (tgt := 106) hx hb dX1_goesDown_99 (by decide) (fun c_5 => ?_) (fun c_5 => ?_)
            · refine lv_iconst (v := (0 : Int32)) hx hb dX1_goesDown_106 (by decide) ?_
              exact W.zret (v := (0 : Int32)) hx hb hr rfl (fun t ht hW => ⟨(0 : Int32), rfl, Eq.symm (hz.trans ((if_neg c_1).trans ((if_neg c_2).trans ((if_pos c_3).trans ((if_pos c_4).trans ((if_pos c_5).trans (rfl))))))), ht⟩) (fun q h => by cases h) dX1_goesDown_107
            · refine lv_iconst (v := (1 : Int32)) hx hb dX1_goesDown_102 (by decide) ?_
              refine lv_goto (tgt := 107) hx hb dX1_goesDown_103 (by decide) ?_
              exact W.zret (v := (1 : Int32)) hx hb hr rfl (fun t ht hW => ⟨(1 : Int32), rfl, Eq.symm (hz.trans ((if_neg c_1).trans ((if_neg c_2).trans ((if_pos c_3).trans ((if_pos c_4).trans ((if_neg c_5).trans (rfl))))))), ht⟩) (fun q h => by cases h) dX1_goesDown_107
        · refine lv_iconst (v := (0 : Int32)) hx hb dX1_goesDown_80 (by decide) ?_
          exact W.zret (v := (0 : Int32)) hx hb hr rfl (fun t ht hW => ⟨(0 : Int32), rfl, Eq.symm (hz.trans ((if_neg c_1).trans ((if_neg c_2).trans ((if_neg c_3).trans (rfl))))), ht⟩) (fun q h => by cases h) dX1_goesDown_81
  have K_8 : ∀ (k : Nat) (ss : Int32) (tt : Int32) (dd : Int32) (ls : Array Slot) (g3 : vp_in ss 40) (g4 : vp_in tt 40) (hc : 0 ≤ dd.toInt ∧ dd.toInt ≤ 40 ∧ 40 < dd.toInt + k), lv_has ls 6 [(0, .ref h1), (3, .int ss), (4, .int tt), (5, .int dd)] → f_X1_goesDown so fi el ab sz x1 x2 = f_X1_goesDown_8 k so fi el ab sz x1 x2 ss tt dd → W p l e (headSpec wsX1_goesDown ({ frames := 2, cells := 0, slots := 0, locals := 43 })).room s m ([.ref h1, .int x1, .int x2] : List Value).toArray below meth c s.heap [] 0 0 (MQ below (vp_Si (fun r => r = f_X1_goesDown so fi el ab sz x1 x2)) ([.ref h1, .int x1, .int x2] : List Value).toArray s 0 0 (fun _ => False)) (F0 m 8 ls []) := by
    intro k
    induction k with
    | zero =>
      intro ss tt dd ls g3 g4 hc
      exact absurd hc (by omega)
    | succ k ih =>
      intro ss tt dd ls g3 g4 hc hl hz
      refine lv_iload hx hb dX1_goesDown_8 (lv_at hl 3 rfl) ?_
      refine lv_bipush (v := (40 : Int32)) hx hb dX1_goesDown_10 (by decide) ?_
      refine lv_icmp_ge (tgt := 57) hx hb dX1_goesDown_12 (by decide) (fun c_6 => ?_) (fun c_6 => ?_)
      · exact K_57 ss tt ls (g3) (g4) (lv_sub hl [0, 1, 2] rfl) (hz.trans ((if_pos c_6).trans (rfl)))
      · refine lv_aload_n hx hb dX1_goesDown_15 rfl (lv_at hl 0 rfl) ?_
        refine lv_iload_n hx hb dX1_goesDown_16 rfl (lv_at hl 1 rfl) ?_
        refine mb_callSi (W.runV (As := [.int ss]) (rest := []) ⟨hx, hb, hml, hown, hts⟩ (c_X1_isArrayOfReferences l dC dI cyI cyZ cyJ h1 a0 a1 a2 a3 so fi el ab sz ss g3) (cwV 1 hts gX1_goesDown_X1_isArrayOfReferences rfl rfl rfl (by decide +kernel) ⟨Nat.le_of_ble_eq_true rfl, Nat.le_of_ble_eq_true rfl⟩) (mb_preV hK hP (ci := 3) (q0 := 0) rfl rfl) rfl rfl hl.1 rfl (lv_room (Nat.le_of_ble_eq_true rfl)) dX1_goesDown_17 ⟨Nat.zero_le _, Nat.zero_le _⟩) ?_
        refine lv_if_eq (tgt := 57) hx hb dX1_goesDown_20 (by decide) (fun c_7 => ?_) (fun c_7 => ?_)
        · exact K_57 ss tt ls (g3) (g4) (lv_sub hl [0, 1, 2] rfl) (hz.trans ((if_neg c_6).trans ((if_pos c_7).trans (rfl))))
        · refine lv_aload_n hx hb dX1_goesDown_23 rfl (lv_at hl 0 rfl) ?_
          refine lv_iload hx hb dX1_goesDown_24 (lv_at hl 2 rfl) ?_
          refine mb_callSi (W.runV (As := [.int tt]) (rest := []) ⟨hx, hb, hml, hown, hts⟩ (c_X1_isArrayOfReferences l dC dI cyI cyZ cyJ h1 a0 a1 a2 a3 so fi el ab sz tt g4) (cwV 1 hts gX1_goesDown_X1_isArrayOfReferences rfl rfl rfl (by decide +kernel) ⟨Nat.le_of_ble_eq_true rfl, Nat.le_of_ble_eq_true rfl⟩) (mb_preV hK hP (ci := 3) (q0 := 0) rfl rfl) rfl rfl hl.1 rfl (lv_room (Nat.le_of_ble_eq_true rfl)) dX1_goesDown_26 ⟨Nat.zero_le _, Nat.zero_le _⟩) ?_
          refine lv_if_ne (tgt := 35) hx hb dX1_goesDown_29 (by decide) (fun c_8 => ?_) (fun c_8 => ?_)
          · refine lv_aload_n hx hb dX1_goesDown_35 rfl (lv_at hl 0 rfl) ?_
            refine va_get (D := (dC, dI)) (ci := 3) (v := .ref a2) (C := RX1) (T := TX1) (N := 5) hx hb hts hin_X1 hown hK hP 0 rfl rfl 2 (by decide) hf_19 (fun _ h9 => h9) rfl dX1_goesDown_36 ?_
            refine lv_iload_n hx hb dX1_goesDown_39 rfl (lv_at hl 1 rfl) ?_
            refine va_iald hx hb hK hP 3 0 rfl rfl g3 dX1_goesDown_40 ?_
            refine lv_istore_n (lv' := [(3, .int (el ss.toNatClampNeg)), (0, .ref h1), (4, .int tt), (5, .int dd)]) hx hb dX1_goesDown_41 rfl hl (by decide) rfl (fun ls hl => ?_)
            refine lv_aload_n hx hb dX1_goesDown_42 rfl (lv_at hl 1 rfl) ?_
            refine va_get (D := (dC, dI)) (ci := 3) (v := .ref a2) (C := RX1) (T := TX1) (N := 5) hx hb hts hin_X1 hown hK hP 0 rfl rfl 2 (by decide) hf_19 (fun _ h9 => h9) rfl dX1_goesDown_43 ?_
            refine lv_iload hx hb dX1_goesDown_46 (lv_at hl 2 rfl) ?_
            refine va_iald hx hb hK hP 3 0 rfl rfl g4 dX1_goesDown_48 ?_
            refine lv_istore (lv' := [(4, .int (el tt.toNatClampNeg)), (3, .int (el ss.toNatClampNeg)), (0, .ref h1), (5, .int dd)]) hx hb dX1_goesDown_49 hl (by decide) rfl (fun ls hl => ?_)
            refine lv_iinc (v := (dd + (1 : Int32))) (lv' := [(5, .int (dd + (1 : Int32))), (4, .int (el tt.toNatClampNeg)), (3, .int (el ss.toNatClampNeg)), (0, .ref h1)]) hx hb dX1_goesDown_51 hl (k := 3) rfl rfl (by decide) rfl (fun ls hl => ?_)
            refine lv_goto (tgt := 8) hx hb dX1_goesDown_54 (by decide) ?_
            exact ih (el ss.toNatClampNeg) (el tt.toNatClampNeg) (dd + (1 : Int32)) ls (mb_iar1 ge g3 c_7) (mb_iar1 ge g4 c_8) (mb_dep_step hc c_6) (lv_sub hl [3, 2, 1, 0] rfl) (hz.trans ((if_neg c_6).trans ((if_neg c_7).trans ((if_neg c_8).trans (rfl)))))
          · refine lv_goto (tgt := 57) hx hb dX1_goesDown_32 (by decide) ?_
            exact K_57 ss tt ls (g3) (g4) (lv_sub hl [0, 1, 2] rfl) (hz.trans ((if_neg c_6).trans ((if_neg c_7).trans ((if_pos c_8).trans (rfl)))))
  have hl := lv_entry ([.ref h1, .int x1, .int x2]) (n := 6) (Nat.le_of_ble_eq_true rfl)
  rw [lg_entry_eq]
  generalize (lg_sl ([.ref h1, .int x1, .int x2]) ++ List.replicate (6 - (lg_sl ([.ref h1, .int x1, .int x2])).length) Slot.unset).toArray = ls at hl ⊢
  have hl : lv_has ls 6 [(0, .ref h1), (1, .int x1), (2, .int x2)] := hl
  refine lv_iload_n hx hb dX1_goesDown_0 rfl (lv_at hl 1 rfl) ?_
  refine lv_istore_n (lv' := [(3, .int x1), (0, .ref h1), (1, .int x1), (2, .int x2)]) hx hb dX1_goesDown_1 rfl hl (by decide) rfl (fun ls hl => ?_)
  refine lv_iload_n hx hb dX1_goesDown_2 rfl (lv_at hl 3 rfl) ?_
  refine lv_istore (lv' := [(4, .int x2), (3, .int x1), (0, .ref h1), (1, .int x1), (2, .int x2)]) hx hb dX1_goesDown_3 hl (by decide) rfl (fun ls hl => ?_)
  refine lv_iconst (v := (0 : Int32)) hx hb dX1_goesDown_5 (by decide) ?_
  refine lv_istore (lv' := [(5, .int (0 : Int32)), (4, .int x2), (3, .int x1), (0, .ref h1), (1, .int x1), (2, .int x2)]) hx hb dX1_goesDown_6 hl (by decide) rfl (fun ls hl => ?_)
  exact K_8 41 x1 x2 (0 : Int32) ls (g1) (g2) (by decide) (lv_sub hl [3, 2, 1, 0] rfl) (rfl)

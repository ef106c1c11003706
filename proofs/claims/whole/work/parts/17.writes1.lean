theorem mb_in22 : vp_in (22 : Int32) 40 := vp_in_iff.mpr ⟨by decide, by decide⟩
theorem mb_in16 : vp_in (16 : Int32) 40 := vp_in_iff.mpr ⟨by decide, by decide⟩
theorem mb_in19 : vp_in (19 : Int32) 40 := vp_in_iff.mpr ⟨by decide, by decide⟩
theorem mb_in20 : vp_in (20 : Int32) 40 := vp_in_iff.mpr ⟨by decide, by decide⟩
def f_X1_setKnown (so : Nat → Int32) (fi : Nat → Int32) (el : Nat → Int32) (ab : Nat → Int64) (sz : Int32) (x1 : Int32) (x2 : Int32) (x3 : Int32) (x4 : Int64) : mb_T1 := ((upd so x1.toNatClampNeg x2), (upd fi x1.toNatClampNeg (vp_nar .boolean x3)), (upd el x1.toNatClampNeg (-1 : Int32)), (vp_updL ab x1.toNatClampNeg (x4 ||| (f_X1_bit x1))), sz)
set_option maxHeartbeats 4000000 in
set_option maxRecDepth 100000 in
theorem c_X1_setKnown (l : Launch) (dC : Nat → ClassId) (dI : Nat → Nat → Nat) (cyI cyZ cyJ : ClassId) (h1 a0 a1 a2 a3 : Nat) (so : Nat → Int32) (fi : Nat → Int32) (el : Nat → Int32) (ab : Nat → Int64) (sz : Int32) (hs : Nat) (x1 : Int32) (x2 : Int32) (x3 : Int32) (x4 : Int64) (g1 : vp_in x1 40) : Met l yX1_setKnown wsX1_setKnown ({ frames := 1, cells := 0, slots := 0, locals := 20 }) (va_Pc [.ref h1, .int x1, .int x2, .int x3, .long x4] (mb_M (dC, dI) (mb_tys cyI cyZ cyJ) hs [(h1, .inr (3, [.ref a0, .ref a1, .ref a2, .ref a3, .int sz])), (a0, .inl (cyI, 40, .inl so)), (a1, .inl (cyZ, 40, .inl fi)), (a2, .inl (cyI, 40, .inl el)), (a3, .inl (cyJ, 40, .inr (.inl ab)))])) (va_Qv (S := mb_T1) (fun u => u = f_X1_setKnown so fi el ab sz x1 x2 x3 x4) (fun u t => mb_at dC dI cyI cyZ cyJ (va_A [(h1, .inr (3, [.ref a0, .ref a1, .ref a2, .ref a3, .int sz])), (a0, .inl (cyI, 40, .inl so)), (a1, .inl (cyZ, 40, .inl fi)), (a2, .inl (cyI, 40, .inl el)), (a3, .inl (cyJ, 40, .inr (.inl ab)))] hs) [(h1, .inr (3, [.ref a0, .ref a1, .ref a2, .ref a3, .int u.2.2.2.2])), (a0, .inl (cyI, 40, .inl u.1)), (a1, .inl (cyZ, 40, .inl u.2.1)), (a2, .inl (cyI, 40, .inl u.2.2.1)), (a3, .inl (cyJ, 40, .inr (.inl u.2.2.2.1)))] t) (va_A [(h1, .inr (3, [.ref a0, .ref a1, .ref a2, .ref a3, .int sz])), (a0, .inl (cyI, 40, .inl so)), (a1, .inl (cyZ, 40, .inl fi)), (a2, .inl (cyI, 40, .inl el)), (a3, .inl (cyJ, 40, .inr (.inl ab)))] hs)) 0 0 (va_A [(h1, .inr (3, [.ref a0, .ref a1, .ref a2, .ref a3, .int sz])), (a0, .inl (cyI, 40, .inl so)), (a1, .inl (cyZ, 40, .inl fi)), (a2, .inl (cyI, 40, .inl el)), (a3, .inl (cyJ, 40, .inr (.inl ab)))] hs) := by
  refine Met.ofW (cc := cX1_setKnown) (maxL := 6) (ret := none) (by decide) rfl ?_
  intro p e s m args below meth c s₁ B hml hv
  obtain ⟨rfl, hsz, hP, hK, hD0⟩ := hv
  have hx := B.exec
  have hb := B.bytes
  have hr := B.returns
  have hts := atoms_spec (ws := wsX1_setKnown) B.pre
  have hown : s.vm.findClass RX1 = some m.cls := findClass_of_methodNamed B.named
  have hlocks := B.notSynchronized
  subst hsz
  have hD := hD0.self (sz := s.heap.size)
  generalize hAe : va_A [(h1, .inr (3, [.ref a0, .ref a1, .ref a2, .ref a3, .int sz])), (a0, .inl (cyI, 40, .inl so)), (a1, .inl (cyZ, 40, .inl fi)), (a2, .inl (cyI, 40, .inl el)), (a3, .inl (cyJ, 40, .inr (.inl ab)))] s.heap.size = A at hD ⊢
  have hA : ∀ q : Nat, s.heap.size ≤ q → A q := fun q h => by rw [← hAe]; exact Or.inr h
  have hS : va_S A s.heap s.heap [] := va_S.rf
  have hP : va_P (dC, dI) vwCl [(h1, .inr (3, [.ref a0, .ref a1, .ref a2, .ref a3, .int sz])), (a0, .inl (cyI, 40, .inl so)), (a1, .inl (cyZ, 40, .inl fi)), (a2, .inl (cyI, 40, .inl el)), (a3, .inl (cyJ, 40, .inr (.inl ab)))] s.heap := hP
  have hP0 : va_P (dC, dI) vwCl [] s.heap := fun k q h => by simp at h
  have hin_X1 : ∀ w ∈ wsX10, w ∈ wsX1_setKnown := by decide +kernel
  have hf_9 := hts (.fieldLink RX1 9 "ConversionTables$TypeTable" "sorts" "[I") (by decide +kernel)
  have hf_15 := hts (.fieldLink RX1 15 "ConversionTables$TypeTable" "finals" "[Z") (by decide +kernel)
  have hf_19 := hts (.fieldLink RX1 19 "ConversionTables$TypeTable" "elements" "[I") (by decide +kernel)
  have hf_22 := hts (.fieldLink RX1 22 "ConversionTables$TypeTable" "aboves" "[J") (by decide +kernel)
  have hl := lv_entry ([.ref h1, .int x1, .int x2, .int x3, .long x4]) (n := 6) (Nat.le_of_ble_eq_true rfl)
  rw [lg_entry_eq]
  generalize (lg_sl ([.ref h1, .int x1, .int x2, .int x3, .long x4]) ++ List.replicate (6 - (lg_sl ([.ref h1, .int x1, .int x2, .int x3, .long x4])).length) Slot.unset).toArray = ls at hl ⊢
  have hl : lv_has ls 6 [(0, .ref h1), (1, .int x1), (2, .int x2), (3, .int x3), (4, .long x4)] := hl
  refine lv_aload_n hx hb dX1_setKnown_0 rfl (lv_at hl 0 rfl) ?_
  refine va_get (D := (dC, dI)) (ci := 3) (v := .ref a0) (C := RX1) (T := TX1) (N := 5) hx hb hts hin_X1 hown hK hP 0 rfl rfl 0 (by decide) hf_9 (fun _ h9 => h9) rfl dX1_setKnown_1 ?_
  refine lv_iload_n hx hb dX1_setKnown_4 rfl (lv_at hl 1 rfl) ?_
  refine lv_iload_n hx hb dX1_setKnown_5 rfl (lv_at hl 2 rfl) ?_
  refine va_iast hx hb hK hP hD hS 1 0 rfl rfl g1 dX1_setKnown_6 (fun H locs hP hD hS => ?_)
  have hP : va_P (dC, dI) vwCl [(h1, .inr (3, [.ref a0, .ref a1, .ref a2, .ref a3, .int sz])), (a0, .inl (cyI, 40, .inl (upd so x1.toNatClampNeg x2))), (a1, .inl (cyZ, 40, .inl fi)), (a2, .inl (cyI, 40, .inl el)), (a3, .inl (cyJ, 40, .inr (.inl ab)))] H := hP
  have hD : va_D A [(h1, .inr (3, [.ref a0, .ref a1, .ref a2, .ref a3, .int sz])), (a0, .inl (cyI, 40, .inl (upd so x1.toNatClampNeg x2))), (a1, .inl (cyZ, 40, .inl fi)), (a2, .inl (cyI, 40, .inl el)), (a3, .inl (cyJ, 40, .inr (.inl ab)))] := hD
  refine lv_aload_n hx hb dX1_setKnown_7 rfl (lv_at hl 0 rfl) ?_
  refine va_get (D := (dC, dI)) (ci := 3) (v := .ref a1) (C := RX1) (T := TX1) (N := 5) hx hb hts hin_X1 hown hK hP 0 rfl rfl 1 (by decide) hf_15 (fun _ h9 => h9) rfl dX1_setKnown_8 ?_
  refine lv_iload_n hx hb dX1_setKnown_11 rfl (lv_at hl 1 rfl) ?_
  refine lv_iload_n hx hb dX1_setKnown_12 rfl (lv_at hl 3 rfl) ?_
  refine va_zast hx hb hK hP hD hS 2 1 rfl rfl g1 dX1_setKnown_13 (fun H locs hP hD hS => ?_)
  have hP : va_P (dC, dI) vwCl [(h1, .inr (3, [.ref a0, .ref a1, .ref a2, .ref a3, .int sz])), (a0, .inl (cyI, 40, .inl (upd so x1.toNatClampNeg x2))), (a1, .inl (cyZ, 40, .inl (upd fi x1.toNatClampNeg (vp_nar .boolean x3)))), (a2, .inl (cyI, 40, .inl el)), (a3, .inl (cyJ, 40, .inr (.inl ab)))] H := hP
  have hD : va_D A [(h1, .inr (3, [.ref a0, .ref a1, .ref a2, .ref a3, .int sz])), (a0, .inl (cyI, 40, .inl (upd so x1.toNatClampNeg x2))), (a1, .inl (cyZ, 40, .inl (upd fi x1.toNatClampNeg (vp_nar .boolean x3)))), (a2, .inl (cyI, 40, .inl el)), (a3, .inl (cyJ, 40, .inr (.inl ab)))] := hD
  refine lv_aload_n hx hb dX1_setKnown_14 rfl (lv_at hl 0 rfl) ?_
  refine va_get (D := (dC, dI)) (ci := 3) (v := .ref a2) (C := RX1) (T := TX1) (N := 5) hx hb hts hin_X1 hown hK hP 0 rfl rfl 2 (by decide) hf_19 (fun _ h9 => h9) rfl dX1_setKnown_15 ?_
  refine lv_iload_n hx hb dX1_setKnown_18 rfl (lv_at hl 1 rfl) ?_
  refine lv_iconst (v := (-1 : Int32)) hx hb dX1_setKnown_19 (by decide) ?_
  refine va_iast hx hb hK hP hD hS 3 0 rfl rfl g1 dX1_setKnown_20 (fun H locs hP hD hS => ?_)
  have hP : va_P (dC, dI) vwCl [(h1, .inr (3, [.ref a0, .ref a1, .ref a2, .ref a3, .int sz])), (a0, .inl (cyI, 40, .inl (upd so x1.toNatClampNeg x2))), (a1, .inl (cyZ, 40, .inl (upd fi x1.toNatClampNeg (vp_nar .boolean x3)))), (a2, .inl (cyI, 40, .inl (upd el x1.toNatClampNeg (-1 : Int32)))), (a3, .inl (cyJ, 40, .inr (.inl ab)))] H := hP
  have hD : va_D A [(h1, .inr (3, [.ref a0, .ref a1, .ref a2, .ref a3, .int sz])), (a0, .inl (cyI, 40, .inl (upd so x1.toNatClampNeg x2))), (a1, .inl (cyZ, 40, .inl (upd fi x1.toNatClampNeg (vp_nar .boolean x3)))), (a2, .inl (cyI, 40, .inl (upd el x1.toNatClampNeg (-1 : Int32)))), (a3, .inl (cyJ, 40, .inr (.inl ab)))] := hD
  refine lv_aload_n hx hb dX1_setKnown_21 rfl (lv_at hl 0 rfl) ?_
  refine va_get (D := (dC, dI)) (ci := 3) (v := .ref a3) (C := RX1) (T := TX1) (N := 5) hx hb hts hin_X1 hown hK hP 0 rfl rfl 3 (by decide) hf_22 (fun _ h9 => h9) rfl dX1_setKnown_22 ?_
  refine lv_iload_n hx hb dX1_setKnown_25 rfl (lv_at hl 1 rfl) ?_
  refine lv_lload hx hb dX1_setKnown_26 (lv_at hl 4 rfl) ?_
  refine lv_iload_n hx hb dX1_setKnown_28 rfl (lv_at hl 1 rfl) ?_
  refine mb_callSl (W.runS (As := [.int x1]) (rest := [.long x4, .int x1, .ref a3]) ⟨hx, hb, hml, hown, hts⟩ (c_X1_bit l x1) (va_cwS 1 hts gX1_setKnown_X1_bit rfl rfl rfl (by decide +kernel) ⟨Nat.le_of_ble_eq_true rfl, Nat.le_of_ble_eq_true rfl⟩) mb_preT rfl rfl hl.1 rfl (lv_room (Nat.le_of_ble_eq_true rfl)) dX1_setKnown_29 ⟨Nat.zero_le _, Nat.zero_le _⟩) ?_
  refine lv_lor hx hb dX1_setKnown_32 ?_
  refine va_last hx hb hK hP hD hS 4 2 rfl rfl g1 dX1_setKnown_33 (fun H locs hP hD hS => ?_)
  have hP : va_P (dC, dI) vwCl [(h1, .inr (3, [.ref a0, .ref a1, .ref a2, .ref a3, .int sz])), (a0, .inl (cyI, 40, .inl (upd so x1.toNatClampNeg x2))), (a1, .inl (cyZ, 40, .inl (upd fi x1.toNatClampNeg (vp_nar .boolean x3)))), (a2, .inl (cyI, 40, .inl (upd el x1.toNatClampNeg (-1 : Int32)))), (a3, .inl (cyJ, 40, .inr (.inl (vp_updL ab x1.toNatClampNeg (x4 ||| (f_X1_bit x1))))))] H := hP
  have hD : va_D A [(h1, .inr (3, [.ref a0, .ref a1, .ref a2, .ref a3, .int sz])), (a0, .inl (cyI, 40, .inl (upd so x1.toNatClampNeg x2))), (a1, .inl (cyZ, 40, .inl (upd fi x1.toNatClampNeg (vp_nar .boolean x3)))), (a2, .inl (cyI, 40, .inl (upd el x1.toNatClampNeg (-1 : Int32)))), (a3, .inl (cyJ, 40, .inr (.inl (vp_updL ab x1.toNatClampNeg (x4 ||| (f_X1_bit x1))))))] := hD
  exact W.vret hx hb hr (fun t ht hW => ⟨⟨((upd so x1.toNatClampNeg x2), (upd fi x1.toNatClampNeg (vp_nar .boolean x3)), (upd el x1.toNatClampNeg (-1 : Int32)), (vp_updL ab x1.toNatClampNeg (x4 ||| (f_X1_bit x1))), sz), rfl, Eq.symm (rfl), by rw [ht]; exact hP, va_K.moved hW.alike hK, hD⟩, hS.F ht⟩) hS.2.2 dX1_setKnown_34
def f_X1_add (so : Nat → Int32) (fi : Nat → Int32) (el : Nat → Int32) (ab : Nat → Int64) (sz : Int32) (x1 : Int32) (x2 : Int32) (x3 : Int64) : Int32 × mb_T1 := (sz, (f_X1_setKnown so fi el ab sz sz x1 x2 x3).1, (f_X1_setKnown so fi el ab sz sz x1 x2 x3).2.1, (f_X1_setKnown so fi el ab sz sz x1 x2 x3).2.2.1, (vp_updL ((f_X1_setKnown so fi el ab sz sz x1 x2 x3).2.2.2.1) (22 : Int32).toNatClampNeg ((((f_X1_setKnown so fi el ab sz sz x1 x2 x3).2.2.2.1) (22 : Int32).toNatClampNeg) ||| (f_X1_bit sz))), (((f_X1_setKnown so fi el ab sz sz x1 x2 x3).2.2.2.2) + (1 : Int32)))
set_option maxHeartbeats 4000000 in
set_option maxRecDepth 100000 in
theorem c_X1_add (l : Launch) (dC : Nat → ClassId) (dI : Nat → Nat → Nat) (cyI cyZ cyJ : ClassId) (h1 a0 a1 a2 a3 : Nat) (so : Nat → Int32) (fi : Nat → Int32) (el : Nat → Int32) (ab : Nat → Int64) (sz : Int32) (hs : Nat) (x1 : Int32) (x2 : Int32) (x3 : Int64) (g1 : vp_in sz 40) : Met l yX1_add wsX1_add ({ frames := 2, cells := 0, slots := 0, locals := 45 }) (va_Pc [.ref h1, .int x1, .int x2, .long x3] (mb_M (dC, dI) (mb_tys cyI cyZ cyJ) hs [(h1, .inr (3, [.ref a0, .ref a1, .ref a2, .ref a3, .int sz])), (a0, .inl (cyI, 40, .inl so)), (a1, .inl (cyZ, 40, .inl fi)), (a2, .inl (cyI, 40, .inl el)), (a3, .inl (cyJ, 40, .inr (.inl ab)))])) (va_Qi (S := mb_T1) (fun r u => (r, u) = f_X1_add so fi el ab sz x1 x2 x3) (fun u t => mb_at dC dI cyI cyZ cyJ (va_A [(h1, .inr (3, [.ref a0, .ref a1, .ref a2, .ref a3, .int sz])), (a0, .inl (cyI, 40, .inl so)), (a1, .inl (cyZ, 40, .inl fi)), (a2, .inl (cyI, 40, .inl el)), (a3, .inl (cyJ, 40, .inr (.inl ab)))] hs) [(h1, .inr (3, [.ref a0, .ref a1, .ref a2, .ref a3, .int u.2.2.2.2])), (a0, .inl (cyI, 40, .inl u.1)), (a1, .inl (cyZ, 40, .inl u.2.1)), (a2, .inl (cyI, 40, .inl u.2.2.1)), (a3, .inl (cyJ, 40, .inr (.inl u.2.2.2.1)))] t) (va_A [(h1, .inr (3, [.ref a0, .ref a1, .ref a2, .ref a3, .int sz])), (a0, .inl (cyI, 40, .inl so)), (a1, .inl (cyZ, 40, .inl fi)), (a2, .inl (cyI, 40, .inl el)), (a3, .inl (cyJ, 40, .inr (.inl ab)))] hs)) 0 0 (va_A [(h1, .inr (3, [.ref a0, .ref a1, .ref a2, .ref a3, .int sz])), (a0, .inl (cyI, 40, .inl so)), (a1, .inl (cyZ, 40, .inl fi)), (a2, .inl (cyI, 40, .inl el)), (a3, .inl (cyJ, 40, .inr (.inl ab)))] hs) := by
  refine Met.ofW (cc := cX1_add) (maxL := 6) (ret := (some .int)) (by decide) rfl ?_
  intro p e s m args below meth c s₁ B hml hv
  obtain ⟨rfl, hsz, hP, hK, hD0⟩ := hv
  have hx := B.exec
  have hb := B.bytes
  have hr := B.returns
  have hts := atoms_spec (ws := wsX1_add) B.pre
  have hown : s.vm.findClass RX1 = some m.cls := findClass_of_methodNamed B.named
  have hlocks := B.notSynchronized
  subst hsz
  have hD := hD0.self (sz := s.heap.size)
  generalize hAe : va_A [(h1, .inr (3, [.ref a0, .ref a1, .ref a2, .ref a3, .int sz])), (a0, .inl (cyI, 40, .inl so)), (a1, .inl (cyZ, 40, .inl fi)), (a2, .inl (cyI, 40, .inl el)), (a3, .inl (cyJ, 40, .inr (.inl ab)))] s.heap.size = A at hD ⊢
  have hA : ∀ q : Nat, s.heap.size ≤ q → A q := fun q h => by rw [← hAe]; exact Or.inr h
  have hS : va_S A s.heap s.heap [] := va_S.rf
  have hP : va_P (dC, dI) vwCl [(h1, .inr (3, [.ref a0, .ref a1, .ref a2, .ref a3, .int sz])), (a0, .inl (cyI, 40, .inl so)), (a1, .inl (cyZ, 40, .inl fi)), (a2, .inl (cyI, 40, .inl el)), (a3, .inl (cyJ, 40, .inr (.inl ab)))] s.heap := hP
  have hP0 : va_P (dC, dI) vwCl [] s.heap := fun k q h => by simp at h
  have hin_X1 : ∀ w ∈ wsX10, w ∈ wsX1_add := by decide +kernel
  have hf_26 := hts (.fieldLink RX1 26 "ConversionTables$TypeTable" "size" "I") (by decide +kernel)
  have hf_22 := hts (.fieldLink RX1 22 "ConversionTables$TypeTable" "aboves" "[J") (by decide +kernel)
  have hl := lv_entry ([.ref h1, .int x1, .int x2, .long x3]) (n := 6) (Nat.le_of_ble_eq_true rfl)
  rw [lg_entry_eq]
  generalize (lg_sl ([.ref h1, .int x1, .int x2, .long x3]) ++ List.replicate (6 - (lg_sl ([.ref h1, .int x1, .int x2, .long x3])).length) Slot.unset).toArray = ls at hl ⊢
  have hl : lv_has ls 6 [(0, .ref h1), (1, .int x1), (2, .int x2), (3, .long x3)] := hl
  refine lv_aload_n hx hb dX1_add_0 rfl (lv_at hl 0 rfl) ?_
  refine va_get (D := (dC, dI)) (ci := 3) (v := .int sz) (C := RX1) (T := TX1) (N := 5) hx hb hts hin_X1 hown hK hP 0 rfl rfl 4 (by decide) hf_26 (fun _ h9 => h9) rfl dX1_add_1 ?_
  refine lv_istore (lv' := [(5, .int sz), (0, .ref h1), (1, .int x1), (2, .int x2), (3, .long x3)]) hx hb dX1_add_4 hl (by decide) rfl (fun ls hl => ?_)
  refine lv_aload_n hx hb dX1_add_6 rfl (lv_at hl 1 rfl) ?_
  refine lv_iload hx hb dX1_add_7 (lv_at hl 0 rfl) ?_
  refine lv_iload_n hx hb dX1_add_9 rfl (lv_at hl 2 rfl) ?_
  refine lv_iload_n hx hb dX1_add_10 rfl (lv_at hl 3 rfl) ?_
  refine lv_lload_n hx hb dX1_add_11 rfl (lv_at hl 4 rfl) ?_
  have hPc := hP.sub (ws' := [(h1, .inr (3, [.ref a0, .ref a1, .ref a2, .ref a3, .int sz])), (a0, .inl (cyI, 40, .inl so)), (a1, .inl (cyZ, 40, .inl fi)), (a2, .inl (cyI, 40, .inl el)), (a3, .inl (cyJ, 40, .inr (.inl ab)))]) [0, 1, 2, 3, 4] rfl
  have hDc := hD.sub (ws' := [(h1, .inr (3, [.ref a0, .ref a1, .ref a2, .ref a3, .int sz])), (a0, .inl (cyI, 40, .inl so)), (a1, .inl (cyZ, 40, .inl fi)), (a2, .inl (cyI, 40, .inl el)), (a3, .inl (cyJ, 40, .inr (.inl ab)))]) [0, 1, 2, 3, 4] (by decide) rfl
  have hFc := va_free (wc := [(h1, .inr (3, [.ref a0, .ref a1, .ref a2, .ref a3, .int sz])), (a0, .inl (cyI, 40, .inl so)), (a1, .inl (cyZ, 40, .inl fi)), (a2, .inl (cyI, 40, .inl el)), (a3, .inl (cyJ, 40, .inr (.inl ab)))]) hD hS hA [0, 1, 2, 3, 4] rfl
  refine mb_callv (va_runV (As := [.int sz, .int x1, .int x2, .long x3]) (rest := []) ⟨hx, hb, hml, hown, hts⟩ (c_X1_setKnown l dC dI cyI cyZ cyJ h1 a0 a1 a2 a3 so fi el ab sz s.heap.size sz x1 x2 x3 g1) (cwV 4 hts gX1_add_X1_setKnown rfl rfl rfl (by decide +kernel) ⟨Nat.le_of_ble_eq_true rfl, Nat.le_of_ble_eq_true rfl⟩) (mb_preM hK hPc hDc (ci := 3) (q0 := 0) rfl rfl) rfl rfl hl.1 rfl (lv_room (Nat.le_of_ble_eq_true rfl)) dX1_add_12 ⟨Nat.zero_le _, Nat.zero_le _⟩) hS (fun q _ h => hFc q h) hFc (fun tq H locs htq hvmq hBq hk1 hS => ?_)
  obtain ⟨hP1, hK1, hD1⟩ := hBq
  rw [htq] at hP1
  obtain ⟨hP, hD⟩ := va_join (wr := []) (w1 := [(h1, .inr (3, [.ref a0, .ref a1, .ref a2, .ref a3, .int ((f_X1_setKnown so fi el ab sz sz x1 x2 x3).2.2.2.2)])), (a0, .inl (cyI, 40, .inl ((f_X1_setKnown so fi el ab sz sz x1 x2 x3).1))), (a1, .inl (cyZ, 40, .inl ((f_X1_setKnown so fi el ab sz sz x1 x2 x3).2.1))), (a2, .inl (cyI, 40, .inl ((f_X1_setKnown so fi el ab sz sz x1 x2 x3).2.2.1))), (a3, .inl (cyJ, 40, .inr (.inl ((f_X1_setKnown so fi el ab sz sz x1 x2 x3).2.2.2.1))))]) hP hD [0, 1, 2, 3, 4] [] rfl rfl (by decide) (by decide) hk1 hFc hP1 hD1
  have hP : va_P (dC, dI) vwCl [(h1, .inr (3, [.ref a0, .ref a1, .ref a2, .ref a3, .int ((f_X1_setKnown so fi el ab sz sz x1 x2 x3).2.2.2.2)])), (a0, .inl (cyI, 40, .inl ((f_X1_setKnown so fi el ab sz sz x1 x2 x3).1))), (a1, .inl (cyZ, 40, .inl ((f_X1_setKnown so fi el ab sz sz x1 x2 x3).2.1))), (a2, .inl (cyI, 40, .inl ((f_X1_setKnown so fi el ab sz sz x1 x2 x3).2.2.1))), (a3, .inl (cyJ, 40, .inr (.inl ((f_X1_setKnown so fi el ab sz sz x1 x2 x3).2.2.2.1))))] H := hP
  have hD : va_D A [(h1, .inr (3, [.ref a0, .ref a1, .ref a2, .ref a3, .int ((f_X1_setKnown so fi el ab sz sz x1 x2 x3).2.2.2.2)])), (a0, .inl (cyI, 40, .inl ((f_X1_setKnown so fi el ab sz sz x1 x2 x3).1))), (a1, .inl (cyZ, 40, .inl ((f_X1_setKnown so fi el ab sz sz x1 x2 x3).2.1))), (a2, .inl (cyI, 40, .inl ((f_X1_setKnown so fi el ab sz sz x1 x2 x3).2.2.1))), (a3, .inl (cyJ, 40, .inr (.inl ((f_X1_setKnown so fi el ab sz sz x1 x2 x3).2.2.2.1))))] := hD
  refine lv_aload_n hx hb dX1_add_15 rfl (lv_at hl 1 rfl) ?_
  refine va_get (D := (dC, dI)) (ci := 3) (v := .ref a3) (C := RX1) (T := TX1) (N := 5) hx hb hts hin_X1 hown hK hP 0 rfl rfl 3 (by decide) hf_22 (fun _ h9 => h9) rfl dX1_add_16 ?_
  refine lv_bipush (v := (22 : Int32)) hx hb dX1_add_19 (by decide) ?_
  refine lv_dup2_11 hx hb dX1_add_21 rfl rfl ?_
  refine va_lald hx hb hK hP 4 2 rfl rfl mb_in22 dX1_add_22 ?_
  refine lv_iload hx hb dX1_add_23 (lv_at hl 0 rfl) ?_
  refine mb_callSl (W.runS (As := [.int sz]) (rest := [.long (((f_X1_setKnown so fi el ab sz sz x1 x2 x3).2.2.2.1) (22 : Int32).toNatClampNeg), .int (22 : Int32), .ref a3]) ⟨hx, hb, hml, hown, hts⟩ (c_X1_bit l sz) (va_cwS 1 hts gX1_add_X1_bit rfl rfl rfl (by decide +kernel) ⟨Nat.le_of_ble_eq_true rfl, Nat.le_of_ble_eq_true rfl⟩) mb_preT rfl rfl hl.1 rfl (lv_room (Nat.le_of_ble_eq_true rfl)) dX1_add_25 ⟨Nat.zero_le _, Nat.zero_le _⟩) ?_
  refine lv_lor hx hb dX1_add_28 ?_
  refine va_last hx hb hK hP hD hS 4 2 rfl rfl mb_in22 dX1_add_29 (fun H locs hP hD hS => ?_)
  have hP : va_P (dC, dI) vwCl [(h1, .inr (3, [.ref a0, .ref a1, .ref a2, .ref a3, .int ((f_X1_setKnown so fi el ab sz sz x1 x2 x3).2.2.2.2)])), (a0, .inl (cyI, 40, .inl ((f_X1_setKnown so fi el ab sz sz x1 x2 x3).1))), (a1, .inl (cyZ, 40, .inl ((f_X1_setKnown so fi el ab sz sz x1 x2 x3).2.1))), (a2, .inl (cyI, 40, .inl ((f_X1_setKnown so fi el ab sz sz x1 x2 x3).2.2.1))), (a3, .inl (cyJ, 40, .inr (.inl (vp_updL ((f_X1_setKnown so fi el ab sz sz x1 x2 x3).2.2.2.1) (22 : Int32).toNatClampNeg ((((f_X1_setKnown so fi el ab sz sz x1 x2 x3).2.2.2.1) (22 : Int32).toNatClampNeg) ||| (f_X1_bit sz))))))] H := hP
  have hD : va_D A [(h1, .inr (3, [.ref a0, .ref a1, .ref a2, .ref a3, .int ((f_X1_setKnown so fi el ab sz sz x1 x2 x3).2.2.2.2)])), (a0, .inl (cyI, 40, .inl ((f_X1_setKnown so fi el ab sz sz x1 x2 x3).1))), (a1, .inl (cyZ, 40, .inl ((f_X1_setKnown so fi el ab sz sz x1 x2 x3).2.1))), (a2, .inl (cyI, 40, .inl ((f_X1_setKnown so fi el ab sz sz x1 x2 x3).2.2.1))), (a3, .inl (cyJ, 40, .inr (.inl (vp_updL ((f_X1_setKnown so fi el ab sz sz x1 x2 x3).2.2.2.1) (22 : Int32).toNatClampNeg ((((f_X1_setKnown so fi el ab sz sz x1 x2 x3).2.2.2.1) (22 : Int32).toNatClampNeg) ||| (f_X1_bit sz))))))] := hD
  refine lv_aload_n hx hb dX1_add_30 rfl (lv_at hl 1 rfl) ?_
  refine lv_dup hx hb dX1_add_31 rfl ?_
  refine va_get (D := (dC, dI)) (ci := 3) (v := .int ((f_X1_setKnown so fi el ab sz sz x1 x2 x3).2.2.2.2)) (C := RX1) (T := TX1) (N := 5) hx hb hts hin_X1 hown hK hP 0 rfl rfl 4 (by decide) hf_26 (fun _ h9 => h9) rfl dX1_add_32 ?_
  refine lv_iconst (v := (1 : Int32)) hx hb dX1_add_35 (by decide) ?_
  refine lv_iadd hx hb dX1_add_36 ?_
  refine va_put (D := (dC, dI)) (ci := 3) (v := .int (((f_X1_setKnown so fi el ab sz sz x1 x2 x3).2.2.2.2) + (1 : Int32))) (ty := .int) (C := RX1) (T := TX1) (N := 5) hx hb hts hin_X1 tyX1 tyX1_ok nmX1 hown hK hP hD hS 0 rfl rfl 4 (by decide) hf_26 (fun _ h9 => h9) rfl (by decide +kernel) rfl rfl (Nat.le_of_ble_eq_true rfl) dX1_add_37 (fun H locs hP hD hS => ?_)
  have hP : va_P (dC, dI) vwCl [(h1, .inr (3, [.ref a0, .ref a1, .ref a2, .ref a3, .int (((f_X1_setKnown so fi el ab sz sz x1 x2 x3).2.2.2.2) + (1 : Int32))])), (a0, .inl (cyI, 40, .inl ((f_X1_setKnown so fi el ab sz sz x1 x2 x3).1))), (a1, .inl (cyZ, 40, .inl ((f_X1_setKnown so fi el ab sz sz x1 x2 x3).2.1))), (a2, .inl (cyI, 40, .inl ((f_X1_setKnown so fi el ab sz sz x1 x2 x3).2.2.1))), (a3, .inl (cyJ, 40, .inr (.inl (vp_updL ((f_X1_setKnown so fi el ab sz sz x1 x2 x3).2.2.2.1) (22 : Int32).toNatClampNeg ((((f_X1_setKnown so fi el ab sz sz x1 x2 x3).2.2.2.1) (22 : Int32).toNatClampNeg) ||| (f_X1_bit sz))))))] H := hP
  have hD : va_D A [(h1, .inr (3, [.ref a0, .ref a1, .ref a2, .ref a3, .int (((f_X1_setKnown so fi el ab sz sz x1 x2 x3).2.2.2.2) + (1 : Int32))])), (a0, .inl (cyI, 40, .inl ((f_X1_setKnown so fi el ab sz sz x1 x2 x3).1))), (a1, .inl (cyZ, 40, .inl ((f_X1_setKnown so fi el ab sz sz x1 x2 x3).2.1))), (a2, .inl (cyI, 40, .inl ((f_X1_setKnown so fi el ab sz sz x1 x2 x3).2.2.1))), (a3, .inl (cyJ, 40, .inr (.inl (vp_updL ((f_X1_setKnown so fi el ab sz sz x1 x2 x3).2.2.2.1) (22 : Int32).toNatClampNeg ((((f_X1_setKnown so fi el ab sz sz x1 x2 x3).2.2.2.1) (22 : Int32).toNatClampNeg) ||| (f_X1_bit sz))))))] := hD
  refine lv_iload hx hb dX1_add_40 (lv_at hl 0 rfl) ?_
  exact W.iret (v := sz) hx hb hr (fun t ht hW => ⟨⟨sz, ((f_X1_setKnown so fi el ab sz sz x1 x2 x3).1, (f_X1_setKnown so fi el ab sz sz x1 x2 x3).2.1, (f_X1_setKnown so fi el ab sz sz x1 x2 x3).2.2.1, (vp_updL ((f_X1_setKnown so fi el ab sz sz x1 x2 x3).2.2.2.1) (22 : Int32).toNatClampNeg ((((f_X1_setKnown so fi el ab sz sz x1 x2 x3).2.2.2.1) (22 : Int32).toNatClampNeg) ||| (f_X1_bit sz))), (((f_X1_setKnown so fi el ab sz sz x1 x2 x3).2.2.2.2) + (1 : Int32))), rfl, Eq.symm (rfl), by rw [ht]; exact hP, va_K.moved hW.alike hK, hD⟩, hS.F ht⟩) hS.2.2 dX1_add_42
def f_X1_addClass (so : Nat → Int32) (fi : Nat → Int32) (el : Nat → Int32) (ab : Nat → Int64) (sz : Int32) (x1 : Int32) (x2 : Int32) (x3 : Int32) : Int32 × mb_T1 := ((f_X1_add so fi el ab sz (1 : Int32) x3 ((ab x1.toNatClampNeg) ||| (f_X1_aboveOrNothing so fi el ab sz x2))).1, (f_X1_add so fi el ab sz (1 : Int32) x3 ((ab x1.toNatClampNeg) ||| (f_X1_aboveOrNothing so fi el ab sz x2))).2.1, (f_X1_add so fi el ab sz (1 : Int32) x3 ((ab x1.toNatClampNeg) ||| (f_X1_aboveOrNothing so fi el ab sz x2))).2.2.1, (f_X1_add so fi el ab sz (1 : Int32) x3 ((ab x1.toNatClampNeg) ||| (f_X1_aboveOrNothing so fi el ab sz x2))).2.2.2.1, (f_X1_add so fi el ab sz (1 : Int32) x3 ((ab x1.toNatClampNeg) ||| (f_X1_aboveOrNothing so fi el ab sz x2))).2.2.2.2.1, (f_X1_add so fi el ab sz (1 : Int32) x3 ((ab x1.toNatClampNeg) ||| (f_X1_aboveOrNothing so fi el ab sz x2))).2.2.2.2.2)
set_option maxHeartbeats 4000000 in
set_option maxRecDepth 100000 in
theorem c_X1_addClass (l : Launch) (dC : Nat → ClassId) (dI : Nat → Nat → Nat) (cyI cyZ cyJ : ClassId) (h1 a0 a1 a2 a3 : Nat) (so : Nat → Int32) (fi : Nat → Int32) (el : Nat → Int32) (ab : Nat → Int64) (sz : Int32) (hs : Nat) (x1 : Int32) (x2 : Int32) (x3 : Int32) (g1 : vp_in x1 40) (g2 : x2 = -1 ∨ vp_in x2 40) (g3 : vp_in sz 40) : Met l yX1_addClass wsX1_addClass ({ frames := 3, cells := 0, slots := 0, locals := 70 }) (va_Pc [.ref h1, .int x1, .int x2, .int x3] (mb_M (dC, dI) (mb_tys cyI cyZ cyJ) hs [(h1, .inr (3, [.ref a0, .ref a1, .ref a2, .ref a3, .int sz])), (a0, .inl (cyI, 40, .inl so)), (a1, .inl (cyZ, 40, .inl fi)), (a2, .inl (cyI, 40, .inl el)), (a3, .inl (cyJ, 40, .inr (.inl ab)))])) (va_Qi (S := mb_T1) (fun r u => (r, u) = f_X1_addClass so fi el ab sz x1 x2 x3) (fun u t => mb_at dC dI cyI cyZ cyJ (va_A [(h1, .inr (3, [.ref a0, .ref a1, .ref a2, .ref a3, .int sz])), (a0, .inl (cyI, 40, .inl so)), (a1, .inl (cyZ, 40, .inl fi)), (a2, .inl (cyI, 40, .inl el)), (a3, .inl (cyJ, 40, .inr (.inl ab)))] hs) [(h1, .inr (3, [.ref a0, .ref a1, .ref a2, .ref a3, .int u.2.2.2.2])), (a0, .inl (cyI, 40, .inl u.1)), (a1, .inl (cyZ, 40, .inl u.2.1)), (a2, .inl (cyI, 40, .inl u.2.2.1)), (a3, .inl (cyJ, 40, .inr (.inl u.2.2.2.1)))] t) (va_A [(h1, .inr (3, [.ref a0, .ref a1, .ref a2, .ref a3, .int sz])), (a0, .inl (cyI, 40, .inl so)), (a1, .inl (cyZ, 40, .inl fi)), (a2, .inl (cyI, 40, .inl el)), (a3, .inl (cyJ, 40, .inr (.inl ab)))] hs)) 0 0 (va_A [(h1, .inr (3, [.ref a0, .ref a1, .ref a2, .ref a3, .int sz])), (a0, .inl (cyI, 40, .inl so)), (a1, .inl (cyZ, 40, .inl fi)), (a2, .inl (cyI, 40, .inl el)), (a3, .inl (cyJ, 40, .inr (.inl ab)))] hs) := by
  refine Met.ofW (cc := cX1_addClass) (maxL := 4) (ret := (some .int)) (by decide) rfl ?_
  intro p e s m args below meth c s₁ B hml hv
  obtain ⟨rfl, hsz, hP, hK, hD0⟩ := hv
  have hx := B.exec
  have hb := B.bytes
  have hr := B.returns
  have hts := atoms_spec (ws := wsX1_addClass) B.pre
  have hown : s.vm.findClass RX1 = some m.cls := findClass_of_methodNamed B.named
  have hlocks := B.notSynchronized
  subst hsz
  have hD := hD0.self (sz := s.heap.size)
  generalize hAe : va_A [(h1, .inr (3, [.ref a0, .ref a1, .ref a2, .ref a3, .int sz])), (a0, .inl (cyI, 40, .inl so)), (a1, .inl (cyZ, 40, .inl fi)), (a2, .inl (cyI, 40, .inl el)), (a3, .inl (cyJ, 40, .inr (.inl ab)))] s.heap.size = A at hD ⊢
  have hA : ∀ q : Nat, s.heap.size ≤ q → A q := fun q h => by rw [← hAe]; exact Or.inr h
  have hS : va_S A s.heap s.heap [] := va_S.rf
  have hP : va_P (dC, dI) vwCl [(h1, .inr (3, [.ref a0, .ref a1, .ref a2, .ref a3, .int sz])), (a0, .inl (cyI, 40, .inl so)), (a1, .inl (cyZ, 40, .inl fi)), (a2, .inl (cyI, 40, .inl el)), (a3, .inl (cyJ, 40, .inr (.inl ab)))] s.heap := hP
  have hP0 : va_P (dC, dI) vwCl [] s.heap := fun k q h => by simp at h
  have hin_X1 : ∀ w ∈ wsX10, w ∈ wsX1_addClass := by decide +kernel
  have hf_22 := hts (.fieldLink RX1 22 "ConversionTables$TypeTable" "aboves" "[J") (by decide +kernel)
  have hl := lv_entry ([.ref h1, .int x1, .int x2, .int x3]) (n := 4) (Nat.le_of_ble_eq_true rfl)
  rw [lg_entry_eq]
  generalize (lg_sl ([.ref h1, .int x1, .int x2, .int x3]) ++ List.replicate (4 - (lg_sl ([.ref h1, .int x1, .int x2, .int x3])).length) Slot.unset).toArray = ls at hl ⊢
  have hl : lv_has ls 4 [(0, .ref h1), (1, .int x1), (2, .int x2), (3, .int x3)] := hl
  refine lv_aload_n hx hb dX1_addClass_0 rfl (lv_at hl 0 rfl) ?_
  refine lv_iconst (v := (1 : Int32)) hx hb dX1_addClass_1 (by decide) ?_
  refine lv_iload_n hx hb dX1_addClass_2 rfl (lv_at hl 3 rfl) ?_
  refine lv_aload_n hx hb dX1_addClass_3 rfl (lv_at hl 0 rfl) ?_
  refine va_get (D := (dC, dI)) (ci := 3) (v := .ref a3) (C := RX1) (T := TX1) (N := 5) hx hb hts hin_X1 hown hK hP 0 rfl rfl 3 (by decide) hf_22 (fun _ h9 => h9) rfl dX1_addClass_4 ?_
  refine lv_iload_n hx hb dX1_addClass_7 rfl (lv_at hl 1 rfl) ?_
  refine va_lald hx hb hK hP 4 2 rfl rfl g1 dX1_addClass_8 ?_
  refine lv_aload_n hx hb dX1_addClass_9 rfl (lv_at hl 0 rfl) ?_
  refine lv_iload_n hx hb dX1_addClass_10 rfl (lv_at hl 2 rfl) ?_
  refine mb_callSl (W.runV (As := [.int x2]) (rest := [.long (ab x1.toNatClampNeg), .int x3, .int (1 : Int32), .ref h1]) ⟨hx, hb, hml, hown, hts⟩ (c_X1_aboveOrNothing l dC dI cyI cyZ cyJ h1 a0 a1 a2 a3 so fi el ab sz x2 g2) (cwV 1 hts gX1_addClass_X1_aboveOrNothing rfl rfl rfl (by decide +kernel) ⟨Nat.le_of_ble_eq_true rfl, Nat.le_of_ble_eq_true rfl⟩) (mb_preV hK hP (ci := 3) (q0 := 0) rfl rfl) rfl rfl hl.1 rfl (lv_room (Nat.le_of_ble_eq_true rfl)) dX1_addClass_11 ⟨Nat.zero_le _, Nat.zero_le _⟩) ?_
  refine lv_lor hx hb dX1_addClass_14 ?_
  have hPc := hP.sub (ws' := [(h1, .inr (3, [.ref a0, .ref a1, .ref a2, .ref a3, .int sz])), (a0, .inl (cyI, 40, .inl so)), (a1, .inl (cyZ, 40, .inl fi)), (a2, .inl (cyI, 40, .inl el)), (a3, .inl (cyJ, 40, .inr (.inl ab)))]) [0, 1, 2, 3, 4] rfl
  have hDc := hD.sub (ws' := [(h1, .inr (3, [.ref a0, .ref a1, .ref a2, .ref a3, .int sz])), (a0, .inl (cyI, 40, .inl so)), (a1, .inl (cyZ, 40, .inl fi)), (a2, .inl (cyI, 40, .inl el)), (a3, .inl (cyJ, 40, .inr (.inl ab)))]) [0, 1, 2, 3, 4] (by decide) rfl
  have hFc := va_free (wc := [(h1, .inr (3, [.ref a0, .ref a1, .ref a2, .ref a3, .int sz])), (a0, .inl (cyI, 40, .inl so)), (a1, .inl (cyZ, 40, .inl fi)), (a2, .inl (cyI, 40, .inl el)), (a3, .inl (cyJ, 40, .inr (.inl ab)))]) hD hS hA [0, 1, 2, 3, 4] rfl
  refine mb_calli (va_runV (As := [.int (1 : Int32), .int x3, .long ((ab x1.toNatClampNeg) ||| (f_X1_aboveOrNothing so fi el ab sz x2))]) (rest := []) ⟨hx, hb, hml, hown, hts⟩ (c_X1_add l dC dI cyI cyZ cyJ h1 a0 a1 a2 a3 so fi el ab sz s.heap.size (1 : Int32) x3 ((ab x1.toNatClampNeg) ||| (f_X1_aboveOrNothing so fi el ab sz x2)) g3) (cwV 3 hts gX1_addClass_X1_add rfl rfl rfl (by decide +kernel) ⟨Nat.le_of_ble_eq_true rfl, Nat.le_of_ble_eq_true rfl⟩) (mb_preM hK hPc hDc (ci := 3) (q0 := 0) rfl rfl) rfl rfl hl.1 rfl (lv_room (Nat.le_of_ble_eq_true rfl)) dX1_addClass_15 ⟨Nat.zero_le _, Nat.zero_le _⟩) hS (fun q _ h => hFc q h) hFc (fun tq H locs htq hvmq hBq hk1 hS => ?_)
  obtain ⟨hP1, hK1, hD1⟩ := hBq
  rw [htq] at hP1
  obtain ⟨hP, hD⟩ := va_join (wr := []) (w1 := [(h1, .inr (3, [.ref a0, .ref a1, .ref a2, .ref a3, .int ((f_X1_add so fi el ab sz (1 : Int32) x3 ((ab x1.toNatClampNeg) ||| (f_X1_aboveOrNothing so fi el ab sz x2))).2.2.2.2.2)])), (a0, .inl (cyI, 40, .inl ((f_X1_add so fi el ab sz (1 : Int32) x3 ((ab x1.toNatClampNeg) ||| (f_X1_aboveOrNothing so fi el ab sz x2))).2.1))), (a1, .inl (cyZ, 40, .inl ((f_X1_add so fi el ab sz (1 : Int32) x3 ((ab x1.toNatClampNeg) ||| (f_X1_aboveOrNothing so fi el ab sz x2))).2.2.1))), (a2, .inl (cyI, 40, .inl ((f_X1_add so fi el ab sz (1 : Int32) x3 ((ab x1.toNatClampNeg) ||| (f_X1_aboveOrNothing so fi el ab sz x2))).2.2.2.1))), (a3, .inl (cyJ, 40, .inr (.inl ((f_X1_add so fi el ab sz (1 : Int32) x3 ((ab x1.toNatClampNeg) ||| (f_X1_aboveOrNothing so fi el ab sz x2))).2.2.2.2.1))))]) hP hD [0, 1, 2, 3, 4] [] rfl rfl (by decide) (by decide) hk1 hFc hP1 hD1
  have hP : va_P (dC, dI) vwCl [(h1, .inr (3, [.ref a0, .ref a1, .ref a2, .ref a3, .int ((f_X1_add so fi el ab sz (1 : Int32) x3 ((ab x1.toNatClampNeg) ||| (f_X1_aboveOrNothing so fi el ab sz x2))).2.2.2.2.2)])), (a0, .inl (cyI, 40, .inl ((f_X1_add so fi el ab sz (1 : Int32) x3 ((ab x1.toNatClampNeg) ||| (f_X1_aboveOrNothing so fi el ab sz x2))).2.1))), (a1, .inl (cyZ, 40, .inl ((f_X1_add so fi el ab sz (1 : Int32) x3 ((ab x1.toNatClampNeg) ||| (f_X1_aboveOrNothing so fi el ab sz x2))).2.2.1))), (a2, .inl (cyI, 40, .inl ((f_X1_add so fi el ab sz (1 : Int32) x3 ((ab x1.toNatClampNeg) ||| (f_X1_aboveOrNothing so fi el ab sz x2))).2.2.2.1))), (a3, .inl (cyJ, 40, .inr (.inl ((f_X1_add so fi el ab sz (1 : Int32) x3 ((ab x1.toNatClampNeg) ||| (f_X1_aboveOrNothing so fi el ab sz x2))).2.2.2.2.1))))] H := hP
  have hD : va_D A [(h1, .inr (3, [.ref a0, .ref a1, .ref a2, .ref a3, .int ((f_X1_add so fi el ab sz (1 : Int32) x3 ((ab x1.toNatClampNeg) ||| (f_X1_aboveOrNothing so fi el ab sz x2))).2.2.2.2.2)])), (a0, .inl (cyI, 40, .inl ((f_X1_add so fi el ab sz (1 : Int32) x3 ((ab x1.toNatClampNeg) ||| (f_X1_aboveOrNothing so fi el ab sz x2))).2.1))), (a1, .inl (cyZ, 40, .inl ((f_X1_add so fi el ab sz (1 : Int32) x3 ((ab x1.toNatClampNeg) ||| (f_X1_aboveOrNothing so fi el ab sz x2))).2.2.1))), (a2, .inl (cyI, 40, .inl ((f_X1_add so fi el ab sz (1 : Int32) x3 ((ab x1.toNatClampNeg) ||| (f_X1_aboveOrNothing so fi el ab sz x2))).2.2.2.1))), (a3, .inl (cyJ, 40, .inr (.inl ((f_X1_add so fi el ab sz (1 : Int32) x3 ((ab x1.toNatClampNeg) ||| (f_X1_aboveOrNothing so fi el ab sz x2))).2.2.2.2.1))))] := hD
  exact W.iret (v := (f_X1_add so fi el ab sz (1 : Int32) x3 ((ab x1.toNatClampNeg) ||| (f_X1_aboveOrNothing so fi el ab sz x2))).1) hx hb hr (fun t ht hW => ⟨⟨(f_X1_add so fi el ab sz (1 : Int32) x3 ((ab x1.toNatClampNeg) ||| (f_X1_aboveOrNothing so fi el ab sz x2))).1, ((f_X1_add so fi el ab sz (1 : Int32) x3 ((ab x1.toNatClampNeg) ||| (f_X1_aboveOrNothing so fi el ab sz x2))).2.1, (f_X1_add so fi el ab sz (1 : Int32) x3 ((ab x1.toNatClampNeg) ||| (f_X1_aboveOrNothing so fi el ab sz x2))).2.2.1, (f_X1_add so fi el ab sz (1 : Int32) x3 ((ab x1.toNatClampNeg) ||| (f_X1_aboveOrNothing so fi el ab sz x2))).2.2.2.1, (f_X1_add so fi el ab sz (1 : Int32) x3 ((ab x1.toNatClampNeg) ||| (f_X1_aboveOrNothing so fi el ab sz x2))).2.2.2.2.1, (f_X1_add so fi el ab sz (1 : Int32) x3 ((ab x1.toNatClampNeg) ||| (f_X1_aboveOrNothing so fi el ab sz x2))).2.2.2.2.2), rfl, Eq.symm (rfl), by rw [ht]; exact hP, va_K.moved hW.alike hK, hD⟩, hS.F ht⟩) hS.2.2 dX1_addClass_18
def f_X1_addInterface_z_1 (so : Nat → Int32) (fi : Nat → Int32) (el : Nat → Int32) (ab : Nat → Int64) (sz : Int32) (x1 : Int32) (x2 : Int32) (z_1 : Int64) : Int32 × mb_T1 := ((f_X1_add so fi el ab sz (2 : Int32) (0 : Int32) z_1).1, (f_X1_add so fi el ab sz (2 : Int32) (0 : Int32) z_1).2.1, (f_X1_add so fi el ab sz (2 : Int32) (0 : Int32) z_1).2.2.1, (f_X1_add so fi el ab sz (2 : Int32) (0 : Int32) z_1).2.2.2.1, (f_X1_add so fi el ab sz (2 : Int32) (0 : Int32) z_1).2.2.2.2.1, (f_X1_add so fi el ab sz (2 : Int32) (0 : Int32) z_1).2.2.2.2.2)
def f_X1_addInterface (so : Nat → Int32) (fi : Nat → Int32) (el : Nat → Int32) (ab : Nat → Int64) (sz : Int32) (x1 : Int32) (x2 : Int32) : Int32 × mb_T1 := f_X1_addInterface_z_1 so fi el ab sz x1 x2 (((ab (16 : Int32).toNatClampNeg) ||| (f_X1_aboveOrNothing so fi el ab sz x1)) ||| (f_X1_aboveOrNothing so fi el ab sz x2))
set_option maxHeartbeats 4000000 in
set_option maxRecDepth 100000 in
theorem c_X1_addInterface (l : Launch) (dC : Nat → ClassId) (dI : Nat → Nat → Nat) (cyI cyZ cyJ : ClassId) (h1 a0 a1 a2 a3 : Nat) (so : Nat → Int32) (fi : Nat → Int32) (el : Nat → Int32) (ab : Nat → Int64) (sz : Int32) (hs : Nat) (x1 : Int32) (x2 : Int32) (g1 : x1 = -1 ∨ vp_in x1 40) (g2 : x2 = -1 ∨ vp_in x2 40) (g3 : vp_in sz 40) : Met l yX1_addInterface wsX1_addInterface ({ frames := 3, cells := 0, slots := 0, locals := 70 }) (va_Pc [.ref h1, .int x1, .int x2] (mb_M (dC, dI) (mb_tys cyI cyZ cyJ) hs [(h1, .inr (3, [.ref a0, .ref a1, .ref a2, .ref a3, .int sz])), (a0, .inl (cyI, 40, .inl so)), (a1, .inl (cyZ, 40, .inl fi)), (a2, .inl (cyI, 40, .inl el)), (a3, .inl (cyJ, 40, .inr (.inl ab)))])) (va_Qi (S := mb_T1) (fun r u => (r, u) = f_X1_addInterface so fi el ab sz x1 x2) (fun u t => mb_at dC dI cyI cyZ cyJ (va_A [(h1, .inr (3, [.ref a0, .ref a1, .ref a2, .ref a3, .int sz])), (a0, .inl (cyI, 40, .inl so)), (a1, .inl (cyZ, 40, .inl fi)), (a2, .inl (cyI, 40, .inl el)), (a3, .inl (cyJ, 40, .inr (.inl ab)))] hs) [(h1, .inr (3, [.ref a0, .ref a1, .ref a2, .ref a3, .int u.2.2.2.2])), (a0, .inl (cyI, 40, .inl u.1)), (a1, .inl (cyZ, 40, .inl u.2.1)), (a2, .inl (cyI, 40, .inl u.2.2.1)), (a3, .inl (cyJ, 40, .inr (.inl u.2.2.2.1)))] t) (va_A [(h1, .inr (3, [.ref a0, .ref a1, .ref a2, .ref a3, .int sz])), (a0, .inl (cyI, 40, .inl so)), (a1, .inl (cyZ, 40, .inl fi)), (a2, .inl (cyI, 40, .inl el)), (a3, .inl (cyJ, 40, .inr (.inl ab)))] hs)) 0 0 (va_A [(h1, .inr (3, [.ref a0, .ref a1, .ref a2, .ref a3, .int sz])), (a0, .inl (cyI, 40, .inl so)), (a1, .inl (cyZ, 40, .inl fi)), (a2, .inl (cyI, 40, .inl el)), (a3, .inl (cyJ, 40, .inr (.inl ab)))] hs) := by
  refine Met.ofW (cc := cX1_addInterface) (maxL := 5) (ret := (some .int)) (by decide) rfl ?_
  intro p e s m args below meth c s₁ B hml hv
  obtain ⟨rfl, hsz, hP, hK, hD0⟩ := hv
  have hx := B.exec
  have hb := B.bytes
  have hr := B.returns
  have hts := atoms_spec (ws := wsX1_addInterface) B.pre
  have hown : s.vm.findClass RX1 = some m.cls := findClass_of_methodNamed B.named
  have hlocks := B.notSynchronized
  subst hsz
  have hD := hD0.self (sz := s.heap.size)
  generalize hAe : va_A [(h1, .inr (3, [.ref a0, .ref a1, .ref a2, .ref a3, .int sz])), (a0, .inl (cyI, 40, .inl so)), (a1, .inl (cyZ, 40, .inl fi)), (a2, .inl (cyI, 40, .inl el)), (a3, .inl (cyJ, 40, .inr (.inl ab)))] s.heap.size = A at hD ⊢
  have hA : ∀ q : Nat, s.heap.size ≤ q → A q := fun q h => by rw [← hAe]; exact Or.inr h
  have hS : va_S A s.heap s.heap [] := va_S.rf
  have hP : va_P (dC, dI) vwCl [(h1, .inr (3, [.ref a0, .ref a1, .ref a2, .ref a3, .int sz])), (a0, .inl (cyI, 40, .inl so)), (a1, .inl (cyZ, 40, .inl fi)), (a2, .inl (cyI, 40, .inl el)), (a3, .inl (cyJ, 40, .inr (.inl ab)))] s.heap := hP
  have hP0 : va_P (dC, dI) vwCl [] s.heap := fun k q h => by simp at h
  have hin_X1 : ∀ w ∈ wsX10, w ∈ wsX1_addInterface := by decide +kernel
  have hf_22 := hts (.fieldLink RX1 22 "ConversionTables$TypeTable" "aboves" "[J") (by decide +kernel)
  have hl := lv_entry ([.ref h1, .int x1, .int x2]) (n := 5) (Nat.le_of_ble_eq_true rfl)
  rw [lg_entry_eq]
  generalize (lg_sl ([.ref h1, .int x1, .int x2]) ++ List.replicate (5 - (lg_sl ([.ref h1, .int x1, .int x2])).length) Slot.unset).toArray = ls at hl ⊢
  have hl : lv_has ls 5 [(0, .ref h1), (1, .int x1), (2, .int x2)] := hl
  refine lv_aload_n hx hb dX1_addInterface_0 rfl (lv_at hl 0 rfl) ?_
  refine va_get (D := (dC, dI)) (ci := 3) (v := .ref a3) (C := RX1) (T := TX1) (N := 5) hx hb hts hin_X1 hown hK hP 0 rfl rfl 3 (by decide) hf_22 (fun _ h9 => h9) rfl dX1_addInterface_1 ?_
  refine lv_bipush (v := (16 : Int32)) hx hb dX1_addInterface_4 (by decide) ?_
  refine va_lald hx hb hK hP 4 2 rfl rfl mb_in16 dX1_addInterface_6 ?_
  refine lv_aload_n hx hb dX1_addInterface_7 rfl (lv_at hl 0 rfl) ?_
  refine lv_iload_n hx hb dX1_addInterface_8 rfl (lv_at hl 1 rfl) ?_
  refine mb_callSl (W.runV (As := [.int x1]) (rest := [.long (ab (16 : Int32).toNatClampNeg)]) ⟨hx, hb, hml, hown, hts⟩ (c_X1_aboveOrNothing l dC dI cyI cyZ cyJ h1 a0 a1 a2 a3 so fi el ab sz x1 g1) (cwV 1 hts gX1_addInterface_X1_aboveOrNothing rfl rfl rfl (by decide +kernel) ⟨Nat.le_of_ble_eq_true rfl, Nat.le_of_ble_eq_true rfl⟩) (mb_preV hK hP (ci := 3) (q0 := 0) rfl rfl) rfl rfl hl.1 rfl (lv_room (Nat.le_of_ble_eq_true rfl)) dX1_addInterface_9 ⟨Nat.zero_le _, Nat.zero_le _⟩) ?_
  refine lv_lor hx hb dX1_addInterface_12 ?_
  refine lv_aload_n hx hb dX1_addInterface_13 rfl (lv_at hl 0 rfl) ?_
  refine lv_iload_n hx hb dX1_addInterface_14 rfl (lv_at hl 2 rfl) ?_
  refine mb_callSl (W.runV (As := [.int x2]) (rest := [.long ((ab (16 : Int32).toNatClampNeg) ||| (f_X1_aboveOrNothing so fi el ab sz x1))]) ⟨hx, hb, hml, hown, hts⟩ (c_X1_aboveOrNothing l dC dI cyI cyZ cyJ h1 a0 a1 a2 a3 so fi el ab sz x2 g2) (cwV 1 hts gX1_addInterface_X1_aboveOrNothing rfl rfl rfl (by decide +kernel) ⟨Nat.le_of_ble_eq_true rfl, Nat.le_of_ble_eq_true rfl⟩) (mb_preV hK hP (ci := 3) (q0 := 0) rfl rfl) rfl rfl hl.1 rfl (lv_room (Nat.le_of_ble_eq_true rfl)) dX1_addInterface_15 ⟨Nat.zero_le _, Nat.zero_le _⟩) ?_
  refine lv_lor hx hb dX1_addInterface_18 ?_
  refine lv_topl (fun z_1 ez_1 => ?_)
  refine lv_lstore_n (lv' := [(3, .long z_1), (0, .ref h1), (1, .int x1), (2, .int x2)]) hx hb dX1_addInterface_19 rfl hl (by decide) rfl (fun ls hl => ?_)
  refine lv_aload_n hx hb dX1_addInterface_20 rfl (lv_at hl 1 rfl) ?_
  refine lv_iconst (v := (2 : Int32)) hx hb dX1_addInterface_21 (by decide) ?_
  refine lv_iconst (v := (0 : Int32)) hx hb dX1_addInterface_22 (by decide) ?_
  refine lv_lload_n hx hb dX1_addInterface_23 rfl (lv_at hl 0 rfl) ?_
  have hPc := hP.sub (ws' := [(h1, .inr (3, [.ref a0, .ref a1, .ref a2, .ref a3, .int sz])), (a0, .inl (cyI, 40, .inl so)), (a1, .inl (cyZ, 40, .inl fi)), (a2, .inl (cyI, 40, .inl el)), (a3, .inl (cyJ, 40, .inr (.inl ab)))]) [0, 1, 2, 3, 4] rfl
  have hDc := hD.sub (ws' := [(h1, .inr (3, [.ref a0, .ref a1, .ref a2, .ref a3, .int sz])), (a0, .inl (cyI, 40, .inl so)), (a1, .inl (cyZ, 40, .inl fi)), (a2, .inl (cyI, 40, .inl el)), (a3, .inl (cyJ, 40, .inr (.inl ab)))]) [0, 1, 2, 3, 4] (by decide) rfl
  have hFc := va_free (wc := [(h1, .inr (3, [.ref a0, .ref a1, .ref a2, .ref a3, .int sz])), (a0, .inl (cyI, 40, .inl so)), (a1, .inl (cyZ, 40, .inl fi)), (a2, .inl (cyI, 40, .inl el)), (a3, .inl (cyJ, 40, .inr (.inl ab)))]) hD hS hA [0, 1, 2, 3, 4] rfl
  refine mb_calli (va_runV (As := [.int (2 : Int32), .int (0 : Int32), .long z_1]) (rest := []) ⟨hx, hb, hml, hown, hts⟩ (c_X1_add l dC dI cyI cyZ cyJ h1 a0 a1 a2 a3 so fi el ab sz s.heap.size (2 : Int32) (0 : Int32) z_1 g3) (cwV 3 hts gX1_addInterface_X1_add rfl rfl rfl (by decide +kernel) ⟨Nat.le_of_ble_eq_true rfl, Nat.le_of_ble_eq_true rfl⟩) (mb_preM hK hPc hDc (ci := 3) (q0 := 0) rfl rfl) rfl rfl hl.1 rfl (lv_room (Nat.le_of_ble_eq_true rfl)) dX1_addInterface_24 ⟨Nat.zero_le _, Nat.zero_le _⟩) hS (fun q _ h => hFc q h) hFc (fun tq H locs htq hvmq hBq hk1 hS => ?_)
  obtain ⟨hP1, hK1, hD1⟩ := hBq
  rw [htq] at hP1
  obtain ⟨hP, hD⟩ := va_join (wr := []) (w1 := [(h1, .inr (3, [.ref a0, .ref a1, .ref a2, .ref a3, .int ((f_X1_add so fi el ab sz (2 : Int32) (0 : Int32) z_1).2.2.2.2.2)])), (a0, .inl (cyI, 40, .inl ((f_X1_add so fi el ab sz (2 : Int32) (0 : Int32) z_1).2.1))), (a1, .inl (cyZ, 40, .inl ((f_X1_add so fi el ab sz (2 : Int32) (0 : Int32) z_1).2.2.1))), (a2, .inl (cyI, 40, .inl ((f_X1_add so fi el ab sz (2 : Int32) (0 : Int32) z_1).2.2.2.1))), (a3, .inl (cyJ, 40, .inr (.inl ((f_X1_add so fi el ab sz (2 : Int32) (0 : Int32) z_1).2.2.2.2.1))))]) hP hD [0, 1, 2, 3, 4] [] rfl rfl (by decide) (by decide) hk1 hFc hP1 hD1
  have hP : va_P (dC, dI) vwCl [(h1, .inr (3, [.ref a0, .ref a1, .ref a2, .ref a3, .int ((f_X1_add so fi el ab sz (2 : Int32) (0 : Int32) z_1).2.2.2.2.2)])), (a0, .inl (cyI, 40, .inl ((f_X1_add so fi el ab sz (2 : Int32) (0 : Int32) z_1).2.1))), (a1, .inl (cyZ, 40, .inl ((f_X1_add so fi el ab sz (2 : Int32) (0 : Int32) z_1).2.2.1))), (a2, .inl (cyI, 40, .inl ((f_X1_add so fi el ab sz (2 : Int32) (0 : Int32) z_1).2.2.2.1))), (a3, .inl (cyJ, 40, .inr (.inl ((f_X1_add so fi el ab sz (2 : Int32) (0 : Int32) z_1).2.2.2.2.1))))] H := hP
  have hD : va_D A [(h1, .inr (3, [.ref a0, .ref a1, .ref a2, .ref a3, .int ((f_X1_add so fi el ab sz (2 : Int32) (0 : Int32) z_1).2.2.2.2.2)])), (a0, .inl (cyI, 40, .inl ((f_X1_add so fi el ab sz (2 : Int32) (0 : Int32) z_1).2.1))), (a1, .inl (cyZ, 40, .inl ((f_X1_add so fi el ab sz (2 : Int32) (0 : Int32) z_1).2.2.1))), (a2, .inl (cyI, 40, .inl ((f_X1_add so fi el ab sz (2 : Int32) (0 : Int32) z_1).2.2.2.1))), (a3, .inl (cyJ, 40, .inr (.inl ((f_X1_add so fi el ab sz (2 : Int32) (0 : Int32) z_1).2.2.2.2.1))))] := hD
  exact W.iret (v := (f_X1_add so fi el ab sz (2 : Int32) (0 : Int32) z_1).1) hx hb hr (fun t ht hW => ⟨⟨(f_X1_add so fi el ab sz (2 : Int32) (0 : Int32) z_1).1, ((f_X1_add so fi el ab sz (2 : Int32) (0 : Int32) z_1).2.1, (f_X1_add so fi el ab sz (2 : Int32) (0 : Int32) z_1).2.2.1, (f_X1_add so fi el ab sz (2 : Int32) (0 : Int32) z_1).2.2.2.1, (f_X1_add so fi el ab sz (2 : Int32) (0 : Int32) z_1).2.2.2.2.1, (f_X1_add so fi el ab sz (2 : Int32) (0 : Int32) z_1).2.2.2.2.2), rfl, Eq.symm ((congrArg (f_X1_addInterface_z_1 so fi el ab sz x1 x2) (Eq.symm ez_1)).trans (rfl)), by rw [ht]; exact hP, va_K.moved hW.alike hK, hD⟩, hS.F ht⟩) hS.2.2 dX1_addInterface_27
def f_X1_placeArrays_32 (so : Nat → Int32) (fi : Nat → Int32) (el : Nat → Int32) (ab : Nat → Int64) (sz : Int32) (x1 : Int32) (x2 : Int32) (ab2 : Nat → Int64) : ((Nat → Int64)) := if (f_X1_isUnder so fi el ab2 sz (el x2.toNatClampNeg) (el x1.toNatClampNeg)) = 0 then ab2
  else (vp_updL ab2 x2.toNatClampNeg ((ab2 x2.toNatClampNeg) ||| (f_X1_bit x1)))
def f_X1_placeArrays (so : Nat → Int32) (fi : Nat → Int32) (el : Nat → Int32) (ab : Nat → Int64) (sz : Int32) (x1 : Int32) (x2 : Int32) : ((Nat → Int64)) := if (f_X1_isUnder so fi el ab sz (el x1.toNatClampNeg) (el x2.toNatClampNeg)) = 0 then f_X1_placeArrays_32 so fi el ab sz x1 x2 ab
  else f_X1_placeArrays_32 so fi el ab sz x1 x2 (vp_updL ab x1.toNatClampNeg ((ab x1.toNatClampNeg) ||| (f_X1_bit x2)))
set_option maxHeartbeats 4000000 in
set_option maxRecDepth 100000 in
theorem c_X1_placeArrays (l : Launch) (dC : Nat → ClassId) (dI : Nat → Nat → Nat) (cyI cyZ cyJ : ClassId) (h1 a0 a1 a2 a3 : Nat) (so : Nat → Int32) (fi : Nat → Int32) (el : Nat → Int32) (ab : Nat → Int64) (sz : Int32) (hs : Nat) (x1 : Int32) (x2 : Int32) (g1 : vp_in x1 40) (g2 : vp_in x2 40) (g3 : vp_in (el x1.toNatClampNeg) 40) (g4 : vp_in (el x2.toNatClampNeg) 40) : Met l yX1_placeArrays wsX1_placeArrays ({ frames := 2, cells := 0, slots := 0, locals := 42 }) (va_Pc [.ref h1, .int x1, .int x2] (mb_M (dC, dI) (mb_tys cyI cyZ cyJ) hs [(h1, .inr (3, [.ref a0, .ref a1, .ref a2, .ref a3, .int sz])), (a0, .inl (cyI, 40, .inl so)), (a1, .inl (cyZ, 40, .inl fi)), (a2, .inl (cyI, 40, .inl el)), (a3, .inl (cyJ, 40, .inr (.inl ab)))])) (va_Qv (S := ((Nat → Int64))) (fun u => u = f_X1_placeArrays so fi el ab sz x1 x2) (fun u t => mb_at dC dI cyI cyZ cyJ (va_A [(h1, .inr (3, [.ref a0, .ref a1, .ref a2, .ref a3, .int sz])), (a0, .inl (cyI, 40, .inl so)), (a1, .inl (cyZ, 40, .inl fi)), (a2, .inl (cyI, 40, .inl el)), (a3, .inl (cyJ, 40, .inr (.inl ab)))] hs) [(h1, .inr (3, [.ref a0, .ref a1, .ref a2, .ref a3, .int sz])), (a0, .inl (cyI, 40, .inl so)), (a1, .inl (cyZ, 40, .inl fi)), (a2, .inl (cyI, 40, .inl el)), (a3, .inl (cyJ, 40, .inr (.inl u)))] t) (va_A [(h1, .inr (3, [.ref a0, .ref a1, .ref a2, .ref a3, .int sz])), (a0, .inl (cyI, 40, .inl so)), (a1, .inl (cyZ, 40, .inl fi)), (a2, .inl (cyI, 40, .inl el)), (a3, .inl (cyJ, 40, .inr (.inl ab)))] hs)) 0 0 (va_A [(h1, .inr (3, [.ref a0, .ref a1, .ref a2, .ref a3, .int sz])), (a0, .inl (cyI, 40, .inl so)), (a1, .inl (cyZ, 40, .inl fi)), (a2, .inl (cyI, 40, .inl el)), (a3, .inl (cyJ, 40, .inr (.inl ab)))] hs) := by
  refine Met.ofW (cc := cX1_placeArrays) (maxL := 3) (ret := none) (by decide) rfl ?_
  intro p e s m args below meth c s₁ B hml hv
  obtain ⟨rfl, hsz, hP, hK, hD0⟩ := hv
  have hx := B.exec
  have hb := B.bytes
  have hr := B.returns
  have hts := atoms_spec (ws := wsX1_placeArrays) B.pre
  have hown : s.vm.findClass RX1 = some m.cls := findClass_of_methodNamed B.named
  have hlocks := B.notSynchronized
  subst hsz
  have hD := hD0.self (sz := s.heap.size)
  generalize hAe : va_A [(h1, .inr (3, [.ref a0, .ref a1, .ref a2, .ref a3, .int sz])), (a0, .inl (cyI, 40, .inl so)), (a1, .inl (cyZ, 40, .inl fi)), (a2, .inl (cyI, 40, .inl el)), (a3, .inl (cyJ, 40, .inr (.inl ab)))] s.heap.size = A at hD ⊢
  have hA : ∀ q : Nat, s.heap.size ≤ q → A q := fun q h => by rw [← hAe]; exact Or.inr h
  have hS : va_S A s.heap s.heap [] := va_S.rf
  have hP : va_P (dC, dI) vwCl [(h1, .inr (3, [.ref a0, .ref a1, .ref a2, .ref a3, .int sz])), (a0, .inl (cyI, 40, .inl so)), (a1, .inl (cyZ, 40, .inl fi)), (a2, .inl (cyI, 40, .inl el)), (a3, .inl (cyJ, 40, .inr (.inl ab)))] s.heap := hP
  have hP0 : va_P (dC, dI) vwCl [] s.heap := fun k q h => by simp at h
  have hin_X1 : ∀ w ∈ wsX10, w ∈ wsX1_placeArrays := by decide +kernel
  have hf_19 := hts (.fieldLink RX1 19 "ConversionTables$TypeTable" "elements" "[I") (by decide +kernel)
  have hf_22 := hts (.fieldLink RX1 22 "ConversionTables$TypeTable" "aboves" "[J") (by decide +kernel)
  have K_32 : ∀ (ab2 : Nat → Int64) (H : Heap) (locs : List Loc) (ls : Array Slot) , va_P (dC, dI) vwCl [(h1, .inr (3, [.ref a0, .ref a1, .ref a2, .ref a3, .int sz])), (a0, .inl (cyI, 40, .inl so)), (a1, .inl (cyZ, 40, .inl fi)), (a2, .inl (cyI, 40, .inl el)), (a3, .inl (cyJ, 40, .inr (.inl ab2)))] H → va_D A [(h1, .inr (3, [.ref a0, .ref a1, .ref a2, .ref a3, .int sz])), (a0, .inl (cyI, 40, .inl so)), (a1, .inl (cyZ, 40, .inl fi)), (a2, .inl (cyI, 40, .inl el)), (a3, .inl (cyJ, 40, .inr (.inl ab2)))] → va_S A s.heap H locs → lv_has ls 3 [(0, .ref h1), (1, .int x1), (2, .int x2)] → f_X1_placeArrays so fi el ab sz x1 x2 = f_X1_placeArrays_32 so fi el ab sz x1 x2 ab2 → W p l e (headSpec wsX1_placeArrays ({ frames := 2, cells := 0, slots := 0, locals := 42 })).room s m ([.ref h1, .int x1, .int x2] : List Value).toArray below meth c H locs 0 0 (MQ below (va_Qv (S := ((Nat → Int64))) (fun u => u = f_X1_placeArrays so fi el ab sz x1 x2) (fun u t => mb_at dC dI cyI cyZ cyJ A [(h1, .inr (3, [.ref a0, .ref a1, .ref a2, .ref a3, .int sz])), (a0, .inl (cyI, 40, .inl so)), (a1, .inl (cyZ, 40, .inl fi)), (a2, .inl (cyI, 40, .inl el)), (a3, .inl (cyJ, 40, .inr (.inl u)))] t) A) ([.ref h1, .int x1, .int x2] : List Value).toArray s 0 0 A) (F0 m 32 ls []) := by
    intro ab2 H locs ls  hP hD hS hl hz
    refine lv_aload_n hx hb dX1_placeArrays_32 rfl (lv_at hl 0 rfl) ?_
    refine lv_aload_n hx hb dX1_placeArrays_33 rfl (lv_at hl 0 rfl) ?_
    refine va_get (D := (dC, dI)) (ci := 3) (v := .ref a2) (C := RX1) (T := TX1) (N := 5) hx hb hts hin_X1 hown hK hP 0 rfl rfl 2 (by decide) hf_19 (fun _ h9 => h9) rfl dX1_placeArrays_34 ?_
    refine lv_iload_n hx hb dX1_placeArrays_37 rfl (lv_at hl 2 rfl) ?_
    refine va_iald hx hb hK hP 3 0 rfl rfl g2 dX1_placeArrays_38 ?_
    refine lv_aload_n hx hb dX1_placeArrays_39 rfl (lv_at hl 0 rfl) ?_
    refine va_get (D := (dC, dI)) (ci := 3) (v := .ref a2) (C := RX1) (T := TX1) (N := 5) hx hb hts hin_X1 hown hK hP 0 rfl rfl 2 (by decide) hf_19 (fun _ h9 => h9) rfl dX1_placeArrays_40 ?_
    refine lv_iload_n hx hb dX1_placeArrays_43 rfl (lv_at hl 1 rfl) ?_
    refine va_iald hx hb hK hP 3 0 rfl rfl g1 dX1_placeArrays_44 ?_
    refine mb_callSi (W.runV (As := [.int (el x2.toNatClampNeg), .int (el x1.toNatClampNeg)]) (rest := []) ⟨hx, hb, hml, hown, hts⟩ (c_X1_isUnder l dC dI cyI cyZ cyJ h1 a0 a1 a2 a3 so fi el ab2 sz (el x2.toNatClampNeg) (el x1.toNatClampNeg) g4) (cwV 2 hts gX1_placeArrays_X1_isUnder rfl rfl rfl (by decide +kernel) ⟨Nat.le_of_ble_eq_true rfl, Nat.le_of_ble_eq_true rfl⟩) (mb_preV hK hP (ci := 3) (q0 := 0) rfl rfl) rfl rfl hl.1 rfl (lv_room (Nat.le_of_ble_eq_true rfl)) dX1_placeArrays_45 ⟨Nat.zero_le _, Nat.zero_le _⟩) ?_
    refine lv_if_eq (tgt := 64) hx hb dX1_placeArrays_48 (by decide) (fun c_1 => ?_) (fun c_1 => ?_)
    · exact W.vret hx hb hr (fun t ht hW => ⟨⟨ab2, rfl, Eq.symm (hz.trans ((if_pos c_1).trans (rfl))), by rw [ht]; exact hP, va_K.moved hW.alike hK, hD⟩, hS.F ht⟩) hS.2.2 dX1_placeArrays_64
    · refine lv_aload_n hx hb dX1_placeArrays_51 rfl (lv_at hl 0 rfl) ?_
      refine va_get (D := (dC, dI)) (ci := 3) (v := .ref a3) (C := RX1) (T := TX1) (N := 5) hx hb hts hin_X1 hown hK hP 0 rfl rfl 3 (by decide) hf_22 (fun _ h9 => h9) rfl dX1_placeArrays_52 ?_
      refine lv_iload_n hx hb dX1_placeArrays_55 rfl (lv_at hl 2 rfl) ?_
      refine lv_dup2_11 hx hb dX1_placeArrays_56 rfl rfl ?_
      refine va_lald hx hb hK hP 4 2 rfl rfl g2 dX1_placeArrays_57 ?_
      refine lv_iload_n hx hb dX1_placeArrays_58 rfl (lv_at hl 1 rfl) ?_
      refine mb_callSl (W.runS (As := [.int x1]) (rest := [.long (ab2 x2.toNatClampNeg), .int x2, .ref a3]) ⟨hx, hb, hml, hown, hts⟩ (c_X1_bit l x1) (va_cwS 1 hts gX1_placeArrays_X1_bit rfl rfl rfl (by decide +kernel) ⟨Nat.le_of_ble_eq_true rfl, Nat.le_of_ble_eq_true rfl⟩) mb_preT rfl rfl hl.1 rfl (lv_room (Nat.le_of_ble_eq_true rfl)) dX1_placeArrays_59 ⟨Nat.zero_le _, Nat.zero_le _⟩) ?_
      refine lv_lor hx hb dX1_placeArrays_62 ?_
      refine va_last hx hb hK hP hD hS 4 2 rfl rfl g2 dX1_placeArrays_63 (fun H locs hP hD hS => ?_)
      have hP : va_P (dC, dI) vwCl [(h1, .inr (3, [.ref a0, .ref a1, .ref a2, .ref a3, .int sz])), (a0, .inl (cyI, 40, .inl so)), (a1, .inl (cyZ, 40, .inl fi)), (a2, .inl (cyI, 40, .inl el)), (a3, .inl (cyJ, 40, .inr (.inl (vp_updL ab2 x2.toNatClampNeg ((ab2 x2.toNatClampNeg) ||| (f_X1_bit x1))))))] H := hP
      have hD : va_D A [(h1, .inr (3, [.ref a0, .ref a1, .ref a2, .ref a3, .int sz])), (a0, .inl (cyI, 40, .inl so)), (a1, .inl (cyZ, 40, .inl fi)), (a2, .inl (cyI, 40, .inl el)), (a3, .inl (cyJ, 40, .inr (.inl (vp_updL ab2 x2.toNatClampNeg ((ab2 x2.toNatClampNeg) ||| (f_X1_bit x1))))))] := hD
      exact W.vret hx hb hr (fun t ht hW => ⟨⟨(vp_updL ab2 x2.toNatClampNeg ((ab2 x2.toNatClampNeg) ||| (f_X1_bit x1))), rfl, Eq.symm (hz.trans ((if_neg c_1).trans (rfl))), by rw [ht]; exact hP, va_K.moved hW.alike hK, hD⟩, hS.F ht⟩) hS.2.2 dX1_placeArrays_64
  have hl := lv_entry ([.ref h1, .int x1, .int x2]) (n := 3) (Nat.le_of_ble_eq_true rfl)
  rw [lg_entry_eq]
  generalize (lg_sl ([.ref h1, .int x1, .int x2]) ++ List.replicate (3 - (lg_sl ([.ref h1, .int x1, .int x2])).length) Slot.unset).toArray = ls at hl ⊢
  have hl : lv_has ls 3 [(0, .ref h1), (1, .int x1), (2, .int x2)] := hl
  refine lv_aload_n hx hb dX1_placeArrays_0 rfl (lv_at hl 0 rfl) ?_
  refine lv_aload_n hx hb dX1_placeArrays_1 rfl (lv_at hl 0 rfl) ?_
  refine va_get (D := (dC, dI)) (ci := 3) (v := .ref a2) (C := RX1) (T := TX1) (N := 5) hx hb hts hin_X1 hown hK hP 0 rfl rfl 2 (by decide) hf_19 (fun _ h9 => h9) rfl dX1_placeArrays_2 ?_
  refine lv_iload_n hx hb dX1_placeArrays_5 rfl (lv_at hl 1 rfl) ?_
  refine va_iald hx hb hK hP 3 0 rfl rfl g1 dX1_placeArrays_6 ?_
  refine lv_aload_n hx hb dX1_placeArrays_7 rfl (lv_at hl 0 rfl) ?_
  refine va_get (D := (dC, dI)) (ci := 3) (v := .ref a2) (C := RX1) (T := TX1) (N := 5) hx hb hts hin_X1 hown hK hP 0 rfl rfl 2 (by decide) hf_19 (fun _ h9 => h9) rfl dX1_placeArrays_8 ?_
  refine lv_iload_n hx hb dX1_placeArrays_11 rfl (lv_at hl 2 rfl) ?_
  refine va_iald hx hb hK hP 3 0 rfl rfl g2 dX1_placeArrays_12 ?_
  refine mb_callSi (W.runV (As := [.int (el x1.toNatClampNeg), .int (el x2.toNatClampNeg)]) (rest := []) ⟨hx, hb, hml, hown, hts⟩ (c_X1_isUnder l dC dI cyI cyZ cyJ h1 a0 a1 a2 a3 so fi el ab sz (el x1.toNatClampNeg) (el x2.toNatClampNeg) g3) (cwV 2 hts gX1_placeArrays_X1_isUnder rfl rfl rfl (by decide +kernel) ⟨Nat.le_of_ble_eq_true rfl, Nat.le_of_ble_eq_true rfl⟩) (mb_preV hK hP (ci := 3) (q0 := 0) rfl rfl) rfl rfl hl.1 rfl (lv_room (Nat.le_of_ble_eq_true rfl)) dX1_placeArrays_13 ⟨Nat.zero_le _, Nat.zero_le _⟩) ?_
  refine lv_if_eq (tgt := 32) hx hb dX1_placeArrays_16 (by decide) (fun c_2 => ?_) (fun c_2 => ?_)
  · exact K_32 ab _ _ ls  hP hD hS (lv_sub hl [0, 1, 2] rfl) ((if_pos c_2).trans (rfl))
  · refine lv_aload_n hx hb dX1_placeArrays_19 rfl (lv_at hl 0 rfl) ?_
    refine va_get (D := (dC, dI)) (ci := 3) (v := .ref a3) (C := RX1) (T := TX1) (N := 5) hx hb hts hin_X1 hown hK hP 0 rfl rfl 3 (by decide) hf_22 (fun _ h9 => h9) rfl dX1_placeArrays_20 ?_
    refine lv_iload_n hx hb dX1_placeArrays_23 rfl (lv_at hl 1 rfl) ?_
    refine lv_dup2_11 hx hb dX1_placeArrays_24 rfl rfl ?_
    refine va_lald hx hb hK hP 4 2 rfl rfl g1 dX1_placeArrays_25 ?_
    refine lv_iload_n hx hb dX1_placeArrays_26 rfl (lv_at hl 2 rfl) ?_
    refine mb_callSl (W.runS (As := [.int x2]) (rest := [.long (ab x1.toNatClampNeg), .int x1, .ref a3]) ⟨hx, hb, hml, hown, hts⟩ (c_X1_bit l x2) (va_cwS 1 hts gX1_placeArrays_X1_bit rfl rfl rfl (by decide +kernel) ⟨Nat.le_of_ble_eq_true rfl, Nat.le_of_ble_eq_true rfl⟩) mb_preT rfl rfl hl.1 rfl (lv_room (Nat.le_of_ble_eq_true rfl)) dX1_placeArrays_27 ⟨Nat.zero_le _, Nat.zero_le _⟩) ?_
    refine lv_lor hx hb dX1_placeArrays_30 ?_
    refine va_last hx hb hK hP hD hS 4 2 rfl rfl g1 dX1_placeArrays_31 (fun H locs hP hD hS => ?_)
    have hP : va_P (dC, dI) vwCl [(h1, .inr (3, [.ref a0, .ref a1, .ref a2, .ref a3, .int sz])), (a0, .inl (cyI, 40, .inl so)), (a1, .inl (cyZ, 40, .inl fi)), (a2, .inl (cyI, 40, .inl el)), (a3, .inl (cyJ, 40, .inr (.inl (vp_updL ab x1.toNatClampNeg ((ab x1.toNatClampNeg) ||| (f_X1_bit x2))))))] H := hP
    have hD : va_D A [(h1, .inr (3, [.ref a0, .ref a1, .ref a2, .ref a3, .int sz])), (a0, .inl (cyI, 40, .inl so)), (a1, .inl (cyZ, 40, .inl fi)), (a2, .inl (cyI, 40, .inl el)), (a3, .inl (cyJ, 40, .inr (.inl (vp_updL ab x1.toNatClampNeg ((ab x1.toNatClampNeg) ||| (f_X1_bit x2))))))] := hD
    exact K_32 (vp_updL ab x1.toNatClampNeg ((ab x1.toNatClampNeg) ||| (f_X1_bit x2))) _ _ ls  hP hD hS (lv_sub hl [0, 1, 2] rfl) ((if_neg c_2).trans (rfl))

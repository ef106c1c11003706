theorem mb_ixv {a b : Int32} (ha : vp_in a 40) (hb : vp_in b 40) : vp_in (((40 : Int32) * a) + b) 1600 := by
  obtain ⟨i, hi, rfl⟩ := vp_in_of ha (by decide)
  obtain ⟨j, hj, rfl⟩ := vp_in_of hb (by decide)
  have e : (40 : Int32) = nI 40 := rfl
  rw [e, pk_mul, nI_add]
  exact vp_in_nI (by omega) (by decide)
theorem mb_av {a : Int32} (h0 : ¬ a < 0) (ha : a.toInt < 40) : vp_in a 40 := vp_in_iff.mpr ⟨by rw [Int32.lt_iff_toInt_lt, mb_i0] at h0; omega, ha⟩
theorem mb_ix3 {a kk : Int32} {k : Nat} (ha : vp_in a 40) (hc : 0 ≤ kk.toInt ∧ kk.toInt ≤ 3 ∧ 3 < kk.toInt + k) (h : ¬ (3 : Int32) ≤ kk) : vp_in (((3 : Int32) * a) + kk) 120 := by
  obtain ⟨i, hi, rfl⟩ := vp_in_of ha (by decide)
  rw [Int32.le_iff_toInt_le] at h
  have e3 : (3 : Int32).toInt = 3 := rfl
  obtain ⟨j, hj, rfl⟩ := nI_of (x := kk) (by rw [Int32.lt_iff_toInt_lt, mb_i0]; omega)
  rw [nI_toInt hj] at h
  have e : (3 : Int32) = nI 3 := rfl
  rw [e, pk_mul, nI_add]
  exact vp_in_nI (by omega) (by decide)
theorem mb_k3_step {kk : Int32} {k : Nat} (hc : 0 ≤ kk.toInt ∧ kk.toInt ≤ 3 ∧ 3 < kk.toInt + (k + 1 : Nat)) (h : ¬ (3 : Int32) ≤ kk) : 0 ≤ (kk + 1).toInt ∧ (kk + 1).toInt ≤ 3 ∧ 3 < (kk + 1).toInt + k := by
  rw [Int32.le_iff_toInt_le] at h
  have e3 : (3 : Int32).toInt = 3 := rfl
  rw [mb_inc (by omega) (by omega)]
  omega
theorem mb_k13_step {kk : Int32} {k : Nat} (hc : 1 ≤ kk.toInt ∧ kk.toInt ≤ 13 ∧ 13 < kk.toInt + (k + 1 : Nat)) (h : ¬ (13 : Int32) ≤ kk) : 1 ≤ (kk + 1).toInt ∧ (kk + 1).toInt ≤ 13 ∧ 13 < (kk + 1).toInt + k := by
  rw [Int32.le_iff_toInt_le] at h
  have e3 : (13 : Int32).toInt = 13 := rfl
  rw [mb_inc (by omega) (by omega)]
  omega
theorem mb_dstep {so el : Nat → Int32} {x : Int32} {k : Nat} (ge : mb_EL so el) (hx : vp_in x 40) (hs : so x.toNatClampNeg = 3) (gm : x.toInt < ((k + 1 : Nat) : Int)) : (el x.toNatClampNeg).toInt < (k : Int) := by
  have h := ge x hx hs
  omega
theorem mb_add8 {x : Int32} (g : vp_in x 40) (h : ¬ (8 : Int32) ≤ x) : vp_in (x + 8) 40 := by
  obtain ⟨i, hi, rfl⟩ := vp_in_of g (by decide)
  rw [Int32.le_iff_toInt_le, nI_toInt (by omega)] at h
  have e8 : (8 : Int32).toInt = 8 := rfl
  have e : (8 : Int32) = nI 8 := rfl
  rw [e, nI_add]
  exact vp_in_nI (by omega) (by decide)
def f_X3_isType (so : Nat → Int32) (fi : Nat → Int32) (el : Nat → Int32) (av : Nat → Int32) (un : Nat → Int32) (ty : Int32) (kp : Nat → Int32) (bt : Nat → Int64) (oc : Int32) (x1 : Int32) : Int32 := (f_X3_in x1 (0 : Int32) (ty - (1 : Int32)))
theorem nb_X3_isType (so : Nat → Int32) (fi : Nat → Int32) (el : Nat → Int32) (av : Nat → Int32) (un : Nat → Int32) (ty : Int32) (kp : Nat → Int32) (bt : Nat → Int64) (oc : Int32) (x1 : Int32) : mb_B (f_X3_isType so fi el av un ty kp bt oc x1) := by
  unfold f_X3_isType
  exact (nb_X3_in x1 (0 : Int32) (ty - (1 : Int32)))
set_option maxHeartbeats 4000000 in
set_option maxRecDepth 100000 in
theorem c_X3_isType (l : Launch) (dC : Nat → ClassId) (dI : Nat → Nat → Nat) (cyI cyZ cyJ : ClassId) (h3 e0 e1 e2 e3 e4 e5 e6 : Nat) (so : Nat → Int32) (fi : Nat → Int32) (el : Nat → Int32) (av : Nat → Int32) (un : Nat → Int32) (ty : Int32) (kp : Nat → Int32) (bt : Nat → Int64) (oc : Int32) (th : Int32) (x1 : Int32) : Met l yX3_isType wsX3_isType ({ frames := 1, cells := 0, slots := 0, locals := 22 }) (va_Pc [.ref h3, .int x1] (mb_R (dC, dI) (mb_tys cyI cyZ cyJ) [(h3, .inr (5, [.int th, .int ty, .ref e0, .ref e1, .ref e2, .ref e3, .ref e4, .int oc, .ref e5, .ref e6])), (e0, .inl (cyI, 40, .inl so)), (e1, .inl (cyZ, 40, .inl fi)), (e2, .inl (cyI, 40, .inl el)), (e3, .inl (cyI, 120, .inl av)), (e4, .inl (cyZ, 1600, .inl un)), (e5, .inl (cyI, 60, .inl kp)), (e6, .inl (cyJ, 60, .inr (.inl bt)))])) (vp_Si (fun r => r = f_X3_isType so fi el av un ty kp bt oc x1)) 0 0 (fun _ => False) := by
  refine Met.ofW (cc := cX3_isType) (maxL := 2) (ret := (some .boolean)) (by decide) rfl ?_
  intro p e s m args below meth c s₁ B hml hv
  obtain ⟨rfl, hP, hK⟩ := hv
  have hx := B.exec
  have hb := B.bytes
  have hr := B.returns
  have hts := atoms_spec (ws := wsX3_isType) B.pre
  have hown : s.vm.findClass RX3 = some m.cls := findClass_of_methodNamed B.named
  have hlocks := B.notSynchronized
  have hP : va_P (dC, dI) vwCl [(h3, .inr (5, [.int th, .int ty, .ref e0, .ref e1, .ref e2, .ref e3, .ref e4, .int oc, .ref e5, .ref e6])), (e0, .inl (cyI, 40, .inl so)), (e1, .inl (cyZ, 40, .inl fi)), (e2, .inl (cyI, 40, .inl el)), (e3, .inl (cyI, 120, .inl av)), (e4, .inl (cyZ, 1600, .inl un)), (e5, .inl (cyI, 60, .inl kp)), (e6, .inl (cyJ, 60, .inr (.inl bt)))] s.heap := hP
  have hP0 : va_P (dC, dI) vwCl [] s.heap := fun k q h => by simp at h
  have hin_X3 : ∀ w ∈ wsX30, w ∈ wsX3_isType := by decide +kernel
  have hf_44 := hts (.fieldLink RX3 44 "ConversionTablesModel" "types" "I") (by decide +kernel)
  have hl := lv_entry ([.ref h3, .int x1]) (n := 2) (Nat.le_of_ble_eq_true rfl)
  rw [lg_entry_eq]
  generalize (lg_sl ([.ref h3, .int x1]) ++ List.replicate (2 - (lg_sl ([.ref h3, .int x1])).length) Slot.unset).toArray = ls at hl ⊢
  have hl : lv_has ls 2 [(0, .ref h3), (1, .int x1)] := hl
  refine lv_iload_n hx hb dX3_isType_0 rfl (lv_at hl 1 rfl) ?_
  refine lv_iconst (v := (0 : Int32)) hx hb dX3_isType_1 (by decide) ?_
  refine lv_aload_n hx hb dX3_isType_2 rfl (lv_at hl 0 rfl) ?_
  refine va_get (D := (dC, dI)) (ci := 5) (v := .int ty) (C := RX3) (T := TX3) (N := 10) hx hb hts hin_X3 hown hK hP 0 rfl rfl 1 (by decide) hf_44 (fun _ h9 => h9) rfl dX3_isType_3 ?_
  refine lv_iconst (v := (1 : Int32)) hx hb dX3_isType_6 (by decide) ?_
  refine lv_isub hx hb dX3_isType_7 ?_
  refine mb_callSi (W.runS (As := [.int x1, .int (0 : Int32), .int (ty - (1 : Int32))]) (rest := []) ⟨hx, hb, hml, hown, hts⟩ (c_X3_in l x1 (0 : Int32) (ty - (1 : Int32))) (va_cwS 3 hts gX3_isType_X3_in rfl rfl rfl (by decide +kernel) ⟨Nat.le_of_ble_eq_true rfl, Nat.le_of_ble_eq_true rfl⟩) mb_preT rfl rfl hl.1 rfl (lv_room (Nat.le_of_ble_eq_true rfl)) dX3_isType_8 ⟨Nat.zero_le _, Nat.zero_le _⟩) ?_
  exact W.zret (v := (f_X3_in x1 (0 : Int32) (ty - (1 : Int32)))) hx hb hr (nb_X3_in x1 (0 : Int32) (ty - (1 : Int32))) (fun t ht hW => ⟨(f_X3_in x1 (0 : Int32) (ty - (1 : Int32))), rfl, Eq.symm (rfl), ht⟩) (fun q h => by cases h) dX3_isType_11
def f_X3_isReference (so : Nat → Int32) (fi : Nat → Int32) (el : Nat → Int32) (av : Nat → Int32) (un : Nat → Int32) (ty : Int32) (kp : Nat → Int32) (bt : Nat → Int64) (oc : Int32) (x1 : Int32) : Int32 := if x1 ≤ (7 : Int32) then (0 : Int32)
  else (1 : Int32)
theorem nb_X3_isReference (so : Nat → Int32) (fi : Nat → Int32) (el : Nat → Int32) (av : Nat → Int32) (un : Nat → Int32) (ty : Int32) (kp : Nat → Int32) (bt : Nat → Int64) (oc : Int32) (x1 : Int32) : mb_B (f_X3_isReference so fi el av un ty kp bt oc x1) := by
  unfold f_X3_isReference
  exact mb_B_ite (rfl) (rfl)
set_option maxHeartbeats 4000000 in
set_option maxRecDepth 100000 in
theorem c_X3_isReference (l : Launch) (dC : Nat → ClassId) (dI : Nat → Nat → Nat) (cyI cyZ cyJ : ClassId) (h3 e0 e1 e2 e3 e4 e5 e6 : Nat) (so : Nat → Int32) (fi : Nat → Int32) (el : Nat → Int32) (av : Nat → Int32) (un : Nat → Int32) (ty : Int32) (kp : Nat → Int32) (bt : Nat → Int64) (oc : Int32) (th : Int32) (x1 : Int32) : Met l yX3_isReference wsX3_isReference ({ frames := 0, cells := 0, slots := 0, locals := 0 }) (va_Pc [.ref h3, .int x1] (mb_R (dC, dI) (mb_tys cyI cyZ cyJ) [(h3, .inr (5, [.int th, .int ty, .ref e0, .ref e1, .ref e2, .ref e3, .ref e4, .int oc, .ref e5, .ref e6])), (e0, .inl (cyI, 40, .inl so)), (e1, .inl (cyZ, 40, .inl fi)), (e2, .inl (cyI, 40, .inl el)), (e3, .inl (cyI, 120, .inl av)), (e4, .inl (cyZ, 1600, .inl un)), (e5, .inl (cyI, 60, .inl kp)), (e6, .inl (cyJ, 60, .inr (.inl bt)))])) (vp_Si (fun r => r = f_X3_isReference so fi el av un ty kp bt oc x1)) 0 0 (fun _ => False) := by
  refine Met.ofW (cc := cX3_isReference) (maxL := 2) (ret := (some .boolean)) (by decide) rfl ?_
  intro p e s m args below meth c s₁ B hml hv
  obtain ⟨rfl, hP, hK⟩ := hv
  have hx := B.exec
  have hb := B.bytes
  have hr := B.returns
  have hts := atoms_spec (ws := wsX3_isReference) B.pre
  have hown : s.vm.findClass RX3 = some m.cls := findClass_of_methodNamed B.named
  have hlocks := B.notSynchronized
  have hP : va_P (dC, dI) vwCl [(h3, .inr (5, [.int th, .int ty, .ref e0, .ref e1, .ref e2, .ref e3, .ref e4, .int oc, .ref e5, .ref e6])), (e0, .inl (cyI, 40, .inl so)), (e1, .inl (cyZ, 40, .inl fi)), (e2, .inl (cyI, 40, .inl el)), (e3, .inl (cyI, 120, .inl av)), (e4, .inl (cyZ, 1600, .inl un)), (e5, .inl (cyI, 60, .inl kp)), (e6, .inl (cyJ, 60, .inr (.inl bt)))] s.heap := hP
  have hP0 : va_P (dC, dI) vwCl [] s.heap := fun k q h => by simp at h
  have hl := lv_entry ([.ref h3, .int x1]) (n := 2) (Nat.le_of_ble_eq_true rfl)
  rw [lg_entry_eq]
  generalize (lg_sl ([.ref h3, .int x1]) ++ List.replicate (2 - (lg_sl ([.ref h3, .int x1])).length) Slot.unset).toArray = ls at hl ⊢
  have hl : lv_has ls 2 [(0, .ref h3), (1, .int x1)] := hl
  refine lv_iload_n hx hb dX3_isReference_0 rfl (lv_at hl 1 rfl) ?_
  refine lv_bipush (v := (7 : Int32)) hx hb dX3_isReference_1 (by decide) ?_
  refine lv_icmp_le (tgt := 10) hx hb dX3_isReference_3 (by decide) (fun c_1 => ?_) (fun c_1 => ?_)
  · refine lv_iconst (v := (0 : Int32)) hx hb dX3_isReference_10 (by decide) ?_
    exact W.zret (v := (0 : Int32)) hx hb hr rfl (fun t ht hW => ⟨(0 : Int32), rfl, Eq.symm ((if_pos c_1).trans (rfl)), ht⟩) (fun q h => by cases h) dX3_isReference_11
  · refine lv_iconst (v := (1 : Int32)) hx hb dX3_isReference_6 (by decide) ?_
    refine lv_goto (tgt := 11) hx hb dX3_isReference_7 (by decide) ?_
    exact W.zret (v := (1 : Int32)) hx hb hr rfl (fun t ht hW => ⟨(1 : Int32), rfl, Eq.symm ((if_neg c_1).trans (rfl)), ht⟩) (fun q h => by cases h) dX3_isReference_11
def f_X3_isFace (so : Nat → Int32) (fi : Nat → Int32) (el : Nat → Int32) (av : Nat → Int32) (un : Nat → Int32) (ty : Int32) (kp : Nat → Int32) (bt : Nat → Int64) (oc : Int32) (x1 : Int32) : Int32 := if (so x1.toNatClampNeg) = (2 : Int32) then (1 : Int32)
  else (0 : Int32)
theorem nb_X3_isFace (so : Nat → Int32) (fi : Nat → Int32) (el : Nat → Int32) (av : Nat → Int32) (un : Nat → Int32) (ty : Int32) (kp : Nat → Int32) (bt : Nat → Int64) (oc : Int32) (x1 : Int32) : mb_B (f_X3_isFace so fi el av un ty kp bt oc x1) := by
  unfold f_X3_isFace
  exact mb_B_ite (rfl) (rfl)
set_option maxHeartbeats 4000000 in
set_option maxRecDepth 100000 in
theorem c_X3_isFace (l : Launch) (dC : Nat → ClassId) (dI : Nat → Nat → Nat) (cyI cyZ cyJ : ClassId) (h3 e0 e1 e2 e3 e4 e5 e6 : Nat) (so : Nat → Int32) (fi : Nat → Int32) (el : Nat → Int32) (av : Nat → Int32) (un : Nat → Int32) (ty : Int32) (kp : Nat → Int32) (bt : Nat → Int64) (oc : Int32) (th : Int32) (x1 : Int32) (g1 : vp_in x1 40) : Met l yX3_isFace wsX3_isFace ({ frames := 0, cells := 0, slots := 0, locals := 0 }) (va_Pc [.ref h3, .int x1] (mb_R (dC, dI) (mb_tys cyI cyZ cyJ) [(h3, .inr (5, [.int th, .int ty, .ref e0, .ref e1, .ref e2, .ref e3, .ref e4, .int oc, .ref e5, .ref e6])), (e0, .inl (cyI, 40, .inl so)), (e1, .inl (cyZ, 40, .inl fi)), (e2, .inl (cyI, 40, .inl el)), (e3, .inl (cyI, 120, .inl av)), (e4, .inl (cyZ, 1600, .inl un)), (e5, .inl (cyI, 60, .inl kp)), (e6, .inl (cyJ, 60, .inr (.inl bt)))])) (vp_Si (fun r => r = f_X3_isFace so fi el av un ty kp bt oc x1)) 0 0 (fun _ => False) := by
  refine Met.ofW (cc := cX3_isFace) (maxL := 2) (ret := (some .boolean)) (by decide) rfl ?_
  intro p e s m args below meth c s₁ B hml hv
  obtain ⟨rfl, hP, hK⟩ := hv
  have hx := B.exec
  have hb := B.bytes
  have hr := B.returns
  have hts := atoms_spec (ws := wsX3_isFace) B.pre
  have hown : s.vm.findClass RX3 = some m.cls := findClass_of_methodNamed B.named
  have hlocks := B.notSynchronized
  have hP : va_P (dC, dI) vwCl [(h3, .inr (5, [.int th, .int ty, .ref e0, .ref e1, .ref e2, .ref e3, .ref e4, .int oc, .ref e5, .ref e6])), (e0, .inl (cyI, 40, .inl so)), (e1, .inl (cyZ, 40, .inl fi)), (e2, .inl (cyI, 40, .inl el)), (e3, .inl (cyI, 120, .inl av)), (e4, .inl (cyZ, 1600, .inl un)), (e5, .inl (cyI, 60, .inl kp)), (e6, .inl (cyJ, 60, .inr (.inl bt)))] s.heap := hP
  have hP0 : va_P (dC, dI) vwCl [] s.heap := fun k q h => by simp at h
  have hin_X3 : ∀ w ∈ wsX30, w ∈ wsX3_isFace := by decide +kernel
  have hf_7 := hts (.fieldLink RX3 7 "ConversionTablesModel" "sort" "[I") (by decide +kernel)
  have hl := lv_entry ([.ref h3, .int x1]) (n := 2) (Nat.le_of_ble_eq_true rfl)
  rw [lg_entry_eq]
  generalize (lg_sl ([.ref h3, .int x1]) ++ List.replicate (2 - (lg_sl ([.ref h3, .int x1])).length) Slot.unset).toArray = ls at hl ⊢
  have hl : lv_has ls 2 [(0, .ref h3), (1, .int x1)] := hl
  refine lv_aload_n hx hb dX3_isFace_0 rfl (lv_at hl 0 rfl) ?_
  refine va_get (D := (dC, dI)) (ci := 5) (v := .ref e0) (C := RX3) (T := TX3) (N := 10) hx hb hts hin_X3 hown hK hP 0 rfl rfl 2 (by decide) hf_7 (fun _ h9 => h9) rfl dX3_isFace_1 ?_
  refine lv_iload_n hx hb dX3_isFace_4 rfl (lv_at hl 1 rfl) ?_
  refine va_iald hx hb hK hP 1 0 rfl rfl g1 dX3_isFace_5 ?_
  refine lv_iconst (v := (2 : Int32)) hx hb dX3_isFace_6 (by decide) ?_
  refine lv_icmp_ne (tgt := 14) hx hb dX3_isFace_7 (by decide) (fun c_1 => ?_) (fun c_1 => ?_)
  · refine lv_iconst (v := (0 : Int32)) hx hb dX3_isFace_14 (by decide) ?_
    exact W.zret (v := (0 : Int32)) hx hb hr rfl (fun t ht hW => ⟨(0 : Int32), rfl, Eq.symm ((if_neg c_1).trans (rfl)), ht⟩) (fun q h => by cases h) dX3_isFace_15
  · refine lv_iconst (v := (1 : Int32)) hx hb dX3_isFace_10 (by decide) ?_
    refine lv_goto (tgt := 15) hx hb dX3_isFace_11 (by decide) ?_
    exact W.zret (v := (1 : Int32)) hx hb hr rfl (fun t ht hW => ⟨(1 : Int32), rfl, Eq.symm ((if_pos c_1).trans (rfl)), ht⟩) (fun q h => by cases h) dX3_isFace_15
def f_X3_isObject (so : Nat → Int32) (fi : Nat → Int32) (el : Nat → Int32) (av : Nat → Int32) (un : Nat → Int32) (ty : Int32) (kp : Nat → Int32) (bt : Nat → Int64) (oc : Int32) (x1 : Int32) : Int32 := (f_X3_in x1 (0 : Int32) (oc - (1 : Int32)))
theorem nb_X3_isObject (so : Nat → Int32) (fi : Nat → Int32) (el : Nat → Int32) (av : Nat → Int32) (un : Nat → Int32) (ty : Int32) (kp : Nat → Int32) (bt : Nat → Int64) (oc : Int32) (x1 : Int32) : mb_B (f_X3_isObject so fi el av un ty kp bt oc x1) := by
  unfold f_X3_isObject
  exact (nb_X3_in x1 (0 : Int32) (oc - (1 : Int32)))
set_option maxHeartbeats 4000000 in
set_option maxRecDepth 100000 in
theorem c_X3_isObject (l : Launch) (dC : Nat → ClassId) (dI : Nat → Nat → Nat) (cyI cyZ cyJ : ClassId) (h3 e0 e1 e2 e3 e4 e5 e6 : Nat) (so : Nat → Int32) (fi : Nat → Int32) (el : Nat → Int32) (av : Nat → Int32) (un : Nat → Int32) (ty : Int32) (kp : Nat → Int32) (bt : Nat → Int64) (oc : Int32) (th : Int32) (x1 : Int32) : Met l yX3_isObject wsX3_isObject ({ frames := 1, cells := 0, slots := 0, locals := 22 }) (va_Pc [.ref h3, .int x1] (mb_R (dC, dI) (mb_tys cyI cyZ cyJ) [(h3, .inr (5, [.int th, .int ty, .ref e0, .ref e1, .ref e2, .ref e3, .ref e4, .int oc, .ref e5, .ref e6])), (e0, .inl (cyI, 40, .inl so)), (e1, .inl (cyZ, 40, .inl fi)), (e2, .inl (cyI, 40, .inl el)), (e3, .inl (cyI, 120, .inl av)), (e4, .inl (cyZ, 1600, .inl un)), (e5, .inl (cyI, 60, .inl kp)), (e6, .inl (cyJ, 60, .inr (.inl bt)))])) (vp_Si (fun r => r = f_X3_isObject so fi el av un ty kp bt oc x1)) 0 0 (fun _ => False) := by
  refine Met.ofW (cc := cX3_isObject) (maxL := 2) (ret := (some .boolean)) (by decide) rfl ?_
  intro p e s m args below meth c s₁ B hml hv
  obtain ⟨rfl, hP, hK⟩ := hv
  have hx := B.exec
  have hb := B.bytes
  have hr := B.returns
  have hts := atoms_spec (ws := wsX3_isObject) B.pre
  have hown : s.vm.findClass RX3 = some m.cls := findClass_of_methodNamed B.named
  have hlocks := B.notSynchronized
  have hP : va_P (dC, dI) vwCl [(h3, .inr (5, [.int th, .int ty, .ref e0, .ref e1, .ref e2, .ref e3, .ref e4, .int oc, .ref e5, .ref e6])), (e0, .inl (cyI, 40, .inl so)), (e1, .inl (cyZ, 40, .inl fi)), (e2, .inl (cyI, 40, .inl el)), (e3, .inl (cyI, 120, .inl av)), (e4, .inl (cyZ, 1600, .inl un)), (e5, .inl (cyI, 60, .inl kp)), (e6, .inl (cyJ, 60, .inr (.inl bt)))] s.heap := hP
  have hP0 : va_P (dC, dI) vwCl [] s.heap := fun k q h => by simp at h
  have hin_X3 : ∀ w ∈ wsX30, w ∈ wsX3_isObject := by decide +kernel
  have hf_168 := hts (.fieldLink RX3 168 "ConversionTablesModel" "objects" "I") (by decide +kernel)
  have hl := lv_entry ([.ref h3, .int x1]) (n := 2) (Nat.le_of_ble_eq_true rfl)
  rw [lg_entry_eq]
  generalize (lg_sl ([.ref h3, .int x1]) ++ List.replicate (2 - (lg_sl ([.ref h3, .int x1])).length) Slot.unset).toArray = ls at hl ⊢
  have hl : lv_has ls 2 [(0, .ref h3), (1, .int x1)] := hl
  refine lv_iload_n hx hb dX3_isObject_0 rfl (lv_at hl 1 rfl) ?_
  refine lv_iconst (v := (0 : Int32)) hx hb dX3_isObject_1 (by decide) ?_
  refine lv_aload_n hx hb dX3_isObject_2 rfl (lv_at hl 0 rfl) ?_
  refine va_get (D := (dC, dI)) (ci := 5) (v := .int oc) (C := RX3) (T := TX3) (N := 10) hx hb hts hin_X3 hown hK hP 0 rfl rfl 7 (by decide) hf_168 (fun _ h9 => h9) rfl dX3_isObject_3 ?_
  refine lv_iconst (v := (1 : Int32)) hx hb dX3_isObject_6 (by decide) ?_
  refine lv_isub hx hb dX3_isObject_7 ?_
  refine mb_callSi (W.runS (As := [.int x1, .int (0 : Int32), .int (oc - (1 : Int32))]) (rest := []) ⟨hx, hb, hml, hown, hts⟩ (c_X3_in l x1 (0 : Int32) (oc - (1 : Int32))) (va_cwS 3 hts gX3_isObject_X3_in rfl rfl rfl (by decide +kernel) ⟨Nat.le_of_ble_eq_true rfl, Nat.le_of_ble_eq_true rfl⟩) mb_preT rfl rfl hl.1 rfl (lv_room (Nat.le_of_ble_eq_true rfl)) dX3_isObject_8 ⟨Nat.zero_le _, Nat.zero_le _⟩) ?_
  exact W.zret (v := (f_X3_in x1 (0 : Int32) (oc - (1 : Int32)))) hx hb hr (nb_X3_in x1 (0 : Int32) (oc - (1 : Int32))) (fun t ht hW => ⟨(f_X3_in x1 (0 : Int32) (oc - (1 : Int32))), rfl, Eq.symm (rfl), ht⟩) (fun q h => by cases h) dX3_isObject_11
def f_X3_isUp (so : Nat → Int32) (fi : Nat → Int32) (el : Nat → Int32) (av : Nat → Int32) (un : Nat → Int32) (ty : Int32) (kp : Nat → Int32) (bt : Nat → Int64) (oc : Int32) (x1 : Int32) (x2 : Int32) : Int32 := if (f_X3_isReference so fi el av un ty kp bt oc x1) = 0 then (0 : Int32)
  else if (f_X3_isReference so fi el av un ty kp bt oc x2) = 0 then (0 : Int32)
  else if x1 = x2 then (0 : Int32)
  else if (un (((40 : Int32) * x1) + x2).toNatClampNeg) = 0 then (0 : Int32)
  else (1 : Int32)
theorem nb_X3_isUp (so : Nat → Int32) (fi : Nat → Int32) (el : Nat → Int32) (av : Nat → Int32) (un : Nat → Int32) (ty : Int32) (kp : Nat → Int32) (bt : Nat → Int64) (oc : Int32) (x1 : Int32) (x2 : Int32) : mb_B (f_X3_isUp so fi el av un ty kp bt oc x1 x2) := by
  unfold f_X3_isUp
  exact mb_B_ite (rfl) (mb_B_ite (rfl) (mb_B_ite (rfl) (mb_B_ite (rfl) (rfl))))
set_option maxHeartbeats 4000000 in
set_option maxRecDepth 100000 in
theorem c_X3_isUp (l : Launch) (dC : Nat → ClassId) (dI : Nat → Nat → Nat) (cyI cyZ cyJ : ClassId) (h3 e0 e1 e2 e3 e4 e5 e6 : Nat) (so : Nat → Int32) (fi : Nat → Int32) (el : Nat → Int32) (av : Nat → Int32) (un : Nat → Int32) (ty : Int32) (kp : Nat → Int32) (bt : Nat → Int64) (oc : Int32) (th : Int32) (x1 : Int32) (x2 : Int32) (g1 : vp_in x1 40) (g2 : vp_in x2 40) : Met l yX3_isUp wsX3_isUp ({ frames := 1, cells := 0, slots := 0, locals := 21 }) (va_Pc [.ref h3, .int x1, .int x2] (mb_R (dC, dI) (mb_tys cyI cyZ cyJ) [(h3, .inr (5, [.int th, .int ty, .ref e0, .ref e1, .ref e2, .ref e3, .ref e4, .int oc, .ref e5, .ref e6])), (e0, .inl (cyI, 40, .inl so)), (e1, .inl (cyZ, 40, .inl fi)), (e2, .inl (cyI, 40, .inl el)), (e3, .inl (cyI, 120, .inl av)), (e4, .inl (cyZ, 1600, .inl un)), (e5, .inl (cyI, 60, .inl kp)), (e6, .inl (cyJ, 60, .inr (.inl bt)))])) (vp_Si (fun r => r = f_X3_isUp so fi el av un ty kp bt oc x1 x2)) 0 0 (fun _ => False) := by
  refine Met.ofW (cc := cX3_isUp) (maxL := 3) (ret := (some .boolean)) (by decide) rfl ?_
  intro p e s m args below meth c s₁ B hml hv
  obtain ⟨rfl, hP, hK⟩ := hv
  have hx := B.exec
  have hb := B.bytes
  have hr := B.returns
  have hts := atoms_spec (ws := wsX3_isUp) B.pre
  have hown : s.vm.findClass RX3 = some m.cls := findClass_of_methodNamed B.named
  have hlocks := B.notSynchronized
  have hP : va_P (dC, dI) vwCl [(h3, .inr (5, [.int th, .int ty, .ref e0, .ref e1, .ref e2, .ref e3, .ref e4, .int oc, .ref e5, .ref e6])), (e0, .inl (cyI, 40, .inl so)), (e1, .inl (cyZ, 40, .inl fi)), (e2, .inl (cyI, 40, .inl el)), (e3, .inl (cyI, 120, .inl av)), (e4, .inl (cyZ, 1600, .inl un)), (e5, .inl (cyI, 60, .inl kp)), (e6, .inl (cyJ, 60, .inr (.inl bt)))] s.heap := hP
  have hP0 : va_P (dC, dI) vwCl [] s.heap := fun k q h => by simp at h
  have hin_X3 : ∀ w ∈ wsX30, w ∈ wsX3_isUp := by decide +kernel
  have hf_23 := hts (.fieldLink RX3 23 "ConversionTablesModel" "under" "[Z") (by decide +kernel)
  have hl := lv_entry ([.ref h3, .int x1, .int x2]) (n := 3) (Nat.le_of_ble_eq_true rfl)
  rw [lg_entry_eq]
  generalize (lg_sl ([.ref h3, .int x1, .int x2]) ++ List.replicate (3 - (lg_sl ([.ref h3, .int x1, .int x2])).length) Slot.unset).toArray = ls at hl ⊢
  have hl : lv_has ls 3 [(0, .ref h3), (1, .int x1), (2, .int x2)] := hl
  refine lv_aload_n hx hb dX3_isUp_0 rfl (lv_at hl 0 rfl) ?_
  refine lv_iload_n hx hb dX3_isUp_1 rfl (lv_at hl 1 rfl) ?_
  refine mb_callSi (W.runV (As := [.int x1]) (rest := []) ⟨hx, hb, hml, hown, hts⟩ (c_X3_isReference l dC dI cyI cyZ cyJ h3 e0 e1 e2 e3 e4 e5 e6 so fi el av un ty kp bt oc th x1) (cwV 1 hts gX3_isUp_X3_isReference rfl rfl rfl (by decide +kernel) ⟨Nat.le_of_ble_eq_true rfl, Nat.le_of_ble_eq_true rfl⟩) (mb_preV hK hP (ci := 5) (q0 := 0) rfl rfl) rfl rfl hl.1 rfl (lv_room (Nat.le_of_ble_eq_true rfl)) dX3_isUp_2 ⟨Nat.zero_le _, Nat.zero_le _⟩) ?_
  refine lv_if_eq (tgt := 39) hx hb dX3_isUp_5 (by decide) (fun c_1 => ?_) (fun c_1 => ?_)
  · refine lv_iconst (v := (0 : Int32)) hx hb dX3_isUp_39 (by decide) ?_
    exact W.zret (v := (0 : Int32)) hx hb hr rfl (fun t ht hW => ⟨(0 : Int32), rfl, Eq.symm ((if_pos c_1).trans (rfl)), ht⟩) (fun q h => by cases h) dX3_isUp_40
  · refine lv_aload_n hx hb dX3_isUp_8 rfl (lv_at hl 0 rfl) ?_
    refine lv_iload_n hx hb dX3_isUp_9 rfl (lv_at hl 2 rfl) ?_
    refine mb_callSi (W.runV (As := [.int x2]) (rest := []) ⟨hx, hb, hml, hown, hts⟩ (c_X3_isReference l dC dI cyI cyZ cyJ h3 e0 e1 e2 e3 e4 e5 e6 so fi el av un ty kp bt oc th x2) (cwV 1 hts gX3_isUp_X3_isReference rfl rfl rfl (by decide +kernel) ⟨Nat.le_of_ble_eq_true rfl, Nat.le_of_ble_eq_true rfl⟩) (mb_preV hK hP (ci := 5) (q0 := 0) rfl rfl) rfl rfl hl.1 rfl (lv_room (Nat.le_of_ble_eq_true rfl)) dX3_isUp_10 ⟨Nat.zero_le _, Nat.zero_le _⟩) ?_
    refine lv_if_eq (tgt := 39) hx hb dX3_isUp_13 (by decide) (fun c_2 => ?_) (fun c_2 => ?_)
    · refine lv_iconst (v := (0 : Int32)) hx hb dX3_isUp_39 (by decide) ?_
      exact W.zret (v := (0 : Int32)) hx hb hr rfl (fun t ht hW => ⟨(0 : Int32), rfl, Eq.symm ((if_neg c_1).trans ((if_pos c_2).trans (rfl))), ht⟩) (fun q h => by cases h) dX3_isUp_40
    · refine lv_iload_n hx hb dX3_isUp_16 rfl (lv_at hl 1 rfl) ?_
      refine lv_iload_n hx hb dX3_isUp_17 rfl (lv_at hl 2 rfl) ?_
      refine lv_icmp_eq (tgt := 39) hx hb dX3_isUp_18 (by decide) (fun c_3 => ?_) (fun c_3 => ?_)
      · refine lv_iconst (v := (0 : Int32)) hx hb dX3_isUp_39 (by decide) ?_
        exact W.zret (v := (0 : Int32)) hx hb hr rfl (fun t ht hW => ⟨(0 : Int32), rfl, Eq.symm ((if_neg c_1).trans ((if_neg c_2).trans ((if_pos c_3).trans (rfl)))), ht⟩) (fun q h => by cases h) dX3_isUp_40
      · refine lv_aload_n hx hb dX3_isUp_21 rfl (lv_at hl 0 rfl) ?_
        refine va_get (D := (dC, dI)) (ci := 5) (v := .ref e4) (C := RX3) (T := TX3) (N := 10) hx hb hts hin_X3 hown hK hP 0 rfl rfl 6 (by decide) hf_23 (fun _ h9 => h9) rfl dX3_isUp_22 ?_
        refine lv_bipush (v := (40 : Int32)) hx hb dX3_isUp_25 (by decide) ?_
        refine lv_iload_n hx hb dX3_isUp_27 rfl (lv_at hl 1 rfl) ?_
        refine lv_imul hx hb dX3_isUp_28 ?_
        refine lv_iload_n hx hb dX3_isUp_29 rfl (lv_at hl 2 rfl) ?_
        refine lv_iadd hx hb dX3_isUp_30 ?_
        refine va_zald hx hb hK hP 5 1 rfl rfl (mb_ixv g1 g2) dX3_isUp_31 ?_
        refine lv_if_eq (tgt := 39) hx hb dX3_isUp_32 (by decide) (fun c_4 => ?_) (fun c_4 => ?_)
        · refine lv_iconst (v := (0 : Int32)) hx hb dX3_isUp_39 (by decide) ?_
          exact W.zret (v := (0 : Int32)) hx hb hr rfl (fun t ht hW => ⟨(0 : Int32), rfl, Eq.symm ((if_neg c_1).trans ((if_neg c_2).trans ((if_neg c_3).trans ((if_pos c_4).trans (rfl))))), ht⟩) (fun q h => by cases h) dX3_isUp_40
        · refine lv_iconst (v := (1 : Int32)) hx hb dX3_isUp_35 (by decide) ?_
          refine lv_goto (tgt := 40) hx hb dX3_isUp_36 (by decide) ?_
          exact W.zret (v := (1 : Int32)) hx hb hr rfl (fun t ht hW => ⟨(1 : Int32), rfl, Eq.symm ((if_neg c_1).trans ((if_neg c_2).trans ((if_neg c_3).trans ((if_neg c_4).trans (rfl))))), ht⟩) (fun q h => by cases h) dX3_isUp_40
def f_X3_comes_2 : Nat → (Nat → Int32) → (Nat → Int32) → (Nat → Int32) → (Nat → Int32) → (Nat → Int32) → Int32 → (Nat → Int32) → (Nat → Int64) → Int32 → Int32 → Int32 → Int32 → Int32
  | 0, _, _, _, _, _, _, _, _, _, _, _, _ => 0
  | k + 1, so, fi, el, av, un, ty, kp, bt, oc, x1, x2, kk => if (3 : Int32) ≤ kk then (if (so x1.toNatClampNeg) = (3 : Int32) then (if (so x2.toNatClampNeg) = (3 : Int32) then (if (el x1.toNatClampNeg) = (el x2.toNatClampNeg) then (1 : Int32)
        else if (f_X3_isReference so fi el av un ty kp bt oc (el x1.toNatClampNeg)) = 0 then (0 : Int32)
        else if (f_X3_isReference so fi el av un ty kp bt oc (el x2.toNatClampNeg)) = 0 then (0 : Int32)
        else if (un (((40 : Int32) * (el x1.toNatClampNeg)) + (el x2.toNatClampNeg)).toNatClampNeg) = 0 then (0 : Int32)
        else (1 : Int32))
      else (0 : Int32))
    else (0 : Int32))
  else if (av (((3 : Int32) * x1) + kk).toNatClampNeg) < 0 then f_X3_comes_2 k so fi el av un ty kp bt oc x1 x2 (kk + (1 : Int32))
  else if (un (((40 : Int32) * (av (((3 : Int32) * x1) + kk).toNatClampNeg)) + x2).toNatClampNeg) = 0 then f_X3_comes_2 k so fi el av un ty kp bt oc x1 x2 (kk + (1 : Int32))
  else (1 : Int32)
theorem nb_X3_comes_2 : ∀ (k : Nat) (so : Nat → Int32) (fi : Nat → Int32) (el : Nat → Int32) (av : Nat → Int32) (un : Nat → Int32) (ty : Int32) (kp : Nat → Int32) (bt : Nat → Int64) (oc : Int32) (x1 : Int32) (x2 : Int32) (kk : Int32), mb_B (f_X3_comes_2 k so fi el av un ty kp bt oc x1 x2 kk) := by
  intro k
  induction k with
  | zero =>
    intros
    exact mb_B0
  | succ k ih =>
    intro so fi el av un ty kp bt oc x1 x2 kk
    unfold f_X3_comes_2
    exact mb_B_ite (mb_B_ite (mb_B_ite (mb_B_ite (rfl) (mb_B_ite (rfl) (mb_B_ite (rfl) (mb_B_ite (rfl) (rfl))))) (rfl)) (rfl)) (mb_B_ite ((ih so fi el av un ty kp bt oc x1 x2 (kk + (1 : Int32)))) (mb_B_ite ((ih so fi el av un ty kp bt oc x1 x2 (kk + (1 : Int32)))) (rfl)))
def f_X3_comes (so : Nat → Int32) (fi : Nat → Int32) (el : Nat → Int32) (av : Nat → Int32) (un : Nat → Int32) (ty : Int32) (kp : Nat → Int32) (bt : Nat → Int64) (oc : Int32) (x1 : Int32) (x2 : Int32) : Int32 := f_X3_comes_2 4 so fi el av un ty kp bt oc x1 x2 (0 : Int32)
theorem nb_X3_comes (so : Nat → Int32) (fi : Nat → Int32) (el : Nat → Int32) (av : Nat → Int32) (un : Nat → Int32) (ty : Int32) (kp : Nat → Int32) (bt : Nat → Int64) (oc : Int32) (x1 : Int32) (x2 : Int32) : mb_B (f_X3_comes so fi el av un ty kp bt oc x1 x2) := by
  unfold f_X3_comes
  exact (nb_X3_comes_2 4 so fi el av un ty kp bt oc x1 x2 (0 : Int32))
set_option maxHeartbeats 4000000 in
set_option maxRecDepth 100000 in
theorem c_X3_comes (l : Launch) (dC : Nat → ClassId) (dI : Nat → Nat → Nat) (cyI cyZ cyJ : ClassId) (h3 e0 e1 e2 e3 e4 e5 e6 : Nat) (so : Nat → Int32) (fi : Nat → Int32) (el : Nat → Int32) (av : Nat → Int32) (un : Nat → Int32) (ty : Int32) (kp : Nat → Int32) (bt : Nat → Int64) (oc : Int32) (th : Int32) (x1 : Int32) (x2 : Int32) (g1 : vp_in x1 40) (g2 : vp_in x2 40) (ga : ∀ j, (av j).toInt < 40) (ge : mb_EL so el) : Met l yX3_comes wsX3_comes ({ frames := 1, cells := 0, slots := 0, locals := 21 }) (va_Pc [.ref h3, .int x1, .int x2] (mb_R (dC, dI) (mb_tys cyI cyZ cyJ) [(h3, .inr (5, [.int th, .int ty, .ref e0, .ref e1, .ref e2, .ref e3, .ref e4, .int oc, .ref e5, .ref e6])), (e0, .inl (cyI, 40, .inl so)), (e1, .inl (cyZ, 40, .inl fi)), (e2, .inl (cyI, 40, .inl el)), (e3, .inl (cyI, 120, .inl av)), (e4, .inl (cyZ, 1600, .inl un)), (e5, .inl (cyI, 60, .inl kp)), (e6, .inl (cyJ, 60, .inr (.inl bt)))])) (vp_Si (fun r => r = f_X3_comes so fi el av un ty kp bt oc x1 x2)) 0 0 (fun _ => False) := by
  refine Met.ofW (cc := cX3_comes) (maxL := 5) (ret := (some .boolean)) (by decide) rfl ?_
  intro p e s m args below meth c s₁ B hml hv
  obtain ⟨rfl, hP, hK⟩ := hv
  have hx := B.exec
  have hb := B.bytes
  have hr := B.returns
  have hts := atoms_spec (ws := wsX3_comes) B.pre
  have hown : s.vm.findClass RX3 = some m.cls := findClass_of_methodNamed B.named
  have hlocks := B.notSynchronized
  have hP : va_P (dC, dI) vwCl [(h3, .inr (5, [.int th, .int ty, .ref e0, .ref e1, .ref e2, .ref e3, .ref e4, .int oc, .ref e5, .ref e6])), (e0, .inl (cyI, 40, .inl so)), (e1, .inl (cyZ, 40, .inl fi)), (e2, .inl (cyI, 40, .inl el)), (e3, .inl (cyI, 120, .inl av)), (e4, .inl (cyZ, 1600, .inl un)), (e5, .inl (cyI, 60, .inl kp)), (e6, .inl (cyJ, 60, .inr (.inl bt)))] s.heap := hP
  have hP0 : va_P (dC, dI) vwCl [] s.heap := fun k q h => by simp at h
  have hin_X3 : ∀ w ∈ wsX30, w ∈ wsX3_comes := by decide +kernel
  have hf_7 := hts (.fieldLink RX3 7 "ConversionTablesModel" "sort" "[I") (by decide +kernel)
  have hf_17 := hts (.fieldLink RX3 17 "ConversionTablesModel" "elements" "[I") (by decide +kernel)
  have hf_23 := hts (.fieldLink RX3 23 "ConversionTablesModel" "under" "[Z") (by decide +kernel)
  have hf_20 := hts (.fieldLink RX3 20 "ConversionTablesModel" "above" "[I") (by decide +kernel)
  have K_2 : ∀ (k : Nat) (kk : Int32) (ls : Array Slot) (hc : 0 ≤ kk.toInt ∧ kk.toInt ≤ 3 ∧ 3 < kk.toInt + k), lv_has ls 5 [(0, .ref h3), (1, .int x1), (2, .int x2), (3, .int kk)] → f_X3_comes so fi el av un ty kp bt oc x1 x2 = f_X3_comes_2 k so fi el av un ty kp bt oc x1 x2 kk → W p l e (headSpec wsX3_comes ({ frames := 1, cells := 0, slots := 0, locals := 21 })).room s m ([.ref h3, .int x1, .int x2] : List Value).toArray below meth c s.heap [] 0 0 (MQ below (vp_Si (fun r => r = f_X3_comes so fi el av un ty kp bt oc x1 x2)) ([.ref h3, .int x1, .int x2] : List Value).toArray s 0 0 (fun _ => False)) (F0 m 2 ls []) := by
    intro k
    induction k with
    | zero =>
      intro kk ls hc
      exact absurd hc (by omega)
    | succ k ih =>
      intro kk ls hc hl hz
      refine lv_iload_n hx hb dX3_comes_2 rfl (lv_at hl 3 rfl) ?_
      refine lv_iconst (v := (3 : Int32)) hx hb dX3_comes_3 (by decide) ?_
      refine lv_icmp_ge (tgt := 47) hx hb dX3_comes_4 (by decide) (fun c_1 => ?_) (fun c_1 => ?_)
      · refine lv_aload_n hx hb dX3_comes_47 rfl (lv_at hl 0 rfl) ?_
        refine va_get (D := (dC, dI)) (ci := 5) (v := .ref e0) (C := RX3) (T := TX3) (N := 10) hx hb hts hin_X3 hown hK hP 0 rfl rfl 2 (by decide) hf_7 (fun _ h9 => h9) rfl dX3_comes_48 ?_
        refine lv_iload_n hx hb dX3_comes_51 rfl (lv_at hl 1 rfl) ?_
        refine va_iald hx hb hK hP 1 0 rfl rfl g1 dX3_comes_52 ?_
        refine lv_iconst (v := (3 : Int32)) hx hb dX3_comes_53 (by decide) ?_
        refine lv_icmp_ne (tgt := 67) hx hb dX3_comes_54 (by decide) (fun c_2 => ?_) (fun c_2 => ?_)
        · refine lv_iconst (v := (0 : Int32)) hx hb dX3_comes_67 (by decide) ?_
          exact W.zret (v := (0 : Int32)) hx hb hr rfl (fun t ht hW => ⟨(0 : Int32), rfl, Eq.symm (hz.trans ((if_pos c_1).trans ((if_neg c_2).trans (rfl)))), ht⟩) (fun q h => by cases h) dX3_comes_68
        · refine lv_aload_n hx hb dX3_comes_57 rfl (lv_at hl 0 rfl) ?_
          refine va_get (D := (dC, dI)) (ci := 5) (v := .ref e0) (C := RX3) (T := TX3) (N := 10) hx hb hts hin_X3 hown hK hP 0 rfl rfl 2 (by decide) hf_7 (fun _ h9 => h9) rfl dX3_comes_58 ?_
          refine lv_iload_n hx hb dX3_comes_61 rfl (lv_at hl 2 rfl) ?_
          refine va_iald hx hb hK hP 1 0 rfl rfl g2 dX3_comes_62 ?_
          refine lv_iconst (v := (3 : Int32)) hx hb dX3_comes_63 (by decide) ?_
          refine lv_icmp_eq (tgt := 69) hx hb dX3_comes_64 (by decide) (fun c_3 => ?_) (fun c_3 => ?_)
          · refine lv_aload_n hx hb dX3_comes_69 rfl (lv_at hl 0 rfl) ?_
            refine va_get (D := (dC, dI)) (ci := 5) (v := .ref e2) (C := RX3) (T := TX3) (N := 10) hx hb hts hin_X3 hown hK hP 0 rfl rfl 4 (by decide) hf_17 (fun _ h9 => h9) rfl dX3_comes_70 ?_
            refine lv_iload_n hx hb dX3_comes_73 rfl (lv_at hl 1 rfl) ?_
            refine va_iald hx hb hK hP 3 0 rfl rfl g1 dX3_comes_74 ?_
            refine lv_istore_n (lv' := [(3, .int (el x1.toNatClampNeg)), (0, .ref h3), (1, .int x1), (2, .int x2)]) hx hb dX3_comes_75 rfl hl (by decide) rfl (fun ls hl => ?_)
            refine lv_aload_n hx hb dX3_comes_76 rfl (lv_at hl 1 rfl) ?_
            refine va_get (D := (dC, dI)) (ci := 5) (v := .ref e2) (C := RX3) (T := TX3) (N := 10) hx hb hts hin_X3 hown hK hP 0 rfl rfl 4 (by decide) hf_17 (fun _ h9 => h9) rfl dX3_comes_77 ?_
            refine lv_iload_n hx hb dX3_comes_80 rfl (lv_at hl 3 rfl) ?_
            refine va_iald hx hb hK hP 3 0 rfl rfl g2 dX3_comes_81 ?_
            refine lv_istore (lv' := [(4, .int (el x2.toNatClampNeg)), (3, .int (el x1.toNatClampNeg)), (0, .ref h3), (1, .int x1), (2, .int x2)]) hx hb dX3_comes_82 hl (by decide) rfl (fun ls hl => ?_)
            refine lv_iload_n hx hb dX3_comes_84 rfl (lv_at hl 1 rfl) ?_
            refine lv_iload hx hb dX3_comes_85 (lv_at hl 0 rfl) ?_
            refine lv_icmp_eq (tgt := 122) hx hb dX3_comes_87 (by decide) (fun c_4 => ?_) (fun c_4 => ?_)
            · refine lv_iconst (v := (1 : Int32)) hx hb dX3_comes_122 (by decide) ?_
              refine lv_goto (tgt := 127) hx hb dX3_comes_123 (by decide) ?_
              exact W.zret (v := (1 : Int32)) hx hb hr rfl (fun t ht hW => ⟨(1 : Int32), rfl, Eq.symm (hz.trans ((if_pos c_1).trans ((if_pos c_2).trans ((if_pos c_3).trans ((if_pos c_4).trans (rfl)))))), ht⟩) (fun q h => by cases h) dX3_comes_127
            · refine lv_aload_n hx hb dX3_comes_90 rfl (lv_at hl 2 rfl) ?_
              refine lv_iload_n hx hb dX3_comes_91 rfl (lv_at hl 1 rfl) ?_
              refine mb_callSi (W.runV (As := [.int (el x1.toNatClampNeg)]) (rest := []) ⟨hx, hb, hml, hown, hts⟩ (c_X3_isReference l dC dI cyI cyZ cyJ h3 e0 e1 e2 e3 e4 e5 e6 so fi el av un ty kp bt oc th (el x1.toNatClampNeg)) (cwV 1 hts gX3_comes_X3_isReference rfl rfl rfl (by decide +kernel) ⟨Nat.le_of_ble_eq_true rfl, Nat.le_of_ble_eq_true rfl⟩) (mb_preV hK hP (ci := 5) (q0 := 0) rfl rfl) rfl rfl hl.1 rfl (lv_room (Nat.le_of_ble_eq_true rfl)) dX3_comes_92 ⟨Nat.zero_le _, Nat.zero_le _⟩) ?_
              refine lv_if_eq (tgt := 126) hx hb dX3_comes_95 (by decide) (fun c_5 => ?_) (fun c_5 => ?_)
              · refine lv_iconst (v := (0 : Int32)) hx hb dX3_comes_126 (by decide) ?_
                exact W.zret (v := (0 : Int32)) hx hb hr rfl (fun t ht hW => ⟨(0 : Int32), rfl, Eq.symm (hz.trans ((if_pos c_1).trans ((if_pos c_2).trans ((if_pos c_3).trans ((if_neg c_4).trans ((if_pos c_5).trans (rfl))))))), ht⟩) (fun q h => by cases h) dX3_comes_127
              · refine lv_aload_n hx hb dX3_comes_98 rfl (lv_at hl 2 rfl) ?_
                refine lv_iload hx hb dX3_comes_99 (lv_at hl 0 rfl) ?_
                refine mb_callSi (W.runV (As := [.int (el x2.toNatClampNeg)]) (rest := []) ⟨hx, hb, hml, hown, hts⟩ (c_X3_isReference l dC dI cyI cyZ cyJ h3 e0 e1 e2 e3 e4 e5 e6 so fi el av un ty kp bt oc th (el x2.toNatClampNeg)) (cwV 1 hts gX3_comes_X3_isReference rfl rfl rfl (by decide +kernel) ⟨Nat.le_of_ble_eq_true rfl, Nat.le_of_ble_eq_true rfl⟩) (mb_preV hK hP (ci := 5) (q0 := 0) rfl rfl) rfl rfl hl.1 rfl (lv_room (Nat.le_of_ble_eq_true rfl)) dX3_comes_101 ⟨Nat.zero_le _, Nat.zero_le _⟩) ?_
                refine lv_if_eq (tgt := 126) hx hb dX3_comes_104 (by decide) (fun c_6 => ?_) (fun c_6 => ?_)
                · refine lv_iconst (v := (0 : Int32)) hx hb dX3_comes_126 (by decide) ?_
                  exact W.zret (v := (0 : Int32)) hx hb hr rfl (fun t ht hW => ⟨(0 : Int32), rfl, Eq.symm (hz.trans ((if_pos c_1).trans ((if_pos c_2).trans ((if_pos c_3).trans ((if_neg c_4).trans ((if_neg c_5).trans ((if_pos c_6).trans (rfl)))))))), ht⟩) (fun q h => by cases h) dX3_comes_127
                · refine lv_aload_n hx hb dX3_comes_107 rfl (lv_at hl 2 rfl) ?_
                  refine va_get (D := (dC, dI)) (ci := 5) (v := .ref e4) (C := RX3) (T := TX3) (N := 10) hx hb hts hin_X3 hown hK hP 0 rfl rfl 6 (by decide) hf_23 (fun _ h9 => h9) rfl dX3_comes_108 ?_
                  refine lv_bipush (v := (40 : Int32)) hx hb dX3_comes_111 (by decide) ?_
                  refine lv_iload_n hx hb dX3_comes_113 rfl (lv_at hl 1 rfl) ?_
                  refine lv_imul hx hb dX3_comes_114 ?_
                  refine lv_iload hx hb dX3_comes_115 (lv_at hl 0 rfl) ?_
                  refine lv_iadd hx hb dX3_comes_117 ?_
                  refine va_zald hx hb hK hP 5 1 rfl rfl (mb_ixv (ge.vp g1 c_2) (ge.vp g2 c_3)) dX3_comes_118 ?_
                  refine lv_if_eq (tgt := 126) hx hb dX3_comes_119 (by decide) (fun c_7 => ?_) (fun c_7 => ?_)
                  · refine lv_iconst (v := (0 : Int32)) hx hb dX3_comes_126 (by decide) ?_
                    exact W.zret (v := (0 : Int32)) hx hb hr rfl (fun t ht hW => ⟨(0 : Int32), rfl, Eq.symm (hz.trans ((if_pos c_1).trans ((if_pos c_2).trans ((if_pos c_3).trans ((if_neg c_4).trans ((if_neg c_5).trans ((if_neg c_6).trans ((if_pos c_7).trans (rfl))))))))), ht⟩) (fun q h => by cases h) dX3_comes_127
                  · refine lv_iconst (v := (1 : Int32)) hx hb dX3_comes_122 (by decide) ?_
                    refine lv_goto (tgt := 127) hx hb dX3_comes_123 (by decide) ?_
                    exact W.zret (v := (1 : Int32)) hx hb hr rfl (fun t ht hW => ⟨(1 : Int32), rfl, Eq.symm (hz.trans ((if_pos c_1).trans ((if_pos c_2).trans ((if_pos c_3).trans ((if_neg c_4).trans ((if_neg c_5).trans ((if_neg c_6).trans ((if_neg c_7).trans (rfl))))))))), ht⟩) (fun q h => by cases h) dX3_comes_127
          · refine lv_iconst (v := (0 : Int32)) hx hb dX3_comes_67 (by decide) ?_
            exact W.zret (v := (0 : Int32)) hx hb hr rfl (fun t ht hW => ⟨(0 : Int32), rfl, Eq.symm (hz.trans ((if_pos c_1).trans ((if_pos c_2).trans ((if_neg c_3).trans (rfl))))), ht⟩) (fun q h => by cases h) dX3_comes_68
      · refine lv_aload_n hx hb dX3_comes_7 rfl (lv_at hl 0 rfl) ?_
        refine va_get (D := (dC, dI)) (ci := 5) (v := .ref e3) (C := RX3) (T := TX3) (N := 10) hx hb hts hin_X3 hown hK hP 0 rfl rfl 5 (by decide) hf_20 (fun _ h9 => h9) rfl dX3_comes_8 ?_
        refine lv_iconst (v := (3 : Int32)) hx hb dX3_comes_11 (by decide) ?_
        refine lv_iload_n hx hb dX3_comes_12 rfl (lv_at hl 1 rfl) ?_
        refine lv_imul hx hb dX3_comes_13 ?_
        refine lv_iload_n hx hb dX3_comes_14 rfl (lv_at hl 3 rfl) ?_
        refine lv_iadd hx hb dX3_comes_15 ?_
        refine va_iald hx hb hK hP 4 0 rfl rfl (mb_ix3 g1 hc c_1) dX3_comes_16 ?_
        refine lv_istore (lv' := [(4, .int (av (((3 : Int32) * x1) + kk).toNatClampNeg)), (0, .ref h3), (1, .int x1), (2, .int x2), (3, .int kk)]) hx hb dX3_comes_17 hl (by decide) rfl (fun ls hl => ?_)
        refine lv_iload hx hb dX3_comes_19 (lv_at hl 0 rfl) ?_
        refine lv_if_lt (tgt := 41) hx hb dX3_comes_21 (by decide) (fun c_8 => ?_) (fun c_8 => ?_)
        · refine lv_iinc (v := (kk + (1 : Int32))) (lv' := [(3, .int (kk + (1 : Int32))), (4, .int (av (((3 : Int32) * x1) + kk).toNatClampNeg)), (0, .ref h3), (1, .int x1), (2, .int x2)]) hx hb dX3_comes_41 hl (k := 4) rfl rfl (by decide) rfl (fun ls hl => ?_)
          refine lv_goto (tgt := 2) hx hb dX3_comes_44 (by decide) ?_
          exact ih (kk + (1 : Int32)) ls (mb_k3_step hc c_1) (lv_sub hl [2, 3, 4, 0] rfl) (hz.trans ((if_neg c_1).trans ((if_pos c_8).trans (rfl))))
        · refine lv_aload_n hx hb dX3_comes_24 rfl (lv_at hl 1 rfl) ?_
          refine va_get (D := (dC, dI)) (ci := 5) (v := .ref e4) (C := RX3) (T := TX3) (N := 10) hx hb hts hin_X3 hown hK hP 0 rfl rfl 6 (by decide) hf_23 (fun _ h9 => h9) rfl dX3_comes_25 ?_
          refine lv_bipush (v := (40 : Int32)) hx hb dX3_comes_28 (by decide) ?_
          refine lv_iload hx hb dX3_comes_30 (lv_at hl 0 rfl) ?_
          refine lv_imul hx hb dX3_comes_32 ?_
          refine lv_iload_n hx hb dX3_comes_33 rfl (lv_at hl 3 rfl) ?_
          refine lv_iadd hx hb dX3_comes_34 ?_
          refine va_zald hx hb hK hP 5 1 rfl rfl (mb_ixv (mb_av c_8 (ga _)) g2) dX3_comes_35 ?_
          refine lv_if_eq (tgt := 41) hx hb dX3_comes_36 (by decide) (fun c_9 => ?_) (fun c_9 => ?_)
          · refine lv_iinc (v := (kk + (1 : Int32))) (lv' := [(3, .int (kk + (1 : Int32))), (4, .int (av (((3 : Int32) * x1) + kk).toNatClampNeg)), (0, .ref h3), (1, .int x1), (2, .int x2)]) hx hb dX3_comes_41 hl (k := 4) rfl rfl (by decide) rfl (fun ls hl => ?_)
            refine lv_goto (tgt := 2) hx hb dX3_comes_44 (by decide) ?_
            exact ih (kk + (1 : Int32)) ls (mb_k3_step hc c_1) (lv_sub hl [2, 3, 4, 0] rfl) (hz.trans ((if_neg c_1).trans ((if_neg c_8).trans ((if_pos c_9).trans (rfl)))))
          · refine lv_iconst (v := (1 : Int32)) hx hb dX3_comes_39 (by decide) ?_
            exact W.zret (v := (1 : Int32)) hx hb hr rfl (fun t ht hW => ⟨(1 : Int32), rfl, Eq.symm (hz.trans ((if_neg c_1).trans ((if_neg c_8).trans ((if_neg c_9).trans (rfl))))), ht⟩) (fun q h => by cases h) dX3_comes_40
  have hl := lv_entry ([.ref h3, .int x1, .int x2]) (n := 5) (Nat.le_of_ble_eq_true rfl)
  rw [lg_entry_eq]
  generalize (lg_sl ([.ref h3, .int x1, .int x2]) ++ List.replicate (5 - (lg_sl ([.ref h3, .int x1, .int x2])).length) Slot.unset).toArray = ls at hl ⊢
  have hl : lv_has ls 5 [(0, .ref h3), (1, .int x1), (2, .int x2)] := hl
  refine lv_iconst (v := (0 : Int32)) hx hb dX3_comes_0 (by decide) ?_
  refine lv_istore_n (lv' := [(3, .int (0 : Int32)), (0, .ref h3), (1, .int x1), (2, .int x2)]) hx hb dX3_comes_1 rfl hl (by decide) rfl (fun ls hl => ?_)
  exact K_2 4 (0 : Int32) ls (by decide) (lv_sub hl [1, 2, 3, 0] rfl) (rfl)
def f_X3_isDown_161 (so : Nat → Int32) (fi : Nat → Int32) (el : Nat → Int32) (av : Nat → Int32) (un : Nat → Int32) (ty : Int32) (kp : Nat → Int32) (bt : Nat → Int64) (oc : Int32) (x1 : Int32) (x2 : Int32) (ss : Int32) (tt : Int32) (back : Int32 → Int32 → Int32) : Int32 := if (so ss.toNatClampNeg) = (3 : Int32) then (if (so tt.toNatClampNeg) = (3 : Int32) then (if (f_X3_isReference so fi el av un ty kp bt oc (el ss.toNatClampNeg)) = 0 then (0 : Int32)
      else if (f_X3_isReference so fi el av un ty kp bt oc (el tt.toNatClampNeg)) = 0 then (0 : Int32)
      else if (f_X3_isUp so fi el av un ty kp bt oc (el ss.toNatClampNeg) (el tt.toNatClampNeg)) = 0 then back (el ss.toNatClampNeg) (el tt.toNatClampNeg)
      else (1 : Int32))
    else (0 : Int32))
  else (0 : Int32)
theorem nb_X3_isDown_161 (so : Nat → Int32) (fi : Nat → Int32) (el : Nat → Int32) (av : Nat → Int32) (un : Nat → Int32) (ty : Int32) (kp : Nat → Int32) (bt : Nat → Int64) (oc : Int32) (x1 : Int32) (x2 : Int32) (ss : Int32) (tt : Int32) (back : Int32 → Int32 → Int32) (hback : ∀ y0 y1, mb_B (back y0 y1)) : mb_B (f_X3_isDown_161 so fi el av un ty kp bt oc x1 x2 ss tt back) := by
  unfold f_X3_isDown_161
  exact mb_B_ite (mb_B_ite (mb_B_ite (rfl) (mb_B_ite (rfl) (mb_B_ite ((hback (el ss.toNatClampNeg) (el tt.toNatClampNeg))) (rfl)))) (rfl)) (rfl)
def f_X3_isDown_129 (so : Nat → Int32) (fi : Nat → Int32) (el : Nat → Int32) (av : Nat → Int32) (un : Nat → Int32) (ty : Int32) (kp : Nat → Int32) (bt : Nat → Int64) (oc : Int32) (x1 : Int32) (x2 : Int32) (ss : Int32) (tt : Int32) (back : Int32 → Int32 → Int32) : Int32 := if (so tt.toNatClampNeg) = (2 : Int32) then (if (so ss.toNatClampNeg) = (1 : Int32) then (if (fi ss.toNatClampNeg) = 0 then (1 : Int32)
      else f_X3_isDown_161 so fi el av un ty kp bt oc x1 x2 ss tt back)
    else f_X3_isDown_161 so fi el av un ty kp bt oc x1 x2 ss tt back)
  else f_X3_isDown_161 so fi el av un ty kp bt oc x1 x2 ss tt back
theorem nb_X3_isDown_129 (so : Nat → Int32) (fi : Nat → Int32) (el : Nat → Int32) (av : Nat → Int32) (un : Nat → Int32) (ty : Int32) (kp : Nat → Int32) (bt : Nat → Int64) (oc : Int32) (x1 : Int32) (x2 : Int32) (ss : Int32) (tt : Int32) (back : Int32 → Int32 → Int32) (hback : ∀ y0 y1, mb_B (back y0 y1)) : mb_B (f_X3_isDown_129 so fi el av un ty kp bt oc x1 x2 ss tt back) := by
  unfold f_X3_isDown_129
  exact mb_B_ite (mb_B_ite (mb_B_ite (rfl) ((nb_X3_isDown_161 so fi el av un ty kp bt oc x1 x2 ss tt back hback))) ((nb_X3_isDown_161 so fi el av un ty kp bt oc x1 x2 ss tt back hback))) ((nb_X3_isDown_161 so fi el av un ty kp bt oc x1 x2 ss tt back hback))
def f_X3_isDown_98 (so : Nat → Int32) (fi : Nat → Int32) (el : Nat → Int32) (av : Nat → Int32) (un : Nat → Int32) (ty : Int32) (kp : Nat → Int32) (bt : Nat → Int64) (oc : Int32) (x1 : Int32) (x2 : Int32) (ss : Int32) (tt : Int32) (back : Int32 → Int32 → Int32) : Int32 := if (so ss.toNatClampNeg) = (2 : Int32) then (if (so tt.toNatClampNeg) = (1 : Int32) then (if (fi tt.toNatClampNeg) = 0 then (1 : Int32)
      else f_X3_isDown_129 so fi el av un ty kp bt oc x1 x2 ss tt back)
    else f_X3_isDown_129 so fi el av un ty kp bt oc x1 x2 ss tt back)
  else f_X3_isDown_129 so fi el av un ty kp bt oc x1 x2 ss tt back
theorem nb_X3_isDown_98 (so : Nat → Int32) (fi : Nat → Int32) (el : Nat → Int32) (av : Nat → Int32) (un : Nat → Int32) (ty : Int32) (kp : Nat → Int32) (bt : Nat → Int64) (oc : Int32) (x1 : Int32) (x2 : Int32) (ss : Int32) (tt : Int32) (back : Int32 → Int32 → Int32) (hback : ∀ y0 y1, mb_B (back y0 y1)) : mb_B (f_X3_isDown_98 so fi el av un ty kp bt oc x1 x2 ss tt back) := by
  unfold f_X3_isDown_98
  exact mb_B_ite (mb_B_ite (mb_B_ite (rfl) ((nb_X3_isDown_129 so fi el av un ty kp bt oc x1 x2 ss tt back hback))) ((nb_X3_isDown_129 so fi el av un ty kp bt oc x1 x2 ss tt back hback))) ((nb_X3_isDown_129 so fi el av un ty kp bt oc x1 x2 ss tt back hback))
def f_X3_isDown_5 : Nat → (Nat → Int32) → (Nat → Int32) → (Nat → Int32) → (Nat → Int32) → (Nat → Int32) → Int32 → (Nat → Int32) → (Nat → Int64) → Int32 → Int32 → Int32 → Int32 → Int32 → Int32
  | 0, _, _, _, _, _, _, _, _, _, _, _, _, _ => 0
  | k + 1, so, fi, el, av, un, ty, kp, bt, oc, x1, x2, ss, tt => if (f_X3_isReference so fi el av un ty kp bt oc ss) = 0 then (0 : Int32)
  else if (f_X3_isReference so fi el av un ty kp bt oc tt) = 0 then (0 : Int32)
  else if (so ss.toNatClampNeg) = (4 : Int32) then (0 : Int32)
  else if (so tt.toNatClampNeg) = (4 : Int32) then (0 : Int32)
  else if (un (((40 : Int32) * ss) + tt).toNatClampNeg) = 0 then (if (un (((40 : Int32) * tt) + ss).toNatClampNeg) = 0 then (if (so ss.toNatClampNeg) = (2 : Int32) then (if (so tt.toNatClampNeg) = (2 : Int32) then (1 : Int32)
        else f_X3_isDown_98 so fi el av un ty kp bt oc x1 x2 ss tt (f_X3_isDown_5 k so fi el av un ty kp bt oc x1 x2))
      else f_X3_isDown_98 so fi el av un ty kp bt oc x1 x2 ss tt (f_X3_isDown_5 k so fi el av un ty kp bt oc x1 x2))
    else (1 : Int32))
  else (0 : Int32)
theorem nb_X3_isDown_5 : ∀ (k : Nat) (so : Nat → Int32) (fi : Nat → Int32) (el : Nat → Int32) (av : Nat → Int32) (un : Nat → Int32) (ty : Int32) (kp : Nat → Int32) (bt : Nat → Int64) (oc : Int32) (x1 : Int32) (x2 : Int32) (ss : Int32) (tt : Int32), mb_B (f_X3_isDown_5 k so fi el av un ty kp bt oc x1 x2 ss tt) := by
  intro k
  induction k with
  | zero =>
    intros
    exact mb_B0
  | succ k ih =>
    intro so fi el av un ty kp bt oc x1 x2 ss tt
    unfold f_X3_isDown_5
    exact mb_B_ite (rfl) (mb_B_ite (rfl) (mb_B_ite (rfl) (mb_B_ite (rfl) (mb_B_ite (mb_B_ite (mb_B_ite (mb_B_ite (rfl) ((nb_X3_isDown_98 so fi el av un ty kp bt oc x1 x2 ss tt (f_X3_isDown_5 k so fi el av un ty kp bt oc x1 x2) (fun y0 y1 => ih so fi el av un ty kp bt oc x1 x2 y0 y1)))) ((nb_X3_isDown_98 so fi el av un ty kp bt oc x1 x2 ss tt (f_X3_isDown_5 k so fi el av un ty kp bt oc x1 x2) (fun y0 y1 => ih so fi el av un ty kp bt oc x1 x2 y0 y1)))) (rfl)) (rfl)))))
def f_X3_isDown (so : Nat → Int32) (fi : Nat → Int32) (el : Nat → Int32) (av : Nat → Int32) (un : Nat → Int32) (ty : Int32) (kp : Nat → Int32) (bt : Nat → Int64) (oc : Int32) (x1 : Int32) (x2 : Int32) : Int32 := f_X3_isDown_5 40 so fi el av un ty kp bt oc x1 x2 x1 x2
theorem nb_X3_isDown (so : Nat → Int32) (fi : Nat → Int32) (el : Nat → Int32) (av : Nat → Int32) (un : Nat → Int32) (ty : Int32) (kp : Nat → Int32) (bt : Nat → Int64) (oc : Int32) (x1 : Int32) (x2 : Int32) : mb_B (f_X3_isDown so fi el av un ty kp bt oc x1 x2) := by
  unfold f_X3_isDown
  exact (nb_X3_isDown_5 40 so fi el av un ty kp bt oc x1 x2 x1 x2)
set_option maxHeartbeats 4000000 in
set_option maxRecDepth 100000 in
theorem c_X3_isDown (l : Launch) (dC : Nat → ClassId) (dI : Nat → Nat → Nat) (cyI cyZ cyJ : ClassId) (h3 e0 e1 e2 e3 e4 e5 e6 : Nat) (so : Nat → Int32) (fi : Nat → Int32) (el : Nat → Int32) (av : Nat → Int32) (un : Nat → Int32) (ty : Int32) (kp : Nat → Int32) (bt : Nat → Int64) (oc : Int32) (th : Int32) (x1 : Int32) (x2 : Int32) (g1 : vp_in x1 40) (g2 : vp_in x2 40) (ge : mb_EL so el) : Met l yX3_isDown wsX3_isDown ({ frames := 2, cells := 0, slots := 0, locals := 43 }) (va_Pc [.ref h3, .int x1, .int x2] (mb_R (dC, dI) (mb_tys cyI cyZ cyJ) [(h3, .inr (5, [.int th, .int ty, .ref e0, .ref e1, .ref e2, .ref e3, .ref e4, .int oc, .ref e5, .ref e6])), (e0, .inl (cyI, 40, .inl so)), (e1, .inl (cyZ, 40, .inl fi)), (e2, .inl (cyI, 40, .inl el)), (e3, .inl (cyI, 120, .inl av)), (e4, .inl (cyZ, 1600, .inl un)), (e5, .inl (cyI, 60, .inl kp)), (e6, .inl (cyJ, 60, .inr (.inl bt)))])) (vp_Si (fun r => r = f_X3_isDown so fi el av un ty kp bt oc x1 x2)) 0 0 (fun _ => False) := by
  refine Met.ofW (cc := cX3_isDown) (maxL := 5) (ret := (some .boolean)) (by decide) rfl ?_
  intro p e s m args below meth c s₁ B hml hv
  obtain ⟨rfl, hP, hK⟩ := hv
  have hx := B.exec
  have hb := B.bytes
  have hr := B.returns
  have hts := atoms_spec (ws := wsX3_isDown) B.pre
  have hown : s.vm.findClass RX3 = some m.cls := findClass_of_methodNamed B.named
  have hlocks := B.notSynchronized
  have hP : va_P (dC, dI) vwCl [(h3, .inr (5, [.int th, .int ty, .ref e0, .ref e1, .ref e2, .ref e3, .ref e4, .int oc, .ref e5, .ref e6])), (e0, .inl (cyI, 40, .inl so)), (e1, .inl (cyZ, 40, .inl fi)), (e2, .inl (cyI, 40, .inl el)), (e3, .inl (cyI, 120, .inl av)), (e4, .inl (cyZ, 1600, .inl un)), (e5, .inl (cyI, 60, .inl kp)), (e6, .inl (cyJ, 60, .inr (.inl bt)))] s.heap := hP
  have hP0 : va_P (dC, dI) vwCl [] s.heap := fun k q h => by simp at h
  have hin_X3 : ∀ w ∈ wsX30, w ∈ wsX3_isDown := by decide +kernel
  have hf_7 := hts (.fieldLink RX3 7 "ConversionTablesModel" "sort" "[I") (by decide +kernel)
  have hf_17 := hts (.fieldLink RX3 17 "ConversionTablesModel" "elements" "[I") (by decide +kernel)
  have hf_13 := hts (.fieldLink RX3 13 "ConversionTablesModel" "isFinal" "[Z") (by decide +kernel)
  have hf_23 := hts (.fieldLink RX3 23 "ConversionTablesModel" "under" "[Z") (by decide +kernel)
  have K_5 : ∀ (k : Nat) (ss : Int32) (tt : Int32) (ls : Array Slot) (g3 : vp_in ss 40) (g4 : vp_in tt 40) (gm : ss.toInt < k), lv_has ls 5 [(0, .ref h3), (3, .int ss), (4, .int tt)] → f_X3_isDown so fi el av un ty kp bt oc x1 x2 = f_X3_isDown_5 k so fi el av un ty kp bt oc x1 x2 ss tt → W p l e (headSpec wsX3_isDown ({ frames := 2, cells := 0, slots := 0, locals := 43 })).room s m ([.ref h3, .int x1, .int x2] : List Value).toArray below meth c s.heap [] 0 0 (MQ below (vp_Si (fun r => r = f_X3_isDown so fi el av un ty kp bt oc x1 x2)) ([.ref h3, .int x1, .int x2] : List Value).toArray s 0 0 (fun _ => False)) (F0 m 5 ls []) := by
    intro k
    induction k with
    | zero =>
      intro ss tt ls g3 g4 gm
      exact absurd gm (by have h := vp_in_iff.mp g3; omega)
    | succ k ih =>
      intro ss tt ls g3 g4 gm hl hz
      have K_161 : ∀ (ss : Int32) (tt : Int32) (ls : Array Slot) (g3 : vp_in ss 40) (g4 : vp_in tt 40) (gm : ss.toInt < ((k + 1 : Nat) : Int)), lv_has ls 5 [(0, .ref h3), (3, .int ss), (4, .int tt)] → f_X3_isDown so fi el av un ty kp bt oc x1 x2 = f_X3_isDown_161 so fi el av un ty kp bt oc x1 x2 ss tt (f_X3_isDown_5 k so fi el av un ty kp bt oc x1 x2) → W p l e (headSpec wsX3_isDown ({ frames := 2, cells := 0, slots := 0, locals := 43 })).room s m ([.ref h3, .int x1, .int x2] : List Value).toArray below meth c s.heap [] 0 0 (MQ below (vp_Si (fun r => r = f_X3_isDown so fi el av un ty kp bt oc x1 x2)) ([.ref h3, .int x1, .int x2] : List Value).toArray s 0 0 (fun _ => False)) (F0 m 161 ls []) := by
        intro ss tt ls g3 g4 gm hl hz
        refine lv_aload_n hx hb dX3_isDown_161 rfl (lv_at hl 0 rfl) ?_
        refine va_get (D := (dC, dI)) (ci := 5) (v := .ref e0) (C := RX3) (T := TX3) (N := 10) hx hb hts hin_X3 hown hK hP 0 rfl rfl 2 (by decide) hf_7 (fun _ h9 => h9) rfl dX3_isDown_162 ?_
        refine lv_iload_n hx hb dX3_isDown_165 rfl (lv_at hl 1 rfl) ?_
        refine va_iald hx hb hK hP 1 0 rfl rfl g3 dX3_isDown_166 ?_
        refine lv_iconst (v := (3 : Int32)) hx hb dX3_isDown_167 (by decide) ?_
        refine lv_icmp_ne (tgt := 209) hx hb dX3_isDown_168 (by decide) (fun c_1 => ?_) (fun c_1 => ?_)
        · refine lv_iconst (v := (0 : Int32)) hx hb dX3_isDown_209 (by decide) ?_
          exact W.zret (v := (0 : Int32)) hx hb hr rfl (fun t ht hW => ⟨(0 : Int32), rfl, Eq.symm (hz.trans ((if_neg c_1).trans (rfl))), ht⟩) (fun q h => by cases h) dX3_isDown_210
        · refine lv_aload_n hx hb dX3_isDown_171 rfl (lv_at hl 0 rfl) ?_
          refine va_get (D := (dC, dI)) (ci := 5) (v := .ref e0) (C := RX3) (T := TX3) (N := 10) hx hb hts hin_X3 hown hK hP 0 rfl rfl 2 (by decide) hf_7 (fun _ h9 => h9) rfl dX3_isDown_172 ?_
          refine lv_iload hx hb dX3_isDown_175 (lv_at hl 2 rfl) ?_
          refine va_iald hx hb hK hP 1 0 rfl rfl g4 dX3_isDown_177 ?_
          refine lv_iconst (v := (3 : Int32)) hx hb dX3_isDown_178 (by decide) ?_
          refine lv_icmp_ne (tgt := 209) hx hb dX3_isDown_179 (by decide) (fun c_2 => ?_) (fun c_2 => ?_)
          · refine lv_iconst (v := (0 : Int32)) hx hb dX3_isDown_209 (by decide) ?_
            exact W.zret (v := (0 : Int32)) hx hb hr rfl (fun t ht hW => ⟨(0 : Int32), rfl, Eq.symm (hz.trans ((if_pos c_1).trans ((if_neg c_2).trans (rfl)))), ht⟩) (fun q h => by cases h) dX3_isDown_210
          · refine lv_aload_n hx hb dX3_isDown_182 rfl (lv_at hl 0 rfl) ?_
            refine lv_aload_n hx hb dX3_isDown_183 rfl (lv_at hl 0 rfl) ?_
            refine va_get (D := (dC, dI)) (ci := 5) (v := .ref e2) (C := RX3) (T := TX3) (N := 10) hx hb hts hin_X3 hown hK hP 0 rfl rfl 4 (by decide) hf_17 (fun _ h9 => h9) rfl dX3_isDown_184 ?_
            refine lv_iload_n hx hb dX3_isDown_187 rfl (lv_at hl 1 rfl) ?_
            refine va_iald hx hb hK hP 3 0 rfl rfl g3 dX3_isDown_188 ?_
            refine mb_callSi (W.runV (As := [.int (el ss.toNatClampNeg)]) (rest := []) ⟨hx, hb, hml, hown, hts⟩ (c_X3_isReference l dC dI cyI cyZ cyJ h3 e0 e1 e2 e3 e4 e5 e6 so fi el av un ty kp bt oc th (el ss.toNatClampNeg)) (cwV 1 hts gX3_isDown_X3_isReference rfl rfl rfl (by decide +kernel) ⟨Nat.le_of_ble_eq_true rfl, Nat.le_of_ble_eq_true rfl⟩) (mb_preV hK hP (ci := 5) (q0 := 0) rfl rfl) rfl rfl hl.1 rfl (lv_room (Nat.le_of_ble_eq_true rfl)) dX3_isDown_189 ⟨Nat.zero_le _, Nat.zero_le _⟩) ?_
            refine lv_if_eq (tgt := 209) hx hb dX3_isDown_192 (by decide) (fun c_3 => ?_) (fun c_3 => ?_)
            · refine lv_iconst (v := (0 : Int32)) hx hb dX3_isDown_209 (by decide) ?_
              exact W.zret (v := (0 : Int32)) hx hb hr rfl (fun t ht hW => ⟨(0 : Int32), rfl, Eq.symm (hz.trans ((if_pos c_1).trans ((if_pos c_2).trans ((if_pos c_3).trans (rfl))))), ht⟩) (fun q h => by cases h) dX3_isDown_210
            · refine lv_aload_n hx hb dX3_isDown_195 rfl (lv_at hl 0 rfl) ?_
              refine lv_aload_n hx hb dX3_isDown_196 rfl (lv_at hl 0 rfl) ?_
              refine va_get (D := (dC, dI)) (ci := 5) (v := .ref e2) (C := RX3) (T := TX3) (N := 10) hx hb hts hin_X3 hown hK hP 0 rfl rfl 4 (by decide) hf_17 (fun _ h9 => h9) rfl dX3_isDown_197 ?_
              refine lv_iload hx hb dX3_isDown_200 (lv_at hl 2 rfl) ?_
              refine va_iald hx hb hK hP 3 0 rfl rfl g4 dX3_isDown_202 ?_
              refine mb_callSi (W.runV (As := [.int (el tt.toNatClampNeg)]) (rest := []) ⟨hx, hb, hml, hown, hts⟩ (c_X3_isReference l dC dI cyI cyZ cyJ h3 e0 e1 e2 e3 e4 e5 e6 so fi el av un ty kp bt oc th (el tt.toNatClampNeg)) (cwV 1 hts gX3_isDown_X3_isReference rfl rfl rfl (by decide +kernel) ⟨Nat.le_of_ble_eq_true rfl, Nat.le_of_ble_eq_true rfl⟩) (mb_preV hK hP (ci := 5) (q0 := 0) rfl rfl) rfl rfl hl.1 rfl (lv_room (Nat.le_of_ble_eq_true rfl)) dX3_isDown_203 ⟨Nat.zero_le _, Nat.zero_le _⟩) ?_
              refine lv_if_ne (tgt := 211) hx hb dX3_isDown_206 (by decide) (fun c_4 => ?_) (fun c_4 => ?_)
              · refine lv_aload_n hx hb dX3_isDown_211 rfl (lv_at hl 0 rfl) ?_
                refine va_get (D := (dC, dI)) (ci := 5) (v := .ref e2) (C := RX3) (T := TX3) (N := 10) hx hb hts hin_X3 hown hK hP 0 rfl rfl 4 (by decide) hf_17 (fun _ h9 => h9) rfl dX3_isDown_212 ?_
                refine lv_iload_n hx hb dX3_isDown_215 rfl (lv_at hl 1 rfl) ?_
                refine va_iald hx hb hK hP 3 0 rfl rfl g3 dX3_isDown_216 ?_
                refine lv_istore_n (lv' := [(3, .int (el ss.toNatClampNeg)), (0, .ref h3), (4, .int tt)]) hx hb dX3_isDown_217 rfl hl (by decide) rfl (fun ls hl => ?_)
                refine lv_aload_n hx hb dX3_isDown_218 rfl (lv_at hl 1 rfl) ?_
                refine va_get (D := (dC, dI)) (ci := 5) (v := .ref e2) (C := RX3) (T := TX3) (N := 10) hx hb hts hin_X3 hown hK hP 0 rfl rfl 4 (by decide) hf_17 (fun _ h9 => h9) rfl dX3_isDown_219 ?_
                refine lv_iload hx hb dX3_isDown_222 (lv_at hl 2 rfl) ?_
                refine va_iald hx hb hK hP 3 0 rfl rfl g4 dX3_isDown_224 ?_
                refine lv_istore (lv' := [(4, .int (el tt.toNatClampNeg)), (3, .int (el ss.toNatClampNeg)), (0, .ref h3)]) hx hb dX3_isDown_225 hl (by decide) rfl (fun ls hl => ?_)
                refine lv_aload_n hx hb dX3_isDown_227 rfl (lv_at hl 2 rfl) ?_
                refine lv_iload_n hx hb dX3_isDown_228 rfl (lv_at hl 1 rfl) ?_
                refine lv_iload hx hb dX3_isDown_229 (lv_at hl 0 rfl) ?_
                refine mb_callSi (W.runV (As := [.int (el ss.toNatClampNeg), .int (el tt.toNatClampNeg)]) (rest := []) ⟨hx, hb, hml, hown, hts⟩ (c_X3_isUp l dC dI cyI cyZ cyJ h3 e0 e1 e2 e3 e4 e5 e6 so fi el av un ty kp bt oc th (el ss.toNatClampNeg) (el tt.toNatClampNeg) (ge.vp g3 c_1) (ge.vp g4 c_2)) (cwV 2 hts gX3_isDown_X3_isUp rfl rfl rfl (by decide +kernel) ⟨Nat.le_of_ble_eq_true rfl, Nat.le_of_ble_eq_true rfl⟩) (mb_preV hK hP (ci := 5) (q0 := 0) rfl rfl) rfl rfl hl.1 rfl (lv_room (Nat.le_of_ble_eq_true rfl)) dX3_isDown_231 ⟨Nat.zero_le _, Nat.zero_le _⟩) ?_
                refine lv_if_eq (tgt := 5) hx hb dX3_isDown_234 (by decide) (fun c_5 => ?_) (fun c_5 => ?_)
                · exact ih (el ss.toNatClampNeg) (el tt.toNatClampNeg) ls (ge.vp g3 c_1) (ge.vp g4 c_2) (mb_dstep ge g3 c_1 gm) (lv_sub hl [2, 1, 0] rfl) (hz.trans ((if_pos c_1).trans ((if_pos c_2).trans ((if_neg c_3).trans ((if_neg c_4).trans ((if_pos c_5).trans (rfl)))))))
                · refine lv_iconst (v := (1 : Int32)) hx hb dX3_isDown_237 (by decide) ?_
                  exact W.zret (v := (1 : Int32)) hx hb hr rfl (fun t ht hW => ⟨(1 : Int32), rfl, Eq.symm (hz.trans ((if_pos c_1).trans ((if_pos c_2).trans ((if_neg c_3).trans ((if_neg c_4).trans ((if_neg c_5).trans (rfl))))))), ht⟩) (fun q h => by cases h) dX3_isDown_238
              · refine lv_iconst (v := (0 : Int32)) hx hb dX3_isDown_209 (by decide) ?_
                exact W.zret (v := (0 : Int32)) hx hb hr rfl (fun t ht hW => ⟨(0 : Int32), rfl, Eq.symm (hz.trans ((if_pos c_1).trans ((if_pos c_2).trans ((if_neg c_3).trans ((if_pos c_4).trans (rfl)))))), ht⟩) (fun q h => by cases h) dX3_isDown_210
      have K_129 : ∀ (ss : Int32) (tt : Int32) (ls : Array Slot) (g3 : vp_in ss 40) (g4 : vp_in tt 40) (gm : ss.toInt < ((k + 1 : Nat) : Int)), lv_has ls 5 [(0, .ref h3), (3, .int ss), (4, .int tt)] → f_X3_isDown so fi el av un ty kp bt oc x1 x2 = f_X3_isDown_129 so fi el av un ty kp bt oc x1 x2 ss tt (f_X3_isDown_5 k so fi el av un ty kp bt oc x1 x2) → W p l e (headSpec wsX3_isDown ({ frames := 2, cells := 0, slots := 0, locals := 43 })).room s m ([.ref h3, .int x1, .int x2] : List Value).toArray below meth c s.heap [] 0 0 (MQ below (vp_Si (fun r => r = f_X3_isDown so fi el av un ty kp bt oc x1 x2)) ([.ref h3, .int x1, .int x2] : List Value).toArray s 0 0 (fun _ => False)) (F0 m 129 ls []) := by
        intro ss tt ls g3 g4 gm hl hz
        refine lv_aload_n hx hb dX3_isDown_129 rfl (lv_at hl 0 rfl) ?_
        refine va_get (D := (dC, dI)) (ci := 5) (v := .ref e0) (C := RX3) (T := TX3) (N := 10) hx hb hts hin_X3 hown hK hP 0 rfl rfl 2 (by decide) hf_7 (fun _ h9 => h9) rfl dX3_isDown_130 ?_
        refine lv_iload hx hb dX3_isDown_133 (lv_at hl 2 rfl) ?_
        refine va_iald hx hb hK hP 1 0 rfl rfl g4 dX3_isDown_135 ?_
        refine lv_iconst (v := (2 : Int32)) hx hb dX3_isDown_136 (by decide) ?_
        refine lv_icmp_ne (tgt := 161) hx hb dX3_isDown_137 (by decide) (fun c_6 => ?_) (fun c_6 => ?_)
        · exact K_161 ss tt ls (g3) (g4) (gm) (lv_sub hl [0, 1, 2] rfl) (hz.trans ((if_neg c_6).trans (rfl)))
        · refine lv_aload_n hx hb dX3_isDown_140 rfl (lv_at hl 0 rfl) ?_
          refine va_get (D := (dC, dI)) (ci := 5) (v := .ref e0) (C := RX3) (T := TX3) (N := 10) hx hb hts hin_X3 hown hK hP 0 rfl rfl 2 (by decide) hf_7 (fun _ h9 => h9) rfl dX3_isDown_141 ?_
          refine lv_iload_n hx hb dX3_isDown_144 rfl (lv_at hl 1 rfl) ?_
          refine va_iald hx hb hK hP 1 0 rfl rfl g3 dX3_isDown_145 ?_
          refine lv_iconst (v := (1 : Int32)) hx hb dX3_isDown_146 (by decide) ?_
          refine lv_icmp_ne (tgt := 161) hx hb dX3_isDown_147 (by decide) (fun c_7 => ?_) (fun c_7 => ?_)
          · exact K_161 ss tt ls (g3) (g4) (gm) (lv_sub hl [0, 1, 2] rfl) (hz.trans ((if_pos c_6).trans ((if_neg c_7).trans (rfl))))
          · refine lv_aload_n hx hb dX3_isDown_150 rfl (lv_at hl 0 rfl) ?_
            refine va_get (D := (dC, dI)) (ci := 5) (v := .ref e1) (C := RX3) (T := TX3) (N := 10) hx hb hts hin_X3 hown hK hP 0 rfl rfl 3 (by decide) hf_13 (fun _ h9 => h9) rfl dX3_isDown_151 ?_
            refine lv_iload_n hx hb dX3_isDown_154 rfl (lv_at hl 1 rfl) ?_
            refine va_zald hx hb hK hP 2 1 rfl rfl g3 dX3_isDown_155 ?_
            refine lv_if_ne (tgt := 161) hx hb dX3_isDown_156 (by decide) (fun c_8 => ?_) (fun c_8 => ?_)
            · exact K_161 ss tt ls (g3) (g4) (gm) (lv_sub hl [0, 1, 2] rfl) (hz.trans ((if_pos c_6).trans ((if_pos c_7).trans ((if_neg c_8).trans (rfl)))))
            · refine lv_iconst (v := (1 : Int32)) hx hb dX3_isDown_159 (by decide) ?_
              exact W.zret (v := (1 : Int32)) hx hb hr rfl (fun t ht hW => ⟨(1 : Int32), rfl, Eq.symm (hz.trans ((if_pos c_6).trans ((if_pos c_7).trans ((if_pos c_8).trans (rfl))))), ht⟩) (fun q h => by cases h) dX3_isDown_160
      have K_98 : ∀ (ss : Int32) (tt : Int32) (ls : Array Slot) (g3 : vp_in ss 40) (g4 : vp_in tt 40) (gm : ss.toInt < ((k + 1 : Nat) : Int)), lv_has ls 5 [(0, .ref h3), (3, .int ss), (4, .int tt)] → f_X3_isDown so fi el av un ty kp bt oc x1 x2 = f_X3_isDown_98 so fi el av un ty kp bt oc x1 x2 ss tt (f_X3_isDown_5 k so fi el av un ty kp bt oc x1 x2) → W p l e (headSpec wsX3_isDown ({ frames := 2, cells := 0, slots := 0, locals := 43 })).room s m ([.ref h3, .int x1, .int x2] : List Value).toArray below meth c s.heap [] 0 0 (MQ below (vp_Si (fun r => r = f_X3_isDown so fi el av un ty kp bt oc x1 x2)) ([.ref h3, .int x1, .int x2] : List Value).toArray s 0 0 (fun _ => False)) (F0 m 98 ls []) := by
        intro ss tt ls g3 g4 gm hl hz
        refine lv_aload_n hx hb dX3_isDown_98 rfl (lv_at hl 0 rfl) ?_
        refine va_get (D := (dC, dI)) (ci := 5) (v := .ref e0) (C := RX3) (T := TX3) (N := 10) hx hb hts hin_X3 hown hK hP 0 rfl rfl 2 (by decide) hf_7 (fun _ h9 => h9) rfl dX3_isDown_99 ?_
        refine lv_iload_n hx hb dX3_isDown_102 rfl (lv_at hl 1 rfl) ?_
        refine va_iald hx hb hK hP 1 0 rfl rfl g3 dX3_isDown_103 ?_
        refine lv_iconst (v := (2 : Int32)) hx hb dX3_isDown_104 (by decide) ?_
        refine lv_icmp_ne (tgt := 129) hx hb dX3_isDown_105 (by decide) (fun c_9 => ?_) (fun c_9 => ?_)
        · exact K_129 ss tt ls (g3) (g4) (gm) (lv_sub hl [0, 1, 2] rfl) (hz.trans ((if_neg c_9).trans (rfl)))
        · refine lv_aload_n hx hb dX3_isDown_108 rfl (lv_at hl 0 rfl) ?_
          refine va_get (D := (dC, dI)) (ci := 5) (v := .ref e0) (C := RX3) (T := TX3) (N := 10) hx hb hts hin_X3 hown hK hP 0 rfl rfl 2 (by decide) hf_7 (fun _ h9 => h9) rfl dX3_isDown_109 ?_
          refine lv_iload hx hb dX3_isDown_112 (lv_at hl 2 rfl) ?_
          refine va_iald hx hb hK hP 1 0 rfl rfl g4 dX3_isDown_114 ?_
          refine lv_iconst (v := (1 : Int32)) hx hb dX3_isDown_115 (by decide) ?_
          refine lv_icmp_ne (tgt := 129) hx hb dX3_isDown_116 (by decide) (fun c_10 => ?_) (fun c_10 => ?_)
          · exact K_129 ss tt ls (g3) (g4) (gm) (lv_sub hl [0, 1, 2] rfl) (hz.trans ((if_pos c_9).trans ((if_neg c_10).trans (rfl))))
          · refine lv_aload_n hx hb dX3_isDown_119 rfl (lv_at hl 0 rfl) ?_
            refine va_get (D := (dC, dI)) (ci := 5) (v := .ref e1) (C := RX3) (T := TX3) (N := 10) hx hb hts hin_X3 hown hK hP 0 rfl rfl 3 (by decide) hf_13 (fun _ h9 => h9) rfl dX3_isDown_120 ?_
            refine lv_iload hx hb dX3_isDown_123 (lv_at hl 2 rfl) ?_
            refine va_zald hx hb hK hP 2 1 rfl rfl g4 dX3_isDown_125 ?_
            refine lv_if_eq (tgt := 159) hx hb dX3_isDown_126 (by decide) (fun c_11 => ?_) (fun c_11 => ?_)
            · refine lv_iconst (v := (1 : Int32)) hx hb dX3_isDown_159 (by decide) ?_
              exact W.zret (v := (1 : Int32)) hx hb hr rfl (fun t ht hW => ⟨(1 : Int32), rfl, Eq.symm (hz.trans ((if_pos c_9).trans ((if_pos c_10).trans ((if_pos c_11).trans (rfl))))), ht⟩) (fun q h => by cases h) dX3_isDown_160
            · exact K_129 ss tt ls (g3) (g4) (gm) (lv_sub hl [0, 1, 2] rfl) (hz.trans ((if_pos c_9).trans ((if_pos c_10).trans ((if_neg c_11).trans (rfl)))))
      refine lv_aload_n hx hb dX3_isDown_5 rfl (lv_at hl 0 rfl) ?_
      refine lv_iload_n hx hb dX3_isDown_6 rfl (lv_at hl 1 rfl) ?_
      refine mb_callSi (W.runV (As := [.int ss]) (rest := []) ⟨hx, hb, hml, hown, hts⟩ (c_X3_isReference l dC dI cyI cyZ cyJ h3 e0 e1 e2 e3 e4 e5 e6 so fi el av un ty kp bt oc th ss) (cwV 1 hts gX3_isDown_X3_isReference rfl rfl rfl (by decide +kernel) ⟨Nat.le_of_ble_eq_true rfl, Nat.le_of_ble_eq_true rfl⟩) (mb_preV hK hP (ci := 5) (q0 := 0) rfl rfl) rfl rfl hl.1 rfl (lv_room (Nat.le_of_ble_eq_true rfl)) dX3_isDown_7 ⟨Nat.zero_le _, Nat.zero_le _⟩) ?_
      refine lv_if_eq (tgt := 58) hx hb dX3_isDown_10 (by decide) (fun c_12 => ?_) (fun c_12 => ?_)
      · refine lv_iconst (v := (0 : Int32)) hx hb dX3_isDown_58 (by decide) ?_
        exact W.zret (v := (0 : Int32)) hx hb hr rfl (fun t ht hW => ⟨(0 : Int32), rfl, Eq.symm (hz.trans ((if_pos c_12).trans (rfl))), ht⟩) (fun q h => by cases h) dX3_isDown_59
      · refine lv_aload_n hx hb dX3_isDown_13 rfl (lv_at hl 0 rfl) ?_
        refine lv_iload hx hb dX3_isDown_14 (lv_at hl 2 rfl) ?_
        refine mb_callSi (W.runV (As := [.int tt]) (rest := []) ⟨hx, hb, hml, hown, hts⟩ (c_X3_isReference l dC dI cyI cyZ cyJ h3 e0 e1 e2 e3 e4 e5 e6 so fi el av un ty kp bt oc th tt) (cwV 1 hts gX3_isDown_X3_isReference rfl rfl rfl (by decide +kernel) ⟨Nat.le_of_ble_eq_true rfl, Nat.le_of_ble_eq_true rfl⟩) (mb_preV hK hP (ci := 5) (q0 := 0) rfl rfl) rfl rfl hl.1 rfl (lv_room (Nat.le_of_ble_eq_true rfl)) dX3_isDown_16 ⟨Nat.zero_le _, Nat.zero_le _⟩) ?_
        refine lv_if_eq (tgt := 58) hx hb dX3_isDown_19 (by decide) (fun c_13 => ?_) (fun c_13 => ?_)
        · refine lv_iconst (v := (0 : Int32)) hx hb dX3_isDown_58 (by decide) ?_
          exact W.zret (v := (0 : Int32)) hx hb hr rfl (fun t ht hW => ⟨(0 : Int32), rfl, Eq.symm (hz.trans ((if_neg c_12).trans ((if_pos c_13).trans (rfl)))), ht⟩) (fun q h => by cases h) dX3_isDown_59
        · refine lv_aload_n hx hb dX3_isDown_22 rfl (lv_at hl 0 rfl) ?_
          refine va_get (D := (dC, dI)) (ci := 5) (v := .ref e0) (C := RX3) (T := TX3) (N := 10) hx hb hts hin_X3 hown hK hP 0 rfl rfl 2 (by decide) hf_7 (fun _ h9 => h9) rfl dX3_isDown_23 ?_
          refine lv_iload_n hx hb dX3_isDown_26 rfl (lv_at hl 1 rfl) ?_
          refine va_iald hx hb hK hP 1 0 rfl rfl g3 dX3_isDown_27 ?_
          refine lv_iconst (v := (4 : Int32)) hx hb dX3_isDown_28 (by decide) ?_
          refine lv_icmp_eq (tgt := 58) hx hb dX3_isDown_29 (by decide) (fun c_14 => ?_) (fun c_14 => ?_)
          · refine lv_iconst (v := (0 : Int32)) hx hb dX3_isDown_58 (by decide) ?_
            exact W.zret (v := (0 : Int32)) hx hb hr rfl (fun t ht hW => ⟨(0 : Int32), rfl, Eq.symm (hz.trans ((if_neg c_12).trans ((if_neg c_13).trans ((if_pos c_14).trans (rfl))))), ht⟩) (fun q h => by cases h) dX3_isDown_59
          · refine lv_aload_n hx hb dX3_isDown_32 rfl (lv_at hl 0 rfl) ?_
            refine va_get (D := (dC, dI)) (ci := 5) (v := .ref e0) (C := RX3) (T := TX3) (N := 10) hx hb hts hin_X3 hown hK hP 0 rfl rfl 2 (by decide) hf_7 (fun _ h9 => h9) rfl dX3_isDown_33 ?_
            refine lv_iload hx hb dX3_isDown_36 (lv_at hl 2 rfl) ?_
            refine va_iald hx hb hK hP 1 0 rfl rfl g4 dX3_isDown_38 ?_
            refine lv_iconst (v := (4 : Int32)) hx hb dX3_isDown_39 (by decide) ?_
            refine lv_icmp_eq (tgt := 58) hx hb dX3_isDown_40 (by decide) (fun c_15 => ?_) (fun c_15 => ?_)
            · refine lv_iconst (v := (0 : Int32)) hx hb dX3_isDown_58 (by decide) ?_
              exact W.zret (v := (0 : Int32)) hx hb hr rfl (fun t ht hW => ⟨(0 : Int32), rfl, Eq.symm (hz.trans ((if_neg c_12).trans ((if_neg c_13).trans ((if_neg c_14).trans ((if_pos c_15).trans (rfl)))))), ht⟩) (fun q h => by cases h) dX3_isDown_59
            · refine lv_aload_n hx hb dX3_isDown_43 rfl (lv_at hl 0 rfl) ?_
              refine va_get (D := (dC, dI)) (ci := 5) (v := .ref e4) (C := RX3) (T := TX3) (N := 10) hx hb hts hin_X3 hown hK hP 0 rfl rfl 6 (by decide) hf_23 (fun _ h9 => h9) rfl dX3_isDown_44 ?_
              refine lv_bipush (v := (40 : Int32)) hx hb dX3_isDown_47 (by decide) ?_
              refine lv_iload_n hx hb dX3_isDown_49 rfl (lv_at hl 1 rfl) ?_
              refine lv_imul hx hb dX3_isDown_50 ?_
              refine lv_iload hx hb dX3_isDown_51 (lv_at hl 2 rfl) ?_
              refine lv_iadd hx hb dX3_isDown_53 ?_
              refine va_zald hx hb hK hP 5 1 rfl rfl (mb_ixv g3 g4) dX3_isDown_54 ?_
              refine lv_if_eq (tgt := 60) hx hb dX3_isDown_55 (by decide) (fun c_16 => ?_) (fun c_16 => ?_)
              · refine lv_aload_n hx hb dX3_isDown_60 rfl (lv_at hl 0 rfl) ?_
                refine va_get (D := (dC, dI)) (ci := 5) (v := .ref e4) (C := RX3) (T := TX3) (N := 10) hx hb hts hin_X3 hown hK hP 0 rfl rfl 6 (by decide) hf_23 (fun _ h9 => h9) rfl dX3_isDown_61 ?_
                refine lv_bipush (v := (40 : Int32)) hx hb dX3_isDown_64 (by decide) ?_
                refine lv_iload hx hb dX3_isDown_66 (lv_at hl 2 rfl) ?_
                refine lv_imul hx hb dX3_isDown_68 ?_
                refine lv_iload_n hx hb dX3_isDown_69 rfl (lv_at hl 1 rfl) ?_
                refine lv_iadd hx hb dX3_isDown_70 ?_
                refine va_zald hx hb hK hP 5 1 rfl rfl (mb_ixv g4 g3) dX3_isDown_71 ?_
                refine lv_if_ne (tgt := 96) hx hb dX3_isDown_72 (by decide) (fun c_17 => ?_) (fun c_17 => ?_)
                · refine lv_iconst (v := (1 : Int32)) hx hb dX3_isDown_96 (by decide) ?_
                  exact W.zret (v := (1 : Int32)) hx hb hr rfl (fun t ht hW => ⟨(1 : Int32), rfl, Eq.symm (hz.trans ((if_neg c_12).trans ((if_neg c_13).trans ((if_neg c_14).trans ((if_neg c_15).trans ((if_pos c_16).trans ((if_neg c_17).trans (rfl)))))))), ht⟩) (fun q h => by cases h) dX3_isDown_97
                · refine lv_aload_n hx hb dX3_isDown_75 rfl (lv_at hl 0 rfl) ?_
                  refine va_get (D := (dC, dI)) (ci := 5) (v := .ref e0) (C := RX3) (T := TX3) (N := 10) hx hb hts hin_X3 hown hK hP 0 rfl rfl 2 (by decide) hf_7 (fun _ h9 => h9) rfl dX3_isDown_76 ?_
                  refine lv_iload_n hx hb dX3_isDown_79 rfl (lv_at hl 1 rfl) ?_
                  refine va_iald hx hb hK hP 1 0 rfl rfl g3 dX3_isDown_80 ?_
                  refine lv_iconst (v := (2 : Int32)) hx hb dX3_isDown_81 (by decide) ?_
                  refine lv_icmp_ne (tgt := 98) hx hb dX3_isDown_82 (by decide) (fun c_18 => ?_) (fun c_18 => ?_)
                  · exact K_98 ss tt ls (g3) (g4) (gm) (lv_sub hl [0, 1, 2] rfl) (hz.trans ((if_neg c_12).trans ((if_neg c_13).trans ((if_neg c_14).trans ((if_neg c_15).trans ((if_pos c_16).trans ((if_pos c_17).trans ((if_neg c_18).trans (rfl)))))))))
                  · refine lv_aload_n hx hb dX3_isDown_85 rfl (lv_at hl 0 rfl) ?_
                    refine va_get (D := (dC, dI)) (ci := 5) (v := .ref e0) (C := RX3) (T := TX3) (N := 10) hx hb hts hin_X3 hown hK hP 0 rfl rfl 2 (by decide) hf_7 (fun _ h9 => h9) rfl dX3_isDown_86 ?_
                    refine lv_iload hx hb dX3_isDown_89 (lv_at hl 2 rfl) ?_
                    refine va_iald hx hb hK hP 1 0 rfl rfl g4 dX3_isDown_91 ?_
                    refine lv_iconst (v := (2 : Int32)) hx hb dX3_isDown_92 (by decide) ?_
                    refine lv_icmp_ne (tgt := 98) hx hb dX3_isDown_93 (by decide) (fun c_19 => ?_) (fun c_19 => ?_)
                    · exact K_98 ss tt ls (g3) (g4) (gm) (lv_sub hl [0, 1, 2] rfl) (hz.trans ((if_neg c_12).trans ((if_neg c_13).trans ((if_neg c_14).trans ((if_neg c_15).trans ((if_pos c_16).trans ((if_pos c_17).trans ((if_pos c_18).trans ((if_neg c_19).trans (rfl))))))))))
                    · refine lv_iconst (v := (1 : Int32)) hx hb dX3_isDown_96 (by decide) ?_
                      exact W.zret (v := (1 : Int32)) hx hb hr rfl (fun t ht hW => ⟨(1 : Int32), rfl, Eq.symm (hz.trans ((if_neg c_12).trans ((if_neg c_13).trans ((if_neg c_14).trans ((if_neg c_15).trans ((if_pos c_16).trans ((if_pos c_17).trans ((if_pos c_18).trans ((if_pos c_19).trans (rfl)))))))))), ht⟩) (fun q h => by cases h) dX3_isDown_97
              · refine lv_iconst (v := (0 : Int32)) hx hb dX3_isDown_58 (by decide) ?_
                exact W.zret (v := (0 : Int32)) hx hb hr rfl (fun t ht hW => ⟨(0 : Int32), rfl, Eq.symm (hz.trans ((if_neg c_12).trans ((if_neg c_13).trans ((if_neg c_14).trans ((if_neg c_15).trans ((if_neg c_16).trans (rfl))))))), ht⟩) (fun q h => by cases h) dX3_isDown_59
  have hl := lv_entry ([.ref h3, .int x1, .int x2]) (n := 5) (Nat.le_of_ble_eq_true rfl)
  rw [lg_entry_eq]
  generalize (lg_sl ([.ref h3, .int x1, .int x2]) ++ List.replicate (5 - (lg_sl ([.ref h3, .int x1, .int x2])).length) Slot.unset).toArray = ls at hl ⊢
  have hl : lv_has ls 5 [(0, .ref h3), (1, .int x1), (2, .int x2)] := hl
  refine lv_iload_n hx hb dX3_isDown_0 rfl (lv_at hl 1 rfl) ?_
  refine lv_istore_n (lv' := [(3, .int x1), (0, .ref h3), (1, .int x1), (2, .int x2)]) hx hb dX3_isDown_1 rfl hl (by decide) rfl (fun ls hl => ?_)
  refine lv_iload_n hx hb dX3_isDown_2 rfl (lv_at hl 3 rfl) ?_
  refine lv_istore (lv' := [(4, .int x2), (3, .int x1), (0, .ref h3), (1, .int x1), (2, .int x2)]) hx hb dX3_isDown_3 hl (by decide) rfl (fun ls hl => ?_)
  exact K_5 40 x1 x2 ls (g1) (g2) ((vp_in_iff.mp g1).2) (lv_sub hl [2, 1, 0] rfl) (rfl)

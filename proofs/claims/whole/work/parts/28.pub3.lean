def f_X3_type_83 : Nat → Int32 → (Nat → Int32) → (Nat → Int32) → (Nat → Int32) → (Nat → Int32) → (Nat → Int32) → Int32 → (Nat → Int32) → (Nat → Int64) → Int32 → Int32 → Int32 → Int32 → Int32 → Int32 → Int32 × ((Int32))
  | 0, th, so, fi, el, av, un, ty, kp, bt, oc, _, _, _, _, _ => (0, th)
  | k + 1, th, so, fi, el, av, un, ty, kp, bt, oc, x1, x2, nn, tt, th2 => if ty ≤ tt then (nn, th2)
  else if (f_X3_isReference so fi el av un ty kp bt oc x1) = 0 then (nn, th2)
  else if (un (((40 : Int32) * x1) + tt).toNatClampNeg) = 0 then f_X3_type_83 k th so fi el av un ty kp bt oc x1 x2 (nn + (0 : Int32)) (tt + (1 : Int32)) th2
  else f_X3_type_83 k th so fi el av un ty kp bt oc x1 x2 (nn + (1 : Int32)) (tt + (1 : Int32)) th2
def f_X3_type (th : Int32) (so : Nat → Int32) (fi : Nat → Int32) (el : Nat → Int32) (av : Nat → Int32) (un : Nat → Int32) (ty : Int32) (kp : Nat → Int32) (bt : Nat → Int64) (oc : Int32) (x1 : Int32) (x2 : Int32) : Int32 × ((Int32)) := if (f_X3_isType so fi el av un ty kp bt oc x1) = 0 then ((-1 : Int32), (0 : Int32))
  else if x2 = (0 : Int32) then ((so x1.toNatClampNeg), (0 : Int32))
  else if x2 = (1 : Int32) then (if (fi x1.toNatClampNeg) = 0 then ((0 : Int32), (0 : Int32))
    else ((1 : Int32), (0 : Int32)))
  else if x2 = (2 : Int32) then ((el x1.toNatClampNeg), (0 : Int32))
  else if x2 = (3 : Int32) then f_X3_type_83 33 th so fi el av un ty kp bt oc x1 x2 (0 : Int32) (8 : Int32) (0 : Int32)
  else ((-2 : Int32), (0 : Int32))
set_option maxHeartbeats 4000000 in
set_option maxRecDepth 100000 in
theorem c_X3_type (l : Launch) (dC : Nat → ClassId) (dI : Nat → Nat → Nat) (cyI cyZ cyJ : ClassId) (h3 e0 e1 e2 e3 e4 e5 e6 : Nat) (th : Int32) (so : Nat → Int32) (fi : Nat → Int32) (el : Nat → Int32) (av : Nat → Int32) (un : Nat → Int32) (ty : Int32) (kp : Nat → Int32) (bt : Nat → Int64) (oc : Int32) (hs : Nat) (x1 : Int32) (x2 : Int32) (gz : 0 ≤ ty.toInt ∧ ty.toInt ≤ 40) : Met l yX3_type wsX3_type ({ frames := 2, cells := 0, slots := 0, locals := 43 }) (va_Pc [.ref h3, .int x1, .int x2] (mb_M (dC, dI) (mb_tys cyI cyZ cyJ) hs [(h3, .inr (5, [.int th, .int ty, .ref e0, .ref e1, .ref e2, .ref e3, .ref e4, .int oc, .ref e5, .ref e6])), (e0, .inl (cyI, 40, .inl so)), (e1, .inl (cyZ, 40, .inl fi)), (e2, .inl (cyI, 40, .inl el)), (e3, .inl (cyI, 120, .inl av)), (e4, .inl (cyZ, 1600, .inl un)), (e5, .inl (cyI, 60, .inl kp)), (e6, .inl (cyJ, 60, .inr (.inl bt)))])) (va_Qi (S := ((Int32))) (fun r u => (r, u) = f_X3_type th so fi el av un ty kp bt oc x1 x2) (fun u t => mb_at dC dI cyI cyZ cyJ (va_A [(h3, .inr (5, [.int th, .int ty, .ref e0, .ref e1, .ref e2, .ref e3, .ref e4, .int oc, .ref e5, .ref e6])), (e0, .inl (cyI, 40, .inl so)), (e1, .inl (cyZ, 40, .inl fi)), (e2, .inl (cyI, 40, .inl el)), (e3, .inl (cyI, 120, .inl av)), (e4, .inl (cyZ, 1600, .inl un)), (e5, .inl (cyI, 60, .inl kp)), (e6, .inl (cyJ, 60, .inr (.inl bt)))] hs) [(h3, .inr (5, [.int u, .int ty, .ref e0, .ref e1, .ref e2, .ref e3, .ref e4, .int oc, .ref e5, .ref e6])), (e0, .inl (cyI, 40, .inl so)), (e1, .inl (cyZ, 40, .inl fi)), (e2, .inl (cyI, 40, .inl el)), (e3, .inl (cyI, 120, .inl av)), (e4, .inl (cyZ, 1600, .inl un)), (e5, .inl (cyI, 60, .inl kp)), (e6, .inl (cyJ, 60, .inr (.inl bt)))] t) (va_A [(h3, .inr (5, [.int th, .int ty, .ref e0, .ref e1, .ref e2, .ref e3, .ref e4, .int oc, .ref e5, .ref e6])), (e0, .inl (cyI, 40, .inl so)), (e1, .inl (cyZ, 40, .inl fi)), (e2, .inl (cyI, 40, .inl el)), (e3, .inl (cyI, 120, .inl av)), (e4, .inl (cyZ, 1600, .inl un)), (e5, .inl (cyI, 60, .inl kp)), (e6, .inl (cyJ, 60, .inr (.inl bt)))] hs)) 0 0 (va_A [(h3, .inr (5, [.int th, .int ty, .ref e0, .ref e1, .ref e2, .ref e3, .ref e4, .int oc, .ref e5, .ref e6])), (e0, .inl (cyI, 40, .inl so)), (e1, .inl (cyZ, 40, .inl fi)), (e2, .inl (cyI, 40, .inl el)), (e3, .inl (cyI, 120, .inl av)), (e4, .inl (cyZ, 1600, .inl un)), (e5, .inl (cyI, 60, .inl kp)), (e6, .inl (cyJ, 60, .inr (.inl bt)))] hs) := by
  refine Met.ofW (cc := cX3_type) (maxL := 5) (ret := (some .int)) (by decide) rfl ?_
  intro p e s m args below meth c s₁ B hml hv
  obtain ⟨rfl, hsz, hP, hK, hD0⟩ := hv
  have hx := B.exec
  have hb := B.bytes
  have hr := B.returns
  have hts := atoms_spec (ws := wsX3_type) B.pre
  have hown : s.vm.findClass RX3 = some m.cls := findClass_of_methodNamed B.named
  have hlocks := B.notSynchronized
  subst hsz
  have hD := hD0.self (sz := s.heap.size)
  generalize hAe : va_A [(h3, .inr (5, [.int th, .int ty, .ref e0, .ref e1, .ref e2, .ref e3, .ref e4, .int oc, .ref e5, .ref e6])), (e0, .inl (cyI, 40, .inl so)), (e1, .inl (cyZ, 40, .inl fi)), (e2, .inl (cyI, 40, .inl el)), (e3, .inl (cyI, 120, .inl av)), (e4, .inl (cyZ, 1600, .inl un)), (e5, .inl (cyI, 60, .inl kp)), (e6, .inl (cyJ, 60, .inr (.inl bt)))] s.heap.size = A at hD ⊢
  have hA : ∀ q : Nat, s.heap.size ≤ q → A q := fun q h => by rw [← hAe]; exact Or.inr h
  have hS : va_S A s.heap s.heap [] := va_S.rf
  have hP : va_P (dC, dI) vwCl [(h3, .inr (5, [.int th, .int ty, .ref e0, .ref e1, .ref e2, .ref e3, .ref e4, .int oc, .ref e5, .ref e6])), (e0, .inl (cyI, 40, .inl so)), (e1, .inl (cyZ, 40, .inl fi)), (e2, .inl (cyI, 40, .inl el)), (e3, .inl (cyI, 120, .inl av)), (e4, .inl (cyZ, 1600, .inl un)), (e5, .inl (cyI, 60, .inl kp)), (e6, .inl (cyJ, 60, .inr (.inl bt)))] s.heap := hP
  have hP0 : va_P (dC, dI) vwCl [] s.heap := fun k q h => by simp at h
  have hin_X3 : ∀ w ∈ wsX30, w ∈ wsX3_type := by decide +kernel
  have hf_44 := hts (.fieldLink RX3 44 "ConversionTablesModel" "types" "I") (by decide +kernel)
  have hf_23 := hts (.fieldLink RX3 23 "ConversionTablesModel" "under" "[Z") (by decide +kernel)
  have hf_40 := hts (.fieldLink RX3 40 "ConversionTablesModel" "thrown" "I") (by decide +kernel)
  have hf_7 := hts (.fieldLink RX3 7 "ConversionTablesModel" "sort" "[I") (by decide +kernel)
  have hf_13 := hts (.fieldLink RX3 13 "ConversionTablesModel" "isFinal" "[Z") (by decide +kernel)
  have hf_17 := hts (.fieldLink RX3 17 "ConversionTablesModel" "elements" "[I") (by decide +kernel)
  have K_83 : ∀ (k : Nat) (nn : Int32) (tt : Int32) (th2 : Int32) (H : Heap) (locs : List Loc) (ls : Array Slot) (g1 : vp_in x1 40) (hc : 8 ≤ tt.toInt ∧ tt.toInt ≤ 40 ∧ 40 < tt.toInt + k), va_P (dC, dI) vwCl [(h3, .inr (5, [.int th2, .int ty, .ref e0, .ref e1, .ref e2, .ref e3, .ref e4, .int oc, .ref e5, .ref e6])), (e0, .inl (cyI, 40, .inl so)), (e1, .inl (cyZ, 40, .inl fi)), (e2, .inl (cyI, 40, .inl el)), (e3, .inl (cyI, 120, .inl av)), (e4, .inl (cyZ, 1600, .inl un)), (e5, .inl (cyI, 60, .inl kp)), (e6, .inl (cyJ, 60, .inr (.inl bt)))] H → va_D A [(h3, .inr (5, [.int th2, .int ty, .ref e0, .ref e1, .ref e2, .ref e3, .ref e4, .int oc, .ref e5, .ref e6])), (e0, .inl (cyI, 40, .inl so)), (e1, .inl (cyZ, 40, .inl fi)), (e2, .inl (cyI, 40, .inl el)), (e3, .inl (cyI, 120, .inl av)), (e4, .inl (cyZ, 1600, .inl un)), (e5, .inl (cyI, 60, .inl kp)), (e6, .inl (cyJ, 60, .inr (.inl bt)))] → va_S A s.heap H locs → lv_has ls 5 [(0, .ref h3), (1, .int x1), (3, .int nn), (4, .int tt)] → f_X3_type th so fi el av un ty kp bt oc x1 x2 = f_X3_type_83 k th so fi el av un ty kp bt oc x1 x2 nn tt th2 → W p l e (headSpec wsX3_type ({ frames := 2, cells := 0, slots := 0, locals := 43 })).room s m ([.ref h3, .int x1, .int x2] : List Value).toArray below meth c H locs 0 0 (MQ below (va_Qi (S := ((Int32))) (fun r u => (r, u) = f_X3_type th so fi el av un ty kp bt oc x1 x2) (fun u t => mb_at dC dI cyI cyZ cyJ A [(h3, .inr (5, [.int u, .int ty, .ref e0, .ref e1, .ref e2, .ref e3, .ref e4, .int oc, .ref e5, .ref e6])), (e0, .inl (cyI, 40, .inl so)), (e1, .inl (cyZ, 40, .inl fi)), (e2, .inl (cyI, 40, .inl el)), (e3, .inl (cyI, 120, .inl av)), (e4, .inl (cyZ, 1600, .inl un)), (e5, .inl (cyI, 60, .inl kp)), (e6, .inl (cyJ, 60, .inr (.inl bt)))] t) A) ([.ref h3, .int x1, .int x2] : List Value).toArray s 0 0 A) (F0 m 83 ls []) := by
    intro k
    induction k with
    | zero =>
      intro nn tt th2 H locs ls g1 hc
      exact absurd hc (by omega)
    | succ k ih =>
      intro nn tt th2 H locs ls g1 hc hP hD hS hl hz
      refine lv_iload hx hb dX3_type_83 (lv_at hl 3 rfl) ?_
      refine lv_aload_n hx hb dX3_type_85 rfl (lv_at hl 0 rfl) ?_
      refine va_get (D := (dC, dI)) (ci := 5) (v := .int ty) (C := RX3) (T := TX3) (N := 10) hx hb hts hin_X3 hown hK hP 0 rfl rfl 1 (by decide) hf_44 (fun _ h9 => h9) rfl dX3_type_86 ?_
      refine lv_icmp_ge (tgt := 129) hx hb dX3_type_89 (by decide) (fun c_1 => ?_) (fun c_1 => ?_)
      · refine lv_iload_n hx hb dX3_type_129 rfl (lv_at hl 2 rfl) ?_
        exact W.iret (v := nn) hx hb hr (fun t ht hW => ⟨⟨nn, th2, rfl, Eq.symm (hz.trans ((if_pos c_1).trans (rfl))), by rw [ht]; exact hP, va_K.moved hW.alike hK, hD⟩, hS.F ht⟩) hS.2.2 dX3_type_130
      · refine lv_aload_n hx hb dX3_type_92 rfl (lv_at hl 0 rfl) ?_
        refine lv_iload_n hx hb dX3_type_93 rfl (lv_at hl 1 rfl) ?_
        refine mb_callSi (W.runV (As := [.int x1]) (rest := []) ⟨hx, hb, hml, hown, hts⟩ (c_X3_isReference l dC dI cyI cyZ cyJ h3 e0 e1 e2 e3 e4 e5 e6 so fi el av un ty kp bt oc th2 x1) (cwV 1 hts gX3_type_X3_isReference rfl rfl rfl (by decide +kernel) ⟨Nat.le_of_ble_eq_true rfl, Nat.le_of_ble_eq_true rfl⟩) (mb_preV hK hP (ci := 5) (q0 := 0) rfl rfl) rfl rfl hl.1 rfl (lv_room (Nat.le_of_ble_eq_true rfl)) dX3_type_94 ⟨Nat.zero_le _, Nat.zero_le _⟩) ?_
        refine lv_if_eq (tgt := 129) hx hb dX3_type_97 (by decide) (fun c_2 => ?_) (fun c_2 => ?_)
        · refine lv_iload_n hx hb dX3_type_129 rfl (lv_at hl 2 rfl) ?_
          exact W.iret (v := nn) hx hb hr (fun t ht hW => ⟨⟨nn, th2, rfl, Eq.symm (hz.trans ((if_neg c_1).trans ((if_pos c_2).trans (rfl)))), by rw [ht]; exact hP, va_K.moved hW.alike hK, hD⟩, hS.F ht⟩) hS.2.2 dX3_type_130
        · refine lv_iload_n hx hb dX3_type_100 rfl (lv_at hl 2 rfl) ?_
          refine lv_aload_n hx hb dX3_type_101 rfl (lv_at hl 0 rfl) ?_
          refine va_get (D := (dC, dI)) (ci := 5) (v := .ref e4) (C := RX3) (T := TX3) (N := 10) hx hb hts hin_X3 hown hK hP 0 rfl rfl 6 (by decide) hf_23 (fun _ h9 => h9) rfl dX3_type_102 ?_
          refine lv_bipush (v := (40 : Int32)) hx hb dX3_type_105 (by decide) ?_
          refine lv_iload_n hx hb dX3_type_107 rfl (lv_at hl 1 rfl) ?_
          refine lv_imul hx hb dX3_type_108 ?_
          refine lv_iload hx hb dX3_type_109 (lv_at hl 3 rfl) ?_
          refine lv_iadd hx hb dX3_type_111 ?_
          refine va_zald hx hb hK hP 5 1 rfl rfl (mb_ixv g1 (mb_ctr8 hc gz c_1)) dX3_type_112 ?_
          refine lv_if_eq (tgt := 120) hx hb dX3_type_113 (by decide) (fun c_3 => ?_) (fun c_3 => ?_)
          · refine lv_iconst (v := (0 : Int32)) hx hb dX3_type_120 (by decide) ?_
            refine lv_iadd hx hb dX3_type_121 ?_
            refine lv_istore_n (lv' := [(3, .int (nn + (0 : Int32))), (0, .ref h3), (1, .int x1), (4, .int tt)]) hx hb dX3_type_122 rfl hl (by decide) rfl (fun ls hl => ?_)
            refine lv_iinc (v := (tt + (1 : Int32))) (lv' := [(4, .int (tt + (1 : Int32))), (3, .int (nn + (0 : Int32))), (0, .ref h3), (1, .int x1)]) hx hb dX3_type_123 hl (k := 3) rfl rfl (by decide) rfl (fun ls hl => ?_)
            refine lv_goto (tgt := 83) hx hb dX3_type_126 (by decide) ?_
            exact ih (nn + (0 : Int32)) (tt + (1 : Int32)) th2 _ _ ls (g1) (mb_ctr8_step hc gz c_1) hP hD hS (lv_sub hl [2, 3, 1, 0] rfl) (hz.trans ((if_neg c_1).trans ((if_neg c_2).trans ((if_pos c_3).trans (rfl)))))
          · refine lv_iconst (v := (1 : Int32)) hx hb dX3_type_116 (by decide) ?_
            refine lv_goto (tgt := 121) hx hb dX3_type_117 (by decide) ?_
            refine lv_iadd hx hb dX3_type_121 ?_
            refine lv_istore_n (lv' := [(3, .int (nn + (1 : Int32))), (0, .ref h3), (1, .int x1), (4, .int tt)]) hx hb dX3_type_122 rfl hl (by decide) rfl (fun ls hl => ?_)
            refine lv_iinc (v := (tt + (1 : Int32))) (lv' := [(4, .int (tt + (1 : Int32))), (3, .int (nn + (1 : Int32))), (0, .ref h3), (1, .int x1)]) hx hb dX3_type_123 hl (k := 3) rfl rfl (by decide) rfl (fun ls hl => ?_)
            refine lv_goto (tgt := 83) hx hb dX3_type_126 (by decide) ?_
            exact ih (nn + (1 : Int32)) (tt + (1 : Int32)) th2 _ _ ls (g1) (mb_ctr8_step hc gz c_1) hP hD hS (lv_sub hl [2, 3, 1, 0] rfl) (hz.trans ((if_neg c_1).trans ((if_neg c_2).trans ((if_neg c_3).trans (rfl)))))
  have hl := lv_entry ([.ref h3, .int x1, .int x2]) (n := 5) (Nat.le_of_ble_eq_true rfl)
  rw [lg_entry_eq]
  generalize (lg_sl ([.ref h3, .int x1, .int x2]) ++ List.replicate (5 - (lg_sl ([.ref h3, .int x1, .int x2])).length) Slot.unset).toArray = ls at hl ⊢
  have hl : lv_has ls 5 [(0, .ref h3), (1, .int x1), (2, .int x2)] := hl
  refine lv_aload_n hx hb dX3_type_0 rfl (lv_at hl 0 rfl) ?_
  refine lv_iconst (v := (0 : Int32)) hx hb dX3_type_1 (by decide) ?_
  refine va_put (D := (dC, dI)) (ci := 5) (v := .int (0 : Int32)) (ty := .int) (C := RX3) (T := TX3) (N := 10) hx hb hts hin_X3 tyX3 tyX3_ok nmX3 hown hK hP hD hS 0 rfl rfl 0 (by decide) hf_40 (fun _ h9 => h9) rfl (by decide +kernel) rfl rfl (Nat.le_of_ble_eq_true rfl) dX3_type_2 (fun H locs hP hD hS => ?_)
  have hP : va_P (dC, dI) vwCl [(h3, .inr (5, [.int (0 : Int32), .int ty, .ref e0, .ref e1, .ref e2, .ref e3, .ref e4, .int oc, .ref e5, .ref e6])), (e0, .inl (cyI, 40, .inl so)), (e1, .inl (cyZ, 40, .inl fi)), (e2, .inl (cyI, 40, .inl el)), (e3, .inl (cyI, 120, .inl av)), (e4, .inl (cyZ, 1600, .inl un)), (e5, .inl (cyI, 60, .inl kp)), (e6, .inl (cyJ, 60, .inr (.inl bt)))] H := hP
  have hD : va_D A [(h3, .inr (5, [.int (0 : Int32), .int ty, .ref e0, .ref e1, .ref e2, .ref e3, .ref e4, .int oc, .ref e5, .ref e6])), (e0, .inl (cyI, 40, .inl so)), (e1, .inl (cyZ, 40, .inl fi)), (e2, .inl (cyI, 40, .inl el)), (e3, .inl (cyI, 120, .inl av)), (e4, .inl (cyZ, 1600, .inl un)), (e5, .inl (cyI, 60, .inl kp)), (e6, .inl (cyJ, 60, .inr (.inl bt)))] := hD
  refine lv_aload_n hx hb dX3_type_5 rfl (lv_at hl 0 rfl) ?_
  refine lv_iload_n hx hb dX3_type_6 rfl (lv_at hl 1 rfl) ?_
  refine mb_callSi (W.runV (As := [.int x1]) (rest := []) ⟨hx, hb, hml, hown, hts⟩ (c_X3_isType l dC dI cyI cyZ cyJ h3 e0 e1 e2 e3 e4 e5 e6 so fi el av un ty kp bt oc (0 : Int32) x1) (cwV 1 hts gX3_type_X3_isType rfl rfl rfl (by decide +kernel) ⟨Nat.le_of_ble_eq_true rfl, Nat.le_of_ble_eq_true rfl⟩) (mb_preV hK hP (ci := 5) (q0 := 0) rfl rfl) rfl rfl hl.1 rfl (lv_room (Nat.le_of_ble_eq_true rfl)) dX3_type_7 ⟨Nat.zero_le _, Nat.zero_le _⟩) ?_
  refine lv_if_ne (tgt := 15) hx hb dX3_type_10 (by decide) (fun c_4 => ?_) (fun c_4 => ?_)
  · refine lv_iload_n hx hb dX3_type_15 rfl (lv_at hl 2 rfl) ?_
    by_cases c_5 : x2 = (0 : Int32)
    · refine lv_tableIn (tgt := 48) hx hb dX3_type_16 (by rw [c_5]; decide) (by rw [c_5]; decide) (off := 32) (by rw [c_5]; decide) (by decide) ?_
      refine lv_aload_n hx hb dX3_type_48 rfl (lv_at hl 0 rfl) ?_
      refine va_get (D := (dC, dI)) (ci := 5) (v := .ref e0) (C := RX3) (T := TX3) (N := 10) hx hb hts hin_X3 hown hK hP 0 rfl rfl 2 (by decide) hf_7 (fun _ h9 => h9) rfl dX3_type_49 ?_
      refine lv_iload_n hx hb dX3_type_52 rfl (lv_at hl 1 rfl) ?_
      refine va_iald hx hb hK hP 1 0 rfl rfl (mb_ist gz c_4) dX3_type_53 ?_
      exact W.iret (v := (so x1.toNatClampNeg)) hx hb hr (fun t ht hW => ⟨⟨(so x1.toNatClampNeg), (0 : Int32), rfl, Eq.symm ((if_neg c_4).trans ((if_pos c_5).trans (rfl))), by rw [ht]; exact hP, va_K.moved hW.alike hK, hD⟩, hS.F ht⟩) hS.2.2 dX3_type_54
    · by_cases c_6 : x2 = (1 : Int32)
      · refine lv_tableIn (tgt := 55) hx hb dX3_type_16 (by rw [c_6]; decide) (by rw [c_6]; decide) (off := 39) (by rw [c_6]; decide) (by decide) ?_
        refine lv_aload_n hx hb dX3_type_55 rfl (lv_at hl 0 rfl) ?_
        refine va_get (D := (dC, dI)) (ci := 5) (v := .ref e1) (C := RX3) (T := TX3) (N := 10) hx hb hts hin_X3 hown hK hP 0 rfl rfl 3 (by decide) hf_13 (fun _ h9 => h9) rfl dX3_type_56 ?_
        refine lv_iload_n hx hb dX3_type_59 rfl (lv_at hl 1 rfl) ?_
        refine va_zald hx hb hK hP 2 1 rfl rfl (mb_ist gz c_4) dX3_type_60 ?_
        refine lv_if_eq (tgt := 68) hx hb dX3_type_61 (by decide) (fun c_7 => ?_) (fun c_7 => ?_)
        · refine lv_iconst (v := (0 : Int32)) hx hb dX3_type_68 (by decide) ?_
          exact W.iret (v := (0 : Int32)) hx hb hr (fun t ht hW => ⟨⟨(0 : Int32), (0 : Int32), rfl, Eq.symm ((if_neg c_4).trans ((if_neg c_5).trans ((if_pos c_6).trans ((if_pos c_7).trans (rfl))))), by rw [ht]; exact hP, va_K.moved hW.alike hK, hD⟩, hS.F ht⟩) hS.2.2 dX3_type_69
        · refine lv_iconst (v := (1 : Int32)) hx hb dX3_type_64 (by decide) ?_
          refine lv_goto (tgt := 69) hx hb dX3_type_65 (by decide) ?_
          exact W.iret (v := (1 : Int32)) hx hb hr (fun t ht hW => ⟨⟨(1 : Int32), (0 : Int32), rfl, Eq.symm ((if_neg c_4).trans ((if_neg c_5).trans ((if_pos c_6).trans ((if_neg c_7).trans (rfl))))), by rw [ht]; exact hP, va_K.moved hW.alike hK, hD⟩, hS.F ht⟩) hS.2.2 dX3_type_69
      · by_cases c_8 : x2 = (2 : Int32)
        · refine lv_tableIn (tgt := 70) hx hb dX3_type_16 (by rw [c_8]; decide) (by rw [c_8]; decide) (off := 54) (by rw [c_8]; decide) (by decide) ?_
          refine lv_aload_n hx hb dX3_type_70 rfl (lv_at hl 0 rfl) ?_
          refine va_get (D := (dC, dI)) (ci := 5) (v := .ref e2) (C := RX3) (T := TX3) (N := 10) hx hb hts hin_X3 hown hK hP 0 rfl rfl 4 (by decide) hf_17 (fun _ h9 => h9) rfl dX3_type_71 ?_
          refine lv_iload_n hx hb dX3_type_74 rfl (lv_at hl 1 rfl) ?_
          refine va_iald hx hb hK hP 3 0 rfl rfl (mb_ist gz c_4) dX3_type_75 ?_
          exact W.iret (v := (el x1.toNatClampNeg)) hx hb hr (fun t ht hW => ⟨⟨(el x1.toNatClampNeg), (0 : Int32), rfl, Eq.symm ((if_neg c_4).trans ((if_neg c_5).trans ((if_neg c_6).trans ((if_pos c_8).trans (rfl))))), by rw [ht]; exact hP, va_K.moved hW.alike hK, hD⟩, hS.F ht⟩) hS.2.2 dX3_type_76
        · by_cases c_9 : x2 = (3 : Int32)
          · refine lv_tableIn (tgt := 77) hx hb dX3_type_16 (by rw [c_9]; decide) (by rw [c_9]; decide) (off := 61) (by rw [c_9]; decide) (by decide) ?_
            refine lv_iconst (v := (0 : Int32)) hx hb dX3_type_77 (by decide) ?_
            refine lv_istore_n (lv' := [(3, .int (0 : Int32)), (0, .ref h3), (1, .int x1), (2, .int x2)]) hx hb dX3_type_78 rfl hl (by decide) rfl (fun ls hl => ?_)
            refine lv_bipush (v := (8 : Int32)) hx hb dX3_type_79 (by decide) ?_
            refine lv_istore (lv' := [(4, .int (8 : Int32)), (3, .int (0 : Int32)), (0, .ref h3), (1, .int x1), (2, .int x2)]) hx hb dX3_type_81 hl (by decide) rfl (fun ls hl => ?_)
            exact K_83 33 (0 : Int32) (8 : Int32) (0 : Int32) _ _ ls (mb_ist gz c_4) (by decide) hP hD hS (lv_sub hl [2, 3, 1, 0] rfl) ((if_neg c_4).trans ((if_neg c_5).trans ((if_neg c_6).trans ((if_neg c_8).trans ((if_pos c_9).trans (rfl))))))
          · refine lv_tableOut (tgt := 131) hx hb dX3_type_16 (by have nc_5 := lv_neT c_5 (a := 0) (by decide); have nc_6 := lv_neT c_6 (a := 1) (by decide); have nc_8 := lv_neT c_8 (a := 2) (by decide); have nc_9 := lv_neT c_9 (a := 3) (by decide); omega) (by decide) ?_
            refine lv_bipush (v := (-2 : Int32)) hx hb dX3_type_131 (by decide) ?_
            exact W.iret (v := (-2 : Int32)) hx hb hr (fun t ht hW => ⟨⟨(-2 : Int32), (0 : Int32), rfl, Eq.symm ((if_neg c_4).trans ((if_neg c_5).trans ((if_neg c_6).trans ((if_neg c_8).trans ((if_neg c_9).trans (rfl)))))), by rw [ht]; exact hP, va_K.moved hW.alike hK, hD⟩, hS.F ht⟩) hS.2.2 dX3_type_133
  · refine lv_iconst (v := (-1 : Int32)) hx hb dX3_type_13 (by decide) ?_
    exact W.iret (v := (-1 : Int32)) hx hb hr (fun t ht hW => ⟨⟨(-1 : Int32), (0 : Int32), rfl, Eq.symm ((if_pos c_4).trans (rfl)), by rw [ht]; exact hP, va_K.moved hW.alike hK, hD⟩, hS.F ht⟩) hS.2.2 dX3_type_14
def f_X3_under (th : Int32) (so : Nat → Int32) (fi : Nat → Int32) (el : Nat → Int32) (av : Nat → Int32) (un : Nat → Int32) (ty : Int32) (kp : Nat → Int32) (bt : Nat → Int64) (oc : Int32) (x1 : Int32) (x2 : Int32) : Int32 × ((Int32)) := if (f_X3_isType so fi el av un ty kp bt oc x1) = 0 then ((-1 : Int32), (0 : Int32))
  else if (f_X3_isType so fi el av un ty kp bt oc x2) = 0 then ((-1 : Int32), (0 : Int32))
  else if (f_X3_isReference so fi el av un ty kp bt oc x1) = 0 then ((-2 : Int32), (0 : Int32))
  else if (f_X3_isReference so fi el av un ty kp bt oc x2) = 0 then ((-2 : Int32), (0 : Int32))
  else if (un (((40 : Int32) * x1) + x2).toNatClampNeg) = 0 then ((0 : Int32), (0 : Int32))
  else ((1 : Int32), (0 : Int32))
set_option maxHeartbeats 4000000 in
set_option maxRecDepth 100000 in
theorem c_X3_under (l : Launch) (dC : Nat → ClassId) (dI : Nat → Nat → Nat) (cyI cyZ cyJ : ClassId) (h3 e0 e1 e2 e3 e4 e5 e6 : Nat) (th : Int32) (so : Nat → Int32) (fi : Nat → Int32) (el : Nat → Int32) (av : Nat → Int32) (un : Nat → Int32) (ty : Int32) (kp : Nat → Int32) (bt : Nat → Int64) (oc : Int32) (hs : Nat) (x1 : Int32) (x2 : Int32) (gz : 0 ≤ ty.toInt ∧ ty.toInt ≤ 40) : Met l yX3_under wsX3_under ({ frames := 2, cells := 0, slots := 0, locals := 43 }) (va_Pc [.ref h3, .int x1, .int x2] (mb_M (dC, dI) (mb_tys cyI cyZ cyJ) hs [(h3, .inr (5, [.int th, .int ty, .ref e0, .ref e1, .ref e2, .ref e3, .ref e4, .int oc, .ref e5, .ref e6])), (e0, .inl (cyI, 40, .inl so)), (e1, .inl (cyZ, 40, .inl fi)), (e2, .inl (cyI, 40, .inl el)), (e3, .inl (cyI, 120, .inl av)), (e4, .inl (cyZ, 1600, .inl un)), (e5, .inl (cyI, 60, .inl kp)), (e6, .inl (cyJ, 60, .inr (.inl bt)))])) (va_Qi (S := ((Int32))) (fun r u => (r, u) = f_X3_under th so fi el av un ty kp bt oc x1 x2) (fun u t => mb_at dC dI cyI cyZ cyJ (va_A [(h3, .inr (5, [.int th, .int ty, .ref e0, .ref e1, .ref e2, .ref e3, .ref e4, .int oc, .ref e5, .ref e6])), (e0, .inl (cyI, 40, .inl so)), (e1, .inl (cyZ, 40, .inl fi)), (e2, .inl (cyI, 40, .inl el)), (e3, .inl (cyI, 120, .inl av)), (e4, .inl (cyZ, 1600, .inl un)), (e5, .inl (cyI, 60, .inl kp)), (e6, .inl (cyJ, 60, .inr (.inl bt)))] hs) [(h3, .inr (5, [.int u, .int ty, .ref e0, .ref e1, .ref e2, .ref e3, .ref e4, .int oc, .ref e5, .ref e6])), (e0, .inl (cyI, 40, .inl so)), (e1, .inl (cyZ, 40, .inl fi)), (e2, .inl (cyI, 40, .inl el)), (e3, .inl (cyI, 120, .inl av)), (e4, .inl (cyZ, 1600, .inl un)), (e5, .inl (cyI, 60, .inl kp)), (e6, .inl (cyJ, 60, .inr (.inl bt)))] t) (va_A [(h3, .inr (5, [.int th, .int ty, .ref e0, .ref e1, .ref e2, .ref e3, .ref e4, .int oc, .ref e5, .ref e6])), (e0, .inl (cyI, 40, .inl so)), (e1, .inl (cyZ, 40, .inl fi)), (e2, .inl (cyI, 40, .inl el)), (e3, .inl (cyI, 120, .inl av)), (e4, .inl (cyZ, 1600, .inl un)), (e5, .inl (cyI, 60, .inl kp)), (e6, .inl (cyJ, 60, .inr (.inl bt)))] hs)) 0 0 (va_A [(h3, .inr (5, [.int th, .int ty, .ref e0, .ref e1, .ref e2, .ref e3, .ref e4, .int oc, .ref e5, .ref e6])), (e0, .inl (cyI, 40, .inl so)), (e1, .inl (cyZ, 40, .inl fi)), (e2, .inl (cyI, 40, .inl el)), (e3, .inl (cyI, 120, .inl av)), (e4, .inl (cyZ, 1600, .inl un)), (e5, .inl (cyI, 60, .inl kp)), (e6, .inl (cyJ, 60, .inr (.inl bt)))] hs) := by
  refine Met.ofW (cc := cX3_under) (maxL := 3) (ret := (some .int)) (by decide) rfl ?_
  intro p e s m args below meth c s₁ B hml hv
  obtain ⟨rfl, hsz, hP, hK, hD0⟩ := hv
  have hx := B.exec
  have hb := B.bytes
  have hr := B.returns
  have hts := atoms_spec (ws := wsX3_under) B.pre
  have hown : s.vm.findClass RX3 = some m.cls := findClass_of_methodNamed B.named
  have hlocks := B.notSynchronized
  subst hsz
  have hD := hD0.self (sz := s.heap.size)
  generalize hAe : va_A [(h3, .inr (5, [.int th, .int ty, .ref e0, .ref e1, .ref e2, .ref e3, .ref e4, .int oc, .ref e5, .ref e6])), (e0, .inl (cyI, 40, .inl so)), (e1, .inl (cyZ, 40, .inl fi)), (e2, .inl (cyI, 40, .inl el)), (e3, .inl (cyI, 120, .inl av)), (e4, .inl (cyZ, 1600, .inl un)), (e5, .inl (cyI, 60, .inl kp)), (e6, .inl (cyJ, 60, .inr (.inl bt)))] s.heap.size = A at hD ⊢
  have hA : ∀ q : Nat, s.heap.size ≤ q → A q := fun q h => by rw [← hAe]; exact Or.inr h
  have hS : va_S A s.heap s.heap [] := va_S.rf
  have hP : va_P (dC, dI) vwCl [(h3, .inr (5, [.int th, .int ty, .ref e0, .ref e1, .ref e2, .ref e3, .ref e4, .int oc, .ref e5, .ref e6])), (e0, .inl (cyI, 40, .inl so)), (e1, .inl (cyZ, 40, .inl fi)), (e2, .inl (cyI, 40, .inl el)), (e3, .inl (cyI, 120, .inl av)), (e4, .inl (cyZ, 1600, .inl un)), (e5, .inl (cyI, 60, .inl kp)), (e6, .inl (cyJ, 60, .inr (.inl bt)))] s.heap := hP
  have hP0 : va_P (dC, dI) vwCl [] s.heap := fun k q h => by simp at h
  have hin_X3 : ∀ w ∈ wsX30, w ∈ wsX3_under := by decide +kernel
  have hf_40 := hts (.fieldLink RX3 40 "ConversionTablesModel" "thrown" "I") (by decide +kernel)
  have hf_23 := hts (.fieldLink RX3 23 "ConversionTablesModel" "under" "[Z") (by decide +kernel)
  have hl := lv_entry ([.ref h3, .int x1, .int x2]) (n := 3) (Nat.le_of_ble_eq_true rfl)
  rw [lg_entry_eq]
  generalize (lg_sl ([.ref h3, .int x1, .int x2]) ++ List.replicate (3 - (lg_sl ([.ref h3, .int x1, .int x2])).length) Slot.unset).toArray = ls at hl ⊢
  have hl : lv_has ls 3 [(0, .ref h3), (1, .int x1), (2, .int x2)] := hl
  refine lv_aload_n hx hb dX3_under_0 rfl (lv_at hl 0 rfl) ?_
  refine lv_iconst (v := (0 : Int32)) hx hb dX3_under_1 (by decide) ?_
  refine va_put (D := (dC, dI)) (ci := 5) (v := .int (0 : Int32)) (ty := .int) (C := RX3) (T := TX3) (N := 10) hx hb hts hin_X3 tyX3 tyX3_ok nmX3 hown hK hP hD hS 0 rfl rfl 0 (by decide) hf_40 (fun _ h9 => h9) rfl (by decide +kernel) rfl rfl (Nat.le_of_ble_eq_true rfl) dX3_under_2 (fun H locs hP hD hS => ?_)
  have hP : va_P (dC, dI) vwCl [(h3, .inr (5, [.int (0 : Int32), .int ty, .ref e0, .ref e1, .ref e2, .ref e3, .ref e4, .int oc, .ref e5, .ref e6])), (e0, .inl (cyI, 40, .inl so)), (e1, .inl (cyZ, 40, .inl fi)), (e2, .inl (cyI, 40, .inl el)), (e3, .inl (cyI, 120, .inl av)), (e4, .inl (cyZ, 1600, .inl un)), (e5, .inl (cyI, 60, .inl kp)), (e6, .inl (cyJ, 60, .inr (.inl bt)))] H := hP
  have hD : va_D A [(h3, .inr (5, [.int (0 : Int32), .int ty, .ref e0, .ref e1, .ref e2, .ref e3, .ref e4, .int oc, .ref e5, .ref e6])), (e0, .inl (cyI, 40, .inl so)), (e1, .inl (cyZ, 40, .inl fi)), (e2, .inl (cyI, 40, .inl el)), (e3, .inl (cyI, 120, .inl av)), (e4, .inl (cyZ, 1600, .inl un)), (e5, .inl (cyI, 60, .inl kp)), (e6, .inl (cyJ, 60, .inr (.inl bt)))] := hD
  refine lv_aload_n hx hb dX3_under_5 rfl (lv_at hl 0 rfl) ?_
  refine lv_iload_n hx hb dX3_under_6 rfl (lv_at hl 1 rfl) ?_
  refine mb_callSi (W.runV (As := [.int x1]) (rest := []) ⟨hx, hb, hml, hown, hts⟩ (c_X3_isType l dC dI cyI cyZ cyJ h3 e0 e1 e2 e3 e4 e5 e6 so fi el av un ty kp bt oc (0 : Int32) x1) (cwV 1 hts gX3_under_X3_isType rfl rfl rfl (by decide +kernel) ⟨Nat.le_of_ble_eq_true rfl, Nat.le_of_ble_eq_true rfl⟩) (mb_preV hK hP (ci := 5) (q0 := 0) rfl rfl) rfl rfl hl.1 rfl (lv_room (Nat.le_of_ble_eq_true rfl)) dX3_under_7 ⟨Nat.zero_le _, Nat.zero_le _⟩) ?_
  refine lv_if_eq (tgt := 21) hx hb dX3_under_10 (by decide) (fun c_1 => ?_) (fun c_1 => ?_)
  · refine lv_iconst (v := (-1 : Int32)) hx hb dX3_under_21 (by decide) ?_
    exact W.iret (v := (-1 : Int32)) hx hb hr (fun t ht hW => ⟨⟨(-1 : Int32), (0 : Int32), rfl, Eq.symm ((if_pos c_1).trans (rfl)), by rw [ht]; exact hP, va_K.moved hW.alike hK, hD⟩, hS.F ht⟩) hS.2.2 dX3_under_22
  · refine lv_aload_n hx hb dX3_under_13 rfl (lv_at hl 0 rfl) ?_
    refine lv_iload_n hx hb dX3_under_14 rfl (lv_at hl 2 rfl) ?_
    refine mb_callSi (W.runV (As := [.int x2]) (rest := []) ⟨hx, hb, hml, hown, hts⟩ (c_X3_isType l dC dI cyI cyZ cyJ h3 e0 e1 e2 e3 e4 e5 e6 so fi el av un ty kp bt oc (0 : Int32) x2) (cwV 1 hts gX3_under_X3_isType rfl rfl rfl (by decide +kernel) ⟨Nat.le_of_ble_eq_true rfl, Nat.le_of_ble_eq_true rfl⟩) (mb_preV hK hP (ci := 5) (q0 := 0) rfl rfl) rfl rfl hl.1 rfl (lv_room (Nat.le_of_ble_eq_true rfl)) dX3_under_15 ⟨Nat.zero_le _, Nat.zero_le _⟩) ?_
    refine lv_if_ne (tgt := 23) hx hb dX3_under_18 (by decide) (fun c_2 => ?_) (fun c_2 => ?_)
    · refine lv_aload_n hx hb dX3_under_23 rfl (lv_at hl 0 rfl) ?_
      refine lv_iload_n hx hb dX3_under_24 rfl (lv_at hl 1 rfl) ?_
      refine mb_callSi (W.runV (As := [.int x1]) (rest := []) ⟨hx, hb, hml, hown, hts⟩ (c_X3_isReference l dC dI cyI cyZ cyJ h3 e0 e1 e2 e3 e4 e5 e6 so fi el av un ty kp bt oc (0 : Int32) x1) (cwV 1 hts gX3_under_X3_isReference rfl rfl rfl (by decide +kernel) ⟨Nat.le_of_ble_eq_true rfl, Nat.le_of_ble_eq_true rfl⟩) (mb_preV hK hP (ci := 5) (q0 := 0) rfl rfl) rfl rfl hl.1 rfl (lv_room (Nat.le_of_ble_eq_true rfl)) dX3_under_25 ⟨Nat.zero_le _, Nat.zero_le _⟩) ?_
      refine lv_if_eq (tgt := 39) hx hb dX3_under_28 (by decide) (fun c_3 => ?_) (fun c_3 => ?_)
      · refine lv_bipush (v := (-2 : Int32)) hx hb dX3_under_39 (by decide) ?_
        exact W.iret (v := (-2 : Int32)) hx hb hr (fun t ht hW => ⟨⟨(-2 : Int32), (0 : Int32), rfl, Eq.symm ((if_neg c_1).trans ((if_neg c_2).trans ((if_pos c_3).trans (rfl)))), by rw [ht]; exact hP, va_K.moved hW.alike hK, hD⟩, hS.F ht⟩) hS.2.2 dX3_under_41
      · refine lv_aload_n hx hb dX3_under_31 rfl (lv_at hl 0 rfl) ?_
        refine lv_iload_n hx hb dX3_under_32 rfl (lv_at hl 2 rfl) ?_
        refine mb_callSi (W.runV (As := [.int x2]) (rest := []) ⟨hx, hb, hml, hown, hts⟩ (c_X3_isReference l dC dI cyI cyZ cyJ h3 e0 e1 e2 e3 e4 e5 e6 so fi el av un ty kp bt oc (0 : Int32) x2) (cwV 1 hts gX3_under_X3_isReference rfl rfl rfl (by decide +kernel) ⟨Nat.le_of_ble_eq_true rfl, Nat.le_of_ble_eq_true rfl⟩) (mb_preV hK hP (ci := 5) (q0 := 0) rfl rfl) rfl rfl hl.1 rfl (lv_room (Nat.le_of_ble_eq_true rfl)) dX3_under_33 ⟨Nat.zero_le _, Nat.zero_le _⟩) ?_
        refine lv_if_ne (tgt := 42) hx hb dX3_under_36 (by decide) (fun c_4 => ?_) (fun c_4 => ?_)
        · refine lv_aload_n hx hb dX3_under_42 rfl (lv_at hl 0 rfl) ?_
          refine va_get (D := (dC, dI)) (ci := 5) (v := .ref e4) (C := RX3) (T := TX3) (N := 10) hx hb hts hin_X3 hown hK hP 0 rfl rfl 6 (by decide) hf_23 (fun _ h9 => h9) rfl dX3_under_43 ?_
          refine lv_bipush (v := (40 : Int32)) hx hb dX3_under_46 (by decide) ?_
          refine lv_iload_n hx hb dX3_under_48 rfl (lv_at hl 1 rfl) ?_
          refine lv_imul hx hb dX3_under_49 ?_
          refine lv_iload_n hx hb dX3_under_50 rfl (lv_at hl 2 rfl) ?_
          refine lv_iadd hx hb dX3_under_51 ?_
          refine va_zald hx hb hK hP 5 1 rfl rfl (mb_ixv (mb_ist gz c_1) (mb_ist gz c_2)) dX3_under_52 ?_
          refine lv_if_eq (tgt := 60) hx hb dX3_under_53 (by decide) (fun c_5 => ?_) (fun c_5 => ?_)
          · refine lv_iconst (v := (0 : Int32)) hx hb dX3_under_60 (by decide) ?_
            exact W.iret (v := (0 : Int32)) hx hb hr (fun t ht hW => ⟨⟨(0 : Int32), (0 : Int32), rfl, Eq.symm ((if_neg c_1).trans ((if_neg c_2).trans ((if_neg c_3).trans ((if_neg c_4).trans ((if_pos c_5).trans (rfl)))))), by rw [ht]; exact hP, va_K.moved hW.alike hK, hD⟩, hS.F ht⟩) hS.2.2 dX3_under_61
          · refine lv_iconst (v := (1 : Int32)) hx hb dX3_under_56 (by decide) ?_
            refine lv_goto (tgt := 61) hx hb dX3_under_57 (by decide) ?_
            exact W.iret (v := (1 : Int32)) hx hb hr (fun t ht hW => ⟨⟨(1 : Int32), (0 : Int32), rfl, Eq.symm ((if_neg c_1).trans ((if_neg c_2).trans ((if_neg c_3).trans ((if_neg c_4).trans ((if_neg c_5).trans (rfl)))))), by rw [ht]; exact hP, va_K.moved hW.alike hK, hD⟩, hS.F ht⟩) hS.2.2 dX3_under_61
        · refine lv_bipush (v := (-2 : Int32)) hx hb dX3_under_39 (by decide) ?_
          exact W.iret (v := (-2 : Int32)) hx hb hr (fun t ht hW => ⟨⟨(-2 : Int32), (0 : Int32), rfl, Eq.symm ((if_neg c_1).trans ((if_neg c_2).trans ((if_neg c_3).trans ((if_pos c_4).trans (rfl))))), by rw [ht]; exact hP, va_K.moved hW.alike hK, hD⟩, hS.F ht⟩) hS.2.2 dX3_under_41
    · refine lv_iconst (v := (-1 : Int32)) hx hb dX3_under_21 (by decide) ?_
      exact W.iret (v := (-1 : Int32)) hx hb hr (fun t ht hW => ⟨⟨(-1 : Int32), (0 : Int32), rfl, Eq.symm ((if_neg c_1).trans ((if_pos c_2).trans (rfl))), by rw [ht]; exact hP, va_K.moved hW.alike hK, hD⟩, hS.F ht⟩) hS.2.2 dX3_under_22
def f_X3_kind (th : Int32) (so : Nat → Int32) (fi : Nat → Int32) (el : Nat → Int32) (av : Nat → Int32) (un : Nat → Int32) (ty : Int32) (kp : Nat → Int32) (bt : Nat → Int64) (oc : Int32) (x1 : Int32) (x2 : Int32) (x3 : Int32) : Int32 × ((Int32)) := if (f_X3_isType so fi el av un ty kp bt oc x1) = 0 then ((-1 : Int32), (0 : Int32))
  else if (f_X3_isType so fi el av un ty kp bt oc x2) = 0 then ((-1 : Int32), (0 : Int32))
  else if (f_X3_in x3 (0 : Int32) (5 : Int32)) = 0 then ((-1 : Int32), (0 : Int32))
  else ((f_X3_kindOf so fi el av un ty kp bt oc x1 x2 x3), (0 : Int32))
set_option maxHeartbeats 4000000 in
set_option maxRecDepth 100000 in
theorem c_X3_kind (l : Launch) (dC : Nat → ClassId) (dI : Nat → Nat → Nat) (cyI cyZ cyJ : ClassId) (h3 e0 e1 e2 e3 e4 e5 e6 : Nat) (th : Int32) (so : Nat → Int32) (fi : Nat → Int32) (el : Nat → Int32) (av : Nat → Int32) (un : Nat → Int32) (ty : Int32) (kp : Nat → Int32) (bt : Nat → Int64) (oc : Int32) (hs : Nat) (x1 : Int32) (x2 : Int32) (x3 : Int32) (gz : 0 ≤ ty.toInt ∧ ty.toInt ≤ 40) (ge : mb_EL so el) : Met l yX3_kind wsX3_kind ({ frames := 5, cells := 0, slots := 0, locals := 115 }) (va_Pc [.ref h3, .int x1, .int x2, .int x3] (mb_M (dC, dI) (mb_tys cyI cyZ cyJ) hs [(h3, .inr (5, [.int th, .int ty, .ref e0, .ref e1, .ref e2, .ref e3, .ref e4, .int oc, .ref e5, .ref e6])), (e0, .inl (cyI, 40, .inl so)), (e1, .inl (cyZ, 40, .inl fi)), (e2, .inl (cyI, 40, .inl el)), (e3, .inl (cyI, 120, .inl av)), (e4, .inl (cyZ, 1600, .inl un)), (e5, .inl (cyI, 60, .inl kp)), (e6, .inl (cyJ, 60, .inr (.inl bt)))])) (va_Qi (S := ((Int32))) (fun r u => (r, u) = f_X3_kind th so fi el av un ty kp bt oc x1 x2 x3) (fun u t => mb_at dC dI cyI cyZ cyJ (va_A [(h3, .inr (5, [.int th, .int ty, .ref e0, .ref e1, .ref e2, .ref e3, .ref e4, .int oc, .ref e5, .ref e6])), (e0, .inl (cyI, 40, .inl so)), (e1, .inl (cyZ, 40, .inl fi)), (e2, .inl (cyI, 40, .inl el)), (e3, .inl (cyI, 120, .inl av)), (e4, .inl (cyZ, 1600, .inl un)), (e5, .inl (cyI, 60, .inl kp)), (e6, .inl (cyJ, 60, .inr (.inl bt)))] hs) [(h3, .inr (5, [.int u, .int ty, .ref e0, .ref e1, .ref e2, .ref e3, .ref e4, .int oc, .ref e5, .ref e6])), (e0, .inl (cyI, 40, .inl so)), (e1, .inl (cyZ, 40, .inl fi)), (e2, .inl (cyI, 40, .inl el)), (e3, .inl (cyI, 120, .inl av)), (e4, .inl (cyZ, 1600, .inl un)), (e5, .inl (cyI, 60, .inl kp)), (e6, .inl (cyJ, 60, .inr (.inl bt)))] t) (va_A [(h3, .inr (5, [.int th, .int ty, .ref e0, .ref e1, .ref e2, .ref e3, .ref e4, .int oc, .ref e5, .ref e6])), (e0, .inl (cyI, 40, .inl so)), (e1, .inl (cyZ, 40, .inl fi)), (e2, .inl (cyI, 40, .inl el)), (e3, .inl (cyI, 120, .inl av)), (e4, .inl (cyZ, 1600, .inl un)), (e5, .inl (cyI, 60, .inl kp)), (e6, .inl (cyJ, 60, .inr (.inl bt)))] hs)) 0 0 (va_A [(h3, .inr (5, [.int th, .int ty, .ref e0, .ref e1, .ref e2, .ref e3, .ref e4, .int oc, .ref e5, .ref e6])), (e0, .inl (cyI, 40, .inl so)), (e1, .inl (cyZ, 40, .inl fi)), (e2, .inl (cyI, 40, .inl el)), (e3, .inl (cyI, 120, .inl av)), (e4, .inl (cyZ, 1600, .inl un)), (e5, .inl (cyI, 60, .inl kp)), (e6, .inl (cyJ, 60, .inr (.inl bt)))] hs) := by
  refine Met.ofW (cc := cX3_kind) (maxL := 4) (ret := (some .int)) (by decide) rfl ?_
  intro p e s m args below meth c s₁ B hml hv
  obtain ⟨rfl, hsz, hP, hK, hD0⟩ := hv
  have hx := B.exec
  have hb := B.bytes
  have hr := B.returns
  have hts := atoms_spec (ws := wsX3_kind) B.pre
  have hown : s.vm.findClass RX3 = some m.cls := findClass_of_methodNamed B.named
  have hlocks := B.notSynchronized
  subst hsz
  have hD := hD0.self (sz := s.heap.size)
  generalize hAe : va_A [(h3, .inr (5, [.int th, .int ty, .ref e0, .ref e1, .ref e2, .ref e3, .ref e4, .int oc, .ref e5, .ref e6])), (e0, .inl (cyI, 40, .inl so)), (e1, .inl (cyZ, 40, .inl fi)), (e2, .inl (cyI, 40, .inl el)), (e3, .inl (cyI, 120, .inl av)), (e4, .inl (cyZ, 1600, .inl un)), (e5, .inl (cyI, 60, .inl kp)), (e6, .inl (cyJ, 60, .inr (.inl bt)))] s.heap.size = A at hD ⊢
  have hA : ∀ q : Nat, s.heap.size ≤ q → A q := fun q h => by rw [← hAe]; exact Or.inr h
  have hS : va_S A s.heap s.heap [] := va_S.rf
  have hP : va_P (dC, dI) vwCl [(h3, .inr (5, [.int th, .int ty, .ref e0, .ref e1, .ref e2, .ref e3, .ref e4, .int oc, .ref e5, .ref e6])), (e0, .inl (cyI, 40, .inl so)), (e1, .inl (cyZ, 40, .inl fi)), (e2, .inl (cyI, 40, .inl el)), (e3, .inl (cyI, 120, .inl av)), (e4, .inl (cyZ, 1600, .inl un)), (e5, .inl (cyI, 60, .inl kp)), (e6, .inl (cyJ, 60, .inr (.inl bt)))] s.heap := hP
  have hP0 : va_P (dC, dI) vwCl [] s.heap := fun k q h => by simp at h
  have hin_X3 : ∀ w ∈ wsX30, w ∈ wsX3_kind := by decide +kernel
  have hf_40 := hts (.fieldLink RX3 40 "ConversionTablesModel" "thrown" "I") (by decide +kernel)
  have hl := lv_entry ([.ref h3, .int x1, .int x2, .int x3]) (n := 4) (Nat.le_of_ble_eq_true rfl)
  rw [lg_entry_eq]
  generalize (lg_sl ([.ref h3, .int x1, .int x2, .int x3]) ++ List.replicate (4 - (lg_sl ([.ref h3, .int x1, .int x2, .int x3])).length) Slot.unset).toArray = ls at hl ⊢
  have hl : lv_has ls 4 [(0, .ref h3), (1, .int x1), (2, .int x2), (3, .int x3)] := hl
  refine lv_aload_n hx hb dX3_kind_0 rfl (lv_at hl 0 rfl) ?_
  refine lv_iconst (v := (0 : Int32)) hx hb dX3_kind_1 (by decide) ?_
  refine va_put (D := (dC, dI)) (ci := 5) (v := .int (0 : Int32)) (ty := .int) (C := RX3) (T := TX3) (N := 10) hx hb hts hin_X3 tyX3 tyX3_ok nmX3 hown hK hP hD hS 0 rfl rfl 0 (by decide) hf_40 (fun _ h9 => h9) rfl (by decide +kernel) rfl rfl (Nat.le_of_ble_eq_true rfl) dX3_kind_2 (fun H locs hP hD hS => ?_)
  have hP : va_P (dC, dI) vwCl [(h3, .inr (5, [.int (0 : Int32), .int ty, .ref e0, .ref e1, .ref e2, .ref e3, .ref e4, .int oc, .ref e5, .ref e6])), (e0, .inl (cyI, 40, .inl so)), (e1, .inl (cyZ, 40, .inl fi)), (e2, .inl (cyI, 40, .inl el)), (e3, .inl (cyI, 120, .inl av)), (e4, .inl (cyZ, 1600, .inl un)), (e5, .inl (cyI, 60, .inl kp)), (e6, .inl (cyJ, 60, .inr (.inl bt)))] H := hP
  have hD : va_D A [(h3, .inr (5, [.int (0 : Int32), .int ty, .ref e0, .ref e1, .ref e2, .ref e3, .ref e4, .int oc, .ref e5, .ref e6])), (e0, .inl (cyI, 40, .inl so)), (e1, .inl (cyZ, 40, .inl fi)), (e2, .inl (cyI, 40, .inl el)), (e3, .inl (cyI, 120, .inl av)), (e4, .inl (cyZ, 1600, .inl un)), (e5, .inl (cyI, 60, .inl kp)), (e6, .inl (cyJ, 60, .inr (.inl bt)))] := hD
  refine lv_aload_n hx hb dX3_kind_5 rfl (lv_at hl 0 rfl) ?_
  refine lv_iload_n hx hb dX3_kind_6 rfl (lv_at hl 1 rfl) ?_
  refine mb_callSi (W.runV (As := [.int x1]) (rest := []) ⟨hx, hb, hml, hown, hts⟩ (c_X3_isType l dC dI cyI cyZ cyJ h3 e0 e1 e2 e3 e4 e5 e6 so fi el av un ty kp bt oc (0 : Int32) x1) (cwV 1 hts gX3_kind_X3_isType rfl rfl rfl (by decide +kernel) ⟨Nat.le_of_ble_eq_true rfl, Nat.le_of_ble_eq_true rfl⟩) (mb_preV hK hP (ci := 5) (q0 := 0) rfl rfl) rfl rfl hl.1 rfl (lv_room (Nat.le_of_ble_eq_true rfl)) dX3_kind_7 ⟨Nat.zero_le _, Nat.zero_le _⟩) ?_
  refine lv_if_eq (tgt := 30) hx hb dX3_kind_10 (by decide) (fun c_1 => ?_) (fun c_1 => ?_)
  · refine lv_iconst (v := (-1 : Int32)) hx hb dX3_kind_30 (by decide) ?_
    exact W.iret (v := (-1 : Int32)) hx hb hr (fun t ht hW => ⟨⟨(-1 : Int32), (0 : Int32), rfl, Eq.symm ((if_pos c_1).trans (rfl)), by rw [ht]; exact hP, va_K.moved hW.alike hK, hD⟩, hS.F ht⟩) hS.2.2 dX3_kind_31
  · refine lv_aload_n hx hb dX3_kind_13 rfl (lv_at hl 0 rfl) ?_
    refine lv_iload_n hx hb dX3_kind_14 rfl (lv_at hl 2 rfl) ?_
    refine mb_callSi (W.runV (As := [.int x2]) (rest := []) ⟨hx, hb, hml, hown, hts⟩ (c_X3_isType l dC dI cyI cyZ cyJ h3 e0 e1 e2 e3 e4 e5 e6 so fi el av un ty kp bt oc (0 : Int32) x2) (cwV 1 hts gX3_kind_X3_isType rfl rfl rfl (by decide +kernel) ⟨Nat.le_of_ble_eq_true rfl, Nat.le_of_ble_eq_true rfl⟩) (mb_preV hK hP (ci := 5) (q0 := 0) rfl rfl) rfl rfl hl.1 rfl (lv_room (Nat.le_of_ble_eq_true rfl)) dX3_kind_15 ⟨Nat.zero_le _, Nat.zero_le _⟩) ?_
    refine lv_if_eq (tgt := 30) hx hb dX3_kind_18 (by decide) (fun c_2 => ?_) (fun c_2 => ?_)
    · refine lv_iconst (v := (-1 : Int32)) hx hb dX3_kind_30 (by decide) ?_
      exact W.iret (v := (-1 : Int32)) hx hb hr (fun t ht hW => ⟨⟨(-1 : Int32), (0 : Int32), rfl, Eq.symm ((if_neg c_1).trans ((if_pos c_2).trans (rfl))), by rw [ht]; exact hP, va_K.moved hW.alike hK, hD⟩, hS.F ht⟩) hS.2.2 dX3_kind_31
    · refine lv_iload_n hx hb dX3_kind_21 rfl (lv_at hl 3 rfl) ?_
      refine lv_iconst (v := (0 : Int32)) hx hb dX3_kind_22 (by decide) ?_
      refine lv_iconst (v := (5 : Int32)) hx hb dX3_kind_23 (by decide) ?_
      refine mb_callSi (W.runS (As := [.int x3, .int (0 : Int32), .int (5 : Int32)]) (rest := []) ⟨hx, hb, hml, hown, hts⟩ (c_X3_in l x3 (0 : Int32) (5 : Int32)) (va_cwS 3 hts gX3_kind_X3_in rfl rfl rfl (by decide +kernel) ⟨Nat.le_of_ble_eq_true rfl, Nat.le_of_ble_eq_true rfl⟩) mb_preT rfl rfl hl.1 rfl (lv_room (Nat.le_of_ble_eq_true rfl)) dX3_kind_24 ⟨Nat.zero_le _, Nat.zero_le _⟩) ?_
      refine lv_if_ne (tgt := 32) hx hb dX3_kind_27 (by decide) (fun c_3 => ?_) (fun c_3 => ?_)
      · refine lv_aload_n hx hb dX3_kind_32 rfl (lv_at hl 0 rfl) ?_
        refine lv_iload_n hx hb dX3_kind_33 rfl (lv_at hl 1 rfl) ?_
        refine lv_iload_n hx hb dX3_kind_34 rfl (lv_at hl 2 rfl) ?_
        refine lv_iload_n hx hb dX3_kind_35 rfl (lv_at hl 3 rfl) ?_
        refine mb_callSi (W.runV (As := [.int x1, .int x2, .int x3]) (rest := []) ⟨hx, hb, hml, hown, hts⟩ (c_X3_kindOf l dC dI cyI cyZ cyJ h3 e0 e1 e2 e3 e4 e5 e6 so fi el av un ty kp bt oc (0 : Int32) x1 x2 x3 (mb_ist gz c_1) (mb_ist gz c_2) ge) (cwV 3 hts gX3_kind_X3_kindOf rfl rfl rfl (by decide +kernel) ⟨Nat.le_of_ble_eq_true rfl, Nat.le_of_ble_eq_true rfl⟩) (mb_preV hK hP (ci := 5) (q0 := 0) rfl rfl) rfl rfl hl.1 rfl (lv_room (Nat.le_of_ble_eq_true rfl)) dX3_kind_36 ⟨Nat.zero_le _, Nat.zero_le _⟩) ?_
        exact W.iret (v := (f_X3_kindOf so fi el av un ty kp bt oc x1 x2 x3)) hx hb hr (fun t ht hW => ⟨⟨(f_X3_kindOf so fi el av un ty kp bt oc x1 x2 x3), (0 : Int32), rfl, Eq.symm ((if_neg c_1).trans ((if_neg c_2).trans ((if_neg c_3).trans (rfl)))), by rw [ht]; exact hP, va_K.moved hW.alike hK, hD⟩, hS.F ht⟩) hS.2.2 dX3_kind_39
      · refine lv_iconst (v := (-1 : Int32)) hx hb dX3_kind_30 (by decide) ?_
        exact W.iret (v := (-1 : Int32)) hx hb hr (fun t ht hW => ⟨⟨(-1 : Int32), (0 : Int32), rfl, Eq.symm ((if_neg c_1).trans ((if_neg c_2).trans ((if_pos c_3).trans (rfl)))), by rw [ht]; exact hP, va_K.moved hW.alike hK, hD⟩, hS.F ht⟩) hS.2.2 dX3_kind_31
def f_X3_given_62 (th : Int32) (so : Nat → Int32) (fi : Nat → Int32) (el : Nat → Int32) (av : Nat → Int32) (un : Nat → Int32) (ty : Int32) (kp : Nat → Int32) (bt : Nat → Int64) (oc : Int32) (x1 : Int64) (x2 : Int32) (x3 : Int32) (sm : Int32) (th2 : Int32) : Int32 × ((Int32)) := if (5 : Int32) ≤ x2 then (if (0 : Int32) = 0 then (if (f_X3_kindOf so fi el av un ty kp bt oc x2 x3 (2 : Int32)) ≤ 0 then ((0 : Int32), th2)
      else ((1 : Int32), th2))
    else ((1 : Int32), th2))
  else if (f_X3_in sm (1 : Int32) (3 : Int32)) = 0 then (if (0 : Int32) = 0 then (if (f_X3_kindOf so fi el av un ty kp bt oc x2 x3 (2 : Int32)) ≤ 0 then ((0 : Int32), th2)
      else ((1 : Int32), th2))
    else ((1 : Int32), th2))
  else if (f_X3_has sm x1) = 0 then (if (0 : Int32) = 0 then (if (f_X3_kindOf so fi el av un ty kp bt oc x2 x3 (2 : Int32)) ≤ 0 then ((0 : Int32), th2)
      else ((1 : Int32), th2))
    else ((1 : Int32), th2))
  else if (1 : Int32) = 0 then (if (f_X3_kindOf so fi el av un ty kp bt oc x2 x3 (2 : Int32)) ≤ 0 then ((0 : Int32), th2)
    else ((1 : Int32), th2))
  else ((1 : Int32), th2)
def f_X3_given (th : Int32) (so : Nat → Int32) (fi : Nat → Int32) (el : Nat → Int32) (av : Nat → Int32) (un : Nat → Int32) (ty : Int32) (kp : Nat → Int32) (bt : Nat → Int64) (oc : Int32) (x1 : Int64) (x2 : Int32) (x3 : Int32) : Int32 × ((Int32)) := if (f_X3_isType so fi el av un ty kp bt oc x2) = 0 then ((-1 : Int32), (0 : Int32))
  else if (f_X3_isType so fi el av un ty kp bt oc x3) = 0 then ((-1 : Int32), (0 : Int32))
  else if (f_X3_in x2 (1 : Int32) (5 : Int32)) = 0 then ((-2 : Int32), (0 : Int32))
  else if (f_X3_has x2 x1) = 0 then ((-2 : Int32), (0 : Int32))
  else if (f_X3_isBox x3) = 0 then f_X3_given_62 th so fi el av un ty kp bt oc x1 x2 x3 x3 (0 : Int32)
  else f_X3_given_62 th so fi el av un ty kp bt oc x1 x2 x3 (x3 - (8 : Int32)) (0 : Int32)
set_option maxHeartbeats 4000000 in
set_option maxRecDepth 100000 in
theorem c_X3_given (l : Launch) (dC : Nat → ClassId) (dI : Nat → Nat → Nat) (cyI cyZ cyJ : ClassId) (h3 e0 e1 e2 e3 e4 e5 e6 : Nat) (th : Int32) (so : Nat → Int32) (fi : Nat → Int32) (el : Nat → Int32) (av : Nat → Int32) (un : Nat → Int32) (ty : Int32) (kp : Nat → Int32) (bt : Nat → Int64) (oc : Int32) (hs : Nat) (x1 : Int64) (x2 : Int32) (x3 : Int32) (gz : 0 ≤ ty.toInt ∧ ty.toInt ≤ 40) (ge : mb_EL so el) : Met l yX3_given wsX3_given ({ frames := 5, cells := 0, slots := 0, locals := 115 }) (va_Pc [.ref h3, .long x1, .int x2, .int x3] (mb_M (dC, dI) (mb_tys cyI cyZ cyJ) hs [(h3, .inr (5, [.int th, .int ty, .ref e0, .ref e1, .ref e2, .ref e3, .ref e4, .int oc, .ref e5, .ref e6])), (e0, .inl (cyI, 40, .inl so)), (e1, .inl (cyZ, 40, .inl fi)), (e2, .inl (cyI, 40, .inl el)), (e3, .inl (cyI, 120, .inl av)), (e4, .inl (cyZ, 1600, .inl un)), (e5, .inl (cyI, 60, .inl kp)), (e6, .inl (cyJ, 60, .inr (.inl bt)))])) (va_Qi (S := ((Int32))) (fun r u => (r, u) = f_X3_given th so fi el av un ty kp bt oc x1 x2 x3) (fun u t => mb_at dC dI cyI cyZ cyJ (va_A [(h3, .inr (5, [.int th, .int ty, .ref e0, .ref e1, .ref e2, .ref e3, .ref e4, .int oc, .ref e5, .ref e6])), (e0, .inl (cyI, 40, .inl so)), (e1, .inl (cyZ, 40, .inl fi)), (e2, .inl (cyI, 40, .inl el)), (e3, .inl (cyI, 120, .inl av)), (e4, .inl (cyZ, 1600, .inl un)), (e5, .inl (cyI, 60, .inl kp)), (e6, .inl (cyJ, 60, .inr (.inl bt)))] hs) [(h3, .inr (5, [.int u, .int ty, .ref e0, .ref e1, .ref e2, .ref e3, .ref e4, .int oc, .ref e5, .ref e6])), (e0, .inl (cyI, 40, .inl so)), (e1, .inl (cyZ, 40, .inl fi)), (e2, .inl (cyI, 40, .inl el)), (e3, .inl (cyI, 120, .inl av)), (e4, .inl (cyZ, 1600, .inl un)), (e5, .inl (cyI, 60, .inl kp)), (e6, .inl (cyJ, 60, .inr (.inl bt)))] t) (va_A [(h3, .inr (5, [.int th, .int ty, .ref e0, .ref e1, .ref e2, .ref e3, .ref e4, .int oc, .ref e5, .ref e6])), (e0, .inl (cyI, 40, .inl so)), (e1, .inl (cyZ, 40, .inl fi)), (e2, .inl (cyI, 40, .inl el)), (e3, .inl (cyI, 120, .inl av)), (e4, .inl (cyZ, 1600, .inl un)), (e5, .inl (cyI, 60, .inl kp)), (e6, .inl (cyJ, 60, .inr (.inl bt)))] hs)) 0 0 (va_A [(h3, .inr (5, [.int th, .int ty, .ref e0, .ref e1, .ref e2, .ref e3, .ref e4, .int oc, .ref e5, .ref e6])), (e0, .inl (cyI, 40, .inl so)), (e1, .inl (cyZ, 40, .inl fi)), (e2, .inl (cyI, 40, .inl el)), (e3, .inl (cyI, 120, .inl av)), (e4, .inl (cyZ, 1600, .inl un)), (e5, .inl (cyI, 60, .inl kp)), (e6, .inl (cyJ, 60, .inr (.inl bt)))] hs) := by
  refine Met.ofW (cc := cX3_given) (maxL := 7) (ret := (some .int)) (by decide) rfl ?_
  intro p e s m args below meth c s₁ B hml hv
  obtain ⟨rfl, hsz, hP, hK, hD0⟩ := hv
  have hx := B.exec
  have hb := B.bytes
  have hr := B.returns
  have hts := atoms_spec (ws := wsX3_given) B.pre
  have hown : s.vm.findClass RX3 = some m.cls := findClass_of_methodNamed B.named
  have hlocks := B.notSynchronized
  subst hsz
  have hD := hD0.self (sz := s.heap.size)
  generalize hAe : va_A [(h3, .inr (5, [.int th, .int ty, .ref e0, .ref e1, .ref e2, .ref e3, .ref e4, .int oc, .ref e5, .ref e6])), (e0, .inl (cyI, 40, .inl so)), (e1, .inl (cyZ, 40, .inl fi)), (e2, .inl (cyI, 40, .inl el)), (e3, .inl (cyI, 120, .inl av)), (e4, .inl (cyZ, 1600, .inl un)), (e5, .inl (cyI, 60, .inl kp)), (e6, .inl (cyJ, 60, .inr (.inl bt)))] s.heap.size = A at hD ⊢
  have hA : ∀ q : Nat, s.heap.size ≤ q → A q := fun q h => by rw [← hAe]; exact Or.inr h
  have hS : va_S A s.heap s.heap [] := va_S.rf
  have hP : va_P (dC, dI) vwCl [(h3, .inr (5, [.int th, .int ty, .ref e0, .ref e1, .ref e2, .ref e3, .ref e4, .int oc, .ref e5, .ref e6])), (e0, .inl (cyI, 40, .inl so)), (e1, .inl (cyZ, 40, .inl fi)), (e2, .inl (cyI, 40, .inl el)), (e3, .inl (cyI, 120, .inl av)), (e4, .inl (cyZ, 1600, .inl un)), (e5, .inl (cyI, 60, .inl kp)), (e6, .inl (cyJ, 60, .inr (.inl bt)))] s.heap := hP
  have hP0 : va_P (dC, dI) vwCl [] s.heap := fun k q h => by simp at h
  have hin_X3 : ∀ w ∈ wsX30, w ∈ wsX3_given := by decide +kernel
  have hf_40 := hts (.fieldLink RX3 40 "ConversionTablesModel" "thrown" "I") (by decide +kernel)
  have K_62 : ∀ (sm : Int32) (th2 : Int32) (H : Heap) (locs : List Loc) (ls : Array Slot) (g2 : vp_in x2 40) (g3 : vp_in x3 40), va_P (dC, dI) vwCl [(h3, .inr (5, [.int th2, .int ty, .ref e0, .ref e1, .ref e2, .ref e3, .ref e4, .int oc, .ref e5, .ref e6])), (e0, .inl (cyI, 40, .inl so)), (e1, .inl (cyZ, 40, .inl fi)), (e2, .inl (cyI, 40, .inl el)), (e3, .inl (cyI, 120, .inl av)), (e4, .inl (cyZ, 1600, .inl un)), (e5, .inl (cyI, 60, .inl kp)), (e6, .inl (cyJ, 60, .inr (.inl bt)))] H → va_D A [(h3, .inr (5, [.int th2, .int ty, .ref e0, .ref e1, .ref e2, .ref e3, .ref e4, .int oc, .ref e5, .ref e6])), (e0, .inl (cyI, 40, .inl so)), (e1, .inl (cyZ, 40, .inl fi)), (e2, .inl (cyI, 40, .inl el)), (e3, .inl (cyI, 120, .inl av)), (e4, .inl (cyZ, 1600, .inl un)), (e5, .inl (cyI, 60, .inl kp)), (e6, .inl (cyJ, 60, .inr (.inl bt)))] → va_S A s.heap H locs → lv_has ls 7 [(0, .ref h3), (1, .long x1), (3, .int x2), (4, .int x3)] → f_X3_given th so fi el av un ty kp bt oc x1 x2 x3 = f_X3_given_62 th so fi el av un ty kp bt oc x1 x2 x3 sm th2 → W p l e (headSpec wsX3_given ({ frames := 5, cells := 0, slots := 0, locals := 115 })).room s m ([.ref h3, .long x1, .int x2, .int x3] : List Value).toArray below meth c H locs 0 0 (MQ below (va_Qi (S := ((Int32))) (fun r u => (r, u) = f_X3_given th so fi el av un ty kp bt oc x1 x2 x3) (fun u t => mb_at dC dI cyI cyZ cyJ A [(h3, .inr (5, [.int u, .int ty, .ref e0, .ref e1, .ref e2, .ref e3, .ref e4, .int oc, .ref e5, .ref e6])), (e0, .inl (cyI, 40, .inl so)), (e1, .inl (cyZ, 40, .inl fi)), (e2, .inl (cyI, 40, .inl el)), (e3, .inl (cyI, 120, .inl av)), (e4, .inl (cyZ, 1600, .inl un)), (e5, .inl (cyI, 60, .inl kp)), (e6, .inl (cyJ, 60, .inr (.inl bt)))] t) A) ([.ref h3, .long x1, .int x2, .int x3] : List Value).toArray s 0 0 A) (F0 m 62 ls [.int sm]) := by
    intro sm th2 H locs ls g2 g3 hP hD hS hl hz
    refine lv_istore (lv' := [(5, .int sm), (0, .ref h3), (1, .long x1), (3, .int x2), (4, .int x3)]) hx hb dX3_given_62 hl (by decide) rfl (fun ls hl => ?_)
    refine lv_iload_n hx hb dX3_given_64 rfl (lv_at hl 3 rfl) ?_
    refine lv_iconst (v := (5 : Int32)) hx hb dX3_given_65 (by decide) ?_
    refine lv_icmp_ge (tgt := 92) hx hb dX3_given_66 (by decide) (fun c_1 => ?_) (fun c_1 => ?_)
    · refine lv_iconst (v := (0 : Int32)) hx hb dX3_given_92 (by decide) ?_
      refine lv_istore (lv' := [(6, .int (0 : Int32)), (5, .int sm), (0, .ref h3), (1, .long x1), (3, .int x2), (4, .int x3)]) hx hb dX3_given_93 hl (by decide) rfl (fun ls hl => ?_)
      refine lv_iload hx hb dX3_given_95 (lv_at hl 0 rfl) ?_
      refine lv_if_ne (tgt := 111) hx hb dX3_given_97 (by decide) (fun c_2 => ?_) (fun c_2 => ?_)
      · refine lv_iconst (v := (1 : Int32)) hx hb dX3_given_111 (by decide) ?_
        refine lv_goto (tgt := 116) hx hb dX3_given_112 (by decide) ?_
        exact W.iret (v := (1 : Int32)) hx hb hr (fun t ht hW => ⟨⟨(1 : Int32), th2, rfl, Eq.symm (hz.trans ((if_pos c_1).trans ((if_neg c_2).trans (rfl)))), by rw [ht]; exact hP, va_K.moved hW.alike hK, hD⟩, hS.F ht⟩) hS.2.2 dX3_given_116
      · refine lv_aload_n hx hb dX3_given_100 rfl (lv_at hl 2 rfl) ?_
        refine lv_iload_n hx hb dX3_given_101 rfl (lv_at hl 4 rfl) ?_
        refine lv_iload hx hb dX3_given_102 (lv_at hl 5 rfl) ?_
        refine lv_iconst (v := (2 : Int32)) hx hb dX3_given_104 (by decide) ?_
        refine mb_callSi (W.runV (As := [.int x2, .int x3, .int (2 : Int32)]) (rest := []) ⟨hx, hb, hml, hown, hts⟩ (c_X3_kindOf l dC dI cyI cyZ cyJ h3 e0 e1 e2 e3 e4 e5 e6 so fi el av un ty kp bt oc th2 x2 x3 (2 : Int32) g2 g3 ge) (cwV 3 hts gX3_given_X3_kindOf rfl rfl rfl (by decide +kernel) ⟨Nat.le_of_ble_eq_true rfl, Nat.le_of_ble_eq_true rfl⟩) (mb_preV hK hP (ci := 5) (q0 := 0) rfl rfl) rfl rfl hl.1 rfl (lv_room (Nat.le_of_ble_eq_true rfl)) dX3_given_105 ⟨Nat.zero_le _, Nat.zero_le _⟩) ?_
        refine lv_if_le (tgt := 115) hx hb dX3_given_108 (by decide) (fun c_3 => ?_) (fun c_3 => ?_)
        · refine lv_iconst (v := (0 : Int32)) hx hb dX3_given_115 (by decide) ?_
          exact W.iret (v := (0 : Int32)) hx hb hr (fun t ht hW => ⟨⟨(0 : Int32), th2, rfl, Eq.symm (hz.trans ((if_pos c_1).trans ((if_pos c_2).trans ((if_pos c_3).trans (rfl))))), by rw [ht]; exact hP, va_K.moved hW.alike hK, hD⟩, hS.F ht⟩) hS.2.2 dX3_given_116
        · refine lv_iconst (v := (1 : Int32)) hx hb dX3_given_111 (by decide) ?_
          refine lv_goto (tgt := 116) hx hb dX3_given_112 (by decide) ?_
          exact W.iret (v := (1 : Int32)) hx hb hr (fun t ht hW => ⟨⟨(1 : Int32), th2, rfl, Eq.symm (hz.trans ((if_pos c_1).trans ((if_pos c_2).trans ((if_neg c_3).trans (rfl))))), by rw [ht]; exact hP, va_K.moved hW.alike hK, hD⟩, hS.F ht⟩) hS.2.2 dX3_given_116
    · refine lv_iload hx hb dX3_given_69 (lv_at hl 0 rfl) ?_
      refine lv_iconst (v := (1 : Int32)) hx hb dX3_given_71 (by decide) ?_
      refine lv_iconst (v := (3 : Int32)) hx hb dX3_given_72 (by decide) ?_
      refine mb_callSi (W.runS (As := [.int sm, .int (1 : Int32), .int (3 : Int32)]) (rest := []) ⟨hx, hb, hml, hown, hts⟩ (c_X3_in l sm (1 : Int32) (3 : Int32)) (va_cwS 3 hts gX3_given_X3_in rfl rfl rfl (by decide +kernel) ⟨Nat.le_of_ble_eq_true rfl, Nat.le_of_ble_eq_true rfl⟩) mb_preT rfl rfl hl.1 rfl (lv_room (Nat.le_of_ble_eq_true rfl)) dX3_given_73 ⟨Nat.zero_le _, Nat.zero_le _⟩) ?_
      refine lv_if_eq (tgt := 92) hx hb dX3_given_76 (by decide) (fun c_4 => ?_) (fun c_4 => ?_)
      · refine lv_iconst (v := (0 : Int32)) hx hb dX3_given_92 (by decide) ?_
        refine lv_istore (lv' := [(6, .int (0 : Int32)), (5, .int sm), (0, .ref h3), (1, .long x1), (3, .int x2), (4, .int x3)]) hx hb dX3_given_93 hl (by decide) rfl (fun ls hl => ?_)
        refine lv_iload hx hb dX3_given_95 (lv_at hl 0 rfl) ?_
        refine lv_if_ne (tgt := 111) hx hb dX3_given_97 (by decide) (fun c_5 => ?_) (fun c_5 => ?_)
        · refine lv_iconst (v := (1 : Int32)) hx hb dX3_given_111 (by decide) ?_
          refine lv_goto (tgt := 116) hx hb dX3_given_112 (by decide) ?_
          exact W.iret (v := (1 : Int32)) hx hb hr (fun t ht hW => ⟨⟨(1 : Int32), th2, rfl, Eq.symm (hz.trans ((if_neg c_1).trans ((if_pos c_4).trans ((if_neg c_5).trans (rfl))))), by rw [ht]; exact hP, va_K.moved hW.alike hK, hD⟩, hS.F ht⟩) hS.2.2 dX3_given_116
        · refine lv_aload_n hx hb dX3_given_100 rfl (lv_at hl 2 rfl) ?_
          refine lv_iload_n hx hb dX3_given_101 rfl (lv_at hl 4 rfl) ?_
          refine lv_iload hx hb dX3_given_102 (lv_at hl 5 rfl) ?_
          refine lv_iconst (v := (2 : Int32)) hx hb dX3_given_104 (by decide) ?_
          refine mb_callSi (W.runV (As := [.int x2, .int x3, .int (2 : Int32)]) (rest := []) ⟨hx, hb, hml, hown, hts⟩ (c_X3_kindOf l dC dI cyI cyZ cyJ h3 e0 e1 e2 e3 e4 e5 e6 so fi el av un ty kp bt oc th2 x2 x3 (2 : Int32) g2 g3 ge) (cwV 3 hts gX3_given_X3_kindOf rfl rfl rfl (by decide +kernel) ⟨Nat.le_of_ble_eq_true rfl, Nat.le_of_ble_eq_true rfl⟩) (mb_preV hK hP (ci := 5) (q0 := 0) rfl rfl) rfl rfl hl.1 rfl (lv_room (Nat.le_of_ble_eq_true rfl)) dX3_given_105 ⟨Nat.zero_le _, Nat.zero_le _⟩) ?_
          refine lv_if_le (tgt := 115) hx hb dX3_given_108 (by decide) (fun c_6 => ?_) (fun c_6 => ?_)
          · refine lv_iconst (v := (0 : Int32)) hx hb dX3_given_115 (by decide) ?_
            exact W.iret (v := (0 : Int32)) hx hb hr (fun t ht hW => ⟨⟨(0 : Int32), th2, rfl, Eq.symm (hz.trans ((if_neg c_1).trans ((if_pos c_4).trans ((if_pos c_5).trans ((if_pos c_6).trans (rfl)))))), by rw [ht]; exact hP, va_K.moved hW.alike hK, hD⟩, hS.F ht⟩) hS.2.2 dX3_given_116
          · refine lv_iconst (v := (1 : Int32)) hx hb dX3_given_111 (by decide) ?_
            refine lv_goto (tgt := 116) hx hb dX3_given_112 (by decide) ?_
            exact W.iret (v := (1 : Int32)) hx hb hr (fun t ht hW => ⟨⟨(1 : Int32), th2, rfl, Eq.symm (hz.trans ((if_neg c_1).trans ((if_pos c_4).trans ((if_pos c_5).trans ((if_neg c_6).trans (rfl)))))), by rw [ht]; exact hP, va_K.moved hW.alike hK, hD⟩, hS.F ht⟩) hS.2.2 dX3_given_116
      · refine lv_iload hx hb dX3_given_79 (lv_at hl 0 rfl) ?_
        refine lv_lload_n hx hb dX3_given_81 rfl (lv_at hl 2 rfl) ?_
        refine mb_callSi (W.runS (As := [.int sm, .long x1]) (rest := []) ⟨hx, hb, hml, hown, hts⟩ (c_X3_has l sm x1) (va_cwS 2 hts gX3_given_X3_has rfl rfl rfl (by decide +kernel) ⟨Nat.le_of_ble_eq_true rfl, Nat.le_of_ble_eq_true rfl⟩) mb_preT rfl rfl hl.1 rfl (lv_room (Nat.le_of_ble_eq_true rfl)) dX3_given_82 ⟨Nat.zero_le _, Nat.zero_le _⟩) ?_
        refine lv_if_eq (tgt := 92) hx hb dX3_given_85 (by decide) (fun c_7 => ?_) (fun c_7 => ?_)
        · refine lv_iconst (v := (0 : Int32)) hx hb dX3_given_92 (by decide) ?_
          refine lv_istore (lv' := [(6, .int (0 : Int32)), (5, .int sm), (0, .ref h3), (1, .long x1), (3, .int x2), (4, .int x3)]) hx hb dX3_given_93 hl (by decide) rfl (fun ls hl => ?_)
          refine lv_iload hx hb dX3_given_95 (lv_at hl 0 rfl) ?_
          refine lv_if_ne (tgt := 111) hx hb dX3_given_97 (by decide) (fun c_8 => ?_) (fun c_8 => ?_)
          · refine lv_iconst (v := (1 : Int32)) hx hb dX3_given_111 (by decide) ?_
            refine lv_goto (tgt := 116) hx hb dX3_given_112 (by decide) ?_
            exact W.iret (v := (1 : Int32)) hx hb hr (fun t ht hW => ⟨⟨(1 : Int32), th2, rfl, Eq.symm (hz.trans ((if_neg c_1).trans ((if_neg c_4).trans ((if_pos c_7).trans ((if_neg c_8).trans (rfl)))))), by rw [ht]; exact hP, va_K.moved hW.alike hK, hD⟩, hS.F ht⟩) hS.2.2 dX3_given_116
          · refine lv_aload_n hx hb dX3_given_100 rfl (lv_at hl 2 rfl) ?_
            refine lv_iload_n hx hb dX3_given_101 rfl (lv_at hl 4 rfl) ?_
            refine lv_iload hx hb dX3_given_102 (lv_at hl 5 rfl) ?_
            refine lv_iconst (v := (2 : Int32)) hx hb dX3_given_104 (by decide) ?_
            refine mb_callSi (W.runV (As := [.int x2, .int x3, .int (2 : Int32)]) (rest := []) ⟨hx, hb, hml, hown, hts⟩ (c_X3_kindOf l dC dI cyI cyZ cyJ h3 e0 e1 e2 e3 e4 e5 e6 so fi el av un ty kp bt oc th2 x2 x3 (2 : Int32) g2 g3 ge) (cwV 3 hts gX3_given_X3_kindOf rfl rfl rfl (by decide +kernel) ⟨Nat.le_of_ble_eq_true rfl, Nat.le_of_ble_eq_true rfl⟩) (mb_preV hK hP (ci := 5) (q0 := 0) rfl rfl) rfl rfl hl.1 rfl (lv_room (Nat.le_of_ble_eq_true rfl)) dX3_given_105 ⟨Nat.zero_le _, Nat.zero_le _⟩) ?_
            refine lv_if_le (tgt := 115) hx hb dX3_given_108 (by decide) (fun c_9 => ?_) (fun c_9 => ?_)
            · refine lv_iconst (v := (0 : Int32)) hx hb dX3_given_115 (by decide) ?_
              exact W.iret (v := (0 : Int32)) hx hb hr (fun t ht hW => ⟨⟨(0 : Int32), th2, rfl, Eq.symm (hz.trans ((if_neg c_1).trans ((if_neg c_4).trans ((if_pos c_7).trans ((if_pos c_8).trans ((if_pos c_9).trans (rfl))))))), by rw [ht]; exact hP, va_K.moved hW.alike hK, hD⟩, hS.F ht⟩) hS.2.2 dX3_given_116
            · refine lv_iconst (v := (1 : Int32)) hx hb dX3_given_111 (by decide) ?_
              refine lv_goto (tgt := 116) hx hb dX3_given_112 (by decide) ?_
              exact W.iret (v := (1 : Int32)) hx hb hr (fun t ht hW => ⟨⟨(1 : Int32), th2, rfl, Eq.symm (hz.trans ((if_neg c_1).trans ((if_neg c_4).trans ((if_pos c_7).trans ((if_pos c_8).trans ((if_neg c_9).trans (rfl))))))), by rw [ht]; exact hP, va_K.moved hW.alike hK, hD⟩, hS.F ht⟩) hS.2.2 dX3_given_116
        · refine lv_iconst (v := (1 : Int32)) hx hb dX3_given_88 (by decide) ?_
          refine lv_goto (tgt := 93) hx hb dX3_given_89 (by decide) ?_
          refine lv_istore (lv' := [(6, .int (1 : Int32)), (5, .int sm), (0, .ref h3), (1, .long x1), (3, .int x2), (4, .int x3)]) hx hb dX3_given_93 hl (by decide) rfl (fun ls hl => ?_)
          refine lv_iload hx hb dX3_given_95 (lv_at hl 0 rfl) ?_
          refine lv_if_ne (tgt := 111) hx hb dX3_given_97 (by decide) (fun c_10 => ?_) (fun c_10 => ?_)
          · refine lv_iconst (v := (1 : Int32)) hx hb dX3_given_111 (by decide) ?_
            refine lv_goto (tgt := 116) hx hb dX3_given_112 (by decide) ?_
            exact W.iret (v := (1 : Int32)) hx hb hr (fun t ht hW => ⟨⟨(1 : Int32), th2, rfl, Eq.symm (hz.trans ((if_neg c_1).trans ((if_neg c_4).trans ((if_neg c_7).trans ((if_neg c_10).trans (rfl)))))), by rw [ht]; exact hP, va_K.moved hW.alike hK, hD⟩, hS.F ht⟩) hS.2.2 dX3_given_116
          · refine lv_aload_n hx hb dX3_given_100 rfl (lv_at hl 2 rfl) ?_
            refine lv_iload_n hx hb dX3_given_101 rfl (lv_at hl 4 rfl) ?_
            refine lv_iload hx hb dX3_given_102 (lv_at hl 5 rfl) ?_
            refine lv_iconst (v := (2 : Int32)) hx hb dX3_given_104 (by decide) ?_
            refine mb_callSi (W.runV (As := [.int x2, .int x3, .int (2 : Int32)]) (rest := []) ⟨hx, hb, hml, hown, hts⟩ (c_X3_kindOf l dC dI cyI cyZ cyJ h3 e0 e1 e2 e3 e4 e5 e6 so fi el av un ty kp bt oc th2 x2 x3 (2 : Int32) g2 g3 ge) (cwV 3 hts gX3_given_X3_kindOf rfl rfl rfl (by decide +kernel) ⟨Nat.le_of_ble_eq_true rfl, Nat.le_of_ble_eq_true rfl⟩) (mb_preV hK hP (ci := 5) (q0 := 0) rfl rfl) rfl rfl hl.1 rfl (lv_room (Nat.le_of_ble_eq_true rfl)) dX3_given_105 ⟨Nat.zero_le _, Nat.zero_le _⟩) ?_
            refine lv_if_le (tgt := 115) hx hb dX3_given_108 (by decide) (fun c_11 => ?_) (fun c_11 => ?_)
            · refine lv_iconst (v := (0 : Int32)) hx hb dX3_given_115 (by decide) ?_
              exact W.iret (v := (0 : Int32)) hx hb hr (fun t ht hW => ⟨⟨(0 : Int32), th2, rfl, Eq.symm (hz.trans ((if_neg c_1).trans ((if_neg c_4).trans ((if_neg c_7).trans ((if_pos c_10).trans ((if_pos c_11).trans (rfl))))))), by rw [ht]; exact hP, va_K.moved hW.alike hK, hD⟩, hS.F ht⟩) hS.2.2 dX3_given_116
            · refine lv_iconst (v := (1 : Int32)) hx hb dX3_given_111 (by decide) ?_
              refine lv_goto (tgt := 116) hx hb dX3_given_112 (by decide) ?_
              exact W.iret (v := (1 : Int32)) hx hb hr (fun t ht hW => ⟨⟨(1 : Int32), th2, rfl, Eq.symm (hz.trans ((if_neg c_1).trans ((if_neg c_4).trans ((if_neg c_7).trans ((if_pos c_10).trans ((if_neg c_11).trans (rfl))))))), by rw [ht]; exact hP, va_K.moved hW.alike hK, hD⟩, hS.F ht⟩) hS.2.2 dX3_given_116
  have hl := lv_entry ([.ref h3, .long x1, .int x2, .int x3]) (n := 7) (Nat.le_of_ble_eq_true rfl)
  rw [lg_entry_eq]
  generalize (lg_sl ([.ref h3, .long x1, .int x2, .int x3]) ++ List.replicate (7 - (lg_sl ([.ref h3, .long x1, .int x2, .int x3])).length) Slot.unset).toArray = ls at hl ⊢
  have hl : lv_has ls 7 [(0, .ref h3), (1, .long x1), (3, .int x2), (4, .int x3)] := hl
  refine lv_aload_n hx hb dX3_given_0 rfl (lv_at hl 0 rfl) ?_
  refine lv_iconst (v := (0 : Int32)) hx hb dX3_given_1 (by decide) ?_
  refine va_put (D := (dC, dI)) (ci := 5) (v := .int (0 : Int32)) (ty := .int) (C := RX3) (T := TX3) (N := 10) hx hb hts hin_X3 tyX3 tyX3_ok nmX3 hown hK hP hD hS 0 rfl rfl 0 (by decide) hf_40 (fun _ h9 => h9) rfl (by decide +kernel) rfl rfl (Nat.le_of_ble_eq_true rfl) dX3_given_2 (fun H locs hP hD hS => ?_)
  have hP : va_P (dC, dI) vwCl [(h3, .inr (5, [.int (0 : Int32), .int ty, .ref e0, .ref e1, .ref e2, .ref e3, .ref e4, .int oc, .ref e5, .ref e6])), (e0, .inl (cyI, 40, .inl so)), (e1, .inl (cyZ, 40, .inl fi)), (e2, .inl (cyI, 40, .inl el)), (e3, .inl (cyI, 120, .inl av)), (e4, .inl (cyZ, 1600, .inl un)), (e5, .inl (cyI, 60, .inl kp)), (e6, .inl (cyJ, 60, .inr (.inl bt)))] H := hP
  have hD : va_D A [(h3, .inr (5, [.int (0 : Int32), .int ty, .ref e0, .ref e1, .ref e2, .ref e3, .ref e4, .int oc, .ref e5, .ref e6])), (e0, .inl (cyI, 40, .inl so)), (e1, .inl (cyZ, 40, .inl fi)), (e2, .inl (cyI, 40, .inl el)), (e3, .inl (cyI, 120, .inl av)), (e4, .inl (cyZ, 1600, .inl un)), (e5, .inl (cyI, 60, .inl kp)), (e6, .inl (cyJ, 60, .inr (.inl bt)))] := hD
  refine lv_aload_n hx hb dX3_given_5 rfl (lv_at hl 0 rfl) ?_
  refine lv_iload_n hx hb dX3_given_6 rfl (lv_at hl 2 rfl) ?_
  refine mb_callSi (W.runV (As := [.int x2]) (rest := []) ⟨hx, hb, hml, hown, hts⟩ (c_X3_isType l dC dI cyI cyZ cyJ h3 e0 e1 e2 e3 e4 e5 e6 so fi el av un ty kp bt oc (0 : Int32) x2) (cwV 1 hts gX3_given_X3_isType rfl rfl rfl (by decide +kernel) ⟨Nat.le_of_ble_eq_true rfl, Nat.le_of_ble_eq_true rfl⟩) (mb_preV hK hP (ci := 5) (q0 := 0) rfl rfl) rfl rfl hl.1 rfl (lv_room (Nat.le_of_ble_eq_true rfl)) dX3_given_7 ⟨Nat.zero_le _, Nat.zero_le _⟩) ?_
  refine lv_if_eq (tgt := 22) hx hb dX3_given_10 (by decide) (fun c_12 => ?_) (fun c_12 => ?_)
  · refine lv_iconst (v := (-1 : Int32)) hx hb dX3_given_22 (by decide) ?_
    exact W.iret (v := (-1 : Int32)) hx hb hr (fun t ht hW => ⟨⟨(-1 : Int32), (0 : Int32), rfl, Eq.symm ((if_pos c_12).trans (rfl)), by rw [ht]; exact hP, va_K.moved hW.alike hK, hD⟩, hS.F ht⟩) hS.2.2 dX3_given_23
  · refine lv_aload_n hx hb dX3_given_13 rfl (lv_at hl 0 rfl) ?_
    refine lv_iload hx hb dX3_given_14 (lv_at hl 3 rfl) ?_
    refine mb_callSi (W.runV (As := [.int x3]) (rest := []) ⟨hx, hb, hml, hown, hts⟩ (c_X3_isType l dC dI cyI cyZ cyJ h3 e0 e1 e2 e3 e4 e5 e6 so fi el av un ty kp bt oc (0 : Int32) x3) (cwV 1 hts gX3_given_X3_isType rfl rfl rfl (by decide +kernel) ⟨Nat.le_of_ble_eq_true rfl, Nat.le_of_ble_eq_true rfl⟩) (mb_preV hK hP (ci := 5) (q0 := 0) rfl rfl) rfl rfl hl.1 rfl (lv_room (Nat.le_of_ble_eq_true rfl)) dX3_given_16 ⟨Nat.zero_le _, Nat.zero_le _⟩) ?_
    refine lv_if_ne (tgt := 24) hx hb dX3_given_19 (by decide) (fun c_13 => ?_) (fun c_13 => ?_)
    · refine lv_iload_n hx hb dX3_given_24 rfl (lv_at hl 2 rfl) ?_
      refine lv_iconst (v := (1 : Int32)) hx hb dX3_given_25 (by decide) ?_
      refine lv_iconst (v := (5 : Int32)) hx hb dX3_given_26 (by decide) ?_
      refine mb_callSi (W.runS (As := [.int x2, .int (1 : Int32), .int (5 : Int32)]) (rest := []) ⟨hx, hb, hml, hown, hts⟩ (c_X3_in l x2 (1 : Int32) (5 : Int32)) (va_cwS 3 hts gX3_given_X3_in rfl rfl rfl (by decide +kernel) ⟨Nat.le_of_ble_eq_true rfl, Nat.le_of_ble_eq_true rfl⟩) mb_preT rfl rfl hl.1 rfl (lv_room (Nat.le_of_ble_eq_true rfl)) dX3_given_27 ⟨Nat.zero_le _, Nat.zero_le _⟩) ?_
      refine lv_if_eq (tgt := 41) hx hb dX3_given_30 (by decide) (fun c_14 => ?_) (fun c_14 => ?_)
      · refine lv_bipush (v := (-2 : Int32)) hx hb dX3_given_41 (by decide) ?_
        exact W.iret (v := (-2 : Int32)) hx hb hr (fun t ht hW => ⟨⟨(-2 : Int32), (0 : Int32), rfl, Eq.symm ((if_neg c_12).trans ((if_neg c_13).trans ((if_pos c_14).trans (rfl)))), by rw [ht]; exact hP, va_K.moved hW.alike hK, hD⟩, hS.F ht⟩) hS.2.2 dX3_given_43
      · refine lv_iload_n hx hb dX3_given_33 rfl (lv_at hl 2 rfl) ?_
        refine lv_lload_n hx hb dX3_given_34 rfl (lv_at hl 1 rfl) ?_
        refine mb_callSi (W.runS (As := [.int x2, .long x1]) (rest := []) ⟨hx, hb, hml, hown, hts⟩ (c_X3_has l x2 x1) (va_cwS 2 hts gX3_given_X3_has rfl rfl rfl (by decide +kernel) ⟨Nat.le_of_ble_eq_true rfl, Nat.le_of_ble_eq_true rfl⟩) mb_preT rfl rfl hl.1 rfl (lv_room (Nat.le_of_ble_eq_true rfl)) dX3_given_35 ⟨Nat.zero_le _, Nat.zero_le _⟩) ?_
        refine lv_if_ne (tgt := 44) hx hb dX3_given_38 (by decide) (fun c_15 => ?_) (fun c_15 => ?_)
        · refine lv_iload hx hb dX3_given_44 (lv_at hl 3 rfl) ?_
          refine mb_callSi (W.runS (As := [.int x3]) (rest := []) ⟨hx, hb, hml, hown, hts⟩ (c_X3_isBox l x3) (va_cwS 1 hts gX3_given_X3_isBox rfl rfl rfl (by decide +kernel) ⟨Nat.le_of_ble_eq_true rfl, Nat.le_of_ble_eq_true rfl⟩) mb_preT rfl rfl hl.1 rfl (lv_room (Nat.le_of_ble_eq_true rfl)) dX3_given_46 ⟨Nat.zero_le _, Nat.zero_le _⟩) ?_
          refine lv_if_eq (tgt := 60) hx hb dX3_given_49 (by decide) (fun c_16 => ?_) (fun c_16 => ?_)
          · refine lv_iload hx hb dX3_given_60 (lv_at hl 3 rfl) ?_
            exact K_62 x3 (0 : Int32) _ _ ls (mb_ist gz c_12) (mb_ist gz c_13) hP hD hS (lv_sub hl [0, 1, 2, 3] rfl) ((if_neg c_12).trans ((if_neg c_13).trans ((if_neg c_14).trans ((if_neg c_15).trans ((if_pos c_16).trans (rfl))))))
          · refine lv_iload hx hb dX3_given_52 (lv_at hl 3 rfl) ?_
            refine lv_bipush (v := (8 : Int32)) hx hb dX3_given_54 (by decide) ?_
            refine lv_isub hx hb dX3_given_56 ?_
            refine lv_goto (tgt := 62) hx hb dX3_given_57 (by decide) ?_
            exact K_62 (x3 - (8 : Int32)) (0 : Int32) _ _ ls (mb_ist gz c_12) (mb_ist gz c_13) hP hD hS (lv_sub hl [0, 1, 2, 3] rfl) ((if_neg c_12).trans ((if_neg c_13).trans ((if_neg c_14).trans ((if_neg c_15).trans ((if_neg c_16).trans (rfl))))))
        · refine lv_bipush (v := (-2 : Int32)) hx hb dX3_given_41 (by decide) ?_
          exact W.iret (v := (-2 : Int32)) hx hb hr (fun t ht hW => ⟨⟨(-2 : Int32), (0 : Int32), rfl, Eq.symm ((if_neg c_12).trans ((if_neg c_13).trans ((if_neg c_14).trans ((if_pos c_15).trans (rfl))))), by rw [ht]; exact hP, va_K.moved hW.alike hK, hD⟩, hS.F ht⟩) hS.2.2 dX3_given_43
    · refine lv_iconst (v := (-1 : Int32)) hx hb dX3_given_22 (by decide) ?_
      exact W.iret (v := (-1 : Int32)) hx hb hr (fun t ht hW => ⟨⟨(-1 : Int32), (0 : Int32), rfl, Eq.symm ((if_neg c_12).trans ((if_pos c_13).trans (rfl))), by rw [ht]; exact hP, va_K.moved hW.alike hK, hD⟩, hS.F ht⟩) hS.2.2 dX3_given_23
def f_X3_targets_29 : Nat → Int32 → (Nat → Int32) → (Nat → Int32) → (Nat → Int32) → (Nat → Int32) → (Nat → Int32) → Int32 → (Nat → Int32) → (Nat → Int64) → Int32 → Int32 → Int32 → Int32 → Int32 → Int32 → Int32 × ((Int32))
  | 0, th, so, fi, el, av, un, ty, kp, bt, oc, _, _, _, _, _ => (0, th)
  | k + 1, th, so, fi, el, av, un, ty, kp, bt, oc, x1, x2, nn, tt, th2 => if ty ≤ tt then (nn, th2)
  else if (f_X3_kindOf so fi el av un ty kp bt oc x1 tt x2) ≤ 0 then f_X3_targets_29 k th so fi el av un ty kp bt oc x1 x2 (nn + (0 : Int32)) (tt + (1 : Int32)) th2
  else f_X3_targets_29 k th so fi el av un ty kp bt oc x1 x2 (nn + (1 : Int32)) (tt + (1 : Int32)) th2
def f_X3_targets (th : Int32) (so : Nat → Int32) (fi : Nat → Int32) (el : Nat → Int32) (av : Nat → Int32) (un : Nat → Int32) (ty : Int32) (kp : Nat → Int32) (bt : Nat → Int64) (oc : Int32) (x1 : Int32) (x2 : Int32) : Int32 × ((Int32)) := if (f_X3_isType so fi el av un ty kp bt oc x1) = 0 then ((-1 : Int32), (0 : Int32))
  else if (f_X3_in x2 (0 : Int32) (5 : Int32)) = 0 then ((-1 : Int32), (0 : Int32))
  else f_X3_targets_29 41 th so fi el av un ty kp bt oc x1 x2 (0 : Int32) (0 : Int32) (0 : Int32)
set_option maxHeartbeats 4000000 in
set_option maxRecDepth 100000 in
theorem c_X3_targets (l : Launch) (dC : Nat → ClassId) (dI : Nat → Nat → Nat) (cyI cyZ cyJ : ClassId) (h3 e0 e1 e2 e3 e4 e5 e6 : Nat) (th : Int32) (so : Nat → Int32) (fi : Nat → Int32) (el : Nat → Int32) (av : Nat → Int32) (un : Nat → Int32) (ty : Int32) (kp : Nat → Int32) (bt : Nat → Int64) (oc : Int32) (hs : Nat) (x1 : Int32) (x2 : Int32) (gz : 0 ≤ ty.toInt ∧ ty.toInt ≤ 40) (ge : mb_EL so el) : Met l yX3_targets wsX3_targets ({ frames := 5, cells := 0, slots := 0, locals := 115 }) (va_Pc [.ref h3, .int x1, .int x2] (mb_M (dC, dI) (mb_tys cyI cyZ cyJ) hs [(h3, .inr (5, [.int th, .int ty, .ref e0, .ref e1, .ref e2, .ref e3, .ref e4, .int oc, .ref e5, .ref e6])), (e0, .inl (cyI, 40, .inl so)), (e1, .inl (cyZ, 40, .inl fi)), (e2, .inl (cyI, 40, .inl el)), (e3, .inl (cyI, 120, .inl av)), (e4, .inl (cyZ, 1600, .inl un)), (e5, .inl (cyI, 60, .inl kp)), (e6, .inl (cyJ, 60, .inr (.inl bt)))])) (va_Qi (S := ((Int32))) (fun r u => (r, u) = f_X3_targets th so fi el av un ty kp bt oc x1 x2) (fun u t => mb_at dC dI cyI cyZ cyJ (va_A [(h3, .inr (5, [.int th, .int ty, .ref e0, .ref e1, .ref e2, .ref e3, .ref e4, .int oc, .ref e5, .ref e6])), (e0, .inl (cyI, 40, .inl so)), (e1, .inl (cyZ, 40, .inl fi)), (e2, .inl (cyI, 40, .inl el)), (e3, .inl (cyI, 120, .inl av)), (e4, .inl (cyZ, 1600, .inl un)), (e5, .inl (cyI, 60, .inl kp)), (e6, .inl (cyJ, 60, .inr (.inl bt)))] hs) [(h3, .inr (5, [.int u, .int ty, .ref e0, .ref e1, .ref e2, .ref e3, .ref e4, .int oc, .ref e5, .ref e6])), (e0, .inl (cyI, 40, .inl so)), (e1, .inl (cyZ, 40, .inl fi)), (e2, .inl (cyI, 40, .inl el)), (e3, .inl (cyI, 120, .inl av)), (e4, .inl (cyZ, 1600, .inl un)), (e5, .inl (cyI, 60, .inl kp)), (e6, .inl (cyJ, 60, .inr (.inl bt)))] t) (va_A [(h3, .inr (5, [.int th, .int ty, .ref e0, .ref e1, .ref e2, .ref e3, .ref e4, .int oc, .ref e5, .ref e6])), (e0, .inl (cyI, 40, .inl so)), (e1, .inl (cyZ, 40, .inl fi)), (e2, .inl (cyI, 40, .inl el)), (e3, .inl (cyI, 120, .inl av)), (e4, .inl (cyZ, 1600, .inl un)), (e5, .inl (cyI, 60, .inl kp)), (e6, .inl (cyJ, 60, .inr (.inl bt)))] hs)) 0 0 (va_A [(h3, .inr (5, [.int th, .int ty, .ref e0, .ref e1, .ref e2, .ref e3, .ref e4, .int oc, .ref e5, .ref e6])), (e0, .inl (cyI, 40, .inl so)), (e1, .inl (cyZ, 40, .inl fi)), (e2, .inl (cyI, 40, .inl el)), (e3, .inl (cyI, 120, .inl av)), (e4, .inl (cyZ, 1600, .inl un)), (e5, .inl (cyI, 60, .inl kp)), (e6, .inl (cyJ, 60, .inr (.inl bt)))] hs) := by
  refine Met.ofW (cc := cX3_targets) (maxL := 5) (ret := (some .int)) (by decide) rfl ?_
  intro p e s m args below meth c s₁ B hml hv
  obtain ⟨rfl, hsz, hP, hK, hD0⟩ := hv
  have hx := B.exec
  have hb := B.bytes
  have hr := B.returns
  have hts := atoms_spec (ws := wsX3_targets) B.pre
  have hown : s.vm.findClass RX3 = some m.cls := findClass_of_methodNamed B.named
  have hlocks := B.notSynchronized
  subst hsz
  have hD := hD0.self (sz := s.heap.size)
  generalize hAe : va_A [(h3, .inr (5, [.int th, .int ty, .ref e0, .ref e1, .ref e2, .ref e3, .ref e4, .int oc, .ref e5, .ref e6])), (e0, .inl (cyI, 40, .inl so)), (e1, .inl (cyZ, 40, .inl fi)), (e2, .inl (cyI, 40, .inl el)), (e3, .inl (cyI, 120, .inl av)), (e4, .inl (cyZ, 1600, .inl un)), (e5, .inl (cyI, 60, .inl kp)), (e6, .inl (cyJ, 60, .inr (.inl bt)))] s.heap.size = A at hD ⊢
  have hA : ∀ q : Nat, s.heap.size ≤ q → A q := fun q h => by rw [← hAe]; exact Or.inr h
  have hS : va_S A s.heap s.heap [] := va_S.rf
  have hP : va_P (dC, dI) vwCl [(h3, .inr (5, [.int th, .int ty, .ref e0, .ref e1, .ref e2, .ref e3, .ref e4, .int oc, .ref e5, .ref e6])), (e0, .inl (cyI, 40, .inl so)), (e1, .inl (cyZ, 40, .inl fi)), (e2, .inl (cyI, 40, .inl el)), (e3, .inl (cyI, 120, .inl av)), (e4, .inl (cyZ, 1600, .inl un)), (e5, .inl (cyI, 60, .inl kp)), (e6, .inl (cyJ, 60, .inr (.inl bt)))] s.heap := hP
  have hP0 : va_P (dC, dI) vwCl [] s.heap := fun k q h => by simp at h
  have hin_X3 : ∀ w ∈ wsX30, w ∈ wsX3_targets := by decide +kernel
  have hf_44 := hts (.fieldLink RX3 44 "ConversionTablesModel" "types" "I") (by decide +kernel)
  have hf_40 := hts (.fieldLink RX3 40 "ConversionTablesModel" "thrown" "I") (by decide +kernel)
  have K_29 : ∀ (k : Nat) (nn : Int32) (tt : Int32) (th2 : Int32) (H : Heap) (locs : List Loc) (ls : Array Slot) (g1 : vp_in x1 40) (hc : 0 ≤ tt.toInt ∧ tt.toInt ≤ 40 ∧ 40 < tt.toInt + k), va_P (dC, dI) vwCl [(h3, .inr (5, [.int th2, .int ty, .ref e0, .ref e1, .ref e2, .ref e3, .ref e4, .int oc, .ref e5, .ref e6])), (e0, .inl (cyI, 40, .inl so)), (e1, .inl (cyZ, 40, .inl fi)), (e2, .inl (cyI, 40, .inl el)), (e3, .inl (cyI, 120, .inl av)), (e4, .inl (cyZ, 1600, .inl un)), (e5, .inl (cyI, 60, .inl kp)), (e6, .inl (cyJ, 60, .inr (.inl bt)))] H → va_D A [(h3, .inr (5, [.int th2, .int ty, .ref e0, .ref e1, .ref e2, .ref e3, .ref e4, .int oc, .ref e5, .ref e6])), (e0, .inl (cyI, 40, .inl so)), (e1, .inl (cyZ, 40, .inl fi)), (e2, .inl (cyI, 40, .inl el)), (e3, .inl (cyI, 120, .inl av)), (e4, .inl (cyZ, 1600, .inl un)), (e5, .inl (cyI, 60, .inl kp)), (e6, .inl (cyJ, 60, .inr (.inl bt)))] → va_S A s.heap H locs → lv_has ls 5 [(0, .ref h3), (1, .int x1), (2, .int x2), (3, .int nn), (4, .int tt)] → f_X3_targets th so fi el av un ty kp bt oc x1 x2 = f_X3_targets_29 k th so fi el av un ty kp bt oc x1 x2 nn tt th2 → W p l e (headSpec wsX3_targets ({ frames := 5, cells := 0, slots := 0, locals := 115 })).room s m ([.ref h3, .int x1, .int x2] : List Value).toArray below meth c H locs 0 0 (MQ below (va_Qi (S := ((Int32))) (fun r u => (r, u) = f_X3_targets th so fi el av un ty kp bt oc x1 x2) (fun u t => mb_at dC dI cyI cyZ cyJ A [(h3, .inr (5, [.int u, .int ty, .ref e0, .ref e1, .ref e2, .ref e3, .ref e4, .int oc, .ref e5, .ref e6])), (e0, .inl (cyI, 40, .inl so)), (e1, .inl (cyZ, 40, .inl fi)), (e2, .inl (cyI, 40, .inl el)), (e3, .inl (cyI, 120, .inl av)), (e4, .inl (cyZ, 1600, .inl un)), (e5, .inl (cyI, 60, .inl kp)), (e6, .inl (cyJ, 60, .inr (.inl bt)))] t) A) ([.ref h3, .int x1, .int x2] : List Value).toArray s 0 0 A) (F0 m 29 ls []) := by
    intro k
    induction k with
    | zero =>
      intro nn tt th2 H locs ls g1 hc
      exact absurd hc (by omega)
    | succ k ih =>
      intro nn tt th2 H locs ls g1 hc hP hD hS hl hz
      refine lv_iload hx hb dX3_targets_29 (lv_at hl 4 rfl) ?_
      refine lv_aload_n hx hb dX3_targets_31 rfl (lv_at hl 0 rfl) ?_
      refine va_get (D := (dC, dI)) (ci := 5) (v := .int ty) (C := RX3) (T := TX3) (N := 10) hx hb hts hin_X3 hown hK hP 0 rfl rfl 1 (by decide) hf_44 (fun _ h9 => h9) rfl dX3_targets_32 ?_
      refine lv_icmp_ge (tgt := 63) hx hb dX3_targets_35 (by decide) (fun c_1 => ?_) (fun c_1 => ?_)
      · refine lv_iload_n hx hb dX3_targets_63 rfl (lv_at hl 3 rfl) ?_
        exact W.iret (v := nn) hx hb hr (fun t ht hW => ⟨⟨nn, th2, rfl, Eq.symm (hz.trans ((if_pos c_1).trans (rfl))), by rw [ht]; exact hP, va_K.moved hW.alike hK, hD⟩, hS.F ht⟩) hS.2.2 dX3_targets_64
      · refine lv_iload_n hx hb dX3_targets_38 rfl (lv_at hl 3 rfl) ?_
        refine lv_aload_n hx hb dX3_targets_39 rfl (lv_at hl 0 rfl) ?_
        refine lv_iload_n hx hb dX3_targets_40 rfl (lv_at hl 1 rfl) ?_
        refine lv_iload hx hb dX3_targets_41 (lv_at hl 4 rfl) ?_
        refine lv_iload_n hx hb dX3_targets_43 rfl (lv_at hl 2 rfl) ?_
        refine mb_callSi (W.runV (As := [.int x1, .int tt, .int x2]) (rest := [.int nn]) ⟨hx, hb, hml, hown, hts⟩ (c_X3_kindOf l dC dI cyI cyZ cyJ h3 e0 e1 e2 e3 e4 e5 e6 so fi el av un ty kp bt oc th2 x1 tt x2 g1 (mb_ctr9 hc gz c_1) ge) (cwV 3 hts gX3_targets_X3_kindOf rfl rfl rfl (by decide +kernel) ⟨Nat.le_of_ble_eq_true rfl, Nat.le_of_ble_eq_true rfl⟩) (mb_preV hK hP (ci := 5) (q0 := 0) rfl rfl) rfl rfl hl.1 rfl (lv_room (Nat.le_of_ble_eq_true rfl)) dX3_targets_44 ⟨Nat.zero_le _, Nat.zero_le _⟩) ?_
        refine lv_if_le (tgt := 54) hx hb dX3_targets_47 (by decide) (fun c_2 => ?_) (fun c_2 => ?_)
        · refine lv_iconst (v := (0 : Int32)) hx hb dX3_targets_54 (by decide) ?_
          refine lv_iadd hx hb dX3_targets_55 ?_
          refine lv_istore_n (lv' := [(3, .int (nn + (0 : Int32))), (0, .ref h3), (1, .int x1), (2, .int x2), (4, .int tt)]) hx hb dX3_targets_56 rfl hl (by decide) rfl (fun ls hl => ?_)
          refine lv_iinc (v := (tt + (1 : Int32))) (lv' := [(4, .int (tt + (1 : Int32))), (3, .int (nn + (0 : Int32))), (0, .ref h3), (1, .int x1), (2, .int x2)]) hx hb dX3_targets_57 hl (k := 4) rfl rfl (by decide) rfl (fun ls hl => ?_)
          refine lv_goto (tgt := 29) hx hb dX3_targets_60 (by decide) ?_
          exact ih (nn + (0 : Int32)) (tt + (1 : Int32)) th2 _ _ ls (g1) (mb_ctr9_step hc gz c_1) hP hD hS (lv_sub hl [2, 3, 4, 1, 0] rfl) (hz.trans ((if_neg c_1).trans ((if_pos c_2).trans (rfl))))
        · refine lv_iconst (v := (1 : Int32)) hx hb dX3_targets_50 (by decide) ?_
          refine lv_goto (tgt := 55) hx hb dX3_targets_51 (by decide) ?_
          refine lv_iadd hx hb dX3_targets_55 ?_
          refine lv_istore_n (lv' := [(3, .int (nn + (1 : Int32))), (0, .ref h3), (1, .int x1), (2, .int x2), (4, .int tt)]) hx hb dX3_targets_56 rfl hl (by decide) rfl (fun ls hl => ?_)
          refine lv_iinc (v := (tt + (1 : Int32))) (lv' := [(4, .int (tt + (1 : Int32))), (3, .int (nn + (1 : Int32))), (0, .ref h3), (1, .int x1), (2, .int x2)]) hx hb dX3_targets_57 hl (k := 4) rfl rfl (by decide) rfl (fun ls hl => ?_)
          refine lv_goto (tgt := 29) hx hb dX3_targets_60 (by decide) ?_
          exact ih (nn + (1 : Int32)) (tt + (1 : Int32)) th2 _ _ ls (g1) (mb_ctr9_step hc gz c_1) hP hD hS (lv_sub hl [2, 3, 4, 1, 0] rfl) (hz.trans ((if_neg c_1).trans ((if_neg c_2).trans (rfl))))
  have hl := lv_entry ([.ref h3, .int x1, .int x2]) (n := 5) (Nat.le_of_ble_eq_true rfl)
  rw [lg_entry_eq]
  generalize (lg_sl ([.ref h3, .int x1, .int x2]) ++ List.replicate (5 - (lg_sl ([.ref h3, .int x1, .int x2])).length) Slot.unset).toArray = ls at hl ⊢
  have hl : lv_has ls 5 [(0, .ref h3), (1, .int x1), (2, .int x2)] := hl
  refine lv_aload_n hx hb dX3_targets_0 rfl (lv_at hl 0 rfl) ?_
  refine lv_iconst (v := (0 : Int32)) hx hb dX3_targets_1 (by decide) ?_
  refine va_put (D := (dC, dI)) (ci := 5) (v := .int (0 : Int32)) (ty := .int) (C := RX3) (T := TX3) (N := 10) hx hb hts hin_X3 tyX3 tyX3_ok nmX3 hown hK hP hD hS 0 rfl rfl 0 (by decide) hf_40 (fun _ h9 => h9) rfl (by decide +kernel) rfl rfl (Nat.le_of_ble_eq_true rfl) dX3_targets_2 (fun H locs hP hD hS => ?_)
  have hP : va_P (dC, dI) vwCl [(h3, .inr (5, [.int (0 : Int32), .int ty, .ref e0, .ref e1, .ref e2, .ref e3, .ref e4, .int oc, .ref e5, .ref e6])), (e0, .inl (cyI, 40, .inl so)), (e1, .inl (cyZ, 40, .inl fi)), (e2, .inl (cyI, 40, .inl el)), (e3, .inl (cyI, 120, .inl av)), (e4, .inl (cyZ, 1600, .inl un)), (e5, .inl (cyI, 60, .inl kp)), (e6, .inl (cyJ, 60, .inr (.inl bt)))] H := hP
  have hD : va_D A [(h3, .inr (5, [.int (0 : Int32), .int ty, .ref e0, .ref e1, .ref e2, .ref e3, .ref e4, .int oc, .ref e5, .ref e6])), (e0, .inl (cyI, 40, .inl so)), (e1, .inl (cyZ, 40, .inl fi)), (e2, .inl (cyI, 40, .inl el)), (e3, .inl (cyI, 120, .inl av)), (e4, .inl (cyZ, 1600, .inl un)), (e5, .inl (cyI, 60, .inl kp)), (e6, .inl (cyJ, 60, .inr (.inl bt)))] := hD
  refine lv_aload_n hx hb dX3_targets_5 rfl (lv_at hl 0 rfl) ?_
  refine lv_iload_n hx hb dX3_targets_6 rfl (lv_at hl 1 rfl) ?_
  refine mb_callSi (W.runV (As := [.int x1]) (rest := []) ⟨hx, hb, hml, hown, hts⟩ (c_X3_isType l dC dI cyI cyZ cyJ h3 e0 e1 e2 e3 e4 e5 e6 so fi el av un ty kp bt oc (0 : Int32) x1) (cwV 1 hts gX3_targets_X3_isType rfl rfl rfl (by decide +kernel) ⟨Nat.le_of_ble_eq_true rfl, Nat.le_of_ble_eq_true rfl⟩) (mb_preV hK hP (ci := 5) (q0 := 0) rfl rfl) rfl rfl hl.1 rfl (lv_room (Nat.le_of_ble_eq_true rfl)) dX3_targets_7 ⟨Nat.zero_le _, Nat.zero_le _⟩) ?_
  refine lv_if_eq (tgt := 22) hx hb dX3_targets_10 (by decide) (fun c_3 => ?_) (fun c_3 => ?_)
  · refine lv_iconst (v := (-1 : Int32)) hx hb dX3_targets_22 (by decide) ?_
    exact W.iret (v := (-1 : Int32)) hx hb hr (fun t ht hW => ⟨⟨(-1 : Int32), (0 : Int32), rfl, Eq.symm ((if_pos c_3).trans (rfl)), by rw [ht]; exact hP, va_K.moved hW.alike hK, hD⟩, hS.F ht⟩) hS.2.2 dX3_targets_23
  · refine lv_iload_n hx hb dX3_targets_13 rfl (lv_at hl 2 rfl) ?_
    refine lv_iconst (v := (0 : Int32)) hx hb dX3_targets_14 (by decide) ?_
    refine lv_iconst (v := (5 : Int32)) hx hb dX3_targets_15 (by decide) ?_
    refine mb_callSi (W.runS (As := [.int x2, .int (0 : Int32), .int (5 : Int32)]) (rest := []) ⟨hx, hb, hml, hown, hts⟩ (c_X3_in l x2 (0 : Int32) (5 : Int32)) (va_cwS 3 hts gX3_targets_X3_in rfl rfl rfl (by decide +kernel) ⟨Nat.le_of_ble_eq_true rfl, Nat.le_of_ble_eq_true rfl⟩) mb_preT rfl rfl hl.1 rfl (lv_room (Nat.le_of_ble_eq_true rfl)) dX3_targets_16 ⟨Nat.zero_le _, Nat.zero_le _⟩) ?_
    refine lv_if_ne (tgt := 24) hx hb dX3_targets_19 (by decide) (fun c_4 => ?_) (fun c_4 => ?_)
    · refine lv_iconst (v := (0 : Int32)) hx hb dX3_targets_24 (by decide) ?_
      refine lv_istore_n (lv' := [(3, .int (0 : Int32)), (0, .ref h3), (1, .int x1), (2, .int x2)]) hx hb dX3_targets_25 rfl hl (by decide) rfl (fun ls hl => ?_)
      refine lv_iconst (v := (0 : Int32)) hx hb dX3_targets_26 (by decide) ?_
      refine lv_istore (lv' := [(4, .int (0 : Int32)), (3, .int (0 : Int32)), (0, .ref h3), (1, .int x1), (2, .int x2)]) hx hb dX3_targets_27 hl (by decide) rfl (fun ls hl => ?_)
      exact K_29 41 (0 : Int32) (0 : Int32) (0 : Int32) _ _ ls (mb_ist gz c_3) (by decide) hP hD hS (lv_sub hl [2, 3, 4, 1, 0] rfl) ((if_neg c_3).trans ((if_neg c_4).trans (rfl)))
    · refine lv_iconst (v := (-1 : Int32)) hx hb dX3_targets_22 (by decide) ?_
      exact W.iret (v := (-1 : Int32)) hx hb hr (fun t ht hW => ⟨⟨(-1 : Int32), (0 : Int32), rfl, Eq.symm ((if_neg c_3).trans ((if_pos c_4).trans (rfl))), by rw [ht]; exact hP, va_K.moved hW.alike hK, hD⟩, hS.F ht⟩) hS.2.2 dX3_targets_23
def f_X3_turned (th : Int32) (so : Nat → Int32) (fi : Nat → Int32) (el : Nat → Int32) (av : Nat → Int32) (un : Nat → Int32) (ty : Int32) (kp : Nat → Int32) (bt : Nat → Int64) (oc : Int32) (x1 : Int32) (x2 : Int64) (x3 : Int32) : Int64 × ((Int32)) := if (f_X3_isType so fi el av un ty kp bt oc x1) = 0 then ((-1 : Int64), (0 : Int32))
  else if (f_X3_isType so fi el av un ty kp bt oc x3) = 0 then ((-1 : Int64), (0 : Int32))
  else if (f_X3_isNumber x1) = 0 then ((-1 : Int64), (0 : Int32))
  else if (f_X3_isNumber x3) = 0 then ((-1 : Int64), (0 : Int32))
  else if (f_X3_isBits x1 x2) = 0 then ((-2 : Int64), (0 : Int32))
  else if x1 = x3 then ((f_X3_one x1 x2), (0 : Int32))
  else if (6 : Int32) ≤ x1 then (if x1 = (6 : Int32) then (if x3 ≤ (5 : Int32) then (if x3 = (5 : Int32) then ((f_X3_whole (f_X3_wide x2) (-9223372036854775808 : Int64) (9223372036854775807 : Int64)), (0 : Int32))
        else ((f_X3_cutTo x3 (f_X3_whole (f_X3_wide x2) (-2147483648 : Int64) (2147483647 : Int64))), (0 : Int32)))
      else if x3 = (7 : Int32) then ((f_X3_wide x2), (0 : Int32))
      else ((f_X3_narrow (f_X3_wide x2)), (0 : Int32)))
    else if x3 ≤ (5 : Int32) then (if x3 = (5 : Int32) then ((f_X3_whole (f_X3_one (7 : Int32) x2) (-9223372036854775808 : Int64) (9223372036854775807 : Int64)), (0 : Int32))
      else ((f_X3_cutTo x3 (f_X3_whole (f_X3_one (7 : Int32) x2) (-2147483648 : Int64) (2147483647 : Int64))), (0 : Int32)))
    else if x3 = (7 : Int32) then ((f_X3_one (7 : Int32) x2), (0 : Int32))
    else ((f_X3_narrow (f_X3_one (7 : Int32) x2)), (0 : Int32)))
  else if x3 = (6 : Int32) then (((f_X3_real x2 (24 : Int32) (127 : Int32) (-2147483648 : Int64)).toInt32).toInt64, (0 : Int32))
  else if x3 = (7 : Int32) then ((f_X3_real x2 (53 : Int32) (1023 : Int32) (-9223372036854775808 : Int64)), (0 : Int32))
  else ((f_X3_cutTo x3 x2), (0 : Int32))
set_option maxHeartbeats 4000000 in
set_option maxRecDepth 100000 in
theorem c_X3_turned (l : Launch) (dC : Nat → ClassId) (dI : Nat → Nat → Nat) (cyI cyZ cyJ : ClassId) (h3 e0 e1 e2 e3 e4 e5 e6 : Nat) (th : Int32) (so : Nat → Int32) (fi : Nat → Int32) (el : Nat → Int32) (av : Nat → Int32) (un : Nat → Int32) (ty : Int32) (kp : Nat → Int32) (bt : Nat → Int64) (oc : Int32) (hs : Nat) (x1 : Int32) (x2 : Int64) (x3 : Int32) (gz : 0 ≤ ty.toInt ∧ ty.toInt ≤ 40) : Met l yX3_turned wsX3_turned ({ frames := 2, cells := 0, slots := 0, locals := 44 }) (va_Pc [.ref h3, .int x1, .long x2, .int x3] (mb_M (dC, dI) (mb_tys cyI cyZ cyJ) hs [(h3, .inr (5, [.int th, .int ty, .ref e0, .ref e1, .ref e2, .ref e3, .ref e4, .int oc, .ref e5, .ref e6])), (e0, .inl (cyI, 40, .inl so)), (e1, .inl (cyZ, 40, .inl fi)), (e2, .inl (cyI, 40, .inl el)), (e3, .inl (cyI, 120, .inl av)), (e4, .inl (cyZ, 1600, .inl un)), (e5, .inl (cyI, 60, .inl kp)), (e6, .inl (cyJ, 60, .inr (.inl bt)))])) (va_Ql (S := ((Int32))) (fun r u => (r, u) = f_X3_turned th so fi el av un ty kp bt oc x1 x2 x3) (fun u t => mb_at dC dI cyI cyZ cyJ (va_A [(h3, .inr (5, [.int th, .int ty, .ref e0, .ref e1, .ref e2, .ref e3, .ref e4, .int oc, .ref e5, .ref e6])), (e0, .inl (cyI, 40, .inl so)), (e1, .inl (cyZ, 40, .inl fi)), (e2, .inl (cyI, 40, .inl el)), (e3, .inl (cyI, 120, .inl av)), (e4, .inl (cyZ, 1600, .inl un)), (e5, .inl (cyI, 60, .inl kp)), (e6, .inl (cyJ, 60, .inr (.inl bt)))] hs) [(h3, .inr (5, [.int u, .int ty, .ref e0, .ref e1, .ref e2, .ref e3, .ref e4, .int oc, .ref e5, .ref e6])), (e0, .inl (cyI, 40, .inl so)), (e1, .inl (cyZ, 40, .inl fi)), (e2, .inl (cyI, 40, .inl el)), (e3, .inl (cyI, 120, .inl av)), (e4, .inl (cyZ, 1600, .inl un)), (e5, .inl (cyI, 60, .inl kp)), (e6, .inl (cyJ, 60, .inr (.inl bt)))] t) (va_A [(h3, .inr (5, [.int th, .int ty, .ref e0, .ref e1, .ref e2, .ref e3, .ref e4, .int oc, .ref e5, .ref e6])), (e0, .inl (cyI, 40, .inl so)), (e1, .inl (cyZ, 40, .inl fi)), (e2, .inl (cyI, 40, .inl el)), (e3, .inl (cyI, 120, .inl av)), (e4, .inl (cyZ, 1600, .inl un)), (e5, .inl (cyI, 60, .inl kp)), (e6, .inl (cyJ, 60, .inr (.inl bt)))] hs)) 0 0 (va_A [(h3, .inr (5, [.int th, .int ty, .ref e0, .ref e1, .ref e2, .ref e3, .ref e4, .int oc, .ref e5, .ref e6])), (e0, .inl (cyI, 40, .inl so)), (e1, .inl (cyZ, 40, .inl fi)), (e2, .inl (cyI, 40, .inl el)), (e3, .inl (cyI, 120, .inl av)), (e4, .inl (cyZ, 1600, .inl un)), (e5, .inl (cyI, 60, .inl kp)), (e6, .inl (cyJ, 60, .inr (.inl bt)))] hs) := by
  refine Met.ofW (cc := cX3_turned) (maxL := 7) (ret := (some .long)) (by decide) rfl ?_
  intro p e s m args below meth c s₁ B hml hv
  obtain ⟨rfl, hsz, hP, hK, hD0⟩ := hv
  have hx := B.exec
  have hb := B.bytes
  have hr := B.returns
  have hts := atoms_spec (ws := wsX3_turned) B.pre
  have hown : s.vm.findClass RX3 = some m.cls := findClass_of_methodNamed B.named
  have hlocks := B.notSynchronized
  subst hsz
  have hD := hD0.self (sz := s.heap.size)
  generalize hAe : va_A [(h3, .inr (5, [.int th, .int ty, .ref e0, .ref e1, .ref e2, .ref e3, .ref e4, .int oc, .ref e5, .ref e6])), (e0, .inl (cyI, 40, .inl so)), (e1, .inl (cyZ, 40, .inl fi)), (e2, .inl (cyI, 40, .inl el)), (e3, .inl (cyI, 120, .inl av)), (e4, .inl (cyZ, 1600, .inl un)), (e5, .inl (cyI, 60, .inl kp)), (e6, .inl (cyJ, 60, .inr (.inl bt)))] s.heap.size = A at hD ⊢
  have hA : ∀ q : Nat, s.heap.size ≤ q → A q := fun q h => by rw [← hAe]; exact Or.inr h
  have hS : va_S A s.heap s.heap [] := va_S.rf
  have hP : va_P (dC, dI) vwCl [(h3, .inr (5, [.int th, .int ty, .ref e0, .ref e1, .ref e2, .ref e3, .ref e4, .int oc, .ref e5, .ref e6])), (e0, .inl (cyI, 40, .inl so)), (e1, .inl (cyZ, 40, .inl fi)), (e2, .inl (cyI, 40, .inl el)), (e3, .inl (cyI, 120, .inl av)), (e4, .inl (cyZ, 1600, .inl un)), (e5, .inl (cyI, 60, .inl kp)), (e6, .inl (cyJ, 60, .inr (.inl bt)))] s.heap := hP
  have hP0 : va_P (dC, dI) vwCl [] s.heap := fun k q h => by simp at h
  have hin_X3 : ∀ w ∈ wsX30, w ∈ wsX3_turned := by decide +kernel
  have hf_40 := hts (.fieldLink RX3 40 "ConversionTablesModel" "thrown" "I") (by decide +kernel)
  have hl := lv_entry ([.ref h3, .int x1, .long x2, .int x3]) (n := 7) (Nat.le_of_ble_eq_true rfl)
  rw [lg_entry_eq]
  generalize (lg_sl ([.ref h3, .int x1, .long x2, .int x3]) ++ List.replicate (7 - (lg_sl ([.ref h3, .int x1, .long x2, .int x3])).length) Slot.unset).toArray = ls at hl ⊢
  have hl : lv_has ls 7 [(0, .ref h3), (1, .int x1), (2, .long x2), (4, .int x3)] := hl
  refine lv_aload_n hx hb dX3_turned_0 rfl (lv_at hl 0 rfl) ?_
  refine lv_iconst (v := (0 : Int32)) hx hb dX3_turned_1 (by decide) ?_
  refine va_put (D := (dC, dI)) (ci := 5) (v := .int (0 : Int32)) (ty := .int) (C := RX3) (T := TX3) (N := 10) hx hb hts hin_X3 tyX3 tyX3_ok nmX3 hown hK hP hD hS 0 rfl rfl 0 (by decide) hf_40 (fun _ h9 => h9) rfl (by decide +kernel) rfl rfl (Nat.le_of_ble_eq_true rfl) dX3_turned_2 (fun H locs hP hD hS => ?_)
  have hP : va_P (dC, dI) vwCl [(h3, .inr (5, [.int (0 : Int32), .int ty, .ref e0, .ref e1, .ref e2, .ref e3, .ref e4, .int oc, .ref e5, .ref e6])), (e0, .inl (cyI, 40, .inl so)), (e1, .inl (cyZ, 40, .inl fi)), (e2, .inl (cyI, 40, .inl el)), (e3, .inl (cyI, 120, .inl av)), (e4, .inl (cyZ, 1600, .inl un)), (e5, .inl (cyI, 60, .inl kp)), (e6, .inl (cyJ, 60, .inr (.inl bt)))] H := hP
  have hD : va_D A [(h3, .inr (5, [.int (0 : Int32), .int ty, .ref e0, .ref e1, .ref e2, .ref e3, .ref e4, .int oc, .ref e5, .ref e6])), (e0, .inl (cyI, 40, .inl so)), (e1, .inl (cyZ, 40, .inl fi)), (e2, .inl (cyI, 40, .inl el)), (e3, .inl (cyI, 120, .inl av)), (e4, .inl (cyZ, 1600, .inl un)), (e5, .inl (cyI, 60, .inl kp)), (e6, .inl (cyJ, 60, .inr (.inl bt)))] := hD
  refine lv_aload_n hx hb dX3_turned_5 rfl (lv_at hl 0 rfl) ?_
  refine lv_iload_n hx hb dX3_turned_6 rfl (lv_at hl 1 rfl) ?_
  refine mb_callSi (W.runV (As := [.int x1]) (rest := []) ⟨hx, hb, hml, hown, hts⟩ (c_X3_isType l dC dI cyI cyZ cyJ h3 e0 e1 e2 e3 e4 e5 e6 so fi el av un ty kp bt oc (0 : Int32) x1) (cwV 1 hts gX3_turned_X3_isType rfl rfl rfl (by decide +kernel) ⟨Nat.le_of_ble_eq_true rfl, Nat.le_of_ble_eq_true rfl⟩) (mb_preV hK hP (ci := 5) (q0 := 0) rfl rfl) rfl rfl hl.1 rfl (lv_room (Nat.le_of_ble_eq_true rfl)) dX3_turned_7 ⟨Nat.zero_le _, Nat.zero_le _⟩) ?_
  refine lv_if_eq (tgt := 37) hx hb dX3_turned_10 (by decide) (fun c_1 => ?_) (fun c_1 => ?_)
  · refine lv_ldc2 (v := (-1 : Int64)) hx hb hown (hts (.constantLong RX3 128 (-1)) (by decide +kernel)) dX3_turned_37 ?_
    exact W.lret (v := (-1 : Int64)) hx hb hr (fun t ht hW => ⟨⟨(-1 : Int64), (0 : Int32), rfl, Eq.symm ((if_pos c_1).trans (rfl)), by rw [ht]; exact hP, va_K.moved hW.alike hK, hD⟩, hS.F ht⟩) hS.2.2 dX3_turned_40
  · refine lv_aload_n hx hb dX3_turned_13 rfl (lv_at hl 0 rfl) ?_
    refine lv_iload hx hb dX3_turned_14 (lv_at hl 3 rfl) ?_
    refine mb_callSi (W.runV (As := [.int x3]) (rest := []) ⟨hx, hb, hml, hown, hts⟩ (c_X3_isType l dC dI cyI cyZ cyJ h3 e0 e1 e2 e3 e4 e5 e6 so fi el av un ty kp bt oc (0 : Int32) x3) (cwV 1 hts gX3_turned_X3_isType rfl rfl rfl (by decide +kernel) ⟨Nat.le_of_ble_eq_true rfl, Nat.le_of_ble_eq_true rfl⟩) (mb_preV hK hP (ci := 5) (q0 := 0) rfl rfl) rfl rfl hl.1 rfl (lv_room (Nat.le_of_ble_eq_true rfl)) dX3_turned_16 ⟨Nat.zero_le _, Nat.zero_le _⟩) ?_
    refine lv_if_eq (tgt := 37) hx hb dX3_turned_19 (by decide) (fun c_2 => ?_) (fun c_2 => ?_)
    · refine lv_ldc2 (v := (-1 : Int64)) hx hb hown (hts (.constantLong RX3 128 (-1)) (by decide +kernel)) dX3_turned_37 ?_
      exact W.lret (v := (-1 : Int64)) hx hb hr (fun t ht hW => ⟨⟨(-1 : Int64), (0 : Int32), rfl, Eq.symm ((if_neg c_1).trans ((if_pos c_2).trans (rfl))), by rw [ht]; exact hP, va_K.moved hW.alike hK, hD⟩, hS.F ht⟩) hS.2.2 dX3_turned_40
    · refine lv_iload_n hx hb dX3_turned_22 rfl (lv_at hl 1 rfl) ?_
      refine mb_callSi (W.runS (As := [.int x1]) (rest := []) ⟨hx, hb, hml, hown, hts⟩ (c_X3_isNumber l x1) (va_cwS 1 hts gX3_turned_X3_isNumber rfl rfl rfl (by decide +kernel) ⟨Nat.le_of_ble_eq_true rfl, Nat.le_of_ble_eq_true rfl⟩) mb_preT rfl rfl hl.1 rfl (lv_room (Nat.le_of_ble_eq_true rfl)) dX3_turned_23 ⟨Nat.zero_le _, Nat.zero_le _⟩) ?_
      refine lv_if_eq (tgt := 37) hx hb dX3_turned_26 (by decide) (fun c_3 => ?_) (fun c_3 => ?_)
      · refine lv_ldc2 (v := (-1 : Int64)) hx hb hown (hts (.constantLong RX3 128 (-1)) (by decide +kernel)) dX3_turned_37 ?_
        exact W.lret (v := (-1 : Int64)) hx hb hr (fun t ht hW => ⟨⟨(-1 : Int64), (0 : Int32), rfl, Eq.symm ((if_neg c_1).trans ((if_neg c_2).trans ((if_pos c_3).trans (rfl)))), by rw [ht]; exact hP, va_K.moved hW.alike hK, hD⟩, hS.F ht⟩) hS.2.2 dX3_turned_40
      · refine lv_iload hx hb dX3_turned_29 (lv_at hl 3 rfl) ?_
        refine mb_callSi (W.runS (As := [.int x3]) (rest := []) ⟨hx, hb, hml, hown, hts⟩ (c_X3_isNumber l x3) (va_cwS 1 hts gX3_turned_X3_isNumber rfl rfl rfl (by decide +kernel) ⟨Nat.le_of_ble_eq_true rfl, Nat.le_of_ble_eq_true rfl⟩) mb_preT rfl rfl hl.1 rfl (lv_room (Nat.le_of_ble_eq_true rfl)) dX3_turned_31 ⟨Nat.zero_le _, Nat.zero_le _⟩) ?_
        refine lv_if_ne (tgt := 41) hx hb dX3_turned_34 (by decide) (fun c_4 => ?_) (fun c_4 => ?_)
        · refine lv_iload_n hx hb dX3_turned_41 rfl (lv_at hl 1 rfl) ?_
          refine lv_lload_n hx hb dX3_turned_42 rfl (lv_at hl 2 rfl) ?_
          refine mb_callSi (W.runS (As := [.int x1, .long x2]) (rest := []) ⟨hx, hb, hml, hown, hts⟩ (c_X3_isBits l x1 x2) (va_cwS 2 hts gX3_turned_X3_isBits rfl rfl rfl (by decide +kernel) ⟨Nat.le_of_ble_eq_true rfl, Nat.le_of_ble_eq_true rfl⟩) mb_preT rfl rfl hl.1 rfl (lv_room (Nat.le_of_ble_eq_true rfl)) dX3_turned_43 ⟨Nat.zero_le _, Nat.zero_le _⟩) ?_
          refine lv_if_ne (tgt := 53) hx hb dX3_turned_46 (by decide) (fun c_5 => ?_) (fun c_5 => ?_)
          · refine lv_iload_n hx hb dX3_turned_53 rfl (lv_at hl 1 rfl) ?_
            refine lv_iload hx hb dX3_turned_54 (lv_at hl 3 rfl) ?_
            refine lv_icmp_ne (tgt := 65) hx hb dX3_turned_56 (by decide) (fun c_6 => ?_) (fun c_6 => ?_)
            · refine lv_iload_n hx hb dX3_turned_65 rfl (lv_at hl 1 rfl) ?_
              refine lv_bipush (v := (6 : Int32)) hx hb dX3_turned_66 (by decide) ?_
              refine lv_icmp_ge (tgt := 123) hx hb dX3_turned_68 (by decide) (fun c_7 => ?_) (fun c_7 => ?_)
              · refine lv_iload_n hx hb dX3_turned_123 rfl (lv_at hl 1 rfl) ?_
                refine lv_bipush (v := (6 : Int32)) hx hb dX3_turned_124 (by decide) ?_
                refine lv_icmp_ne (tgt := 136) hx hb dX3_turned_126 (by decide) (fun c_8 => ?_) (fun c_8 => ?_)
                · refine lv_bipush (v := (7 : Int32)) hx hb dX3_turned_136 (by decide) ?_
                  refine lv_lload_n hx hb dX3_turned_138 rfl (lv_at hl 2 rfl) ?_
                  refine mb_callSl (W.runS (As := [.int (7 : Int32), .long x2]) (rest := []) ⟨hx, hb, hml, hown, hts⟩ (c_X3_one l (7 : Int32) x2) (va_cwS 2 hts gX3_turned_X3_one rfl rfl rfl (by decide +kernel) ⟨Nat.le_of_ble_eq_true rfl, Nat.le_of_ble_eq_true rfl⟩) mb_preT rfl rfl hl.1 rfl (lv_room (Nat.le_of_ble_eq_true rfl)) dX3_turned_139 ⟨Nat.zero_le _, Nat.zero_le _⟩) ?_
                  refine lv_lstore (lv' := [(5, .long (f_X3_one (7 : Int32) x2)), (0, .ref h3), (1, .int x1), (2, .long x2), (4, .int x3)]) hx hb dX3_turned_142 hl (by decide) rfl (fun ls hl => ?_)
                  refine lv_iload hx hb dX3_turned_144 (lv_at hl 4 rfl) ?_
                  refine lv_iconst (v := (5 : Int32)) hx hb dX3_turned_146 (by decide) ?_
                  refine lv_icmp_le (tgt := 168) hx hb dX3_turned_147 (by decide) (fun c_9 => ?_) (fun c_9 => ?_)
                  · refine lv_iload hx hb dX3_turned_168 (lv_at hl 4 rfl) ?_
                    refine lv_iconst (v := (5 : Int32)) hx hb dX3_turned_170 (by decide) ?_
                    refine lv_icmp_ne (tgt := 188) hx hb dX3_turned_171 (by decide) (fun c_10 => ?_) (fun c_10 => ?_)
                    · refine lv_iload hx hb dX3_turned_188 (lv_at hl 4 rfl) ?_
                      refine lv_lload hx hb dX3_turned_190 (lv_at hl 0 rfl) ?_
                      refine lv_ldc2 (v := (-2147483648 : Int64)) hx hb hown (hts (.constantLong RX3 100 (-2147483648)) (by decide +kernel)) dX3_turned_192 ?_
                      refine lv_ldc2 (v := (2147483647 : Int64)) hx hb hown (hts (.constantLong RX3 102 (2147483647)) (by decide +kernel)) dX3_turned_195 ?_
                      refine mb_callSl (W.runS (As := [.long (f_X3_one (7 : Int32) x2), .long (-2147483648 : Int64), .long (2147483647 : Int64)]) (rest := [.int x3]) ⟨hx, hb, hml, hown, hts⟩ (c_X3_whole l (f_X3_one (7 : Int32) x2) (-2147483648 : Int64) (2147483647 : Int64)) (va_cwS 3 hts gX3_turned_X3_whole rfl rfl rfl (by decide +kernel) ⟨Nat.le_of_ble_eq_true rfl, Nat.le_of_ble_eq_true rfl⟩) mb_preT rfl rfl hl.1 rfl (lv_room (Nat.le_of_ble_eq_true rfl)) dX3_turned_198 ⟨Nat.zero_le _, Nat.zero_le _⟩) ?_
                      refine mb_callSl (W.runS (As := [.int x3, .long (f_X3_whole (f_X3_one (7 : Int32) x2) (-2147483648 : Int64) (2147483647 : Int64))]) (rest := []) ⟨hx, hb, hml, hown, hts⟩ (c_X3_cutTo l x3 (f_X3_whole (f_X3_one (7 : Int32) x2) (-2147483648 : Int64) (2147483647 : Int64))) (va_cwS 2 hts gX3_turned_X3_cutTo rfl rfl rfl (by decide +kernel) ⟨Nat.le_of_ble_eq_true rfl, Nat.le_of_ble_eq_true rfl⟩) mb_preT rfl rfl hl.1 rfl (lv_room (Nat.le_of_ble_eq_true rfl)) dX3_turned_201 ⟨Nat.zero_le _, Nat.zero_le _⟩) ?_
                      exact W.lret (v := (f_X3_cutTo x3 (f_X3_whole (f_X3_one (7 : Int32) x2) (-2147483648 : Int64) (2147483647 : Int64)))) hx hb hr (fun t ht hW => ⟨⟨(f_X3_cutTo x3 (f_X3_whole (f_X3_one (7 : Int32) x2) (-2147483648 : Int64) (2147483647 : Int64))), (0 : Int32), rfl, Eq.symm ((if_neg c_1).trans ((if_neg c_2).trans ((if_neg c_3).trans ((if_neg c_4).trans ((if_neg c_5).trans ((if_neg c_6).trans ((if_pos c_7).trans ((if_neg c_8).trans ((if_pos c_9).trans ((if_neg c_10).trans (rfl))))))))))), by rw [ht]; exact hP, va_K.moved hW.alike hK, hD⟩, hS.F ht⟩) hS.2.2 dX3_turned_204
                    · refine lv_lload hx hb dX3_turned_174 (lv_at hl 0 rfl) ?_
                      refine lv_ldc2 (v := (-9223372036854775808 : Int64)) hx hb hown (hts (.constantLong RX3 118 (-9223372036854775808)) (by decide +kernel)) dX3_turned_176 ?_
                      refine lv_ldc2 (v := (9223372036854775807 : Int64)) hx hb hown (hts (.constantLong RX3 112 (9223372036854775807)) (by decide +kernel)) dX3_turned_179 ?_
                      refine mb_callSl (W.runS (As := [.long (f_X3_one (7 : Int32) x2), .long (-9223372036854775808 : Int64), .long (9223372036854775807 : Int64)]) (rest := []) ⟨hx, hb, hml, hown, hts⟩ (c_X3_whole l (f_X3_one (7 : Int32) x2) (-9223372036854775808 : Int64) (9223372036854775807 : Int64)) (va_cwS 3 hts gX3_turned_X3_whole rfl rfl rfl (by decide +kernel) ⟨Nat.le_of_ble_eq_true rfl, Nat.le_of_ble_eq_true rfl⟩) mb_preT rfl rfl hl.1 rfl (lv_room (Nat.le_of_ble_eq_true rfl)) dX3_turned_182 ⟨Nat.zero_le _, Nat.zero_le _⟩) ?_
                      refine lv_goto (tgt := 204) hx hb dX3_turned_185 (by decide) ?_
                      exact W.lret (v := (f_X3_whole (f_X3_one (7 : Int32) x2) (-9223372036854775808 : Int64) (9223372036854775807 : Int64))) hx hb hr (fun t ht hW => ⟨⟨(f_X3_whole (f_X3_one (7 : Int32) x2) (-9223372036854775808 : Int64) (9223372036854775807 : Int64)), (0 : Int32), rfl, Eq.symm ((if_neg c_1).trans ((if_neg c_2).trans ((if_neg c_3).trans ((if_neg c_4).trans ((if_neg c_5).trans ((if_neg c_6).trans ((if_pos c_7).trans ((if_neg c_8).trans ((if_pos c_9).trans ((if_pos c_10).trans (rfl))))))))))), by rw [ht]; exact hP, va_K.moved hW.alike hK, hD⟩, hS.F ht⟩) hS.2.2 dX3_turned_204
                  · refine lv_iload hx hb dX3_turned_150 (lv_at hl 4 rfl) ?_
                    refine lv_bipush (v := (7 : Int32)) hx hb dX3_turned_152 (by decide) ?_
                    refine lv_icmp_ne (tgt := 162) hx hb dX3_turned_154 (by decide) (fun c_11 => ?_) (fun c_11 => ?_)
                    · refine lv_lload hx hb dX3_turned_162 (lv_at hl 0 rfl) ?_
                      refine mb_callSl (W.runS (As := [.long (f_X3_one (7 : Int32) x2)]) (rest := []) ⟨hx, hb, hml, hown, hts⟩ (c_X3_narrow l (f_X3_one (7 : Int32) x2)) (va_cwS 1 hts gX3_turned_X3_narrow rfl rfl rfl (by decide +kernel) ⟨Nat.le_of_ble_eq_true rfl, Nat.le_of_ble_eq_true rfl⟩) mb_preT rfl rfl hl.1 rfl (lv_room (Nat.le_of_ble_eq_true rfl)) dX3_turned_164 ⟨Nat.zero_le _, Nat.zero_le _⟩) ?_
                      exact W.lret (v := (f_X3_narrow (f_X3_one (7 : Int32) x2))) hx hb hr (fun t ht hW => ⟨⟨(f_X3_narrow (f_X3_one (7 : Int32) x2)), (0 : Int32), rfl, Eq.symm ((if_neg c_1).trans ((if_neg c_2).trans ((if_neg c_3).trans ((if_neg c_4).trans ((if_neg c_5).trans ((if_neg c_6).trans ((if_pos c_7).trans ((if_neg c_8).trans ((if_neg c_9).trans ((if_neg c_11).trans (rfl))))))))))), by rw [ht]; exact hP, va_K.moved hW.alike hK, hD⟩, hS.F ht⟩) hS.2.2 dX3_turned_167
                    · refine lv_lload hx hb dX3_turned_157 (lv_at hl 0 rfl) ?_
                      refine lv_goto (tgt := 167) hx hb dX3_turned_159 (by decide) ?_
                      exact W.lret (v := (f_X3_one (7 : Int32) x2)) hx hb hr (fun t ht hW => ⟨⟨(f_X3_one (7 : Int32) x2), (0 : Int32), rfl, Eq.symm ((if_neg c_1).trans ((if_neg c_2).trans ((if_neg c_3).trans ((if_neg c_4).trans ((if_neg c_5).trans ((if_neg c_6).trans ((if_pos c_7).trans ((if_neg c_8).trans ((if_neg c_9).trans ((if_pos c_11).trans (rfl))))))))))), by rw [ht]; exact hP, va_K.moved hW.alike hK, hD⟩, hS.F ht⟩) hS.2.2 dX3_turned_167
                · refine lv_lload_n hx hb dX3_turned_129 rfl (lv_at hl 2 rfl) ?_
                  refine mb_callSl (W.runS (As := [.long x2]) (rest := []) ⟨hx, hb, hml, hown, hts⟩ (c_X3_wide l x2) (va_cwS 1 hts gX3_turned_X3_wide rfl rfl rfl (by decide +kernel) ⟨Nat.le_of_ble_eq_true rfl, Nat.le_of_ble_eq_true rfl⟩) mb_preT rfl rfl hl.1 rfl (lv_room (Nat.le_of_ble_eq_true rfl)) dX3_turned_130 ⟨Nat.zero_le _, Nat.zero_le _⟩) ?_
                  refine lv_goto (tgt := 142) hx hb dX3_turned_133 (by decide) ?_
                  refine lv_lstore (lv' := [(5, .long (f_X3_wide x2)), (0, .ref h3), (1, .int x1), (2, .long x2), (4, .int x3)]) hx hb dX3_turned_142 hl (by decide) rfl (fun ls hl => ?_)
                  refine lv_iload hx hb dX3_turned_144 (lv_at hl 4 rfl) ?_
                  refine lv_iconst (v := (5 : Int32)) hx hb dX3_turned_146 (by decide) ?_
                  refine lv_icmp_le (tgt := 168) hx hb dX3_turned_147 (by decide) (fun c_12 => ?_) (fun c_12 => ?_)
                  · refine lv_iload hx hb dX3_turned_168 (lv_at hl 4 rfl) ?_
                    refine lv_iconst (v := (5 : Int32)) hx hb dX3_turned_170 (by decide) ?_
                    refine lv_icmp_ne (tgt := 188) hx hb dX3_turned_171 (by decide) (fun c_13 => ?_) (fun c_13 => ?_)
                    · refine lv_iload hx hb dX3_turned_188 (lv_at hl 4 rfl) ?_
                      refine lv_lload hx hb dX3_turned_190 (lv_at hl 0 rfl) ?_
                      refine lv_ldc2 (v := (-2147483648 : Int64)) hx hb hown (hts (.constantLong RX3 100 (-2147483648)) (by decide +kernel)) dX3_turned_192 ?_
                      refine lv_ldc2 (v := (2147483647 : Int64)) hx hb hown (hts (.constantLong RX3 102 (2147483647)) (by decide +kernel)) dX3_turned_195 ?_
                      refine mb_callSl (W.runS (As := [.long (f_X3_wide x2), .long (-2147483648 : Int64), .long (2147483647 : Int64)]) (rest := [.int x3]) ⟨hx, hb, hml, hown, hts⟩ (c_X3_whole l (f_X3_wide x2) (-2147483648 : Int64) (2147483647 : Int64)) (va_cwS 3 hts gX3_turned_X3_whole rfl rfl rfl (by decide +kernel) ⟨Nat.le_of_ble_eq_true rfl, Nat.le_of_ble_eq_true rfl⟩) mb_preT rfl rfl hl.1 rfl (lv_room (Nat.le_of_ble_eq_true rfl)) dX3_turned_198 ⟨Nat.zero_le _, Nat.zero_le _⟩) ?_
                      refine mb_callSl (W.runS (As := [.int x3, .long (f_X3_whole (f_X3_wide x2) (-2147483648 : Int64) (2147483647 : Int64))]) (rest := []) ⟨hx, hb, hml, hown, hts⟩ (c_X3_cutTo l x3 (f_X3_whole (f_X3_wide x2) (-2147483648 : Int64) (2147483647 : Int64))) (va_cwS 2 hts gX3_turned_X3_cutTo rfl rfl rfl (by decide +kernel) ⟨Nat.le_of_ble_eq_true rfl, Nat.le_of_ble_eq_true rfl⟩) mb_preT rfl rfl hl.1 rfl (lv_room (Nat.le_of_ble_eq_true rfl)) dX3_turned_201 ⟨Nat.zero_le _, Nat.zero_le _⟩) ?_
                      exact W.lret (v := (f_X3_cutTo x3 (f_X3_whole (f_X3_wide x2) (-2147483648 : Int64) (2147483647 : Int64)))) hx hb hr (fun t ht hW => ⟨⟨(f_X3_cutTo x3 (f_X3_whole (f_X3_wide x2) (-2147483648 : Int64) (2147483647 : Int64))), (0 : Int32), rfl, Eq.symm ((if_neg c_1).trans ((if_neg c_2).trans ((if_neg c_3).trans ((if_neg c_4).trans ((if_neg c_5).trans ((if_neg c_6).trans ((if_pos c_7).trans ((if_pos c_8).trans ((if_pos c_12).trans ((if_neg c_13).trans (rfl))))))))))), by rw [ht]; exact hP, va_K.moved hW.alike hK, hD⟩, hS.F ht⟩) hS.2.2 dX3_turned_204
                    · refine lv_lload hx hb dX3_turned_174 (lv_at hl 0 rfl) ?_
                      refine lv_ldc2 (v := (-9223372036854775808 : Int64)) hx hb hown (hts (.constantLong RX3 118 (-9223372036854775808)) (by decide +kernel)) dX3_turned_176 ?_
                      refine lv_ldc2 (v := (9223372036854775807 : Int64)) hx hb hown (hts (.constantLong RX3 112 (9223372036854775807)) (by decide +kernel)) dX3_turned_179 ?_
                      refine mb_callSl (W.runS (As := [.long (f_X3_wide x2), .long (-9223372036854775808 : Int64), .long (9223372036854775807 : Int64)]) (rest := []) ⟨hx, hb, hml, hown, hts⟩ (c_X3_whole l (f_X3_wide x2) (-9223372036854775808 : Int64) (9223372036854775807 : Int64)) (va_cwS 3 hts gX3_turned_X3_whole rfl rfl rfl (by decide +kernel) ⟨Nat.le_of_ble_eq_true rfl, Nat.le_of_ble_eq_true rfl⟩) mb_preT rfl rfl hl.1 rfl (lv_room (Nat.le_of_ble_eq_true rfl)) dX3_turned_182 ⟨Nat.zero_le _, Nat.zero_le _⟩) ?_
                      refine lv_goto (tgt := 204) hx hb dX3_turned_185 (by decide) ?_
                      exact W.lret (v := (f_X3_whole (f_X3_wide x2) (-9223372036854775808 : Int64) (9223372036854775807 : Int64))) hx hb hr (fun t ht hW => ⟨⟨(f_X3_whole (f_X3_wide x2) (-9223372036854775808 : Int64) (9223372036854775807 : Int64)), (0 : Int32), rfl, Eq.symm ((if_neg c_1).trans ((if_neg c_2).trans ((if_neg c_3).trans ((if_neg c_4).trans ((if_neg c_5).trans ((if_neg c_6).trans ((if_pos c_7).trans ((if_pos c_8).trans ((if_pos c_12).trans ((if_pos c_13).trans (rfl))))))))))), by rw [ht]; exact hP, va_K.moved hW.alike hK, hD⟩, hS.F ht⟩) hS.2.2 dX3_turned_204
                  · refine lv_iload hx hb dX3_turned_150 (lv_at hl 4 rfl) ?_
                    refine lv_bipush (v := (7 : Int32)) hx hb dX3_turned_152 (by decide) ?_
                    refine lv_icmp_ne (tgt := 162) hx hb dX3_turned_154 (by decide) (fun c_14 => ?_) (fun c_14 => ?_)
                    · refine lv_lload hx hb dX3_turned_162 (lv_at hl 0 rfl) ?_
                      refine mb_callSl (W.runS (As := [.long (f_X3_wide x2)]) (rest := []) ⟨hx, hb, hml, hown, hts⟩ (c_X3_narrow l (f_X3_wide x2)) (va_cwS 1 hts gX3_turned_X3_narrow rfl rfl rfl (by decide +kernel) ⟨Nat.le_of_ble_eq_true rfl, Nat.le_of_ble_eq_true rfl⟩) mb_preT rfl rfl hl.1 rfl (lv_room (Nat.le_of_ble_eq_true rfl)) dX3_turned_164 ⟨Nat.zero_le _, Nat.zero_le _⟩) ?_
                      exact W.lret (v := (f_X3_narrow (f_X3_wide x2))) hx hb hr (fun t ht hW => ⟨⟨(f_X3_narrow (f_X3_wide x2)), (0 : Int32), rfl, Eq.symm ((if_neg c_1).trans ((if_neg c_2).trans ((if_neg c_3).trans ((if_neg c_4).trans ((if_neg c_5).trans ((if_neg c_6).trans ((if_pos c_7).trans ((if_pos c_8).trans ((if_neg c_12).trans ((if_neg c_14).trans (rfl))))))))))), by rw [ht]; exact hP, va_K.moved hW.alike hK, hD⟩, hS.F ht⟩) hS.2.2 dX3_turned_167
                    · refine lv_lload hx hb dX3_turned_157 (lv_at hl 0 rfl) ?_
                      refine lv_goto (tgt := 167) hx hb dX3_turned_159 (by decide) ?_
                      exact W.lret (v := (f_X3_wide x2)) hx hb hr (fun t ht hW => ⟨⟨(f_X3_wide x2), (0 : Int32), rfl, Eq.symm ((if_neg c_1).trans ((if_neg c_2).trans ((if_neg c_3).trans ((if_neg c_4).trans ((if_neg c_5).trans ((if_neg c_6).trans ((if_pos c_7).trans ((if_pos c_8).trans ((if_neg c_12).trans ((if_pos c_14).trans (rfl))))))))))), by rw [ht]; exact hP, va_K.moved hW.alike hK, hD⟩, hS.F ht⟩) hS.2.2 dX3_turned_167
              · refine lv_iload hx hb dX3_turned_71 (lv_at hl 3 rfl) ?_
                refine lv_bipush (v := (6 : Int32)) hx hb dX3_turned_73 (by decide) ?_
                refine lv_icmp_ne (tgt := 94) hx hb dX3_turned_75 (by decide) (fun c_15 => ?_) (fun c_15 => ?_)
                · refine lv_iload hx hb dX3_turned_94 (lv_at hl 3 rfl) ?_
                  refine lv_bipush (v := (7 : Int32)) hx hb dX3_turned_96 (by decide) ?_
                  refine lv_icmp_ne (tgt := 116) hx hb dX3_turned_98 (by decide) (fun c_16 => ?_) (fun c_16 => ?_)
                  · refine lv_iload hx hb dX3_turned_116 (lv_at hl 3 rfl) ?_
                    refine lv_lload_n hx hb dX3_turned_118 rfl (lv_at hl 2 rfl) ?_
                    refine mb_callSl (W.runS (As := [.int x3, .long x2]) (rest := []) ⟨hx, hb, hml, hown, hts⟩ (c_X3_cutTo l x3 x2) (va_cwS 2 hts gX3_turned_X3_cutTo rfl rfl rfl (by decide +kernel) ⟨Nat.le_of_ble_eq_true rfl, Nat.le_of_ble_eq_true rfl⟩) mb_preT rfl rfl hl.1 rfl (lv_room (Nat.le_of_ble_eq_true rfl)) dX3_turned_119 ⟨Nat.zero_le _, Nat.zero_le _⟩) ?_
                    exact W.lret (v := (f_X3_cutTo x3 x2)) hx hb hr (fun t ht hW => ⟨⟨(f_X3_cutTo x3 x2), (0 : Int32), rfl, Eq.symm ((if_neg c_1).trans ((if_neg c_2).trans ((if_neg c_3).trans ((if_neg c_4).trans ((if_neg c_5).trans ((if_neg c_6).trans ((if_neg c_7).trans ((if_neg c_15).trans ((if_neg c_16).trans (rfl)))))))))), by rw [ht]; exact hP, va_K.moved hW.alike hK, hD⟩, hS.F ht⟩) hS.2.2 dX3_turned_122
                  · refine lv_lload_n hx hb dX3_turned_101 rfl (lv_at hl 2 rfl) ?_
                    refine lv_bipush (v := (53 : Int32)) hx hb dX3_turned_102 (by decide) ?_
                    refine lv_sipush (v := (1023 : Int32)) hx hb dX3_turned_104 (by decide) ?_
                    refine lv_ldc2 (v := (-9223372036854775808 : Int64)) hx hb hown (hts (.constantLong RX3 118 (-9223372036854775808)) (by decide +kernel)) dX3_turned_107 ?_
                    refine mb_callSl (W.runS (As := [.long x2, .int (53 : Int32), .int (1023 : Int32), .long (-9223372036854775808 : Int64)]) (rest := []) ⟨hx, hb, hml, hown, hts⟩ (c_X3_real l x2 (53 : Int32) (1023 : Int32) (-9223372036854775808 : Int64)) (va_cwS 4 hts gX3_turned_X3_real rfl rfl rfl (by decide +kernel) ⟨Nat.le_of_ble_eq_true rfl, Nat.le_of_ble_eq_true rfl⟩) mb_preT rfl rfl hl.1 rfl (lv_room (Nat.le_of_ble_eq_true rfl)) dX3_turned_110 ⟨Nat.zero_le _, Nat.zero_le _⟩) ?_
                    refine lv_goto (tgt := 122) hx hb dX3_turned_113 (by decide) ?_
                    exact W.lret (v := (f_X3_real x2 (53 : Int32) (1023 : Int32) (-9223372036854775808 : Int64))) hx hb hr (fun t ht hW => ⟨⟨(f_X3_real x2 (53 : Int32) (1023 : Int32) (-9223372036854775808 : Int64)), (0 : Int32), rfl, Eq.symm ((if_neg c_1).trans ((if_neg c_2).trans ((if_neg c_3).trans ((if_neg c_4).trans ((if_neg c_5).trans ((if_neg c_6).trans ((if_neg c_7).trans ((if_neg c_15).trans ((if_pos c_16).trans (rfl)))))))))), by rw [ht]; exact hP, va_K.moved hW.alike hK, hD⟩, hS.F ht⟩) hS.2.2 dX3_turned_122
                · refine lv_lload_n hx hb dX3_turned_78 rfl (lv_at hl 2 rfl) ?_
                  refine lv_bipush (v := (24 : Int32)) hx hb dX3_turned_79 (by decide) ?_
                  refine lv_bipush (v := (127 : Int32)) hx hb dX3_turned_81 (by decide) ?_
                  refine lv_ldc2 (v := (-2147483648 : Int64)) hx hb hown (hts (.constantLong RX3 100 (-2147483648)) (by decide +kernel)) dX3_turned_83 ?_
                  refine mb_callSl (W.runS (As := [.long x2, .int (24 : Int32), .int (127 : Int32), .long (-2147483648 : Int64)]) (rest := []) ⟨hx, hb, hml, hown, hts⟩ (c_X3_real l x2 (24 : Int32) (127 : Int32) (-2147483648 : Int64)) (va_cwS 4 hts gX3_turned_X3_real rfl rfl rfl (by decide +kernel) ⟨Nat.le_of_ble_eq_true rfl, Nat.le_of_ble_eq_true rfl⟩) mb_preT rfl rfl hl.1 rfl (lv_room (Nat.le_of_ble_eq_true rfl)) dX3_turned_86 ⟨Nat.zero_le _, Nat.zero_le _⟩) ?_
                  refine lv_l2i hx hb dX3_turned_89 rfl ?_
                  refine lv_i2l hx hb dX3_turned_90 rfl ?_
                  refine lv_goto (tgt := 122) hx hb dX3_turned_91 (by decide) ?_
                  exact W.lret (v := ((f_X3_real x2 (24 : Int32) (127 : Int32) (-2147483648 : Int64)).toInt32).toInt64) hx hb hr (fun t ht hW => ⟨⟨((f_X3_real x2 (24 : Int32) (127 : Int32) (-2147483648 : Int64)).toInt32).toInt64, (0 : Int32), rfl, Eq.symm ((if_neg c_1).trans ((if_neg c_2).trans ((if_neg c_3).trans ((if_neg c_4).trans ((if_neg c_5).trans ((if_neg c_6).trans ((if_neg c_7).trans ((if_pos c_15).trans (rfl))))))))), by rw [ht]; exact hP, va_K.moved hW.alike hK, hD⟩, hS.F ht⟩) hS.2.2 dX3_turned_122
            · refine lv_iload_n hx hb dX3_turned_59 rfl (lv_at hl 1 rfl) ?_
              refine lv_lload_n hx hb dX3_turned_60 rfl (lv_at hl 2 rfl) ?_
              refine mb_callSl (W.runS (As := [.int x1, .long x2]) (rest := []) ⟨hx, hb, hml, hown, hts⟩ (c_X3_one l x1 x2) (va_cwS 2 hts gX3_turned_X3_one rfl rfl rfl (by decide +kernel) ⟨Nat.le_of_ble_eq_true rfl, Nat.le_of_ble_eq_true rfl⟩) mb_preT rfl rfl hl.1 rfl (lv_room (Nat.le_of_ble_eq_true rfl)) dX3_turned_61 ⟨Nat.zero_le _, Nat.zero_le _⟩) ?_
              exact W.lret (v := (f_X3_one x1 x2)) hx hb hr (fun t ht hW => ⟨⟨(f_X3_one x1 x2), (0 : Int32), rfl, Eq.symm ((if_neg c_1).trans ((if_neg c_2).trans ((if_neg c_3).trans ((if_neg c_4).trans ((if_neg c_5).trans ((if_pos c_6).trans (rfl))))))), by rw [ht]; exact hP, va_K.moved hW.alike hK, hD⟩, hS.F ht⟩) hS.2.2 dX3_turned_64
          · refine lv_ldc2 (v := (-2 : Int64)) hx hb hown (hts (.constantLong RX3 133 (-2)) (by decide +kernel)) dX3_turned_49 ?_
            exact W.lret (v := (-2 : Int64)) hx hb hr (fun t ht hW => ⟨⟨(-2 : Int64), (0 : Int32), rfl, Eq.symm ((if_neg c_1).trans ((if_neg c_2).trans ((if_neg c_3).trans ((if_neg c_4).trans ((if_pos c_5).trans (rfl)))))), by rw [ht]; exact hP, va_K.moved hW.alike hK, hD⟩, hS.F ht⟩) hS.2.2 dX3_turned_52
        · refine lv_ldc2 (v := (-1 : Int64)) hx hb hown (hts (.constantLong RX3 128 (-1)) (by decide +kernel)) dX3_turned_37 ?_
          exact W.lret (v := (-1 : Int64)) hx hb hr (fun t ht hW => ⟨⟨(-1 : Int64), (0 : Int32), rfl, Eq.symm ((if_neg c_1).trans ((if_neg c_2).trans ((if_neg c_3).trans ((if_pos c_4).trans (rfl))))), by rw [ht]; exact hP, va_K.moved hW.alike hK, hD⟩, hS.F ht⟩) hS.2.2 dX3_turned_40
def f_X3_promoted (th : Int32) (so : Nat → Int32) (fi : Nat → Int32) (el : Nat → Int32) (av : Nat → Int32) (un : Nat → Int32) (ty : Int32) (kp : Nat → Int32) (bt : Nat → Int64) (oc : Int32) (x1 : Int32) : Int32 × ((Int32)) := if (f_X3_isType so fi el av un ty kp bt oc x1) = 0 then ((-1 : Int32), (0 : Int32))
  else if (f_X3_numberOf x1) = 0 then ((-2 : Int32), (0 : Int32))
  else ((f_X3_promotedOf (f_X3_numberOf x1)), (0 : Int32))
set_option maxHeartbeats 4000000 in
set_option maxRecDepth 100000 in
theorem c_X3_promoted (l : Launch) (dC : Nat → ClassId) (dI : Nat → Nat → Nat) (cyI cyZ cyJ : ClassId) (h3 e0 e1 e2 e3 e4 e5 e6 : Nat) (th : Int32) (so : Nat → Int32) (fi : Nat → Int32) (el : Nat → Int32) (av : Nat → Int32) (un : Nat → Int32) (ty : Int32) (kp : Nat → Int32) (bt : Nat → Int64) (oc : Int32) (hs : Nat) (x1 : Int32) (gz : 0 ≤ ty.toInt ∧ ty.toInt ≤ 40) : Met l yX3_promoted wsX3_promoted ({ frames := 3, cells := 0, slots := 0, locals := 63 }) (va_Pc [.ref h3, .int x1] (mb_M (dC, dI) (mb_tys cyI cyZ cyJ) hs [(h3, .inr (5, [.int th, .int ty, .ref e0, .ref e1, .ref e2, .ref e3, .ref e4, .int oc, .ref e5, .ref e6])), (e0, .inl (cyI, 40, .inl so)), (e1, .inl (cyZ, 40, .inl fi)), (e2, .inl (cyI, 40, .inl el)), (e3, .inl (cyI, 120, .inl av)), (e4, .inl (cyZ, 1600, .inl un)), (e5, .inl (cyI, 60, .inl kp)), (e6, .inl (cyJ, 60, .inr (.inl bt)))])) (va_Qi (S := ((Int32))) (fun r u => (r, u) = f_X3_promoted th so fi el av un ty kp bt oc x1) (fun u t => mb_at dC dI cyI cyZ cyJ (va_A [(h3, .inr (5, [.int th, .int ty, .ref e0, .ref e1, .ref e2, .ref e3, .ref e4, .int oc, .ref e5, .ref e6])), (e0, .inl (cyI, 40, .inl so)), (e1, .inl (cyZ, 40, .inl fi)), (e2, .inl (cyI, 40, .inl el)), (e3, .inl (cyI, 120, .inl av)), (e4, .inl (cyZ, 1600, .inl un)), (e5, .inl (cyI, 60, .inl kp)), (e6, .inl (cyJ, 60, .inr (.inl bt)))] hs) [(h3, .inr (5, [.int u, .int ty, .ref e0, .ref e1, .ref e2, .ref e3, .ref e4, .int oc, .ref e5, .ref e6])), (e0, .inl (cyI, 40, .inl so)), (e1, .inl (cyZ, 40, .inl fi)), (e2, .inl (cyI, 40, .inl el)), (e3, .inl (cyI, 120, .inl av)), (e4, .inl (cyZ, 1600, .inl un)), (e5, .inl (cyI, 60, .inl kp)), (e6, .inl (cyJ, 60, .inr (.inl bt)))] t) (va_A [(h3, .inr (5, [.int th, .int ty, .ref e0, .ref e1, .ref e2, .ref e3, .ref e4, .int oc, .ref e5, .ref e6])), (e0, .inl (cyI, 40, .inl so)), (e1, .inl (cyZ, 40, .inl fi)), (e2, .inl (cyI, 40, .inl el)), (e3, .inl (cyI, 120, .inl av)), (e4, .inl (cyZ, 1600, .inl un)), (e5, .inl (cyI, 60, .inl kp)), (e6, .inl (cyJ, 60, .inr (.inl bt)))] hs)) 0 0 (va_A [(h3, .inr (5, [.int th, .int ty, .ref e0, .ref e1, .ref e2, .ref e3, .ref e4, .int oc, .ref e5, .ref e6])), (e0, .inl (cyI, 40, .inl so)), (e1, .inl (cyZ, 40, .inl fi)), (e2, .inl (cyI, 40, .inl el)), (e3, .inl (cyI, 120, .inl av)), (e4, .inl (cyZ, 1600, .inl un)), (e5, .inl (cyI, 60, .inl kp)), (e6, .inl (cyJ, 60, .inr (.inl bt)))] hs) := by
  refine Met.ofW (cc := cX3_promoted) (maxL := 3) (ret := (some .int)) (by decide) rfl ?_
  intro p e s m args below meth c s₁ B hml hv
  obtain ⟨rfl, hsz, hP, hK, hD0⟩ := hv
  have hx := B.exec
  have hb := B.bytes
  have hr := B.returns
  have hts := atoms_spec (ws := wsX3_promoted) B.pre
  have hown : s.vm.findClass RX3 = some m.cls := findClass_of_methodNamed B.named
  have hlocks := B.notSynchronized
  subst hsz
  have hD := hD0.self (sz := s.heap.size)
  generalize hAe : va_A [(h3, .inr (5, [.int th, .int ty, .ref e0, .ref e1, .ref e2, .ref e3, .ref e4, .int oc, .ref e5, .ref e6])), (e0, .inl (cyI, 40, .inl so)), (e1, .inl (cyZ, 40, .inl fi)), (e2, .inl (cyI, 40, .inl el)), (e3, .inl (cyI, 120, .inl av)), (e4, .inl (cyZ, 1600, .inl un)), (e5, .inl (cyI, 60, .inl kp)), (e6, .inl (cyJ, 60, .inr (.inl bt)))] s.heap.size = A at hD ⊢
  have hA : ∀ q : Nat, s.heap.size ≤ q → A q := fun q h => by rw [← hAe]; exact Or.inr h
  have hS : va_S A s.heap s.heap [] := va_S.rf
  have hP : va_P (dC, dI) vwCl [(h3, .inr (5, [.int th, .int ty, .ref e0, .ref e1, .ref e2, .ref e3, .ref e4, .int oc, .ref e5, .ref e6])), (e0, .inl (cyI, 40, .inl so)), (e1, .inl (cyZ, 40, .inl fi)), (e2, .inl (cyI, 40, .inl el)), (e3, .inl (cyI, 120, .inl av)), (e4, .inl (cyZ, 1600, .inl un)), (e5, .inl (cyI, 60, .inl kp)), (e6, .inl (cyJ, 60, .inr (.inl bt)))] s.heap := hP
  have hP0 : va_P (dC, dI) vwCl [] s.heap := fun k q h => by simp at h
  have hin_X3 : ∀ w ∈ wsX30, w ∈ wsX3_promoted := by decide +kernel
  have hf_40 := hts (.fieldLink RX3 40 "ConversionTablesModel" "thrown" "I") (by decide +kernel)
  have hl := lv_entry ([.ref h3, .int x1]) (n := 3) (Nat.le_of_ble_eq_true rfl)
  rw [lg_entry_eq]
  generalize (lg_sl ([.ref h3, .int x1]) ++ List.replicate (3 - (lg_sl ([.ref h3, .int x1])).length) Slot.unset).toArray = ls at hl ⊢
  have hl : lv_has ls 3 [(0, .ref h3), (1, .int x1)] := hl
  refine lv_aload_n hx hb dX3_promoted_0 rfl (lv_at hl 0 rfl) ?_
  refine lv_iconst (v := (0 : Int32)) hx hb dX3_promoted_1 (by decide) ?_
  refine va_put (D := (dC, dI)) (ci := 5) (v := .int (0 : Int32)) (ty := .int) (C := RX3) (T := TX3) (N := 10) hx hb hts hin_X3 tyX3 tyX3_ok nmX3 hown hK hP hD hS 0 rfl rfl 0 (by decide) hf_40 (fun _ h9 => h9) rfl (by decide +kernel) rfl rfl (Nat.le_of_ble_eq_true rfl) dX3_promoted_2 (fun H locs hP hD hS => ?_)
  have hP : va_P (dC, dI) vwCl [(h3, .inr (5, [.int (0 : Int32), .int ty, .ref e0, .ref e1, .ref e2, .ref e3, .ref e4, .int oc, .ref e5, .ref e6])), (e0, .inl (cyI, 40, .inl so)), (e1, .inl (cyZ, 40, .inl fi)), (e2, .inl (cyI, 40, .inl el)), (e3, .inl (cyI, 120, .inl av)), (e4, .inl (cyZ, 1600, .inl un)), (e5, .inl (cyI, 60, .inl kp)), (e6, .inl (cyJ, 60, .inr (.inl bt)))] H := hP
  have hD : va_D A [(h3, .inr (5, [.int (0 : Int32), .int ty, .ref e0, .ref e1, .ref e2, .ref e3, .ref e4, .int oc, .ref e5, .ref e6])), (e0, .inl (cyI, 40, .inl so)), (e1, .inl (cyZ, 40, .inl fi)), (e2, .inl (cyI, 40, .inl el)), (e3, .inl (cyI, 120, .inl av)), (e4, .inl (cyZ, 1600, .inl un)), (e5, .inl (cyI, 60, .inl kp)), (e6, .inl (cyJ, 60, .inr (.inl bt)))] := hD
  refine lv_aload_n hx hb dX3_promoted_5 rfl (lv_at hl 0 rfl) ?_
  refine lv_iload_n hx hb dX3_promoted_6 rfl (lv_at hl 1 rfl) ?_
  refine mb_callSi (W.runV (As := [.int x1]) (rest := []) ⟨hx, hb, hml, hown, hts⟩ (c_X3_isType l dC dI cyI cyZ cyJ h3 e0 e1 e2 e3 e4 e5 e6 so fi el av un ty kp bt oc (0 : Int32) x1) (cwV 1 hts gX3_promoted_X3_isType rfl rfl rfl (by decide +kernel) ⟨Nat.le_of_ble_eq_true rfl, Nat.le_of_ble_eq_true rfl⟩) (mb_preV hK hP (ci := 5) (q0 := 0) rfl rfl) rfl rfl hl.1 rfl (lv_room (Nat.le_of_ble_eq_true rfl)) dX3_promoted_7 ⟨Nat.zero_le _, Nat.zero_le _⟩) ?_
  refine lv_if_ne (tgt := 15) hx hb dX3_promoted_10 (by decide) (fun c_1 => ?_) (fun c_1 => ?_)
  · refine lv_iload_n hx hb dX3_promoted_15 rfl (lv_at hl 1 rfl) ?_
    refine mb_callSi (W.runS (As := [.int x1]) (rest := []) ⟨hx, hb, hml, hown, hts⟩ (c_X3_numberOf l x1) (va_cwS 1 hts gX3_promoted_X3_numberOf rfl rfl rfl (by decide +kernel) ⟨Nat.le_of_ble_eq_true rfl, Nat.le_of_ble_eq_true rfl⟩) mb_preT rfl rfl hl.1 rfl (lv_room (Nat.le_of_ble_eq_true rfl)) dX3_promoted_16 ⟨Nat.zero_le _, Nat.zero_le _⟩) ?_
    refine lv_istore_n (lv' := [(2, .int (f_X3_numberOf x1)), (0, .ref h3), (1, .int x1)]) hx hb dX3_promoted_19 rfl hl (by decide) rfl (fun ls hl => ?_)
    refine lv_iload_n hx hb dX3_promoted_20 rfl (lv_at hl 0 rfl) ?_
    refine lv_if_ne (tgt := 29) hx hb dX3_promoted_21 (by decide) (fun c_2 => ?_) (fun c_2 => ?_)
    · refine lv_iload_n hx hb dX3_promoted_29 rfl (lv_at hl 0 rfl) ?_
      refine mb_callSi (W.runS (As := [.int (f_X3_numberOf x1)]) (rest := []) ⟨hx, hb, hml, hown, hts⟩ (c_X3_promotedOf l (f_X3_numberOf x1)) (va_cwS 1 hts gX3_promoted_X3_promotedOf rfl rfl rfl (by decide +kernel) ⟨Nat.le_of_ble_eq_true rfl, Nat.le_of_ble_eq_true rfl⟩) mb_preT rfl rfl hl.1 rfl (lv_room (Nat.le_of_ble_eq_true rfl)) dX3_promoted_30 ⟨Nat.zero_le _, Nat.zero_le _⟩) ?_
      exact W.iret (v := (f_X3_promotedOf (f_X3_numberOf x1))) hx hb hr (fun t ht hW => ⟨⟨(f_X3_promotedOf (f_X3_numberOf x1)), (0 : Int32), rfl, Eq.symm ((if_neg c_1).trans ((if_neg c_2).trans (rfl))), by rw [ht]; exact hP, va_K.moved hW.alike hK, hD⟩, hS.F ht⟩) hS.2.2 dX3_promoted_33
    · refine lv_bipush (v := (-2 : Int32)) hx hb dX3_promoted_24 (by decide) ?_
      refine lv_goto (tgt := 33) hx hb dX3_promoted_26 (by decide) ?_
      exact W.iret (v := (-2 : Int32)) hx hb hr (fun t ht hW => ⟨⟨(-2 : Int32), (0 : Int32), rfl, Eq.symm ((if_neg c_1).trans ((if_pos c_2).trans (rfl))), by rw [ht]; exact hP, va_K.moved hW.alike hK, hD⟩, hS.F ht⟩) hS.2.2 dX3_promoted_33
  · refine lv_iconst (v := (-1 : Int32)) hx hb dX3_promoted_13 (by decide) ?_
    exact W.iret (v := (-1 : Int32)) hx hb hr (fun t ht hW => ⟨⟨(-1 : Int32), (0 : Int32), rfl, Eq.symm ((if_pos c_1).trans (rfl)), by rw [ht]; exact hP, va_K.moved hW.alike hK, hD⟩, hS.F ht⟩) hS.2.2 dX3_promoted_14
def f_X3_both (th : Int32) (so : Nat → Int32) (fi : Nat → Int32) (el : Nat → Int32) (av : Nat → Int32) (un : Nat → Int32) (ty : Int32) (kp : Nat → Int32) (bt : Nat → Int64) (oc : Int32) (x1 : Int32) (x2 : Int32) : Int32 × ((Int32)) := if (f_X3_isType so fi el av un ty kp bt oc x1) = 0 then ((-1 : Int32), (0 : Int32))
  else if (f_X3_isType so fi el av un ty kp bt oc x2) = 0 then ((-1 : Int32), (0 : Int32))
  else if (f_X3_numberOf x1) = 0 then ((-2 : Int32), (0 : Int32))
  else if (f_X3_numberOf x2) = 0 then ((-2 : Int32), (0 : Int32))
  else ((f_X3_bothOf (f_X3_numberOf x1) (f_X3_numberOf x2)), (0 : Int32))
set_option maxHeartbeats 4000000 in
set_option maxRecDepth 100000 in
theorem c_X3_both (l : Launch) (dC : Nat → ClassId) (dI : Nat → Nat → Nat) (cyI cyZ cyJ : ClassId) (h3 e0 e1 e2 e3 e4 e5 e6 : Nat) (th : Int32) (so : Nat → Int32) (fi : Nat → Int32) (el : Nat → Int32) (av : Nat → Int32) (un : Nat → Int32) (ty : Int32) (kp : Nat → Int32) (bt : Nat → Int64) (oc : Int32) (hs : Nat) (x1 : Int32) (x2 : Int32) (gz : 0 ≤ ty.toInt ∧ ty.toInt ≤ 40) : Met l yX3_both wsX3_both ({ frames := 3, cells := 0, slots := 0, locals := 63 }) (va_Pc [.ref h3, .int x1, .int x2] (mb_M (dC, dI) (mb_tys cyI cyZ cyJ) hs [(h3, .inr (5, [.int th, .int ty, .ref e0, .ref e1, .ref e2, .ref e3, .ref e4, .int oc, .ref e5, .ref e6])), (e0, .inl (cyI, 40, .inl so)), (e1, .inl (cyZ, 40, .inl fi)), (e2, .inl (cyI, 40, .inl el)), (e3, .inl (cyI, 120, .inl av)), (e4, .inl (cyZ, 1600, .inl un)), (e5, .inl (cyI, 60, .inl kp)), (e6, .inl (cyJ, 60, .inr (.inl bt)))])) (va_Qi (S := ((Int32))) (fun r u => (r, u) = f_X3_both th so fi el av un ty kp bt oc x1 x2) (fun u t => mb_at dC dI cyI cyZ cyJ (va_A [(h3, .inr (5, [.int th, .int ty, .ref e0, .ref e1, .ref e2, .ref e3, .ref e4, .int oc, .ref e5, .ref e6])), (e0, .inl (cyI, 40, .inl so)), (e1, .inl (cyZ, 40, .inl fi)), (e2, .inl (cyI, 40, .inl el)), (e3, .inl (cyI, 120, .inl av)), (e4, .inl (cyZ, 1600, .inl un)), (e5, .inl (cyI, 60, .inl kp)), (e6, .inl (cyJ, 60, .inr (.inl bt)))] hs) [(h3, .inr (5, [.int u, .int ty, .ref e0, .ref e1, .ref e2, .ref e3, .ref e4, .int oc, .ref e5, .ref e6])), (e0, .inl (cyI, 40, .inl so)), (e1, .inl (cyZ, 40, .inl fi)), (e2, .inl (cyI, 40, .inl el)), (e3, .inl (cyI, 120, .inl av)), (e4, .inl (cyZ, 1600, .inl un)), (e5, .inl (cyI, 60, .inl kp)), (e6, .inl (cyJ, 60, .inr (.inl bt)))] t) (va_A [(h3, .inr (5, [.int th, .int ty, .ref e0, .ref e1, .ref e2, .ref e3, .ref e4, .int oc, .ref e5, .ref e6])), (e0, .inl (cyI, 40, .inl so)), (e1, .inl (cyZ, 40, .inl fi)), (e2, .inl (cyI, 40, .inl el)), (e3, .inl (cyI, 120, .inl av)), (e4, .inl (cyZ, 1600, .inl un)), (e5, .inl (cyI, 60, .inl kp)), (e6, .inl (cyJ, 60, .inr (.inl bt)))] hs)) 0 0 (va_A [(h3, .inr (5, [.int th, .int ty, .ref e0, .ref e1, .ref e2, .ref e3, .ref e4, .int oc, .ref e5, .ref e6])), (e0, .inl (cyI, 40, .inl so)), (e1, .inl (cyZ, 40, .inl fi)), (e2, .inl (cyI, 40, .inl el)), (e3, .inl (cyI, 120, .inl av)), (e4, .inl (cyZ, 1600, .inl un)), (e5, .inl (cyI, 60, .inl kp)), (e6, .inl (cyJ, 60, .inr (.inl bt)))] hs) := by
  refine Met.ofW (cc := cX3_both) (maxL := 5) (ret := (some .int)) (by decide) rfl ?_
  intro p e s m args below meth c s₁ B hml hv
  obtain ⟨rfl, hsz, hP, hK, hD0⟩ := hv
  have hx := B.exec
  have hb := B.bytes
  have hr := B.returns
  have hts := atoms_spec (ws := wsX3_both) B.pre
  have hown : s.vm.findClass RX3 = some m.cls := findClass_of_methodNamed B.named
  have hlocks := B.notSynchronized
  subst hsz
  have hD := hD0.self (sz := s.heap.size)
  generalize hAe : va_A [(h3, .inr (5, [.int th, .int ty, .ref e0, .ref e1, .ref e2, .ref e3, .ref e4, .int oc, .ref e5, .ref e6])), (e0, .inl (cyI, 40, .inl so)), (e1, .inl (cyZ, 40, .inl fi)), (e2, .inl (cyI, 40, .inl el)), (e3, .inl (cyI, 120, .inl av)), (e4, .inl (cyZ, 1600, .inl un)), (e5, .inl (cyI, 60, .inl kp)), (e6, .inl (cyJ, 60, .inr (.inl bt)))] s.heap.size = A at hD ⊢
  have hA : ∀ q : Nat, s.heap.size ≤ q → A q := fun q h => by rw [← hAe]; exact Or.inr h
  have hS : va_S A s.heap s.heap [] := va_S.rf
  have hP : va_P (dC, dI) vwCl [(h3, .inr (5, [.int th, .int ty, .ref e0, .ref e1, .ref e2, .ref e3, .ref e4, .int oc, .ref e5, .ref e6])), (e0, .inl (cyI, 40, .inl so)), (e1, .inl (cyZ, 40, .inl fi)), (e2, .inl (cyI, 40, .inl el)), (e3, .inl (cyI, 120, .inl av)), (e4, .inl (cyZ, 1600, .inl un)), (e5, .inl (cyI, 60, .inl kp)), (e6, .inl (cyJ, 60, .inr (.inl bt)))] s.heap := hP
  have hP0 : va_P (dC, dI) vwCl [] s.heap := fun k q h => by simp at h
  have hin_X3 : ∀ w ∈ wsX30, w ∈ wsX3_both := by decide +kernel
  have hf_40 := hts (.fieldLink RX3 40 "ConversionTablesModel" "thrown" "I") (by decide +kernel)
  have hl := lv_entry ([.ref h3, .int x1, .int x2]) (n := 5) (Nat.le_of_ble_eq_true rfl)
  rw [lg_entry_eq]
  generalize (lg_sl ([.ref h3, .int x1, .int x2]) ++ List.replicate (5 - (lg_sl ([.ref h3, .int x1, .int x2])).length) Slot.unset).toArray = ls at hl ⊢
  have hl : lv_has ls 5 [(0, .ref h3), (1, .int x1), (2, .int x2)] := hl
  refine lv_aload_n hx hb dX3_both_0 rfl (lv_at hl 0 rfl) ?_
  refine lv_iconst (v := (0 : Int32)) hx hb dX3_both_1 (by decide) ?_
  refine va_put (D := (dC, dI)) (ci := 5) (v := .int (0 : Int32)) (ty := .int) (C := RX3) (T := TX3) (N := 10) hx hb hts hin_X3 tyX3 tyX3_ok nmX3 hown hK hP hD hS 0 rfl rfl 0 (by decide) hf_40 (fun _ h9 => h9) rfl (by decide +kernel) rfl rfl (Nat.le_of_ble_eq_true rfl) dX3_both_2 (fun H locs hP hD hS => ?_)
  have hP : va_P (dC, dI) vwCl [(h3, .inr (5, [.int (0 : Int32), .int ty, .ref e0, .ref e1, .ref e2, .ref e3, .ref e4, .int oc, .ref e5, .ref e6])), (e0, .inl (cyI, 40, .inl so)), (e1, .inl (cyZ, 40, .inl fi)), (e2, .inl (cyI, 40, .inl el)), (e3, .inl (cyI, 120, .inl av)), (e4, .inl (cyZ, 1600, .inl un)), (e5, .inl (cyI, 60, .inl kp)), (e6, .inl (cyJ, 60, .inr (.inl bt)))] H := hP
  have hD : va_D A [(h3, .inr (5, [.int (0 : Int32), .int ty, .ref e0, .ref e1, .ref e2, .ref e3, .ref e4, .int oc, .ref e5, .ref e6])), (e0, .inl (cyI, 40, .inl so)), (e1, .inl (cyZ, 40, .inl fi)), (e2, .inl (cyI, 40, .inl el)), (e3, .inl (cyI, 120, .inl av)), (e4, .inl (cyZ, 1600, .inl un)), (e5, .inl (cyI, 60, .inl kp)), (e6, .inl (cyJ, 60, .inr (.inl bt)))] := hD
  refine lv_aload_n hx hb dX3_both_5 rfl (lv_at hl 0 rfl) ?_
  refine lv_iload_n hx hb dX3_both_6 rfl (lv_at hl 1 rfl) ?_
  refine mb_callSi (W.runV (As := [.int x1]) (rest := []) ⟨hx, hb, hml, hown, hts⟩ (c_X3_isType l dC dI cyI cyZ cyJ h3 e0 e1 e2 e3 e4 e5 e6 so fi el av un ty kp bt oc (0 : Int32) x1) (cwV 1 hts gX3_both_X3_isType rfl rfl rfl (by decide +kernel) ⟨Nat.le_of_ble_eq_true rfl, Nat.le_of_ble_eq_true rfl⟩) (mb_preV hK hP (ci := 5) (q0 := 0) rfl rfl) rfl rfl hl.1 rfl (lv_room (Nat.le_of_ble_eq_true rfl)) dX3_both_7 ⟨Nat.zero_le _, Nat.zero_le _⟩) ?_
  refine lv_if_eq (tgt := 21) hx hb dX3_both_10 (by decide) (fun c_1 => ?_) (fun c_1 => ?_)
  · refine lv_iconst (v := (-1 : Int32)) hx hb dX3_both_21 (by decide) ?_
    exact W.iret (v := (-1 : Int32)) hx hb hr (fun t ht hW => ⟨⟨(-1 : Int32), (0 : Int32), rfl, Eq.symm ((if_pos c_1).trans (rfl)), by rw [ht]; exact hP, va_K.moved hW.alike hK, hD⟩, hS.F ht⟩) hS.2.2 dX3_both_22
  · refine lv_aload_n hx hb dX3_both_13 rfl (lv_at hl 0 rfl) ?_
    refine lv_iload_n hx hb dX3_both_14 rfl (lv_at hl 2 rfl) ?_
    refine mb_callSi (W.runV (As := [.int x2]) (rest := []) ⟨hx, hb, hml, hown, hts⟩ (c_X3_isType l dC dI cyI cyZ cyJ h3 e0 e1 e2 e3 e4 e5 e6 so fi el av un ty kp bt oc (0 : Int32) x2) (cwV 1 hts gX3_both_X3_isType rfl rfl rfl (by decide +kernel) ⟨Nat.le_of_ble_eq_true rfl, Nat.le_of_ble_eq_true rfl⟩) (mb_preV hK hP (ci := 5) (q0 := 0) rfl rfl) rfl rfl hl.1 rfl (lv_room (Nat.le_of_ble_eq_true rfl)) dX3_both_15 ⟨Nat.zero_le _, Nat.zero_le _⟩) ?_
    refine lv_if_ne (tgt := 23) hx hb dX3_both_18 (by decide) (fun c_2 => ?_) (fun c_2 => ?_)
    · refine lv_iload_n hx hb dX3_both_23 rfl (lv_at hl 1 rfl) ?_
      refine mb_callSi (W.runS (As := [.int x1]) (rest := []) ⟨hx, hb, hml, hown, hts⟩ (c_X3_numberOf l x1) (va_cwS 1 hts gX3_both_X3_numberOf rfl rfl rfl (by decide +kernel) ⟨Nat.le_of_ble_eq_true rfl, Nat.le_of_ble_eq_true rfl⟩) mb_preT rfl rfl hl.1 rfl (lv_room (Nat.le_of_ble_eq_true rfl)) dX3_both_24 ⟨Nat.zero_le _, Nat.zero_le _⟩) ?_
      refine lv_istore_n (lv' := [(3, .int (f_X3_numberOf x1)), (0, .ref h3), (1, .int x1), (2, .int x2)]) hx hb dX3_both_27 rfl hl (by decide) rfl (fun ls hl => ?_)
      refine lv_iload_n hx hb dX3_both_28 rfl (lv_at hl 3 rfl) ?_
      refine mb_callSi (W.runS (As := [.int x2]) (rest := []) ⟨hx, hb, hml, hown, hts⟩ (c_X3_numberOf l x2) (va_cwS 1 hts gX3_both_X3_numberOf rfl rfl rfl (by decide +kernel) ⟨Nat.le_of_ble_eq_true rfl, Nat.le_of_ble_eq_true rfl⟩) mb_preT rfl rfl hl.1 rfl (lv_room (Nat.le_of_ble_eq_true rfl)) dX3_both_29 ⟨Nat.zero_le _, Nat.zero_le _⟩) ?_
      refine lv_istore (lv' := [(4, .int (f_X3_numberOf x2)), (3, .int (f_X3_numberOf x1)), (0, .ref h3), (1, .int x1), (2, .int x2)]) hx hb dX3_both_32 hl (by decide) rfl (fun ls hl => ?_)
      refine lv_iload_n hx hb dX3_both_34 rfl (lv_at hl 1 rfl) ?_
      refine lv_if_eq (tgt := 43) hx hb dX3_both_35 (by decide) (fun c_3 => ?_) (fun c_3 => ?_)
      · refine lv_bipush (v := (-2 : Int32)) hx hb dX3_both_43 (by decide) ?_
        refine lv_goto (tgt := 54) hx hb dX3_both_45 (by decide) ?_
        exact W.iret (v := (-2 : Int32)) hx hb hr (fun t ht hW => ⟨⟨(-2 : Int32), (0 : Int32), rfl, Eq.symm ((if_neg c_1).trans ((if_neg c_2).trans ((if_pos c_3).trans (rfl)))), by rw [ht]; exact hP, va_K.moved hW.alike hK, hD⟩, hS.F ht⟩) hS.2.2 dX3_both_54
      · refine lv_iload hx hb dX3_both_38 (lv_at hl 0 rfl) ?_
        refine lv_if_ne (tgt := 48) hx hb dX3_both_40 (by decide) (fun c_4 => ?_) (fun c_4 => ?_)
        · refine lv_iload_n hx hb dX3_both_48 rfl (lv_at hl 1 rfl) ?_
          refine lv_iload hx hb dX3_both_49 (lv_at hl 0 rfl) ?_
          refine mb_callSi (W.runS (As := [.int (f_X3_numberOf x1), .int (f_X3_numberOf x2)]) (rest := []) ⟨hx, hb, hml, hown, hts⟩ (c_X3_bothOf l (f_X3_numberOf x1) (f_X3_numberOf x2)) (va_cwS 2 hts gX3_both_X3_bothOf rfl rfl rfl (by decide +kernel) ⟨Nat.le_of_ble_eq_true rfl, Nat.le_of_ble_eq_true rfl⟩) mb_preT rfl rfl hl.1 rfl (lv_room (Nat.le_of_ble_eq_true rfl)) dX3_both_51 ⟨Nat.zero_le _, Nat.zero_le _⟩) ?_
          exact W.iret (v := (f_X3_bothOf (f_X3_numberOf x1) (f_X3_numberOf x2))) hx hb hr (fun t ht hW => ⟨⟨(f_X3_bothOf (f_X3_numberOf x1) (f_X3_numberOf x2)), (0 : Int32), rfl, Eq.symm ((if_neg c_1).trans ((if_neg c_2).trans ((if_neg c_3).trans ((if_neg c_4).trans (rfl))))), by rw [ht]; exact hP, va_K.moved hW.alike hK, hD⟩, hS.F ht⟩) hS.2.2 dX3_both_54
        · refine lv_bipush (v := (-2 : Int32)) hx hb dX3_both_43 (by decide) ?_
          refine lv_goto (tgt := 54) hx hb dX3_both_45 (by decide) ?_
          exact W.iret (v := (-2 : Int32)) hx hb hr (fun t ht hW => ⟨⟨(-2 : Int32), (0 : Int32), rfl, Eq.symm ((if_neg c_1).trans ((if_neg c_2).trans ((if_neg c_3).trans ((if_pos c_4).trans (rfl))))), by rw [ht]; exact hP, va_K.moved hW.alike hK, hD⟩, hS.F ht⟩) hS.2.2 dX3_both_54
    · refine lv_iconst (v := (-1 : Int32)) hx hb dX3_both_21 (by decide) ?_
      exact W.iret (v := (-1 : Int32)) hx hb hr (fun t ht hW => ⟨⟨(-1 : Int32), (0 : Int32), rfl, Eq.symm ((if_neg c_1).trans ((if_pos c_2).trans (rfl))), by rw [ht]; exact hP, va_K.moved hW.alike hK, hD⟩, hS.F ht⟩) hS.2.2 dX3_both_22
